/-! Both sides answer the same. -/
theorem kOne_i {pr i : Int32} (h : kcOne pr i = 0) : ∃ a, a < 30 ∧ i = nI a ∧ bt pr a = true := by
  unfold kcOne at h
  by_cases c : khas pr i = false
  · rw [if_pos c] at h; exact absurd h (by decide)
  · exact khas_in (by cases e : khas pr i with | true => rfl | false => exact absurd e c)
theorem kTwo_i {pr i k : Int32} (h : kcTwo pr i k = 0) : ∃ a b, a < 30 ∧ i = nI a ∧ bt pr a = true ∧ b < 30 ∧ k = nI b ∧ bt pr b = true := by
  unfold kcTwo at h
  by_cases c : khas pr i = false
  · rw [if_pos c] at h; exact absurd h (by decide)
  · rw [if_neg c] at h
    obtain ⟨b, b1, b2, b3⟩ := kOne_i h
    obtain ⟨a, a1, a2, a3⟩ := khas_in (by cases e : khas pr i with | true => rfl | false => exact absurd e c)
    exact ⟨a, b, a1, a2, a3, b1, b2, b3⟩
theorem kLik_i {pr i k q : Int32} (h : kcLik pr i k q = 0) : kcTwo pr i k = 0 ∧ kin q 0 2 = true := by
  unfold kcLik at h
  unfold kcTwo
  by_cases c : khas pr i = false
  · rw [if_pos c] at h; exact absurd h (by decide)
  · rw [if_neg c] at h ⊢
    by_cases c : khas pr k = false
    · rw [if_pos c] at h; exact absurd h (by decide)
    · rw [if_neg c] at h ⊢
      by_cases c : kin q 0 2 = false
      · rw [if_pos c] at h; exact absurd h (by decide)
      · exact ⟨rfl, by cases e : kin q 0 2 with | true => rfl | false => exact absurd e c⟩
section
variable {A W P : Nat} {cn rk nf wf : Nat → Nat} {ad pr kn pl : Int32} {ps cs cv ms dp sx pa gv sz lk se : Nat → Int32}
theorem kR_par {i : Int32} (h : kRN A cn rk ad pr ps cs cv ms dp sx pa) (c : kcOne pr i = 0) : kat 30 ps i = kat 30 pa i := by
  obtain ⟨a, ha, rfl, hp⟩ := kOne_i c
  rw [kat_nI ha (by decide), kat_nI ha (by decide)]; exact (h.2.2.2.2.1 a ha hp).symm
theorem kR_above {i : Int32} {up : Nat → Int32} (h : kRN A cn rk ad pr ps cs cv ms dp sx pa) (c : kcOne pr i = 0) (hu : kUp pr pa up) : kat 30 cv i &&& (kbit i ^^^ (-1)) = kset2 (fun k => kcov up k i.toNatClampNeg) i.toNatClampNeg 30 := by
  obtain ⟨a, ha, rfl, hp⟩ := kOne_i c
  rw [kat_nI ha (by decide), nI_clamp (by omega)]
  exact kr_above (kRN_rl h) hu h.2.2.2.1.1 ha hp
theorem kR_below {i : Int32} {up : Nat → Int32} (h : kRN A cn rk ad pr ps cs cv ms dp sx pa) (c : kcOne pr i = 0) (hu : kUp pr pa up) : kcvd cv i 30 &&& (kbit i ^^^ (-1)) = kset2 (fun k => kcov up i.toNatClampNeg k) i.toNatClampNeg 30 := by
  obtain ⟨a, ha, rfl, hp⟩ := kOne_i c
  rw [nI_clamp (by omega)]
  exact kr_below (kRN_rl h) hu h.2.2.2.1.1 ha
theorem kR_mass {i : Int32} {up : Nat → Int32} (h : kRN A cn rk ad pr ps cs cv ms dp sx pa) (c : kcOne pr i = 0) (hu : kUp pr pa up) : kat 30 ms i = kmas pr up cs i.toNatClampNeg 30 := by
  obtain ⟨a, ha, rfl, hp⟩ := kOne_i c
  rw [kat_nI ha (by decide), nI_clamp (by omega), h.2.2.2.1.2 a ha, kr_mass30 h.2.2.1 (kRN_rl h) hu ha]
theorem kR_walk {i : Int32} {wk up : Nat → Int32} (h : kRN A cn rk ad pr ps cs cv ms dp sx pa) (c : kcOne pr i = 0) (hu : kUp pr pa up) : kat 30 (kwlo pr ps cs (kzer wk 30) 30) i = kmas pr up cs i.toNatClampNeg 30 := by
  obtain ⟨a, ha, rfl, hp⟩ := kOne_i c
  rw [kat_nI ha (by decide), nI_clamp (by omega), kr_walk h.2.2.1 ha, kr_mass30 h.2.2.1 (kRN_rl h) hu ha]
theorem kR_depth {i : Int32} {up : Nat → Int32} (h : kRN A cn rk ad pr ps cs cv ms dp sx pa) (c : kcOne pr i = 0) (hu : kUp pr pa up) : kat 30 dp i = kdpo pr pa up i.toNatClampNeg 30 := by
  obtain ⟨a, ha, rfl, hp⟩ := kOne_i c
  rw [kat_nI ha (by decide), nI_clamp (by omega), (kr_depth h.2.2.1 h.2.2.2.1.1 ha hp).1, kr_dpo (kRN_rl h) hu ha 30 (Nat.le_refl _)]; rfl
theorem kR_shared {i k : Int32} {up : Nat → Int32} (h : kRN A cn rk ad pr ps cs cv ms dp sx pa) (c : kcTwo pr i k = 0) (hu : kUp pr pa up) : ktel ms dp (kat 30 cv i &&& kat 30 cv k) 30 = kshr pr pa up cs i.toNatClampNeg k.toNatClampNeg 30 := by
  obtain ⟨a, b, ha, rfl, hp, hb, rfl, hq⟩ := kTwo_i c
  rw [kat_nI ha (by decide), kat_nI hb (by decide), nI_clamp (show a < 2 ^ 31 by omega), nI_clamp (show b < 2 ^ 31 by omega)]
  rcases kr_tel h.2.2.1 (kRN_rl h) hu h.2.2.2.1 ha hb hp hq 30 (Nat.le_refl _) with ⟨x, y, _⟩ | ⟨c, _, x, y, _⟩
  · rw [x, y]
  · rw [x, y]
theorem kR_dist {i k : Int32} {up : Nat → Int32} (h : kRN A cn rk ad pr ps cs cv ms dp sx pa) (c : kcTwo pr i k = 0) (hu : kUp pr pa up) : ksbt sx i k (kat 30 cv i &&& kat 30 cv k) 30 = kdst up i.toNatClampNeg k.toNatClampNeg := by
  obtain ⟨a, b, ha, rfl, hp, hb, rfl, hq⟩ := kTwo_i c
  rw [kat_nI ha (by decide), kat_nI hb (by decide), nI_clamp (show a < 2 ^ 31 by omega), nI_clamp (show b < 2 ^ 31 by omega)]
  exact (kr_dst h.2.2.1 (kRN_rl h) hu h.2.2.2.1.1 ha hb hp hq).1.symm
theorem kR_like {i k q : Int32} {up : Nat → Int32} (h : kRN A cn rk ad pr ps cs cv ms dp sx pa) (c : kcLik pr i k q = 0) (hu : kUp pr pa up) : kali pr cs cv ms dp sx i k q = klik pr pa up cs i.toNatClampNeg k.toNatClampNeg q := by
  obtain ⟨a, b, ha, rfl, hp, hb, rfl, hq⟩ := kTwo_i (kLik_i c).1
  rw [nI_clamp (show a < 2 ^ 31 by omega), nI_clamp (show b < 2 ^ 31 by omega)]
  obtain ⟨L, _, x, y⟩ := kr_lik q h.2.2.1 (kRN_rl h) hu h.2.2.2.1 ha hb hp hq
  rw [x, y]
theorem kR_dv (h : kRN A cn rk ad pr ps cs cv ms dp sx pa) : kdv pr pa cs := kr_dv h.2.2.1 (kRN_rl h) h.2.2.2.1
def kLL (pr : Int32) (cs cv ms dp sx : Nat → Int32) (q : Int32) (a b : Nat) : Nat := (kali pr cs cv ms dp sx (nI a) (nI b) q).toNatClampNeg
theorem kR_lk (q : Int32) (h : kRN A cn rk ad pr ps cs cv ms dp sx pa) : ∀ up : Nat → Int32, kUp pr pa up → ∀ a b, a < 30 → b < 30 → bt pr a = true → bt pr b = true → klik pr pa up cs a b q = nI (kLL pr cs cv ms dp sx q a b) ∧ kLL pr cs cv ms dp sx q a b ≤ 10000 := by
  intro up hu a b ha hb hp hq
  obtain ⟨L, l, x, y⟩ := kr_lik q h.2.2.1 (kRN_rl h) hu h.2.2.2.1 ha hb hp hq
  have e : kLL pr cs cv ms dp sx q a b = L := by unfold kLL; rw [y]; exact nI_clamp (by omega)
  rw [e]; exact ⟨x, l⟩
theorem kR_al (q : Int32) (h : kRN A cn rk ad pr ps cs cv ms dp sx pa) {a b : Nat} (ha : a < 30) (hb : b < 30) (hp : bt pr a = true) (hq : bt pr b = true) : kali pr cs cv ms dp sx (nI a) (nI b) q = nI (kLL pr cs cv ms dp sx q a b) ∧ kLL pr cs cv ms dp sx q a b ≤ 10000 := by
  have hu : kUp pr pa (fun k => nI (kd pr pa (k / 30) (k % 30))) := fun a b _ hb => by
    show nI (kd pr pa ((30 * a + b) / 30) ((30 * a + b) % 30)) = _
    rw [show (30 * a + b) / 30 = a by omega, show (30 * a + b) % 30 = b by omega]
  obtain ⟨L, l, x, y⟩ := kr_lik q h.2.2.1 (kRN_rl h) hu h.2.2.2.1 ha hb hp hq
  have e : kLL pr cs cv ms dp sx q a b = L := by unfold kLL; rw [y]; exact nI_clamp (by omega)
  rw [e]; exact ⟨y, l⟩
def kMM (wf : Nat → Nat) (gv lk : Nat → Int32) (L : Nat → Nat → Nat) (a b : Nat) : Nat := L (ksN wf gv lk (a / 5) (a % 5)) (ksN wf gv lk (b / 5) (b % 5))
theorem kMM_e {L : Nat → Nat → Nat} {y x o p : Nat} (ho : o < 5) (hp : p < 5) : kMM wf gv lk L (5 * y + o) (5 * x + p) = L (ksN wf gv lk y o) (ksN wf gv lk x p) := by
  unfold kMM
  rw [show (5 * y + o) / 5 = y by omega, show (5 * y + o) % 5 = o by omega, show (5 * x + p) / 5 = x by omega, show (5 * x + p) % 5 = p by omega]
theorem kMM_g {L : Nat → Nat → Nat} {t : Nat → Nat} {x : Nat} (hx : t x < 5) : ∀ b, (∀ k, k < b → t k < 5) → kgs (kMM wf gv lk L) (kSF t) (kSF t x) b = kgs L (fun k => ksN wf gv lk k (t k)) (ksN wf gv lk x (t x)) b := by
  intro b
  induction b with
  | zero => exact fun _ => rfl
  | succ b ih =>
    intro h
    unfold kgs
    rw [ih (fun k hk => h k (by omega))]
    unfold kSF
    rw [kMM_e (h b (by omega)) hx]
theorem kMM_w {L : Nat → Nat → Nat} {t : Nat → Nat} : ∀ b, (∀ k, k < b → t k < 5) → kwN (kMM wf gv lk L) (kSF t) b = kwN L (fun k => ksN wf gv lk k (t k)) b := by
  intro b
  induction b with
  | zero => exact fun _ => rfl
  | succ b ih =>
    intro h
    rw [kwN_s, kwN_s, ih (fun k hk => h k (by omega)), kMM_g (h b (by omega)) b (fun k hk => h k (by omega))]
theorem kLx_3 {s t : Nat → Nat} : ∀ P, kLx P s t ∨ kEq P s t ∨ kLx P t s := by
  intro P
  induction P with
  | zero => exact Or.inr (Or.inl (fun k hk => absurd hk (by omega)))
  | succ P ih =>
    rcases ih with h | h | h
    · exact Or.inl (kLx_1.mpr (Or.inl h))
    · rcases Nat.lt_trichotomy (s P) (t P) with c | c | c
      · exact Or.inl (kLx_1.mpr (Or.inr ⟨h, c⟩))
      · exact Or.inr (Or.inl (kEq_1.mpr ⟨h, c⟩))
      · exact Or.inr (Or.inr (kLx_1.mpr (Or.inr ⟨fun k hk => (h k hk).symm, c⟩)))
    · exact Or.inr (Or.inr (kLx_1.mpr (Or.inl h)))
theorem kplc_P (h : kRW W P nf wf pr kn pl gv sz lk se) : kplc pl = nI P := by
  unfold kplc
  rw [h.2.1.1, if_neg (show ¬ 6 < nI P from nI_nlt (a := 6) (b := P) h.2.1.2 (by decide))]
theorem kR_tb {zs op al ho : Nat → Int32} (q : Int32) (h : kRN A cn rk ad pr ps cs cv ms dp sx pa) (hW : kRW W P nf wf pr kn pl gv sz lk se) :
    ∃ H, kTb P (kon nf wf lk) (kMM wf gv lk (kLL pr cs cv ms dp sx q)) H (kprB pr cs cv ms dp sx q (kprA sz lk gv se zs op pl) al ho pl).1 (kprB pr cs cv ms dp sx q (kprA sz lk gv se zs op pl) al ho pl).2 (kprA sz lk gv se zs op pl).1 := by
  have C := kRW_c hW
  have Z := kprA_s (zs := zs) (op := op) hW
  generalize kprA sz lk gv se zs op pl = A at Z ⊢
  obtain ⟨A1, A2⟩ := A
  dsimp only at Z
  refine kprB_s hW.2.1.2 hW.2.1.1 C.2.1 Z.1 (fun y x o p hy hx ho2 hp => ?_)
  have a := C.2.2 y o (by omega) ho2
  have b := C.2.2 x p hx hp
  rw [Z.2 y o (by omega) ho2, Z.2 x p hx hp, kMM_e (by have := (C.2.1 y (by omega)).2; omega) (by have := (C.2.1 x hx).2; omega)]
  exact kR_al q h a.2.1 b.2.1 a.2.2.1 b.2.2.1
theorem kR_best {zs op al ho pk bp be : Nat → Int32} {r : Int32} (q : Int32) (h : kRN A cn rk ad pr ps cs cv ms dp sx pa) (hW : kRW W P nf wf pr kn pl gv sz lk se) (hF : kFin P (kon nf wf lk) (ksN wf gv lk) (kLL pr cs cv ms dp sx q) r be) :
    (ksek (kprB pr cs cv ms dp sx q (kprA sz lk gv se zs op pl) al ho pl).1 (kprB pr cs cv ms dp sx q (kprA sz lk gv se zs op pl) al ho pl).2 (kprA sz lk gv se zs op pl).1 (kplc pl) 7 0 0 (-1, pk, bp)).1 = r ∧
    ∀ v, v < P → kat 30 (kprA sz lk gv se zs op pl).2 (kat 6 (ksek (kprB pr cs cv ms dp sx q (kprA sz lk gv se zs op pl) al ho pl).1 (kprB pr cs cv ms dp sx q (kprA sz lk gv se zs op pl) al ho pl).2 (kprA sz lk gv se zs op pl).1 (kplc pl) 7 0 0 (-1, pk, bp)).2.2 (nI v)) = be v := by
  obtain ⟨H, T⟩ := kR_tb (zs := zs) (op := op) (al := al) (ho := ho) q h hW
  have C := kRW_c hW
  have Z := kprA_s (zs := zs) (op := op) hW
  have S := (kseek_s T 7 0 (fun _ => 0) (-1) pk bp rfl (Nat.zero_le _) (fun k hk => absurd hk (by omega)) (fun k hk => absurd hk (by omega)) (Or.inl ⟨rfl, fun s _ w => by obtain ⟨p, hp, _⟩ := w; omega⟩)).1
  rw [show nI (kwN (kMM wf gv lk (kLL pr cs cv ms dp sx q)) (kSF fun _ => 0) 0) = 0 from rfl, nI_0] at S
  rw [kplc_P hW]
  generalize ksek (kprB pr cs cv ms dp sx q (kprA sz lk gv se zs op pl) al ho pl).1 (kprB pr cs cv ms dp sx q (kprA sz lk gv se zs op pl) al ho pl).2 (kprA sz lk gv se zs op pl).1 (nI P) 7 0 0 (-1, pk, bp) = R at S ⊢
  obtain ⟨z, z1, z2, z3, z4, z5⟩ := hF
  have v5 : ∀ s, kVal P (kon nf wf lk) s → ∀ k, k < P → s k < 5 := fun s hs k hk => Nat.lt_of_lt_of_le (hs k hk) (C.2.1 k hk).2
  have wE : ∀ s, kVal P (kon nf wf lk) s → kwN (kMM wf gv lk (kLL pr cs cv ms dp sx q)) (fun k => 5 * k + s k) P = kwN (kLL pr cs cv ms dp sx q) (fun k => ksN wf gv lk k (s k)) P := fun s hs => kMM_w P (v5 s hs)
  have e0 : ∀ s : Nat → Nat, kLx 0 s (fun _ => 0) ∨ kEq 0 s (fun _ => 0) := fun s => Or.inr (fun k hk => absurd hk (by omega))
  rcases S with ⟨_, b⟩ | ⟨u, u1, _, u3, u4, u5, u6⟩
  · exact absurd (e0 z) (b z z1)
  have u5 : ∀ s, kVal P (kon nf wf lk) s → kwN (kLL pr cs cv ms dp sx q) (fun k => ksN wf gv lk k (s k)) P ≤ kwN (kLL pr cs cv ms dp sx q) (fun k => ksN wf gv lk k (u k)) P := fun s hs => by
    have w : kwN (kMM wf gv lk (kLL pr cs cv ms dp sx q)) (fun k => 5 * k + s k) P ≤ kwN (kMM wf gv lk (kLL pr cs cv ms dp sx q)) (fun k => 5 * k + u k) P := u5 s hs (e0 s)
    rw [wE s hs, wE u u1] at w; exact w
  have u6 : ∀ s, kVal P (kon nf wf lk) s → kLx P s u → kwN (kLL pr cs cv ms dp sx q) (fun k => ksN wf gv lk k (s k)) P < kwN (kLL pr cs cv ms dp sx q) (fun k => ksN wf gv lk k (u k)) P := fun s hs hl => by
    have w : kwN (kMM wf gv lk (kLL pr cs cv ms dp sx q)) (fun k => 5 * k + s k) P < kwN (kMM wf gv lk (kLL pr cs cv ms dp sx q)) (fun k => 5 * k + u k) P := u6 s hs (e0 s) hl
    rw [wE s hs, wE u u1] at w; exact w
  have m1 := u5 z z1
  have m2 := z4 u u1
  have ee : kEq P z u := by
    rcases kLx_3 (s := z) (t := u) P with c | c | c
    · have := u6 z z1 c; omega
    · exact c
    · have := z5 u u1 c; omega
  refine ⟨?_, fun v hv => ?_⟩
  · rw [u3, z2]
    show nI (kwN (kMM wf gv lk (kLL pr cs cv ms dp sx q)) (fun k => 5 * k + u k) P) = _
    rw [wE u u1]; exact congrArg nI (by omega)
  · have hP := hW.2.1.2
    rw [kat_nI (by omega) (by decide), u4 v hv]
    have := v5 u u1 v hv
    show kat 30 (kprA sz lk gv se zs op pl).2 (nI (5 * v + u v)) = _
    rw [kat_nI (by omega) (by decide), Z.2 v (u v) hv (u1 v hv), z3 v hv, ee v hv]
theorem kR_great {zs op al ho pk be : Nat → Int32} {r : Int32} (q : Int32) (h : kRN A cn rk ad pr ps cs cv ms dp sx pa) (hW : kRW W P nf wf pr kn pl gv sz lk se) (hF : kFin P (kon nf wf lk) (ksN wf gv lk) (kLL pr cs cv ms dp sx q) r be) :
    (kgre (kprB pr cs cv ms dp sx q (kprA sz lk gv se zs op pl) al ho pl).1 (kprA sz lk gv se zs op pl).1 (kplc pl) 7 0 0 pk).1 = r := by
  obtain ⟨H, T⟩ := kR_tb (zs := zs) (op := op) (al := al) (ho := ho) q h hW
  have C := kRW_c hW
  obtain ⟨V, s1, s2, ⟨u, u1, _, u3⟩, _⟩ := kgre_s T 7 0 (fun _ => 0) pk rfl (Nat.zero_le _) (fun k hk => absurd hk (by omega)) (fun k hk => absurd hk (by omega))
  rw [show nI (kwN (kMM wf gv lk (kLL pr cs cv ms dp sx q)) (kSF fun _ => 0) 0) = 0 from rfl, nI_0] at s1
  obtain ⟨z, z1, z2, z3, z4, z5⟩ := hF
  have v5 : ∀ s, kVal P (kon nf wf lk) s → ∀ k, k < P → s k < 5 := fun s hs k hk => Nat.lt_of_lt_of_le (hs k hk) (C.2.1 k hk).2
  rw [kplc_P hW, s1, z2]
  have a := s2 z z1 (fun k hk => absurd hk (by omega))
  have b := z4 u u1
  rw [kMM_w P (v5 z z1)] at a
  rw [kMM_w P (v5 u u1)] at u3
  exact congrArg nI (by omega)
theorem kR_choices (hW : kRW W P nf wf pr kn pl gv sz lk se) : kups (kchs lk sz se) pl 0 1 = kcho sz lk wf P := by
  obtain ⟨h1, h2, h3, h4⟩ := hW
  rw [h2.1]
  exact kups_i (by omega) (fun x (y : Int32) => y = kcho sz lk wf x) (fun x s hx hs => by
    obtain ⟨a, b, _⟩ := h4 x hx
    unfold kchs
    rw [hs, kat_nI (by omega) (by decide), a, kopc_m (by omega)]; rfl) P 0 1 (by omega) rfl
theorem kR_cho {i q : Int32} (hW : kRW W P nf wf pr kn pl gv sz lk se) : kcCho pl i q = kmCho pl i q := by
  unfold kcCho kmCho
  rw [kin_w hW.2.1.1 (show P ≤ 10 by have := hW.2.1.2; omega)]
  unfold kwex
  by_cases c : i < 0
  · rw [if_pos c, decide_eq_true c, if_pos (show (!true && _) = false from rfl)]
  · rw [if_neg c, decide_eq_false c]
    have e : pl ≤ i ↔ ¬ i < pl := (Int32.not_lt).symm
    by_cases d : i < pl
    · rw [if_neg (Classical.not_not.mpr d), decide_eq_false (fun z => (e.mp z) d), if_neg (show ¬ (!false && !false) = false by decide)]
    · rw [if_pos d, decide_eq_true (e.mpr d), if_pos (show (!false && !true) = false from rfl)]
theorem kR_pw (hW : kRW W P nf wf pr kn pl gv sz lk se) : ∀ k, k < P → se k = nI (wf k) ∧ wf k < 10 ∧ sz (wf k) = nI (nf (wf k)) ∧ nf (wf k) ≤ 5 := by
  obtain ⟨h1, h2, h3, h4⟩ := hW
  intro k hk
  obtain ⟨a, b, _⟩ := h4 k hk
  exact ⟨a, by omega, (h3 _ b).1, (h3 _ b).2.1⟩
end
