/-! What the chooser lays out before it searches. -/
def kon (nf wf : Nat → Nat) (lk : Nat → Int32) (k : Nat) : Nat := if lk (wf k) = -1 then nf (wf k) else 1
def ksN (wf : Nat → Nat) (gv lk : Nat → Int32) (k o : Nat) : Nat := (ksem gv lk (wf k) o).toNatClampNeg
theorem kopc_m {sz lk : Nat → Int32} {w : Nat} (hw : w < 10) : kopc sz lk (nI w) = kopm sz lk w := by
  unfold kopc kopm; rw [kat_nI hw (by decide), kat_nI hw (by decide)]
theorem kopt_m {gv lk : Nat → Int32} {w o : Nat} (hw : w < 10) (ho : o < 5) : kopt gv lk (nI w) (nI o) = ksem gv lk w o := by
  unfold kopt ksem; rw [kat_nI hw (by decide), kg_ix hw ho]
theorem kstd_t {gv : Nat → Int32} {wf nf : Nat → Nat} {i : Int32} {k : Nat} : ∀ n, k < n → ¬ kplo gv (wf k) i (nf (wf k)) = -1 → kstd gv wf nf i n = true := by
  intro n
  induction n with
  | zero => exact fun h => absurd h (by omega)
  | succ n ih =>
    intro hk h
    unfold kstd
    by_cases e : k = n
    · subst e; rw [decide_eq_false h, Bool.not_false, Bool.or_true]
    · rw [ih (by omega) h, Bool.true_or]
theorem kRW_c {W P : Nat} {nf wf : Nat → Nat} {pr kn pl : Int32} {gv sz lk se : Nat → Int32} (h : kRW W P nf wf pr kn pl gv sz lk se) : (∀ k, k < P → kopm sz lk (wf k) = nI (kon nf wf lk k)) ∧ kOn P (kon nf wf lk) ∧ ∀ k o, k < P → o < kon nf wf lk k → ksem gv lk (wf k) o = nI (ksN wf gv lk k o) ∧ ksN wf gv lk k o < 30 ∧ bt pr (ksN wf gv lk k o) = true ∧ kstd gv wf nf (nI (ksN wf gv lk k o)) P = true := by
  obtain ⟨h1, h2, h3, h4⟩ := h
  refine ⟨fun k hk => ?_, fun k hk => ?_, fun k o hk ho => ?_⟩
  · obtain ⟨_, b, c⟩ := h4 k hk
    unfold kopm kon
    by_cases e : lk (wf k) = -1
    · rw [if_neg (Classical.not_not.mpr e), if_pos e]; exact (h3 _ b).1
    · rw [if_pos e, if_neg e]; rfl
  · obtain ⟨_, b, c⟩ := h4 k hk
    have := (h3 _ b).2.1
    unfold kon
    split <;> omega
  · obtain ⟨_, b, c⟩ := h4 k hk
    obtain ⟨a1, a2, a3, a4, a5⟩ := h3 _ b
    have key : ∃ r, r < nf (wf k) ∧ ksem gv lk (wf k) o = gv (5 * wf k + r) := by
      unfold ksem
      unfold kon at ho
      by_cases e : lk (wf k) = -1
      · rw [if_neg (Classical.not_not.mpr e)]; rw [if_pos e] at ho; exact ⟨o, ho, rfl⟩
      · rw [if_pos e]; exact a5.resolve_left e
    obtain ⟨r, hr, e⟩ := key
    obtain ⟨s, s1, s2, s3⟩ := a3 r hr
    have e2 : ksN wf gv lk k o = s := by unfold ksN; rw [e, s2]; exact nI_clamp (by omega)
    rw [e2]
    exact ⟨e.trans s2, s1, s3, kstd_t P hk (fun z => kplo_m _ z r hr a2 s2)⟩
/-- zs and op laid out -/
theorem kprA_s {W P : Nat} {nf wf : Nat → Nat} {pr kn pl : Int32} {gv sz lk se zs op : Nat → Int32} (h : kRW W P nf wf pr kn pl gv sz lk se) : (∀ k, k < P → (kprA sz lk gv se zs op pl).1 k = nI (kon nf wf lk k)) ∧ ∀ k o, k < P → o < kon nf wf lk k → (kprA sz lk gv se zs op pl).2 (5 * k + o) = nI (ksN wf gv lk k o) := by
  have C := kRW_c h
  obtain ⟨h1, h2, h3, h4⟩ := h
  have hpl : kplc pl = nI P := by
    unfold kplc
    rw [h2.1, if_neg (show ¬ 6 < nI P from nI_nlt (a := 6) (b := P) h2.2 (by decide))]
  unfold kprA
  rw [hpl]
  have L := kups_i (f := kpr1 sz lk gv se) (b := P) (by omega) (fun x (r : (Nat → Int32) × (Nat → Int32)) => (∀ k, k < x → r.1 k = nI (kon nf wf lk k)) ∧ ∀ k o, k < x → o < kon nf wf lk k → r.2 (5 * k + o) = nI (ksN wf gv lk k o))
    (fun x r hx hr => by
      obtain ⟨z, g⟩ := r
      obtain ⟨a, b, c⟩ := h4 x hx
      have hw : wf x < 10 := by omega
      have ox := C.2.1 x hx
      unfold kpr1
      dsimp only at hr ⊢
      rw [kat_nI (by omega) (by decide), a, kopc_m hw, C.1 x hx, kput_nI (by omega) (by decide)]
      refine ⟨fun k hk => ?_, ?_⟩
      · by_cases e : k = x
        · rw [e, pk_us]
        · rw [pk_un e]; exact hr.1 k (by omega)
      · have Q := kups_i (f := klay gv lk (nI (wf x)) (nI x)) (b := kon nf wf lk x) (by omega) (fun y (g2 : Nat → Int32) => (∀ k o, k < x → o < kon nf wf lk k → g2 (5 * k + o) = nI (ksN wf gv lk k o)) ∧ ∀ o, o < y → g2 (5 * x + o) = nI (ksN wf gv lk x o))
          (fun y s hy hs => by
            unfold klay
            rw [show nI x * 5 + nI y = nI (5 * x + y) from by rw [Int32.mul_comm]; exact kx_gv, kput_nI (by omega) (by decide), kopt_m hw (by omega), (C.2.2 x y hx hy).1]
            refine ⟨fun k o hk ho => ?_, fun o ho => ?_⟩
            · have := (C.2.1 k (by omega)).2
              rw [pk_un (by omega)]; exact hs.1 k o hk ho
            · by_cases e : o = y
              · rw [e, pk_us]
              · rw [pk_un (by omega)]; exact hs.2 o (by omega)) (kon nf wf lk x) 0 g (by omega) ⟨hr.2, fun o ho => absurd ho (by omega)⟩
        intro k o hk ho
        by_cases e : k = x
        · rw [e] at ho ⊢; exact Q.2 o ho
        · exact Q.1 k o (by omega) ho) P 0 (zs, op) (by omega) ⟨fun k hk => absurd hk (by omega), fun k o hk => absurd hk (by omega)⟩
  exact L
def kOk (M : Nat → Nat → Nat) (al : Nat → Int32) (a b : Nat) : Prop := al (30 * b + a) = nI (M a b)
def kKp (M : Nat → Nat → Nat) (al al2 : Nat → Int32) : Prop := ∀ a b, a < 30 → b < 30 → kOk M al a b → kOk M al2 a b
theorem kOk_p {M : Nat → Nat → Nat} {al : Nat → Int32} {a b : Nat} (ha : a < 30) : kKp M al (upd al (30 * b + a) (nI (M a b))) ∧ kOk M (upd al (30 * b + a) (nI (M a b))) a b := by
  refine ⟨fun c d hc hd h => ?_, pk_us⟩
  unfold kOk at h ⊢
  by_cases e : 30 * d + c = 30 * b + a
  · have e1 : d = b := by omega
    have e2 : c = a := by omega
    rw [e1, e2, pk_us]
  · rw [pk_un e]; exact h
/-- the options of two places compared -/
theorem kcmp_s {P : Nat} {on : Nat → Nat} {M : Nat → Nat → Nat} {pr q : Int32} {cs cv ms dp sx op zs al : Nat → Int32} (hP : P ≤ 6) (ho : kOn P on) (hz : ∀ k, k < P → zs k = nI (on k))
    (hk : ∀ y x o p, y < x → x < P → o < on y → p < on x → kali pr cs cv ms dp sx (op (5 * y + o)) (op (5 * x + p)) q = nI (M (5 * y + o) (5 * x + p)) ∧ M (5 * y + o) (5 * x + p) ≤ 10000) {y x : Nat} (hy : y < x) (hx : x < P) :
    ∃ m, m ≤ 10000 ∧ (kcmp pr cs cv ms dp sx op zs al (nI y) (nI x) q).1 = nI m ∧ kKp M al (kcmp pr cs cv ms dp sx op zs al (nI y) (nI x) q).2 ∧ ∀ o p, o < on y → p < on x → kOk M (kcmp pr cs cv ms dp sx op zs al (nI y) (nI x) q).2 (5 * y + o) (5 * x + p) ∧ M (5 * y + o) (5 * x + p) ≤ m := by
  have oy := ho y (by omega)
  have ox := ho x hx
  unfold kcmp
  rw [kat_nI (by omega) (by decide), hz y (by omega), ix5, nI_add]
  have L := kups_i (f := kcm2 pr cs cv ms dp sx op zs q (nI x)) (b := 5 * y + on y) (by omega)
    (fun c (r : Int32 × (Nat → Int32)) => ∃ o m, c = 5 * y + o ∧ o ≤ on y ∧ m ≤ 10000 ∧ r.1 = nI m ∧ kKp M al r.2 ∧ ∀ o2 p, o2 < o → p < on x → kOk M r.2 (5 * y + o2) (5 * x + p) ∧ M (5 * y + o2) (5 * x + p) ≤ m)
    (fun c r hc hr => by
      obtain ⟨o, m, rfl, h1, h2, h3, h4, h5⟩ := hr
      obtain ⟨v, g⟩ := r
      dsimp only at h3 h4 h5
      unfold kcm2
      rw [kat_nI (by omega) (by decide), hz x hx, ix5, nI_add, h3]
      have Q := kups_i (f := kcm1 pr cs cv ms dp sx op q (nI (5 * y + o))) (b := 5 * x + on x) (by omega)
        (fun c (r : Int32 × (Nat → Int32)) => ∃ p m2, c = 5 * x + p ∧ p ≤ on x ∧ m ≤ m2 ∧ m2 ≤ 10000 ∧ r.1 = nI m2 ∧ kKp M g r.2 ∧ ∀ p2, p2 < p → kOk M r.2 (5 * y + o) (5 * x + p2) ∧ M (5 * y + o) (5 * x + p2) ≤ m2)
        (fun c r hc hr => by
          obtain ⟨p, m2, rfl, k1, k2, k3, k4, k5, k6⟩ := hr
          obtain ⟨v2, g2⟩ := r
          dsimp only at k4 k5 k6
          have A := hk y x o p hy hx (by omega) (by omega)
          unfold kcm1
          dsimp only
          rw [kat_nI (by omega) (by decide), kat_nI (by omega) (by decide), A.1, show nI (5 * x + p) * 30 + nI (5 * y + o) = nI (30 * (5 * x + p) + (5 * y + o)) from by rw [Int32.mul_comm]; exact kx_up, kput_nI (by omega) (by decide), k4]
          have B := kOk_p (M := M) (al := g2) (a := 5 * y + o) (b := 5 * x + p) (by omega)
          have kp : kKp M g (upd g2 (30 * (5 * x + p) + (5 * y + o)) (nI (M (5 * y + o) (5 * x + p)))) := fun a b ha hb z => B.1 a b ha hb (k5 a b ha hb z)
          have ok : ∀ p2, p2 < p + 1 → kOk M (upd g2 (30 * (5 * x + p) + (5 * y + o)) (nI (M (5 * y + o) (5 * x + p)))) (5 * y + o) (5 * x + p2) := fun p2 hp2 => by
            by_cases e : p2 = p
            · rw [e]; exact B.2
            · exact B.1 _ _ (by omega) (by omega) (k6 p2 (by omega)).1
          rcases Nat.lt_or_ge m2 (M (5 * y + o) (5 * x + p)) with w | w
          · rw [if_pos (nI_lt w (by omega))]
            refine ⟨p + 1, _, by omega, by omega, by omega, A.2, rfl, kp, fun p2 hp2 => ⟨ok p2 hp2, ?_⟩⟩
            by_cases e : p2 = p
            · rw [e]; exact Nat.le_refl _
            · have := (k6 p2 (by omega)).2; omega
          · rw [if_neg (nI_nlt w (by omega))]
            refine ⟨p + 1, m2, by omega, by omega, k2, k3, rfl, kp, fun p2 hp2 => ⟨ok p2 hp2, ?_⟩⟩
            by_cases e : p2 = p
            · rw [e]; exact w
            · exact (k6 p2 (by omega)).2) (on x) (5 * x) (nI m, g) rfl
        ⟨0, m, rfl, by omega, Nat.le_refl _, h2, rfl, fun a b _ _ z => z, fun p2 hp2 => absurd hp2 (by omega)⟩
      obtain ⟨p, m2, e, k1, k2, k3, k4, k5, k6⟩ := Q
      have e : p = on x := by omega
      subst e
      refine ⟨o + 1, m2, by omega, by omega, k3, k4, fun a b ha hb z => k5 a b ha hb (h4 a b ha hb z), fun o2 p ho2 hp => ?_⟩
      by_cases e : o2 = o
      · rw [e]; exact k6 p hp
      · have q := h5 o2 p (by omega) hp
        exact ⟨k5 _ _ (by omega) (by omega) q.1, by omega⟩) (on y) (5 * y) (0, al) rfl
    ⟨0, 0, rfl, by omega, by omega, rfl, fun a b _ _ z => z, fun o2 p ho2 => absurd ho2 (by omega)⟩
  obtain ⟨o, m, e, h1, h2, h3, h4, h5⟩ := L
  have e : o = on y := by omega
  subst e
  exact ⟨m, h2, h3, h4, fun o p h6 h7 => h5 o p h6 h7⟩
/-- the table of likes and the hopes -/
theorem kprB_s {P : Nat} {on : Nat → Nat} {M : Nat → Nat → Nat} {pr q pl : Int32} {cs cv ms dp sx op zs al ho0 : Nat → Int32} (hP : P ≤ 6) (hpl : pl = nI P) (ho : kOn P on) (hz : ∀ k, k < P → zs k = nI (on k))
    (hk : ∀ y x o p, y < x → x < P → o < on y → p < on x → kali pr cs cv ms dp sx (op (5 * y + o)) (op (5 * x + p)) q = nI (M (5 * y + o) (5 * x + p)) ∧ M (5 * y + o) (5 * x + p) ≤ 10000) :
    ∃ H, kTb P on M H (kprB pr cs cv ms dp sx q (zs, op) al ho0 pl).1 (kprB pr cs cv ms dp sx q (zs, op) al ho0 pl).2 zs := by
  have hplc : kplc pl = nI P := by
    unfold kplc
    rw [hpl, if_neg (show ¬ 6 < nI P from nI_nlt (a := 6) (b := P) (by omega) (by decide))]
  unfold kprB
  rw [hplc]
  have L := kdns_i (f := kpr3 pr cs cv ms dp sx op zs q) (b := P)
    (fun x (r : (Nat → Int32) × (Nat → Int32)) => (∀ y c o p, y < c → x ≤ c → c < P → o < on y → p < on c → kOk M r.1 (5 * y + o) (5 * c + p)) ∧ ∃ H : Nat → Nat, (∀ i, x ≤ i → i ≤ P → r.2 i = nI (H i) ∧ H i ≤ 60000 * (P - i)) ∧ H P = 0 ∧ ∀ s, kVal P on s → ∀ i, x ≤ i → i ≤ P → kwN M (kSF s) P ≤ kwN M (kSF s) i + H i) (by omega)
    (fun x r hx hr => by
      obtain ⟨g, g2⟩ := r
      obtain ⟨hal, H, hh, h0, hw⟩ := hr
      dsimp only at hal hh
      have Q := kups_i (f := kpr2 pr cs cv ms dp sx op zs q (nI x)) (b := x) (by omega)
        (fun y (r : Int32 × (Nat → Int32)) => ∃ S, r.1 = nI S ∧ S ≤ 10000 * y ∧ kKp M g r.2 ∧ (∀ y2 o p, y2 < y → o < on y2 → p < on x → kOk M r.2 (5 * y2 + o) (5 * x + p)) ∧ ∀ s, kVal P on s → kgs M (kSF s) (kSF s x) y ≤ S)
        (fun y r hy hr => by
          obtain ⟨S, s1, s2, s3, s4, s5⟩ := hr
          obtain ⟨v, g3⟩ := r
          dsimp only at s1 s3 s4
          obtain ⟨m, m1, m2, m3, m4⟩ := kcmp_s (al := g3) hP ho hz hk hy hx
          have oy := ho y (by omega)
          have ox := ho x hx
          unfold kpr2
          dsimp only
          rw [m2, s1, nI_add]
          refine ⟨S + m, rfl, by omega, fun a b ha hb z => m3 a b ha hb (s3 a b ha hb z), fun y2 o p hy2 ho2 hp => ?_, fun s hs => ?_⟩
          · by_cases e : y2 = y
            · rw [e] at ho2 ⊢; exact (m4 o p ho2 hp).1
            · have := ho y2 (by omega)
              exact m3 _ _ (by omega) (by omega) (s4 y2 o p (by omega) ho2 hp)
          · have a := s5 s hs
            have b := (m4 (s y) (s x) (hs y (by omega)) (hs x hx)).2
            show kgs M (kSF s) (kSF s x) y + M (kSF s y) (kSF s x) ≤ S + m
            unfold kSF at *
            omega) x 0 (0, g) (by omega) ⟨0, rfl, by omega, fun a b _ _ z => z, fun y2 o p hy2 => absurd hy2 (by omega), fun s hs => Nat.le_refl 0⟩
      rw [nI_0] at Q
      obtain ⟨S, s1, s2, s3, s4, s5⟩ := Q
      have hx1 := hh (x + 1) (by omega) (by omega)
      unfold kpr3
      dsimp only
      rw [s1, nI_1, kat_nI (by omega) (by decide), hx1.1, nI_add, kput_nI (by omega) (by decide)]
      refine ⟨fun y c o p hy hc hcP ho2 hp => ?_, fun i => if i = x then H (x + 1) + S else H i, fun i hi hiP => ?_, ?_, fun s hs i hi hiP => ?_⟩
      · by_cases e : c = x
        · rw [e] at hy hp ⊢; exact s4 y o p hy ho2 hp
        · have := ho y (by omega)
          have := ho c hcP
          exact s3 _ _ (by omega) (by omega) (hal y c o p hy (by omega) hcP ho2 hp)
      · dsimp only
        by_cases e : i = x
        · rw [e, pk_us, if_pos rfl]; exact ⟨rfl, by omega⟩
        · rw [pk_un e, if_neg e]; exact hh i (by omega) hiP
      · dsimp only; rw [if_neg (by omega)]; exact h0
      · dsimp only
        by_cases e : i = x
        · rw [e, if_pos rfl]
          have a := hw s hs (x + 1) (by omega) (by omega)
          have b := s5 s hs
          rw [kwN_s] at a
          omega
        · rw [if_neg e]; exact hw s hs i (by omega) hiP) P (al, kput 7 ho0 (nI P) 0) (Nat.le_refl _)
    ⟨fun y c o p _ h1 h2 => absurd h2 (by omega), fun _ => 0, fun i h1 h2 => by
      have e : i = P := by omega
      dsimp only
      rw [e, kput_nI (by omega) (by decide), pk_us]; exact ⟨rfl, by omega⟩, rfl, fun s hs i h1 h2 => by
      have e : i = P := by omega
      rw [e]; exact Nat.le_add_right _ _⟩
  obtain ⟨a, H, b, c, d⟩ := L
  refine ⟨H, hP, ho, hz, fun y x o p hy hx ho2 hp => ⟨a y x o p hy (by omega) hx ho2 hp, (hk y x o p hy hx ho2 hp).2⟩, fun i hi => ?_, c, fun s hs i hi => d s hs i (by omega) hi⟩
  have q := b i (by omega) hi
  exact ⟨q.1, by omega⟩
