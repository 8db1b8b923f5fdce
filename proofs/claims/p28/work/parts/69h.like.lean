/-! Shared covers, distances and likeness are the same on both sides. -/
theorem i_slt {a b : Nat} (ha : a < 2 ^ 30) (hb : b < 2 ^ 30) : nI a - nI b < 0 ↔ a < b := by
  rw [Int32.lt_iff_toInt_lt, pk_sub_toInt ha hb, show (0 : Int32).toInt = 0 by decide]; omega
theorem i_s0 {a b : Nat} (ha : a < 2 ^ 30) (hb : b < 2 ^ 30) : nI a - nI b = 0 ↔ a = b := by
  rw [← Int32.toInt_inj, pk_sub_toInt ha hb, show (0 : Int32).toInt = 0 by decide]; omega
theorem i_a2 (n : Nat) : nI n + 2 = nI (n + 2) := nI_add n 2
theorem i_m2 (n : Nat) : (20000 : Int32) * nI n = nI (20000 * n) := pk_mul 20000 n
theorem i_m1 (n : Nat) : (10000 : Int32) * nI n = nI (10000 * n) := pk_mul 10000 n
def kCC (pr : Int32) (ps : Nat → Int32) (a b k : Nat) : Bool := kRe pr ps 30 a k && kRe pr ps 30 b k
theorem kCC_z {pr : Int32} {ps cv dp sx : Nat → Int32} (hs : kST pr ps cv dp sx 30) {a b k : Nat} (ha : a < 30) (hb : b < 30) (hpa : bt pr a = true) (hpb : bt pr b = true) (hk : k < 30) : bt (cv a &&& cv b) k = kCC pr ps a b k := by
  rw [b_and, (hs a ha).1, (hs b hb).1, kCv_R hk (Or.inl hpa), kCv_R hk (Or.inl hpb)]; rfl
theorem kr_tel {pr : Int32} {ps cs pa ct up cv ms dp sx : Nat → Int32} {cn rk : Nat → Nat} {a b : Nat} (hn : kNI pr ps cs cn rk) (h : kRl pr ps cs pa ct) (hu : kUp pr pa up) (hs : kSt pr ps cv ms dp sx cn) (ha : a < 30) (hb : b < 30) (hpa : bt pr a = true) (hpb : bt pr b = true) :
    ∀ n, n ≤ 30 → (kshr pr pa up ct a b n = -1 ∧ ktel ms dp (cv a &&& cv b) n = -1 ∧ ∀ k, k < n → kCC pr ps a b k = false) ∨ ∃ c, c < n ∧ kshr pr pa up ct a b n = nI c ∧ ktel ms dp (cv a &&& cv b) n = nI c ∧ kCC pr ps a b c = true := by
  intro n
  induction n with
  | zero => exact fun _ => Or.inl ⟨rfl, rfl, fun k hk => absurd hk (by omega)⟩
  | succ n ih =>
    intro hn30
    have ih := ih (by omega)
    have z := kCC_z hs.1 ha hb hpa hpb (by omega : n < 30)
    have ec : (bt pr n && kcov up n a && kcov up n b) = kCC pr ps a b n := by
      rw [kRl_c h hu (by omega) ha, kRl_c h hu (by omega) hb]
      unfold kCC
      cases e : kRe pr ps 30 a n with
      | false => rw [Bool.and_false]
      | true => rw [(kRe_pr hn.1 hpa ha e).1]; rfl
    unfold kshr ktel
    cases e : kCC pr ps a b n with
    | false =>
      rw [if_neg (by rw [ec, e]; decide), if_pos ((kx_k (by omega)).mpr (z.trans e))]
      rcases ih with ⟨i1, i2, i3⟩ | ⟨c, c1, c2⟩
      · refine Or.inl ⟨i1, i2, fun k hk => ?_⟩
        by_cases w : k = n
        · subst w; exact e
        · exact i3 k (by omega)
      · exact Or.inr ⟨c, by omega, c2⟩
    | true =>
      have zt : ¬ nB (khas (cv a &&& cv b) (nI n)) = 0 := fun w => by rw [(kx_k (by omega)).mp w] at z; rw [e] at z; cases z
      rw [if_pos (by rw [ec, e]), if_neg zt]
      rcases ih with ⟨i1, i2, i3⟩ | ⟨c, c1, c2, c3, c4⟩
      · rw [i1, i2, if_pos (show kbet pr pa up ct n (-1) = true from rfl), if_pos rfl]
        exact Or.inr ⟨n, by omega, rfl, rfl, e⟩
      · rw [c2, c3, if_neg (nI_neg1 c (by omega))]
        have hpn : bt pr n = true := by unfold kCC at e; rw [Bool.and_eq_true] at e; exact (kRe_pr hn.1 hpa ha e.1).1
        have hpc : bt pr c = true := by unfold kCC at c4; rw [Bool.and_eq_true] at c4; exact (kRe_pr hn.1 hpa ha c4.1).1
        have key : kbet pr pa up ct n (nI c) = ksay ms dp (nI n) (nI c) := by
          unfold kbet kby ksay
          rw [if_pos (nI_neg1 c (by omega)), nI_clamp (show c < 2 ^ 31 by omega), kat_nI (by omega) (by decide), kat_nI (show c < 30 by omega) (by decide), kat_nI (by omega) (by decide), kat_nI (show c < 30 by omega) (by decide), kr_mass30 hn h hu (by omega), kr_mass30 hn h hu (by omega), hs.2 n (by omega), hs.2 c (by omega), kr_dpo h hu (by omega) 30 (Nat.le_refl _), kr_dpo h hu (by omega) 30 (Nat.le_refl _), (kr_depth hn hs.1 (by omega) hpn).1, (kr_depth hn hs.1 (by omega) hpc).1]
          have b1 : kMs pr ps cn n ≤ 30000 := kMs_b (fun k hk => (hn.2.2 k hk).2)
          have b2 : kMs pr ps cn c ≤ 30000 := kMs_b (fun k hk => (hn.2.2 k hk).2)
          rw [Bool.eq_iff_iff, Bool.or_eq_true, Bool.and_eq_true, decide_eq_true_iff, decide_eq_true_iff, decide_eq_true_iff, Bool.not_eq_true', decide_eq_false_iff_not, i_slt (by omega) (by omega), i_s0 (by omega) (by omega), nI_ltI (by omega) (by omega), nI_eq (by omega) (by omega)]
          rfl
        rw [key]
        cases e3 : ksay ms dp (nI n) (nI c) with
        | true => rw [if_pos rfl, if_neg (show ¬ nB true = 0 by decide)]; exact Or.inr ⟨n, by omega, rfl, rfl, e⟩
        | false => rw [if_neg (by decide), if_pos (show nB false = 0 from rfl)]; exact Or.inr ⟨c, by omega, rfl, rfl, c4⟩
def kWw (pr : Int32) (ps : Nat → Int32) (a b k : Nat) : Nat := kd pr ps a k + kd pr ps b k
theorem kWw_b {pr : Int32} {ps : Nat → Int32} {a b k : Nat} (ha : a < 30) (hb : b < 30) (hk : k < 30) : kWw pr ps a b k ≤ 2000 ∧ (kCC pr ps a b k = true → kWw pr ps a b k < 60) ∧ (kCC pr ps a b k = false → 1000 ≤ kWw pr ps a b k) := by
  unfold kWw kCC
  have e1 := kd_le (pr := pr) (ps := ps) ha hk
  have e2 := kd_le (pr := pr) (ps := ps) hb hk
  refine ⟨by omega, fun h => ?_, fun h => ?_⟩
  · rw [Bool.and_eq_true] at h
    have := (kd_30 h.1).1; have := (kd_30 h.2).1; omega
  · rw [Bool.and_eq_false_iff] at h
    rcases h with h | h
    · rw [kd_no ha hk h]; omega
    · rw [kd_no hb hk h]; omega
theorem kr_dis {pr : Int32} {ps cs pa ct up : Nat → Int32} {a b : Nat} (h : kRl pr ps cs pa ct) (hu : kUp pr pa up) (ha : a < 30) (hb : b < 30) : ∀ n, n ≤ 30 → kdis up a b n = nI (kmn (kWw pr ps a b) n) := by
  intro n
  induction n with
  | zero => exact fun _ => rfl
  | succ n ih =>
    intro hn
    show (if kdis up a b n ≤ up (30 * a + n) + up (30 * b + n) then kdis up a b n else up (30 * a + n) + up (30 * b + n)) = nI (if kmn (kWw pr ps a b) n ≤ kWw pr ps a b n then kmn (kWw pr ps a b) n else kWw pr ps a b n)
    rw [ih (by omega), kRl_u h hu ha (by omega), kRl_u h hu hb (by omega), nI_add]
    have hw := (kWw_b (pr := pr) (ps := ps) ha hb (by omega : n < 30)).1
    have e2 := nI_leI (a := kmn (kWw pr ps a b) n) (b := kWw pr ps a b n) (by have := (kmn_l (v := kWw pr ps a b) n).1; omega) (by omega)
    show (if nI (kmn (kWw pr ps a b) n) ≤ nI (kWw pr ps a b n) then nI (kmn (kWw pr ps a b) n) else nI (kWw pr ps a b n)) = _
    by_cases c : kmn (kWw pr ps a b) n ≤ kWw pr ps a b n
    · rw [if_pos (e2.mpr c), if_pos c]
    · rw [if_neg (fun z => c (e2.mp z)), if_neg c]
theorem kr_sbt {pr : Int32} {ps cs cv dp sx : Nat → Int32} {cn rk : Nat → Nat} {a b : Nat} (hn : kNI pr ps cs cn rk) (hs : kST pr ps cv dp sx 30) (ha : a < 30) (hb : b < 30) (hpa : bt pr a = true) (hpb : bt pr b = true) :
    ∀ n, n ≤ 30 → (ksbt sx (nI a) (nI b) (cv a &&& cv b) n = -1 ∧ kmn (kWw pr ps a b) n = 1000) ∨ ∃ u, u < 60 ∧ ksbt sx (nI a) (nI b) (cv a &&& cv b) n = nI u ∧ kmn (kWw pr ps a b) n = u := by
  intro n
  induction n with
  | zero => exact fun _ => Or.inl ⟨rfl, rfl⟩
  | succ n ih =>
    intro hn30
    have ih := ih (by omega)
    have z := kCC_z hs ha hb hpa hpb (by omega : n < 30)
    have hw := kWw_b (pr := pr) (ps := ps) ha hb (by omega : n < 30)
    unfold ksbt
    show (_ ∧ (if kmn (kWw pr ps a b) n ≤ kWw pr ps a b n then kmn (kWw pr ps a b) n else kWw pr ps a b n) = 1000) ∨ ∃ u, u < 60 ∧ _ ∧ (if kmn (kWw pr ps a b) n ≤ kWw pr ps a b n then kmn (kWw pr ps a b) n else kWw pr ps a b n) = u
    cases e : kCC pr ps a b n with
    | false =>
      have h2 := hw.2.2 e
      rw [if_pos ((kx_k (by omega)).mpr (z.trans e)), if_pos (by have := (kmn_l (v := kWw pr ps a b) n).1; omega)]
      exact ih
    | true =>
      have h2 := hw.2.1 e
      have ee := e
      unfold kCC at ee
      rw [Bool.and_eq_true] at ee
      have zt : ¬ nB (khas (cv a &&& cv b) (nI n)) = 0 := fun w => by rw [(kx_k (by omega)).mp w] at z; rw [e] at z; cases z
      rw [if_neg zt, kx_row, kx_row, kat_nI (by omega) (by decide), kat_nI (by omega) (by decide), (hs a ha).2.2 hpa n (by omega) ee.1, (hs b hb).2.2 hpb n (by omega) ee.2, nI_add]
      rw [show kd pr ps a n + kd pr ps b n = kWw pr ps a b n from rfl]
      rcases ih with ⟨i1, i2⟩ | ⟨u, u1, u2, u3⟩
      · rw [i1, i2, if_pos rfl, if_neg (by omega)]
        exact Or.inr ⟨_, h2, rfl, rfl⟩
      · rw [u2, u3, if_neg (nI_neg1 u (by omega))]
        have e2 := nI_ltI (a := kWw pr ps a b n) (b := u) (by omega) (by omega)
        by_cases c : kWw pr ps a b n < u
        · rw [if_pos (e2.mpr c), if_neg (by omega)]; exact Or.inr ⟨_, h2, rfl, rfl⟩
        · rw [if_neg (fun w => c (e2.mp w)), if_pos (by omega)]; exact Or.inr ⟨u, u1, rfl, rfl⟩
theorem kr_dst {pr : Int32} {ps cs pa ct up cv dp sx : Nat → Int32} {cn rk : Nat → Nat} {a b : Nat} (hn : kNI pr ps cs cn rk) (h : kRl pr ps cs pa ct) (hu : kUp pr pa up) (hs : kST pr ps cv dp sx 30) (ha : a < 30) (hb : b < 30) (hpa : bt pr a = true) (hpb : bt pr b = true) :
    kdst up a b = ksbt sx (nI a) (nI b) (cv a &&& cv b) 30 ∧ (kdst up a b = -1 ∨ ∃ u, u < 60 ∧ kdst up a b = nI u) ∧ ((∃ k, k < 30 ∧ kCC pr ps a b k = true) → ¬ kdst up a b = -1) := by
  unfold kdst
  rw [kr_dis h hu ha hb 30 (Nat.le_refl _)]
  rcases kr_sbt hn hs ha hb hpa hpb 30 (Nat.le_refl _) with ⟨i1, i2⟩ | ⟨u, u1, u2, u3⟩
  · rw [i1, i2, if_pos (show (1000 : Int32) ≤ nI 1000 by decide)]
    refine ⟨rfl, Or.inl rfl, ?_⟩
    rintro ⟨k, hk, hc⟩
    have := (kWw_b (pr := pr) (ps := ps) ha hb hk).2.1 hc
    have := (kmn_l (v := kWw pr ps a b) 30).2 k hk
    omega
  · rw [u2, u3, if_neg (show ¬ (1000 : Int32) ≤ nI u from fun z => absurd ((nI_leI (a := 1000) (by decide) (by omega)).mp z) (by omega))]
    exact ⟨rfl, Or.inr ⟨u, u1, rfl⟩, fun _ => nI_neg1 u (by omega)⟩
theorem kr_who {pr : Int32} {ps cs pa ct : Nat → Int32} {cn rk : Nat → Nat} (hn : kNI pr ps cs cn rk) (h : kRl pr ps cs pa ct) : ∀ n, n ≤ 30 → kwho pr ct n = nI (kSu (bt pr) cn n) := by
  intro n
  induction n with
  | zero => exact fun _ => rfl
  | succ n ih =>
    intro hn30
    show kwho pr ct n + (if nB (bt pr n) = 0 then 0 else ct n) = nI (kSu (bt pr) cn n + (if bt pr n = true then cn n else 0))
    rw [ih (by omega)]
    cases e : bt pr n with
    | false => rw [if_pos (show nB false = 0 from rfl), if_neg (by decide)]; exact nI_add _ 0
    | true => rw [if_neg (show ¬ nB true = 0 by decide), if_pos rfl, (h n (by omega) e).2, (hn.2.2 n (by omega)).1, nI_add]
theorem kSu_m {p q : Nat → Bool} {cn : Nat → Nat} : ∀ n, (∀ k, k < n → p k = true → q k = true) → kSu p cn n ≤ kSu q cn n := by
  intro n
  induction n with
  | zero => exact fun _ => Nat.le_refl 0
  | succ n ih =>
    intro h
    have := ih (fun k hk => h k (by omega))
    show kSu p cn n + _ ≤ kSu q cn n + _
    cases e : p n with
    | false => rw [if_neg (by decide)]; omega
    | true => rw [h n (by omega) e]; omega
theorem kMs_w {pr : Int32} {ps : Nat → Int32} {cn : Nat → Nat} {a : Nat} : kMs pr ps cn a ≤ kSu (bt pr) cn 30 :=
  kSu_m 30 (fun k _ h => by unfold kCv at h; rw [Bool.and_eq_true] at h; exact h.1)
theorem kquo_n {x y : Nat} (hx : x < 2 ^ 31) (h0 : 0 < y) (hy : y < 2 ^ 31) : kquo (nI x) (nI y) = nI (x / y) := by
  unfold kquo
  rw [if_neg (nI_nle h0 hy), pk_div hx h0 hy]
/-- the likeness, both sides -/
theorem kr_lik {pr : Int32} {ps cs pa ct up cv ms dp sx : Nat → Int32} {cn rk : Nat → Nat} {a b : Nat} (q : Int32) (hn : kNI pr ps cs cn rk) (h : kRl pr ps cs pa ct) (hu : kUp pr pa up) (hs : kSt pr ps cv ms dp sx cn) (ha : a < 30) (hb : b < 30) (hpa : bt pr a = true) (hpb : bt pr b = true) :
    ∃ L, L ≤ 10000 ∧ klik pr pa up ct a b q = nI L ∧ kali pr cs cv ms dp sx (nI a) (nI b) q = nI L := by
  have D := kr_dst hn h hu hs.1 ha hb hpa hpb
  unfold klik kali klk1 kal1
  rw [kat_nI ha (by decide), kat_nI hb (by decide), kat_nI ha (by decide), kat_nI hb (by decide), ← D.1]
  rcases kr_tel hn h hu hs ha hb hpa hpb 30 (Nat.le_refl _) with ⟨i1, i2, _⟩ | ⟨c, c1, c2, c3, c4⟩
  · rw [i1, i2, if_pos rfl, if_pos rfl]; exact ⟨0, by omega, rfl, rfl⟩
  · have hpc : bt pr c = true := by unfold kCC at c4; rw [Bool.and_eq_true] at c4; exact (kRe_pr hn.1 hpa ha c4.1).1
    rw [c2, c3, if_neg (nI_neg1 c (by omega)), if_neg (nI_neg1 c (by omega)), nI_clamp (show c < 2 ^ 31 by omega), kat_nI (show c < 30 by omega) (by decide), kat_nI (show c < 30 by omega) (by decide)]
    obtain ⟨u, u1, u2⟩ := D.2.1.resolve_left (D.2.2 ⟨c, by omega, c4⟩)
    by_cases q0 : q = 0
    · rw [if_pos q0, if_pos q0, u2, show (1 : Int32) + nI u = nI (1 + u) from nI_add 1 u]
      refine ⟨10000 / (1 + u), Nat.div_le_self _ _, ?_, ?_⟩
      · exact pk_div (a := 10000) (by decide) (by omega) (by omega)
      · exact kquo_n (x := 10000) (by decide) (by omega) (by omega)
    · rw [if_neg q0, if_neg q0]
      by_cases q1 : q = 1
      · rw [if_pos q1, if_pos q1]
        have da := kr_depth hn hs.1 ha hpa
        have db := kr_depth hn hs.1 hb hpb
        have dc := kr_depth hn hs.1 (show c < 30 by omega) hpc
        rw [kr_dpo h hu ha 30 (Nat.le_refl _), kr_dpo h hu hb 30 (Nat.le_refl _), kr_dpo h hu (show c < 30 by omega) 30 (Nat.le_refl _), da.1, db.1, dc.1]
        show ∃ L, L ≤ 10000 ∧ (if _ ≤ (20000 * (nI (kDp pr ps c) + 1)) / (nI (kDp pr ps a) + nI (kDp pr ps b) + 2) then _ else (20000 * (nI (kDp pr ps c) + 1)) / (nI (kDp pr ps a) + nI (kDp pr ps b) + 2)) = nI L ∧ _
        rw [nI_1, nI_1, nI_add, nI_add, nI_1, i_a2, i_m2, pk_div (by omega) (by omega) (by omega), kquo_n (by omega) (by omega) (by omega), show kDp pr ps a + 1 + kDp pr ps b + 1 = kDp pr ps a + kDp pr ps b + 2 by omega]
        generalize hg : 20000 * (kDp pr ps c + 1) / (kDp pr ps a + kDp pr ps b + 2) = g
        have hgb : g < 2 ^ 31 := by rw [← hg]; exact Nat.lt_of_le_of_lt (Nat.div_le_self _ _) (by omega)
        rcases Nat.lt_or_ge g 10000 with w | w
        · rw [if_neg (show ¬ (10000 : Int32) ≤ nI g from fun z => absurd ((nI_leI (a := 10000) (by decide) hgb).mp z) (by omega)), if_pos (show nI g < 10000 from nI_lt (b := 10000) w (by decide))]
          exact ⟨g, by omega, rfl, rfl⟩
        · rw [if_pos (show (10000 : Int32) ≤ nI g from nI_le (a := 10000) w hgb), if_neg (show ¬ nI g < 10000 from fun z => absurd ((nI_ltI (b := 10000) hgb (by decide)).mp z) (by omega))]
          exact ⟨10000, by omega, rfl, rfl⟩
      · rw [if_neg q1, if_neg q1, kr_who hn h 30 (Nat.le_refl _), kcoa_s (fun k hk => (hn.2.2 k hk).1) 30 (Nat.le_refl _), kr_mass30 hn h hu (by omega), hs.2 c (by omega)]
        have hw : kSu (bt pr) cn 30 ≤ 30000 := kSu_b 30 (fun k hk => (hn.2.2 k hk).2)
        have hm : kMs pr ps cn c ≤ kSu (bt pr) cn 30 := kMs_w
        rw [pk_sub hm, i_m1]
        generalize kSu (bt pr) cn 30 = w at hw hm ⊢
        by_cases w0 : w = 0
        · subst w0
          rw [if_pos (show nI 0 = 0 from rfl)]
          exact ⟨0, by omega, rfl, if_pos (by decide)⟩
        · rw [if_neg (nI_ne0 (by omega) (by omega)), pk_div (by omega) (by omega) (by omega), kquo_n (by omega) (by omega) (by omega)]
          refine ⟨_, ?_, rfl, rfl⟩
          exact Nat.div_le_of_le_mul (by rw [Nat.mul_comm]; exact Nat.mul_le_mul_right _ (by omega))
theorem kr_dv {pr : Int32} {ps cs pa ct cv ms dp sx : Nat → Int32} {cn rk : Nat → Nat} (hn : kNI pr ps cs cn rk) (h : kRl pr ps cs pa ct) (hs : kSt pr ps cv ms dp sx cn) : kdv pr pa ct := by
  intro up hu a b ha hb hpa hpb
  have D := kr_dst hn h hu hs.1 ha hb hpa hpb
  refine ⟨fun w => ?_, ?_⟩
  · rcases kr_tel hn h hu hs ha hb hpa hpb 30 (Nat.le_refl _) with ⟨i1, _⟩ | ⟨c, c1, _, _, c4⟩
    · exact absurd i1 w
    · obtain ⟨u, u1, u2⟩ := D.2.1.resolve_left (D.2.2 ⟨c, by omega, c4⟩)
      rw [u2, show (1 : Int32) + nI u = nI (1 + u) from nI_add 1 u]
      exact nI_ne0 (by omega) (by omega)
  · rw [kr_dpo h hu ha 30 (Nat.le_refl _), kr_dpo h hu hb 30 (Nat.le_refl _), nI_add, i_a2]
    have := (kmn_l (v := kdv1 pr ps a) 30).1
    have := (kmn_l (v := kdv1 pr ps b) 30).1
    exact nI_ne0 (by omega) (by omega)
