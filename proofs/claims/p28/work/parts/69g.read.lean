/-! What both answer on a net: covers, masses, depths, shared covers, distances, likeness. -/
def kNI (pr : Int32) (ps cs : Nat → Int32) (cn rk : Nat → Nat) : Prop := kPs pr ps ∧ (∀ s q, s < 30 → bt (ps s) q = true → rk q < rk s) ∧ (∀ k, k < 30 → cs k = nI (cn k) ∧ cn k ≤ 1000)
def kRl (pr : Int32) (ps cs pa ct : Nat → Int32) : Prop := ∀ k, k < 30 → bt pr k = true → pa k = ps k ∧ ct k = cs k
def kSt (pr : Int32) (ps cv ms dp sx : Nat → Int32) (cn : Nat → Nat) : Prop := kST pr ps cv dp sx 30 ∧ ∀ a, a < 30 → ms a = nI (kMs pr ps cn a)
theorem kRl_E {pr : Int32} {ps cs pa ct : Nat → Int32} (h : kRl pr ps cs pa ct) : ∀ s q, s < 30 → kE pr ps s q = kE pr pa s q := by
  intro s q hs
  unfold kE
  cases e : bt pr s with
  | false => rfl
  | true => rw [(h s hs e).1]
theorem kRl_u {pr : Int32} {ps cs pa ct up : Nat → Int32} (h : kRl pr ps cs pa ct) (hu : kUp pr pa up) {a b : Nat} (ha : a < 30) (hb : b < 30) : up (30 * a + b) = nI (kd pr ps a b) := by
  rw [hu a b ha hb, kd_cg (kRl_E h) ha]
theorem kRl_c {pr : Int32} {ps cs pa ct up : Nat → Int32} (h : kRl pr ps cs pa ct) (hu : kUp pr pa up) {a b : Nat} (ha : a < 30) (hb : b < 30) : kcov up a b = kRe pr ps 30 b a := by
  rw [kcov_d hu ha hb, ← kd_re hb ha, kd_cg (kRl_E h) hb]
theorem kd_le {pr : Int32} {ps : Nat → Int32} {a b : Nat} (ha : a < 30) (hb : b < 30) : kd pr ps a b < 30 ∨ kd pr ps a b = 1000 := by
  cases h : kRe pr ps 30 a b with
  | true => exact Or.inl (kd_30 h).1
  | false => exact Or.inr (kd_no ha hb h)
theorem kRe_ab {pr : Int32} {ps : Nat → Int32} {k a : Nat} (hk : bt pr k = false) (hn : ¬ k = a) : kRe pr ps 30 k a = false := by
  rw [Bool.eq_false_iff]
  intro z
  obtain ⟨n, _, h⟩ := kRe_i.mp z
  cases n with
  | zero => exact hn (of_decide_eq_true h)
  | succ n => obtain ⟨q, _, h2, _⟩ := kpt_o h; unfold kE at h2; rw [hk] at h2; cases h2
theorem kCv_R {pr : Int32} {ps : Nat → Int32} {k a : Nat} (ha : a < 30) (h : bt pr k = true ∨ ¬ k = a) : kCv pr ps k a = kRe pr ps 30 k a := by
  unfold kCv
  rw [decide_eq_true ha, Bool.true_and]
  cases e : bt pr k with
  | true => rfl
  | false =>
    rcases h with h | h
    · rw [e] at h; cases h
    · rw [kRe_ab e h]; rfl
theorem kset2_b {f : Nat → Bool} {a : Nat} : ∀ n, n ≤ 30 → ∀ k, k < 32 → bt (kset2 f a n) k = (decide (k < n) && (decide (¬ k = a) && f k)) := by
  intro n
  induction n with
  | zero => exact fun _ k _ => by rw [show kset2 f a 0 = 0 from rfl, b_0]; rfl
  | succ n ih =>
    intro hn k hk
    have ih := ih (by omega) k hk
    have key : bt (kset2 f a (n + 1)) k = (bt (kset2 f a n) k || (decide (k = n) && (decide (¬ k = a) && f k))) := by
      by_cases e : n = a
      · rw [kset2_e e, b_or, b_0]
        by_cases c : k = n
        · subst c; rw [decide_eq_true rfl, decide_eq_false (by omega : ¬ ¬ k = a)]; rfl
        · rw [decide_eq_false c]; rfl
      · cases e2 : f n with
        | false =>
          rw [kset2_n e e2, b_or, b_0]
          by_cases c : k = n
          · subst c; rw [e2, Bool.and_false, Bool.and_false]
          · rw [decide_eq_false c]; rfl
        | true =>
          rw [kset2_y e e2 (by omega), b_or, ← kbit_nI (by omega), kbit_b (by omega) hk]
          by_cases c : k = n
          · subst c; rw [e2, decide_eq_true rfl, decide_eq_true e]; rfl
          · rw [decide_eq_false c, decide_eq_false (show ¬ n = k from fun z => c z.symm)]; rfl
    rw [key, ih]
    by_cases c : k = n
    · subst c; rw [decide_eq_false (by omega : ¬ k < k), decide_eq_true rfl, decide_eq_true (by omega : k < k + 1)]; simp only [Bool.false_and, Bool.false_or, Bool.true_and]
    · rw [decide_eq_false c, show decide (k < n + 1) = decide (k < n) from decide_eq_decide.mpr (by omega), Bool.false_and, Bool.or_false]
theorem kr_above {pr : Int32} {ps cs pa ct up cv dp sx : Nat → Int32} {a : Nat} (h : kRl pr ps cs pa ct) (hu : kUp pr pa up) (hs : kST pr ps cv dp sx 30) (ha : a < 30) (hpa : bt pr a = true) : cv a &&& (kbit (nI a) ^^^ (-1)) = kset2 (fun k => kcov up k a) a 30 := by
  refine b_ext (fun k hk => ?_)
  rw [kset2_b 30 (Nat.le_refl _) k hk, b_and, b_xor, b_m1 k hk, kbit_b ha hk, (hs a ha).1]
  unfold kCv
  rw [hpa, Bool.true_and]
  by_cases c : k < 30
  · rw [decide_eq_true c, kRl_c h hu c ha]
    by_cases e : a = k
    · subst e; rw [decide_eq_true rfl]; simp
    · rw [decide_eq_false e, decide_eq_true (show ¬ k = a from fun z => e z.symm)]; simp
  · rw [decide_eq_false c]; rfl
theorem kr_below {pr : Int32} {ps cs pa ct up cv dp sx : Nat → Int32} {a : Nat} (h : kRl pr ps cs pa ct) (hu : kUp pr pa up) (hs : kST pr ps cv dp sx 30) (ha : a < 30) : kcvd cv (nI a) 30 &&& (kbit (nI a) ^^^ (-1)) = kset2 (fun k => kcov up a k) a 30 := by
  refine b_ext (fun k hk => ?_)
  rw [kset2_b 30 (Nat.le_refl _) k hk, b_and, b_xor, b_m1 k hk, kbit_b ha hk, kcvd_b ha 30 (Nat.le_refl _) k hk]
  by_cases c : k < 30
  · rw [decide_eq_true c, kRl_c h hu ha c, (hs k c).1]
    by_cases e : a = k
    · subst e; rw [decide_eq_true rfl]; simp
    · have e' : ¬ k = a := fun z => e z.symm
      rw [decide_eq_false e, decide_eq_true e', kCv_R ha (Or.inr e')]; simp
  · rw [decide_eq_false c]; rfl
theorem kr_mass {pr : Int32} {ps cs pa ct up : Nat → Int32} {cn rk : Nat → Nat} {a : Nat} (hn : kNI pr ps cs cn rk) (h : kRl pr ps cs pa ct) (hu : kUp pr pa up) (ha : a < 30) : ∀ n, n ≤ 30 → kmas pr up ct a n = nI (kSu (fun k => kCv pr ps k a) cn n) := by
  intro n
  induction n with
  | zero => exact fun _ => rfl
  | succ n ih =>
    intro hn30
    show kmas pr up ct a n + (if nB (bt pr n) = 0 then 0 else if nB (kcov up a n) = 0 then 0 else ct n) = nI (kSu (fun k => kCv pr ps k a) cn n + (if kCv pr ps n a = true then cn n else 0))
    rw [ih (by omega)]
    cases e : bt pr n with
    | false =>
      rw [if_pos (show nB false = 0 from rfl), if_neg (by unfold kCv; rw [e]; exact Bool.false_ne_true)]; exact nI_add _ 0
    | true =>
      rw [if_neg (show ¬ nB true = 0 by decide), kRl_c h hu ha (by omega), kCv_R ha (Or.inl e)]
      cases e2 : kRe pr ps 30 n a with
      | false => rw [if_pos (show nB false = 0 from rfl), if_neg (by decide)]; exact nI_add _ 0
      | true => rw [if_neg (show ¬ nB true = 0 by decide), if_pos rfl, (h n (by omega) e).2, (hn.2.2 n (by omega)).1, nI_add]
theorem kr_mass30 {pr : Int32} {ps cs pa ct up : Nat → Int32} {cn rk : Nat → Nat} {a : Nat} (hn : kNI pr ps cs cn rk) (h : kRl pr ps cs pa ct) (hu : kUp pr pa up) (ha : a < 30) : kmas pr up ct a 30 = nI (kMs pr ps cn a) := kr_mass hn h hu ha 30 (Nat.le_refl _)
/-! depth -/
def kmn (v : Nat → Nat) : Nat → Nat
  | 0 => 1000
  | k + 1 => if kmn v k ≤ v k then kmn v k else v k
theorem kmn_l {v : Nat → Nat} : ∀ n, kmn v n ≤ 1000 ∧ ∀ k, k < n → kmn v n ≤ v k := by
  intro n
  induction n with
  | zero => exact ⟨Nat.le_refl _, fun k hk => absurd hk (by omega)⟩
  | succ n ih =>
    show (if kmn v n ≤ v n then kmn v n else v n) ≤ 1000 ∧ ∀ k, k < n + 1 → (if kmn v n ≤ v n then kmn v n else v n) ≤ v k
    by_cases c : kmn v n ≤ v n
    · rw [if_pos c]
      refine ⟨ih.1, fun k hk => ?_⟩
      by_cases e : k = n
      · subst e; exact c
      · exact ih.2 k (by omega)
    · rw [if_neg c]
      refine ⟨by omega, fun k hk => ?_⟩
      by_cases e : k = n
      · subst e; exact Nat.le_refl _
      · have := ih.2 k (by omega); omega
theorem kmn_g {v : Nat → Nat} {u : Nat} (hu : u ≤ 1000) : ∀ n, (∀ k, k < n → u ≤ v k) → u ≤ kmn v n := by
  intro n
  induction n with
  | zero => exact fun _ => hu
  | succ n ih =>
    intro h
    show u ≤ if kmn v n ≤ v n then kmn v n else v n
    split
    · exact ih (fun k hk => h k (by omega))
    · exact h n (by omega)
def kdv1 (pr : Int32) (ps : Nat → Int32) (a k : Nat) : Nat := if bt pr k = false then 1000 else if ¬ ps k = 0 then 1000 else kd pr ps a k
theorem kr_dpo {pr : Int32} {ps cs pa ct up : Nat → Int32} {a : Nat} (h : kRl pr ps cs pa ct) (hu : kUp pr pa up) (ha : a < 30) : ∀ n, n ≤ 30 → kdpo pr pa up a n = nI (kmn (kdv1 pr ps a) n) := by
  intro n
  induction n with
  | zero => exact fun _ => rfl
  | succ n ih =>
    intro hn
    have e1 : kdp1 pr pa up a n = nI (kdv1 pr ps a n) := by
      unfold kdp1 kdv1
      cases e : bt pr n with
      | false => rw [if_pos (show nB false = 0 from rfl), if_pos rfl]; rfl
      | true =>
        rw [if_neg (show ¬ nB true = 0 by decide), if_neg (show ¬ true = false by decide), (h n (by omega) e).1]
        by_cases c : ps n = 0
        · rw [if_neg (Classical.not_not.mpr c), if_neg (Classical.not_not.mpr c)]; exact kRl_u h hu ha (by omega)
        · rw [if_pos c, if_pos c]; rfl
    have hv : kdv1 pr ps a n ≤ 1000 := by
      unfold kdv1
      split
      · exact Nat.le_refl _
      · split
        · exact Nat.le_refl _
        · rcases kd_le (pr := pr) (ps := ps) ha (by omega : n < 30) with z | z <;> omega
    show (if kdpo pr pa up a n ≤ kdp1 pr pa up a n then kdpo pr pa up a n else kdp1 pr pa up a n) = nI (if kmn (kdv1 pr ps a) n ≤ kdv1 pr ps a n then kmn (kdv1 pr ps a) n else kdv1 pr ps a n)
    rw [ih (by omega), e1]
    have e2 := nI_leI (a := kmn (kdv1 pr ps a) n) (b := kdv1 pr ps a n) (by have := (kmn_l (v := kdv1 pr ps a) n).1; omega) (by omega)
    by_cases c : kmn (kdv1 pr ps a) n ≤ kdv1 pr ps a n
    · rw [if_pos (e2.mpr c), if_pos c]
    · rw [if_neg (fun z => c (e2.mp z)), if_neg c]
def kDp (pr : Int32) (ps : Nat → Int32) (a : Nat) : Nat := kmn (kdv1 pr ps a) 30
theorem ktp_x {pr : Int32} {ps cs : Nat → Int32} {cn rk : Nat → Nat} (hn : kNI pr ps cs cn rk) : ∀ r a, rk a ≤ r → a < 30 → bt pr a = true → ∃ t, t < 30 ∧ bt pr t = true ∧ kRe pr ps 30 a t = true ∧ ps t = 0 := by
  intro r
  induction r with
  | zero =>
    intro a hr ha hpa
    refine ⟨a, ha, hpa, kRe_30 ha ha (n := 0) (decide_eq_true rfl), ?_⟩
    rw [b_eq0]
    intro k _
    rw [Bool.eq_false_iff]
    intro z
    have := hn.2.1 a k ha z
    omega
  | succ r ih =>
    intro a hr ha hpa
    by_cases c : ps a = 0
    · exact ⟨a, ha, hpa, kRe_30 ha ha (n := 0) (decide_eq_true rfl), c⟩
    · have : ∃ k, bt (ps a) k = true := by
        refine Classical.byContradiction (fun z => c (b_eq0.mpr (fun k _ => ?_)))
        rw [Bool.eq_false_iff]; exact fun w => z ⟨k, w⟩
      obtain ⟨k, hk⟩ := this
      have p := hn.1.2 a ha k hk
      have q := hn.2.1 a k ha hk
      obtain ⟨t, ht, h1, h2, h3⟩ := ih k (by omega) p.1 p.2.1
      obtain ⟨n, _, h4⟩ := kRe_i.mp h2
      exact ⟨t, ht, h1, kRe_30 ha ht (kpt_s p.1 (by rw [kPs_E hn.1 ha]; exact hk) h4), h3⟩
theorem kRe_pr {pr : Int32} {ps : Nat → Int32} (hp : kPs pr ps) {a t : Nat} (hpa : bt pr a = true) (ha : a < 30) (h : kRe pr ps 30 a t = true) : bt pr t = true ∧ t < 30 := by
  have key : ∀ n s, s < 30 → bt pr s = true → kpt pr ps n s t = true → bt pr t = true ∧ t < 30 := by
    intro n
    induction n with
    | zero => intro s hs h1 h2; have e : s = t := of_decide_eq_true h2; subst e; exact ⟨h1, hs⟩
    | succ n ih =>
      intro s hs h1 h2
      obtain ⟨q, hq, e1, e2⟩ := kpt_o h2
      rw [kPs_E hp hs] at e1
      exact ih q hq (hp.2 s hs q e1).2.1 e2
  obtain ⟨n, _, h⟩ := kRe_i.mp h
  exact key n a ha hpa h
theorem kr_depth {pr : Int32} {ps cs cv dp sx : Nat → Int32} {cn rk : Nat → Nat} {a : Nat} (hn : kNI pr ps cs cn rk) (hs : kST pr ps cv dp sx 30) (ha : a < 30) (hpa : bt pr a = true) : dp a = nI (kDp pr ps a) ∧ kDp pr ps a < 30 := by
  obtain ⟨t0, ht0, hp0, hr0, hz0⟩ := ktp_x hn (rk a) a (Nat.le_refl _) ha hpa
  rcases (hs a ha).2.1 hpa with z | ⟨u, t, hu, ht, e, hl, hz, hm⟩
  · exact absurd hz0 (z.2 t0 ht0 hr0)
  · have hv : kdv1 pr ps a t = u := by
      unfold kdv1
      have := (kRe_pr hn.1 hpa ha (by rw [← Nat.add_zero 30]; exact kRe_m (j := u + 1) (by omega) (by rw [kRe_s, hl, Bool.or_true]))).1
      rw [if_neg (by rw [this]; decide), if_neg (Classical.not_not.mpr hz), kLv_d (by omega) hl]
    have e2 : kDp pr ps a = u := by
      refine Nat.le_antisymm ?_ ?_
      · have := (kmn_l (v := kdv1 pr ps a) 30).2 t ht
        unfold kDp; omega
      · refine kmn_g (by omega) 30 (fun k hk => ?_)
        unfold kdv1
        split
        · omega
        · split
          · omega
          · rename_i h2
            have h2 := Classical.not_not.mp h2
            rcases Nat.lt_or_ge (kd pr ps a k) u with w | w
            · exfalso
              have h3 : kRe pr ps 30 a k = true := by
                have := kd_re (pr := pr) (ps := ps) ha hk
                rw [← this]; exact decide_eq_true (by omega)
              have h4 := (kd_30 h3).2
              exact hm k hk (kRe_m (j := kd pr ps a k + 1) (by omega) (by rw [kRe_s, h4, Bool.or_true])) h2
            · exact w
    rw [e2]; exact ⟨e, hu⟩
