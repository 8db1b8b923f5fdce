/-! The class's climb is the graph's distance. -/
theorem kpt_e {pr : Int32} {ps : Nat → Int32} {q t : Nat} (ht : t < 30) (h2 : kE pr ps q t = true) : ∀ n s, kpt pr ps n s q = true → kpt pr ps (n + 1) s t = true := by
  intro n
  induction n with
  | zero =>
    intro s h1
    have e : s = q := of_decide_eq_true h1
    subst e
    exact kpt_s ht h2 (decide_eq_true rfl)
  | succ n ih =>
    intro s h1
    obtain ⟨r, hr, e1, e2⟩ := kpt_o h1
    exact kpt_s hr e1 (ih r e2)
theorem kpt_l {pr : Int32} {ps : Nat → Int32} {t : Nat} : ∀ n s, s < 30 → kpt pr ps (n + 1) s t = true → ∃ q, q < 30 ∧ kpt pr ps n s q = true ∧ kE pr ps q t = true := by
  intro n
  induction n with
  | zero =>
    intro s hs h
    obtain ⟨r, hr, e1, e2⟩ := kpt_o h
    have e : r = t := of_decide_eq_true e2
    subst e
    exact ⟨s, hs, decide_eq_true rfl, e1⟩
  | succ n ih =>
    intro s hs h
    obtain ⟨r, hr, e1, e2⟩ := kpt_o h
    obtain ⟨q, hq, a, b⟩ := ih r hr e2
    exact ⟨q, hq, kpt_s hr e1 a, b⟩
theorem kpt_cg {pr tr : Int32} {ps pa : Nat → Int32} (h : ∀ s q, s < 30 → kE pr ps s q = kE tr pa s q) : ∀ n s t, s < 30 → kpt pr ps n s t = kpt tr pa n s t := by
  intro n
  induction n with
  | zero => exact fun _ _ _ => rfl
  | succ n ih =>
    intro s t hs
    rw [Bool.eq_iff_iff]
    constructor
    · intro z; obtain ⟨r, hr, e1, e2⟩ := kpt_o z; exact kpt_s hr (by rw [← h s r hs]; exact e1) (by rw [← ih r t hr]; exact e2)
    · intro z; obtain ⟨r, hr, e1, e2⟩ := kpt_o z; exact kpt_s hr (by rw [h s r hs]; exact e1) (by rw [ih r t hr]; exact e2)
theorem kfs_cg {p q : Nat → Bool} (h : ∀ n, p n = q n) : ∀ n a, kfs p n a = kfs q n a := by
  intro n
  induction n with
  | zero => exact fun _ => rfl
  | succ n ih => intro a; unfold kfs; rw [h a, ih]
theorem kd_cg {pr tr : Int32} {ps pa : Nat → Int32} (h : ∀ s q, s < 30 → kE pr ps s q = kE tr pa s q) {s t : Nat} (hs : s < 30) : kd pr ps s t = kd tr pa s t := kfs_cg (fun n => kpt_cg h n s t hs) 1000 0
def kRe (pr : Int32) (ps : Nat → Int32) : Nat → Nat → Nat → Bool
  | 0, _, _ => false
  | j + 1, s, t => kRe pr ps j s t || kpt pr ps j s t
def kLv (pr : Int32) (ps : Nat → Int32) (j s t : Nat) : Bool := kpt pr ps j s t && !kRe pr ps j s t
theorem kRe_i {pr : Int32} {ps : Nat → Int32} {j s t : Nat} : kRe pr ps j s t = true ↔ ∃ n, n < j ∧ kpt pr ps n s t = true := by
  induction j with
  | zero => exact ⟨fun h => (by cases h), fun ⟨n, h, _⟩ => absurd h (by omega)⟩
  | succ j ih =>
    unfold kRe
    rw [Bool.or_eq_true, ih]
    constructor
    · rintro (⟨n, h1, h2⟩ | h)
      · exact ⟨n, by omega, h2⟩
      · exact ⟨j, by omega, h⟩
    · rintro ⟨n, h1, h2⟩
      by_cases e : n = j
      · subst e; exact Or.inr h2
      · exact Or.inl ⟨n, by omega, h2⟩
theorem kRe_m {pr : Int32} {ps : Nat → Int32} {j k s t : Nat} (h : j ≤ k) (h1 : kRe pr ps j s t = true) : kRe pr ps k s t = true := by
  obtain ⟨n, a, b⟩ := kRe_i.mp h1
  exact kRe_i.mpr ⟨n, by omega, b⟩
theorem kRe_s {pr : Int32} {ps : Nat → Int32} {j s t : Nat} : kRe pr ps (j + 1) s t = (kRe pr ps j s t || kLv pr ps j s t) := by
  unfold kLv
  show (kRe pr ps j s t || kpt pr ps j s t) = _
  cases kRe pr ps j s t <;> cases kpt pr ps j s t <;> rfl
theorem kLv_d {pr : Int32} {ps : Nat → Int32} {j s t : Nat} (hj : j ≤ 1000) (h : kLv pr ps j s t = true) : kd pr ps s t = j := by
  unfold kLv at h
  rw [Bool.and_eq_true, Bool.not_eq_true'] at h
  refine kd_c hj (fun _ => h.1) (fun m hm => ?_)
  rcases Nat.lt_or_ge m j with z | z
  · rw [kRe_i.mpr ⟨m, z, hm⟩] at h; exact absurd h.2 (by decide)
  · exact z
theorem kLv_s {pr : Int32} {ps : Nat → Int32} {j s t : Nat} (hs : s < 30) (ht : t < 30) : kLv pr ps (j + 1) s t = true ↔ (∃ q, q < 30 ∧ kLv pr ps j s q = true ∧ kE pr ps q t = true) ∧ kRe pr ps (j + 1) s t = false := by
  constructor
  · intro h
    have h' := h
    unfold kLv at h
    rw [Bool.and_eq_true, Bool.not_eq_true'] at h
    refine ⟨?_, h.2⟩
    obtain ⟨q, hq, a, b⟩ := kpt_l j s hs h.1
    refine ⟨q, hq, ?_, b⟩
    unfold kLv
    rw [a, Bool.true_and, Bool.not_eq_true']
    rw [Bool.eq_false_iff]
    intro z
    obtain ⟨n, n1, n2⟩ := kRe_i.mp z
    have := kRe_i.mpr ⟨n + 1, (by omega : n + 1 < j + 1), kpt_e ht b n s n2⟩
    rw [this] at h; exact absurd h.2 (by decide)
  · rintro ⟨⟨q, hq, a, b⟩, h⟩
    unfold kLv at a ⊢
    rw [Bool.and_eq_true] at a
    rw [kpt_e ht b j s a.1, h]; rfl
/-- how many of the first n hold -/
def kct (p : Nat → Bool) : Nat → Nat
  | 0 => 0
  | n + 1 => kct p n + (if p n then 1 else 0)
theorem kct_le (p : Nat → Bool) : ∀ n, kct p n ≤ n := by
  intro n
  induction n with
  | zero => exact Nat.le_refl 0
  | succ n ih => show kct p n + _ ≤ _; split <;> omega
theorem kct_all {p : Nat → Bool} : ∀ n, n ≤ kct p n → ∀ k, k < n → p k = true := by
  intro n
  induction n with
  | zero => exact fun _ k hk => absurd hk (by omega)
  | succ n ih =>
    intro h k hk
    have h : n + 1 ≤ kct p n + (if p n then 1 else 0) := h
    have h1 := kct_le p n
    cases e : p n with
    | false => rw [e] at h; simp at h; omega
    | true =>
      rw [e, if_pos rfl] at h
      by_cases z : k = n
      · subst z; exact e
      · exact ih (by omega) k (by omega)
theorem kct_m {p q : Nat → Bool} : ∀ n, (∀ k, k < n → p k = true → q k = true) → kct p n ≤ kct q n := by
  intro n
  induction n with
  | zero => exact fun _ => Nat.le_refl 0
  | succ n ih =>
    intro h
    have := ih (fun k hk => h k (by omega))
    show kct p n + _ ≤ kct q n + _
    cases e : p n with
    | false => rw [if_neg (by decide)]; omega
    | true => rw [h n (by omega) e]; omega
theorem kct_l {p q : Nat → Bool} {a : Nat} : ∀ n, a < n → (∀ k, k < n → p k = true → q k = true) → p a = false → q a = true → kct p n + 1 ≤ kct q n := by
  intro n
  induction n with
  | zero => exact fun h => absurd h (by omega)
  | succ n ih =>
    intro ha h h1 h2
    show kct p n + _ + 1 ≤ kct q n + _
    by_cases z : a = n
    · subst z
      have := kct_m a (fun k hk => h k (by omega))
      rw [h1, h2, if_neg (by decide), if_pos rfl]; omega
    · have := ih (by omega) (fun k hk => h k (by omega)) h1 h2
      cases e : p n with
      | false => rw [if_neg (by decide)]; omega
      | true => rw [h n (by omega) e]; omega
theorem kLv_p {pr : Int32} {ps : Nat → Int32} {j s : Nat} (hs : s < 30) (h : ∃ t, t < 30 ∧ kLv pr ps (j + 1) s t = true) : ∃ t, t < 30 ∧ kLv pr ps j s t = true := by
  obtain ⟨t, ht, h⟩ := h
  obtain ⟨⟨q, hq, a, _⟩, _⟩ := (kLv_s hs ht).mp h
  exact ⟨q, hq, a⟩
theorem kLv_c {pr : Int32} {ps : Nat → Int32} {s : Nat} (hs : s < 30) : ∀ j, (∃ t, t < 30 ∧ kLv pr ps j s t = true) → j ≤ kct (fun t => kRe pr ps j s t) 30 := by
  intro j
  induction j with
  | zero => exact fun _ => Nat.zero_le _
  | succ j ih =>
    intro h
    obtain ⟨t, ht, h1⟩ := kLv_p hs h
    have h2 := ih ⟨t, ht, h1⟩
    have h3 := kct_l (p := fun t => kRe pr ps j s t) (q := fun t => kRe pr ps (j + 1) s t) 30 ht (fun k _ z => kRe_m (by omega) z) (by unfold kLv at h1; rw [Bool.and_eq_true, Bool.not_eq_true'] at h1; exact h1.2) (by show kRe pr ps (j + 1) s t = true; rw [kRe_s, h1, Bool.or_true])
    omega
theorem kLv_30 {pr : Int32} {ps : Nat → Int32} {s : Nat} (hs : s < 30) : ∀ k t, t < 30 → kLv pr ps (30 + k) s t = false := by
  intro k
  induction k with
  | zero =>
    intro t ht
    rw [Bool.eq_false_iff]
    intro z
    have := kct_all 30 (kLv_c hs 30 ⟨t, ht, z⟩) t ht
    unfold kLv at z
    rw [this, Bool.not_true, Bool.and_false] at z
    cases z
  | succ k ih =>
    intro t ht
    rw [Bool.eq_false_iff]
    intro z
    obtain ⟨q, hq, h⟩ := kLv_p hs ⟨t, ht, z⟩
    have h : kLv pr ps (30 + k) s q = true := h
    rw [ih q hq] at h; cases h
theorem kRe_30 {pr : Int32} {ps : Nat → Int32} {s t n : Nat} (hs : s < 30) (ht : t < 30) (h : kpt pr ps n s t = true) : kRe pr ps 30 s t = true := by
  have key : ∀ k, kRe pr ps (30 + k) s t = true → kRe pr ps 30 s t = true := by
    intro k
    induction k with
    | zero => exact fun h => h
    | succ k ih =>
      intro z
      have z : kRe pr ps (30 + k + 1) s t = true := z
      rw [kRe_s, kLv_30 hs k t ht, Bool.or_false] at z
      exact ih z
  exact key (n + 1) (kRe_i.mpr ⟨n, by omega, h⟩)
/-- the least level -/
theorem kRe_lv {pr : Int32} {ps : Nat → Int32} {s t : Nat} : ∀ j, kRe pr ps j s t = true → ∃ u, u < j ∧ kLv pr ps u s t = true := by
  intro j
  induction j with
  | zero => exact fun h => (by cases h)
  | succ j ih =>
    intro h
    rw [kRe_s, Bool.or_eq_true] at h
    rcases h with h | h
    · obtain ⟨u, a, b⟩ := ih h; exact ⟨u, by omega, b⟩
    · exact ⟨j, by omega, h⟩
theorem kd_30 {pr : Int32} {ps : Nat → Int32} {s t : Nat} (h : kRe pr ps 30 s t = true) : kd pr ps s t < 30 ∧ kLv pr ps (kd pr ps s t) s t = true := by
  obtain ⟨u, a, b⟩ := kRe_lv 30 h
  rw [kLv_d (by omega) b]
  exact ⟨a, b⟩
theorem kd_no {pr : Int32} {ps : Nat → Int32} {s t : Nat} (hs : s < 30) (ht : t < 30) (h : kRe pr ps 30 s t = false) : kd pr ps s t = 1000 :=
  kd_c (Nat.le_refl _) (fun z => absurd z (by omega)) (fun m hm => by rw [kRe_30 hs ht hm] at h; cases h)
theorem kd_re {pr : Int32} {ps : Nat → Int32} {s t : Nat} (hs : s < 30) (ht : t < 30) : decide (kd pr ps s t < 1000) = kRe pr ps 30 s t := by
  cases h : kRe pr ps 30 s t with
  | true => exact decide_eq_true (by have := (kd_30 h).1; omega)
  | false => exact decide_eq_false (by rw [kd_no hs ht h]; omega)
