/-! The walks upwards add up to the mass. -/
theorem kadd_b {g : Nat → Int32} {lv v : Int32} : ∀ n, n ≤ 30 → ∀ k, kadd g lv v n k = if k < n ∧ bt lv k = true then g k + v else g k := by
  intro n
  induction n with
  | zero => exact fun _ k => (if_neg (by omega)).symm
  | succ n ih =>
    intro hn k
    have ih := ih (by omega)
    unfold kadd
    by_cases e : bt lv n = false
    · rw [if_pos ((kx_k (by omega)).mpr e), ih]
      by_cases c : k < n ∧ bt lv k = true
      · rw [if_pos c, if_pos ⟨by omega, c.2⟩]
      · have c3 : ¬ (k < n + 1 ∧ bt lv k = true) := by
          intro z
          by_cases w : k = n
          · rw [w, e] at z; cases z.2
          · exact c ⟨by omega, z.2⟩
        rw [if_neg c, if_neg c3]
    · rw [if_neg (fun z => e ((kx_k (by omega)).mp z)), kput_nI (by omega) (by decide), kat_nI (by omega) (by decide), ih n, if_neg (by omega)]
      have e : bt lv n = true := by cases h : bt lv n with | false => exact absurd h e | true => rfl
      by_cases c : k = n
      · rw [c, pk_us, if_pos ⟨by omega, e⟩]
      · rw [pk_un c, ih k]
        by_cases c2 : k < n ∧ bt lv k = true
        · rw [if_pos c2, if_pos ⟨by omega, c2.2⟩]
        · rw [if_neg c2, if_neg (fun z => c2 ⟨by omega, z.2⟩)]
theorem kpoa_0 {ps : Nat → Int32} : kpoa ps 0 30 = 0 := b_ext (fun k _ => by rw [b_0, Bool.eq_false_iff]; intro z; obtain ⟨s, _, b, _⟩ := (kpoa_b 30 (Nat.le_refl _)).mp z; rw [b_0] at b; cases b)
theorem kcar1_e {ps : Nat → Int32} {v : Int32} (x : Int32 × Int32 × (Nat → Int32)) : kcar1 ps v x = (x.1 ||| x.2.1, kpoa ps x.2.1 30 &&& ((x.1 ||| x.2.1) ^^^ (-1)), kadd x.2.2 x.2.1 v 30) := by
  obtain ⟨mt, lv, g⟩ := x
  unfold kcar1
  by_cases h : lv = 0
  · rw [if_pos h]
    have h : lv = 0 := h
    subst h
    have e4 : kadd g 0 v 30 = g := by
      funext k; rw [kadd_b 30 (Nat.le_refl _), if_neg (fun z => by have := z.2; rw [b_0] at this; cases this)]
    show (mt, 0, g) = (mt ||| 0, kpoa ps 0 30 &&& ((mt ||| 0) ^^^ (-1)), kadd g 0 v 30)
    rw [i_or0, kpoa_0, e4, i_0and]
  · exact if_neg h
abbrev kCI (pr : Int32) (ps wk : Nat → Int32) (v : Int32) (i j : Nat) (x : Int32 × Int32 × (Nat → Int32)) : Prop :=
  (∀ t, bt x.1 t = (decide (t < 30) && kRe pr ps j i t)) ∧ (∀ t, bt x.2.1 t = (decide (t < 30) && kLv pr ps j i t)) ∧ ∀ t, t < 30 → x.2.2 t = if kRe pr ps j i t = true then wk t + v else wk t
theorem kCI_s {pr : Int32} {ps wk : Nat → Int32} {v : Int32} {i j : Nat} {x : Int32 × Int32 × (Nat → Int32)} (hi : i < 30) (hp : kPs pr ps) (h : kCI pr ps wk v i j x) : kCI pr ps wk v i (j + 1) (kcar1 ps v x) := by
  rw [kcar1_e]
  obtain ⟨mt, lv, g⟩ := x
  obtain ⟨h1, h2, h3⟩ := h
  dsimp only at h1 h2 h3
  have hm : ∀ t, bt (mt ||| lv) t = (decide (t < 30) && kRe pr ps (j + 1) i t) := by
    intro t
    rw [b_or, h1, h2, kRe_s]
    cases decide (t < 30) <;> rfl
  refine ⟨hm, ?_, ?_⟩
  · intro t
    show bt (kpoa ps lv 30 &&& ((mt ||| lv) ^^^ (-1))) t = _
    by_cases ht : t < 30
    · rw [b_and, b_xor, hm, b_m1 t (by omega), decide_eq_true ht, Bool.true_and, Bool.true_and, Bool.eq_iff_iff, kLv_s hi ht, Bool.and_eq_true, kpoa_b 30 (Nat.le_refl _)]
      have e1 : (kRe pr ps (j + 1) i t ^^ true) = true ↔ kRe pr ps (j + 1) i t = false := by cases kRe pr ps (j + 1) i t <;> decide
      rw [e1]
      constructor
      · rintro ⟨⟨s, a, b, c⟩, e⟩
        refine ⟨⟨s, a, ?_, by rw [kPs_E hp a]; exact c⟩, e⟩
        rw [h2, decide_eq_true a, Bool.true_and] at b
        exact b
      · rintro ⟨⟨s, a, b, c⟩, e⟩
        refine ⟨⟨s, a, ?_, by rw [kPs_E hp a] at c; exact c⟩, e⟩
        rw [h2, decide_eq_true a, Bool.true_and]
        exact b
    · rw [decide_eq_false ht, Bool.false_and, b_and, Bool.and_eq_false_iff]
      left
      rw [Bool.eq_false_iff]
      intro z
      obtain ⟨s, a, b, c⟩ := (kpoa_b 30 (Nat.le_refl _)).mp z
      exact ht (hp.2 s a t c).1
  · intro t ht
    show kadd g lv v 30 t = _
    rw [kadd_b 30 (Nat.le_refl _), h3 t ht, h2, decide_eq_true ht, Bool.true_and, kRe_s]
    cases e : kLv pr ps j i t with
    | false => rw [Bool.or_false, if_neg (fun z => by cases z.2)]
    | true =>
      have e2 : kRe pr ps j i t = false := by unfold kLv at e; rw [Bool.and_eq_true, Bool.not_eq_true'] at e; exact e.2
      rw [e2, if_pos ⟨ht, rfl⟩, if_neg (by decide)]; rfl
theorem kCI_n {pr : Int32} {ps wk : Nat → Int32} {v : Int32} {i : Nat} (hi : i < 30) (hp : kPs pr ps) : ∀ j, kCI pr ps wk v i j (kcar ps wk v (nI i) j) := by
  intro j
  induction j with
  | zero =>
    show kCI pr ps wk v i 0 (0, kbit (nI i), wk)
    refine ⟨fun t => ?_, fun t => ?_, fun t _ => rfl⟩
    · show bt 0 t = _
      rw [b_0]; show false = (_ && false); rw [Bool.and_false]
    · show bt (kbit (nI i)) t = _
      have e2 : kLv pr ps 0 i t = decide (i = t) := by show (decide (i = t) && !false) = _; rw [Bool.not_false, Bool.and_true]
      rw [e2]
      by_cases ht : t < 32
      · rw [kbit_b hi ht]
        by_cases c : i = t
        · rw [decide_eq_true c, decide_eq_true (by omega)]; rfl
        · rw [decide_eq_false c, Bool.and_false]
      · rw [b_big (by omega), decide_eq_false (by omega), Bool.false_and]
  | succ j ih => exact kCI_s hi hp ih
theorem kzer_b {wk : Nat → Int32} : ∀ n, n ≤ 30 → ∀ k, k < n → kzer wk n k = 0 := by
  intro n
  induction n with
  | zero => exact fun _ k hk => absurd hk (by omega)
  | succ n ih =>
    intro hn k hk
    unfold kzer
    rw [kput_nI (by omega) (by decide)]
    by_cases c : k = n
    · rw [c, pk_us]
    · rw [pk_un c]; exact ih (by omega) k (by omega)
theorem kwlo_b {pr : Int32} {ps cs w0 : Nat → Int32} {cn rk : Nat → Nat} (hn : kNI pr ps cs cn rk) (h0 : ∀ t, t < 30 → w0 t = 0) : ∀ n, n ≤ 30 → ∀ t, t < 30 → kwlo pr ps cs w0 n t = nI (kSu (fun k => kCv pr ps k t) cn n) := by
  intro n
  induction n with
  | zero => exact fun _ t ht => h0 t ht
  | succ n ih =>
    intro hn30 t ht
    have ih := ih (by omega)
    show (if nB (khas pr (nI n)) = 0 then kwlo pr ps cs w0 n else (kcar ps (kwlo pr ps cs w0 n) (kat 30 cs (nI n)) (nI n) 30).2.2) t = nI (kSu (fun k => kCv pr ps k t) cn n + (if kCv pr ps n t = true then cn n else 0))
    cases e : bt pr n with
    | false =>
      rw [if_pos ((kx_k (by omega)).mpr e), ih t ht, if_neg (by unfold kCv; rw [e]; exact Bool.false_ne_true)]; rfl
    | true =>
      have zt : ¬ nB (khas pr (nI n)) = 0 := fun w => by rw [(kx_k (by omega)).mp w] at e; cases e
      rw [if_neg zt, (kCI_n (pr := pr) (by omega : n < 30) hn.1 30).2.2 t ht, ih t ht, kat_nI (by omega) (by decide), (hn.2.2 n (by omega)).1, kCv_R ht (Or.inl e)]
      cases kRe pr ps 30 n t with
      | false => rw [if_neg (by decide), if_neg (by decide)]; rfl
      | true => rw [if_pos rfl, if_pos rfl, nI_add]
theorem kr_walk {pr : Int32} {ps cs wk : Nat → Int32} {cn rk : Nat → Nat} {a : Nat} (hn : kNI pr ps cs cn rk) (ha : a < 30) : kwlo pr ps cs (kzer wk 30) 30 a = nI (kMs pr ps cn a) :=
  kwlo_b hn (fun t ht => kzer_b 30 (Nat.le_refl _) t ht) 30 (Nat.le_refl _) a ha
