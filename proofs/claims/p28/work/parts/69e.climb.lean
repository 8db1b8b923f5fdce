/-! The climb's parts in bits; what it finds. -/
/-- the parents of every sense are present senses, those of a sense that isn't present are none -/
def kPs (pr : Int32) (ps : Nat → Int32) : Prop := (∀ k, bt pr k = true → k < 30) ∧ ∀ s, s < 30 → ∀ t, bt (ps s) t = true → t < 30 ∧ bt pr t = true ∧ bt pr s = true
theorem kPs_E {pr : Int32} {ps : Nat → Int32} (h : kPs pr ps) {s t : Nat} (hs : s < 30) : kE pr ps s t = bt (ps s) t := by
  unfold kE
  cases e : bt (ps s) t with
  | false => rw [Bool.and_false]
  | true => rw [(h.2 s hs t e).2.2]; rfl
theorem kx_k {z : Int32} {j : Nat} (hj : j < 30) : (nB (khas z (nI j)) = 0) ↔ bt z j = false := by rw [khas_nI hj]; exact nB_0
theorem kpoa_b {ps : Nat → Int32} {z : Int32} {t : Nat} : ∀ n, n ≤ 30 → (bt (kpoa ps z n) t = true ↔ ∃ s, s < n ∧ bt z s = true ∧ bt (ps s) t = true) := by
  intro n
  induction n with
  | zero => exact fun _ => ⟨fun h => (by rw [show kpoa ps z 0 = 0 from rfl, b_0] at h; cases h), fun ⟨_, h, _⟩ => absurd h (by omega)⟩
  | succ n ih =>
    intro hn
    have ih := ih (by omega)
    unfold kpoa
    by_cases e : bt z n = false
    · rw [if_pos ((kx_k (by omega)).mpr e), ih]
      constructor
      · rintro ⟨s, a, b⟩; exact ⟨s, by omega, b⟩
      · rintro ⟨s, a, b, c⟩
        have : s ≠ n := fun z => by subst z; rw [e] at b; cases b
        exact ⟨s, by omega, b, c⟩
    · rw [if_neg (fun z => e ((kx_k (by omega)).mp z)), b_or, Bool.or_eq_true, ih, kat_nI (by omega) (by decide)]
      have e : bt z n = true := by cases h : bt z n with | false => exact absurd h e | true => rfl
      constructor
      · rintro (⟨s, a, b⟩ | h)
        · exact ⟨s, by omega, b⟩
        · exact ⟨n, by omega, e, h⟩
      · rintro ⟨s, a, b, c⟩
        by_cases z : s = n
        · subst z; exact Or.inr c
        · exact Or.inl ⟨s, by omega, b, c⟩
theorem ktop_b {ps : Nat → Int32} {z : Int32} : ∀ n, n ≤ 30 → (ktop ps z n = true ↔ ∃ s, s < n ∧ bt z s = true ∧ ps s = 0) := by
  intro n
  induction n with
  | zero => exact fun _ => ⟨fun h => (by cases h), fun ⟨_, h, _⟩ => absurd h (by omega)⟩
  | succ n ih =>
    intro hn
    show (ktop ps z n || (khas z (nI n) && decide (kat 30 ps (nI n) = 0))) = true ↔ _
    rw [khas_nI (by omega), kat_nI (by omega) (by decide), Bool.or_eq_true, ih (by omega), Bool.and_eq_true, decide_eq_true_iff]
    constructor
    · rintro (⟨s, a, b⟩ | h)
      · exact ⟨s, by omega, b⟩
      · exact ⟨n, by omega, h⟩
    · rintro ⟨s, a, b⟩
      by_cases z : s = n
      · subst z; exact Or.inr b
      · exact Or.inl ⟨s, by omega, b⟩
theorem kx_row {i j : Nat} : nI i * 30 + nI j = nI (30 * i + j) := by
  rw [Int32.mul_comm]; exact kx_up
theorem knot_b {sx : Nat → Int32} {i : Nat} {z v : Int32} (hi : i < 30) : ∀ n, n ≤ 30 → ∀ k, knot sx (nI i) z v n k = if 30 * i ≤ k ∧ k < 30 * i + n ∧ bt z (k - 30 * i) = true then v else sx k := by
  intro n
  induction n with
  | zero => exact fun _ k => (if_neg (by omega)).symm
  | succ n ih =>
    intro hn k
    have ih := ih (by omega)
    unfold knot
    by_cases e : bt z n = false
    · rw [if_pos ((kx_k (by omega)).mpr e), ih]
      by_cases c : k = 30 * i + n
      · subst c
        rw [if_neg (by omega), if_neg (fun h => by have := h.2.2; rw [Nat.add_sub_cancel_left, e] at this; cases this)]
      · by_cases c2 : 30 * i ≤ k ∧ k < 30 * i + n ∧ bt z (k - 30 * i) = true
        · rw [if_pos c2, if_pos ⟨c2.1, by omega, c2.2.2⟩]
        · rw [if_neg c2, if_neg (fun h => c2 ⟨h.1, by omega, h.2.2⟩)]
    · rw [if_neg (fun z => e ((kx_k (by omega)).mp z)), kx_row, kput_nI (by omega) (by decide)]
      unfold upd
      by_cases c : k = 30 * i + n
      · rw [if_pos c, if_pos ⟨by omega, by omega, by rw [c, Nat.add_sub_cancel_left]; cases h : bt z n with | false => exact absurd h e | true => rfl⟩]
      · rw [if_neg c, ih]
        by_cases c2 : 30 * i ≤ k ∧ k < 30 * i + n ∧ bt z (k - 30 * i) = true
        · rw [if_pos c2, if_pos ⟨c2.1, by omega, c2.2.2⟩]
        · rw [if_neg c2, if_neg (fun h => c2 ⟨h.1, by omega, h.2.2⟩)]
theorem i_or0 (x : Int32) : x ||| 0 = x := b_ext (fun k _ => by rw [b_or, b_0, Bool.or_false])
theorem i_0and (x : Int32) : (0 : Int32) &&& x = 0 := b_ext (fun k _ => by rw [b_and, b_0, Bool.false_and])
/-- the step of the climb also where nothing is left -/
theorem kcl1_e {ps : Nat → Int32} {i j : Nat} (hi : i < 30) (x : Int32 × Int32 × Int32 × (Nat → Int32)) : kcl1 ps (nI i) j x = (x.1 ||| x.2.2.1, kdep ps x.2.1 x.2.2.1 j, kpoa ps x.2.2.1 30 &&& ((x.1 ||| x.2.2.1) ^^^ (-1)), knot x.2.2.2 (nI i) x.2.2.1 (nI j) 30) := by
  obtain ⟨mt, d, lv, g⟩ := x
  unfold kcl1
  by_cases h : lv = 0
  · rw [if_pos h]
    have h : lv = 0 := h
    subst h
    have e1 : mt ||| 0 = mt := i_or0 mt
    have e2 : kdep ps d 0 j = d := by
      unfold kdep
      rw [show ktop ps 0 30 = false from by rw [Bool.eq_false_iff]; intro z; obtain ⟨s, _, b, _⟩ := (ktop_b 30 (Nat.le_refl _)).mp z; rw [b_0] at b; cases b]
      split
      · exact if_pos rfl
      · rfl
    have e3 : kpoa ps 0 30 = 0 := b_ext (fun k _ => by rw [b_0, Bool.eq_false_iff]; intro z; obtain ⟨s, _, b, _⟩ := (kpoa_b 30 (Nat.le_refl _)).mp z; rw [b_0] at b; cases b)
    have e4 : knot g (nI i) 0 (nI j) 30 = g := by
      funext k; rw [knot_b hi 30 (Nat.le_refl _), if_neg (fun z => by have := z.2.2; rw [b_0] at this; cases this)]
    show (mt, d, 0, g) = (mt ||| 0, kdep ps d 0 j, kpoa ps 0 30 &&& ((mt ||| 0) ^^^ (-1)), knot g (nI i) 0 (nI j) 30)
    rw [e1, e2, e3, e4, i_0and]
  · exact if_neg h
def kBd (pr : Int32) (ps : Nat → Int32) (i j : Nat) (d : Int32) : Prop :=
  (d = -1 ∧ ∀ t, t < 30 → kRe pr ps j i t = true → ¬ ps t = 0) ∨ ∃ u t, u < j ∧ t < 30 ∧ d = nI u ∧ kLv pr ps u i t = true ∧ ps t = 0 ∧ ∀ r, r < 30 → kRe pr ps u i r = true → ¬ ps r = 0
abbrev kBI (pr : Int32) (ps sx : Nat → Int32) (i j : Nat) (x : Int32 × Int32 × Int32 × (Nat → Int32)) : Prop :=
  (∀ t, bt x.1 t = (decide (t < 30) && kRe pr ps j i t)) ∧ (∀ t, bt x.2.2.1 t = (decide (t < 30) && kLv pr ps j i t)) ∧ (∀ t, t < 30 → kRe pr ps j i t = true → x.2.2.2 (30 * i + t) = nI (kd pr ps i t)) ∧ (∀ k, (k < 30 * i ∨ 30 * i + 30 ≤ k) → x.2.2.2 k = sx k) ∧ (kBd pr ps i j x.2.1)
theorem kBI.mt {pr : Int32} {ps sx : Nat → Int32} {i j : Nat} {x : Int32 × Int32 × Int32 × (Nat → Int32)} (h : kBI pr ps sx i j x) : ∀ t, bt x.1 t = (decide (t < 30) && kRe pr ps j i t) := h.1
theorem kBI.lv {pr : Int32} {ps sx : Nat → Int32} {i j : Nat} {x : Int32 × Int32 × Int32 × (Nat → Int32)} (h : kBI pr ps sx i j x) : ∀ t, bt x.2.2.1 t = (decide (t < 30) && kLv pr ps j i t) := h.2.1
theorem kBI.sx {pr : Int32} {ps sx : Nat → Int32} {i j : Nat} {x : Int32 × Int32 × Int32 × (Nat → Int32)} (h : kBI pr ps sx i j x) : ∀ t, t < 30 → kRe pr ps j i t = true → x.2.2.2 (30 * i + t) = nI (kd pr ps i t) := h.2.2.1
theorem kBI.out {pr : Int32} {ps sx : Nat → Int32} {i j : Nat} {x : Int32 × Int32 × Int32 × (Nat → Int32)} (h : kBI pr ps sx i j x) : ∀ k, (k < 30 * i ∨ 30 * i + 30 ≤ k) → x.2.2.2 k = sx k := h.2.2.2.1
theorem kBI.d {pr : Int32} {ps sx : Nat → Int32} {i j : Nat} {x : Int32 × Int32 × Int32 × (Nat → Int32)} (h : kBI pr ps sx i j x) : kBd pr ps i j x.2.1 := h.2.2.2.2
theorem kBI_s {pr : Int32} {ps sx : Nat → Int32} {i j : Nat} {x : Int32 × Int32 × Int32 × (Nat → Int32)} (hi : i < 30) (hj : j < 30) (hp : kPs pr ps) (h : kBI pr ps sx i j x) : kBI pr ps sx i (j + 1) (kcl1 ps (nI i) j x) := by
  rw [kcl1_e hi]
  obtain ⟨mt, d, lv, g⟩ := x
  have hm : ∀ t, bt (mt ||| lv) t = (decide (t < 30) && kRe pr ps (j + 1) i t) := by
    intro t
    rw [b_or, show bt mt t = _ from h.mt t, show bt lv t = _ from h.lv t, kRe_s]
    cases decide (t < 30) <;> rfl
  refine ⟨hm, ?_, ?_, ?_, ?_⟩
  · intro t
    show bt (kpoa ps lv 30 &&& ((mt ||| lv) ^^^ (-1))) t = _
    by_cases ht : t < 30
    · rw [b_and, b_xor, hm, b_m1 t (by omega), decide_eq_true ht, Bool.true_and, Bool.true_and, Bool.eq_iff_iff, kLv_s hi ht, Bool.and_eq_true, kpoa_b 30 (Nat.le_refl _)]
      have e1 : (kRe pr ps (j + 1) i t ^^ true) = true ↔ kRe pr ps (j + 1) i t = false := by cases kRe pr ps (j + 1) i t <;> decide
      rw [e1]
      constructor
      · rintro ⟨⟨s, a, b, c⟩, e⟩
        refine ⟨⟨s, a, ?_, by rw [kPs_E hp a]; exact c⟩, e⟩
        rw [show bt lv s = _ from h.lv s, decide_eq_true a, Bool.true_and] at b
        exact b
      · rintro ⟨⟨s, a, b, c⟩, e⟩
        refine ⟨⟨s, a, ?_, by rw [kPs_E hp a] at c; exact c⟩, e⟩
        rw [show bt lv s = _ from h.lv s, decide_eq_true a, Bool.true_and]
        exact b
    · rw [decide_eq_false ht, Bool.false_and, b_and, Bool.and_eq_false_iff]
      left
      rw [Bool.eq_false_iff]
      intro z
      obtain ⟨s, a, b, c⟩ := (kpoa_b 30 (Nat.le_refl _)).mp z
      exact ht (hp.2 s a t c).1
  · intro t ht hr
    show knot g (nI i) lv (nI j) 30 (30 * i + t) = _
    rw [knot_b hi 30 (Nat.le_refl _), Nat.add_sub_cancel_left, show bt lv t = _ from h.lv t, decide_eq_true ht, Bool.true_and]
    cases e : kLv pr ps j i t with
    | true => rw [if_pos ⟨by omega, by omega, rfl⟩, kLv_d (by omega) e]
    | false =>
      rw [if_neg (fun z => by have := z.2.2; cases this)]
      rw [kRe_s, e, Bool.or_false] at hr
      exact h.sx t ht hr
  · intro k hk
    show knot g (nI i) lv (nI j) 30 k = _
    rw [knot_b hi 30 (Nat.le_refl _), if_neg (by omega)]
    exact h.out k hk
  · show kBd pr ps i (j + 1) (kdep ps d lv j)
    unfold kdep
    by_cases e : d = -1
    · rw [if_pos e]
      have hd : ∀ t, t < 30 → kRe pr ps j i t = true → ¬ ps t = 0 := by
        rcases h.d with z | ⟨u, t, a, b, c, _⟩
        · exact z.2
        · have c : d = nI u := c
          exact absurd (c.symm.trans e) (nI_neg1 u (by omega))
      cases e2 : ktop ps lv 30 with
      | false =>
        rw [if_pos (show nB false = 0 from rfl)]
        refine Or.inl ⟨e, fun t ht hr => ?_⟩
        rw [kRe_s, Bool.or_eq_true] at hr
        rcases hr with hr | hr
        · exact hd t ht hr
        · intro z
          have := (ktop_b 30 (Nat.le_refl _)).mpr ⟨t, ht, (by rw [show bt lv t = _ from h.lv t, decide_eq_true ht, Bool.true_and]; exact hr), z⟩
          rw [e2] at this; cases this
      | true =>
        rw [if_neg (by decide)]
        obtain ⟨t, a, b, c⟩ := (ktop_b 30 (Nat.le_refl _)).mp e2
        rw [show bt lv t = _ from h.lv t, decide_eq_true a, Bool.true_and] at b
        exact Or.inr ⟨j, t, by omega, a, rfl, b, c, hd⟩
    · rw [if_neg e]
      rcases h.d with z | ⟨u, t, a, b, c, d1, d2, d3⟩
      · exact absurd z.1 e
      · exact Or.inr ⟨u, t, by omega, b, c, d1, d2, d3⟩
theorem kBI_n {pr : Int32} {ps sx : Nat → Int32} {i : Nat} (hi : i < 30) (hp : kPs pr ps) (h0 : bt pr i = true) : ∀ j, j ≤ 30 → kBI pr ps sx i j (kcl pr ps sx (nI i) j) := by
  intro j
  induction j with
  | zero =>
    intro _
    have e : kcl pr ps sx (nI i) 0 = (0, -1, kbit (nI i), sx) := by
      show (0, -1, (if nB (khas pr (nI i)) = 0 then 0 else kbit (nI i)), sx) = _
      rw [if_neg (by rw [khas_nI hi, h0]; decide)]
    rw [e]
    refine ⟨fun t => ?_, fun t => ?_, fun t _ h => (by cases h), fun k _ => rfl, Or.inl ⟨rfl, fun t _ h => (by cases h)⟩⟩
    · show bt 0 t = _
      rw [b_0]; show false = (_ && false); rw [Bool.and_false]
    · show bt (kbit (nI i)) t = _
      have e2 : kLv pr ps 0 i t = decide (i = t) := by show (decide (i = t) && !false) = _; rw [Bool.not_false, Bool.and_true]
      rw [e2]
      by_cases ht : t < 32
      · rw [kbit_b hi ht]
        by_cases c : i = t
        · rw [decide_eq_true c, decide_eq_true (by omega)]; rfl
        · rw [decide_eq_false c, Bool.and_false]
      · rw [b_big (by omega), decide_eq_false (by omega), Bool.false_and]
  | succ j ih => exact fun hj => kBI_s hi (by omega) hp (ih (by omega))
