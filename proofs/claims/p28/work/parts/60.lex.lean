/-! Choices in their order; the best of those tried. -/
def kLx (P : Nat) (s t : Nat → Nat) : Prop := ∃ p, p < P ∧ (∀ k, k < p → s k = t k) ∧ s p < t p
def kEq (P : Nat) (s t : Nat → Nat) : Prop := ∀ k, k < P → s k = t k
theorem kLx_tr {P : Nat} {s t u : Nat → Nat} (h1 : kLx P s t) (h2 : kLx P t u) : kLx P s u := by
  obtain ⟨p, a1, a2, a3⟩ := h1
  obtain ⟨q, b1, b2, b3⟩ := h2
  rcases Nat.lt_trichotomy p q with h | h | h
  · exact ⟨p, a1, fun k hk => (a2 k hk).trans (b2 k (by omega)), by rw [← b2 p h]; exact a3⟩
  · subst h
    exact ⟨p, a1, fun k hk => (a2 k hk).trans (b2 k hk), by omega⟩
  · exact ⟨q, b1, fun k hk => (a2 k (by omega)).trans (b2 k hk), by rw [a2 q h]; exact b3⟩
theorem kLx_ir {P : Nat} {s : Nat → Nat} : ¬ kLx P s s := fun ⟨_, _, _, h⟩ => Nat.lt_irrefl _ h
theorem kLx_l {P : Nat} {s s' t : Nat → Nat} (e : kEq P s s') (h : kLx P s' t) : kLx P s t := by
  obtain ⟨p, a1, a2, a3⟩ := h
  exact ⟨p, a1, fun k hk => (e k (by omega)).trans (a2 k hk), by rw [e p a1]; exact a3⟩
theorem kLx_r {P : Nat} {s t t' : Nat → Nat} (e : kEq P t t') (h : kLx P s t) : kLx P s t' := by
  obtain ⟨p, a1, a2, a3⟩ := h
  exact ⟨p, a1, fun k hk => (a2 k hk).trans (e k (by omega)), by rw [← e p a1]; exact a3⟩
theorem kLx_le {s t : Nat → Nat} : ∀ P, (∀ k, k < P → s k ≤ t k) → kLx P s t ∨ kEq P s t := by
  intro P
  induction P with
  | zero => exact fun _ => Or.inr (fun k hk => absurd hk (by omega))
  | succ P ih =>
    intro h
    rcases ih (fun k hk => h k (by omega)) with ⟨p, a1, a2, a3⟩ | e
    · exact Or.inl ⟨p, by omega, a2, a3⟩
    · rcases Nat.lt_or_ge (s P) (t P) with l | l
      · exact Or.inl ⟨P, by omega, e, l⟩
      · refine Or.inr (fun k hk => ?_)
        by_cases z : k = P
        · subst z; have := h k (by omega); omega
        · exact e k (by omega)
/-- what the next choice is -/
theorem kgo_s {on : Nat → Nat} : ∀ p t, kVal p on t → ((kgo on p t).1 = true → ∃ q, q < p ∧ t q + 1 < on q ∧ (kgo on p t).2 q = t q + 1 ∧ (∀ k, k < q → (kgo on p t).2 k = t k) ∧ (∀ k, q < k → k < p → (kgo on p t).2 k = 0 ∧ t k + 1 = on k) ∧ ∀ k, p ≤ k → (kgo on p t).2 k = t k) ∧ ((kgo on p t).1 = false → (∀ k, k < p → t k + 1 = on k ∧ (kgo on p t).2 k = 0) ∧ ∀ k, p ≤ k → (kgo on p t).2 k = t k) := by
  intro p
  induction p with
  | zero => exact fun t _ => ⟨fun h => (by cases h), fun _ => ⟨fun k hk => absurd hk (by omega), fun k _ => rfl⟩⟩
  | succ p ih =>
    intro t hv
    have hvp := hv p (by omega)
    by_cases e : t p + 1 = on p
    · have e1 : kgo on (p + 1) t = kgo on p (kset0 t p 0) := if_pos e
      rw [e1]
      have hv0 : kVal p on (kset0 t p 0) := fun k hk => by unfold kset0; rw [if_neg (by omega)]; exact hv k (by omega)
      have hs : ∀ k, k ≠ p → kset0 t p 0 k = t k := fun k hk => by unfold kset0; rw [if_neg hk]
      have hs0 : kset0 t p 0 p = 0 := by unfold kset0; rw [if_pos rfl]
      obtain ⟨i1, i2⟩ := ih (kset0 t p 0) hv0
      refine ⟨fun h => ?_, fun h => ?_⟩
      · obtain ⟨q, b1, b2, b3, b4, b5, b6⟩ := i1 h
        rw [hs q (by omega)] at b2 b3
        refine ⟨q, by omega, b2, b3, fun k hk => by rw [b4 k hk, hs k (by omega)], fun k h1 h2 => ?_, fun k hk => by rw [b6 k (by omega), hs k (by omega)]⟩
        by_cases z : k = p
        · subst z; exact ⟨by rw [b6 k (Nat.le_refl k), hs0], e⟩
        · have := b5 k h1 (by omega)
          rw [hs k z] at this
          exact this
      · obtain ⟨b1, b2⟩ := i2 h
        refine ⟨fun k hk => ?_, fun k hk => by rw [b2 k (by omega), hs k (by omega)]⟩
        by_cases z : k = p
        · subst z; exact ⟨e, by rw [b2 k (Nat.le_refl k), hs0]⟩
        · have := b1 k (by omega)
          rw [hs k z] at this
          exact this
    · have e1 : kgo on (p + 1) t = (true, kset0 t p (t p + 1)) := if_neg e
      rw [e1]
      refine ⟨fun _ => ⟨p, by omega, by omega, ?_, fun k hk => ?_, fun k h1 h2 => (by omega), fun k hk => ?_⟩, fun h => (by cases h)⟩
      · show kset0 t p (t p + 1) p = t p + 1
        unfold kset0; rw [if_pos rfl]
      · show kset0 t p (t p + 1) k = t k
        unfold kset0; rw [if_neg (by omega)]
      · show kset0 t p (t p + 1) k = t k
        unfold kset0; rw [if_neg (by omega)]
def kRk : Nat → (Nat → Nat) → Nat
  | 0, _ => 0
  | p + 1, t => kRk p t * 5 + t p
theorem kRk_e {s t : Nat → Nat} : ∀ p, kEq p s t → kRk p s = kRk p t := by
  intro p
  induction p with
  | zero => exact fun _ => rfl
  | succ p ih => intro h; show kRk p s * 5 + s p = kRk p t * 5 + t p; rw [ih (fun k hk => h k (by omega)), h p (by omega)]
theorem kRk_b {t : Nat → Nat} : ∀ p, (∀ k, k < p → t k < 5) → kRk p t < 5 ^ p := by
  intro p
  induction p with
  | zero => exact fun _ => by show 0 < 1; omega
  | succ p ih =>
    intro h
    have h1 := ih (fun k hk => h k (by omega))
    have h2 := h p (by omega)
    show kRk p t * 5 + t p < 5 ^ (p + 1)
    rw [Nat.pow_succ]; omega
theorem kRk_l {s t : Nat → Nat} {q : Nat} (h1 : s q < t q) (h2 : kEq q s t) : ∀ n, (∀ k, q < k → k < q + 1 + n → s k < 5) → kRk (q + 1 + n) s < kRk (q + 1 + n) t := by
  intro n
  induction n with
  | zero => intro _; show kRk q s * 5 + s q < kRk q t * 5 + t q; rw [kRk_e q h2]; omega
  | succ n ih =>
    intro h
    have := ih (fun k a b => h k a (by omega))
    have h3 := h (q + 1 + n) (by omega) (by omega)
    show kRk (q + 1 + n) s * 5 + s (q + 1 + n) < kRk (q + 1 + n) t * 5 + t (q + 1 + n)
    omega
theorem k5_6 {P : Nat} (h : P ≤ 6) : 5 ^ P ≤ 15625 := by
  have : 5 ^ P ≤ 5 ^ 6 := Nat.pow_le_pow_right (by decide) h
  have e : 5 ^ 6 = 15625 := by decide
  omega
/-- a choice's worth in natural numbers -/
def kwNi (lk : Nat → Nat → Nat) (sf : Nat → Nat) (p : Nat) : Nat → Nat → Nat
  | 0, y => y
  | b + 1, y => kwNi lk sf p b y + lk (sf b) (sf p)
def kwN (lk : Nat → Nat → Nat) (sf : Nat → Nat) : Nat → Nat
  | 0 => 0
  | p + 1 => kwNi lk sf p p (kwN lk sf p)
theorem kwNi_e {lk : Nat → Nat → Nat} {s t : Nat → Nat} {p y : Nat} (hp : s p = t p) : ∀ b, kEq b s t → kwNi lk s p b y = kwNi lk t p b y := by
  intro b
  induction b with
  | zero => exact fun _ => rfl
  | succ b ih => intro h; show kwNi lk s p b y + lk (s b) (s p) = kwNi lk t p b y + lk (t b) (t p); rw [ih (fun k hk => h k (by omega)), h b (by omega), hp]
theorem kwN_e {lk : Nat → Nat → Nat} {s t : Nat → Nat} : ∀ p, kEq p s t → kwN lk s p = kwN lk t p := by
  intro p
  induction p with
  | zero => exact fun _ => rfl
  | succ p ih =>
    intro h
    show kwNi lk s p p (kwN lk s p) = kwNi lk t p p (kwN lk t p)
    rw [ih (fun k hk => h k (by omega)), kwNi_e (h p (by omega)) p (fun k hk => h k (by omega))]
theorem kwNi_b {lk : Nat → Nat → Nat} {s : Nat → Nat} {p y : Nat} : ∀ b, (∀ k, k < b → lk (s k) (s p) ≤ 10000) → kwNi lk s p b y ≤ y + b * 10000 := by
  intro b
  induction b with
  | zero => intro _; show y ≤ _; omega
  | succ b ih =>
    intro h
    have h1 := ih (fun k hk => h k (by omega))
    have h2 := h b (by omega)
    show kwNi lk s p b y + lk (s b) (s p) ≤ _
    omega
theorem kwN_b {lk : Nat → Nat → Nat} {s : Nat → Nat} : ∀ p, (∀ b q, b < q → q < p → lk (s b) (s q) ≤ 10000) → kwN lk s p ≤ p * p * 10000 := by
  intro p
  induction p with
  | zero => intro _; exact Nat.le_refl 0
  | succ p ih =>
    intro h
    have h1 := ih (fun b q h1 h2 => h b q h1 (by omega))
    have h2 := kwNi_b (lk := lk) (s := s) (p := p) (y := kwN lk s p) p (fun k hk => h k p hk (by omega))
    show kwNi lk s p p (kwN lk s p) ≤ _
    have h3 : (p + 1) * (p + 1) = p * p + p + p + 1 := by rw [Nat.add_mul, Nat.mul_add]; omega
    rw [h3]; omega
theorem kwi_N {li : Nat → Int32} {lk : Nat → Nat → Nat} {s : Nat → Nat} {p y : Nat} : ∀ b, (∀ k, k < b → li (30 * s k + s p) = nI (lk (s k) (s p))) → kwi li s p b (nI y) = nI (kwNi lk s p b y) := by
  intro b
  induction b with
  | zero => exact fun _ => rfl
  | succ b ih => intro h; show kwi li s p b (nI y) + li (30 * s b + s p) = nI (kwNi lk s p b y + lk (s b) (s p)); rw [ih (fun k hk => h k (by omega)), h b (by omega), nI_add]
theorem kwr_N {li : Nat → Int32} {lk : Nat → Nat → Nat} {s : Nat → Nat} : ∀ p, (∀ b q, b < q → q < p → li (30 * s b + s q) = nI (lk (s b) (s q))) → kwr li s p = nI (kwN lk s p) := by
  intro p
  induction p with
  | zero => exact fun _ => rfl
  | succ p ih => intro h; show kwi li s p p (kwr li s p) = nI (kwNi lk s p p (kwN lk s p)); rw [ih (fun b q h1 h2 => h b q h1 (by omega)), kwi_N p (fun k hk => h k p hk (by omega))]
/-- the best of the choices in D -/
def kBst (P : Nat) (on : Nat → Nat) (sN : Nat → Nat → Nat) (lk : Nat → Nat → Nat) (D : (Nat → Nat) → Prop) (gr : Int32) (be : Nat → Int32) : Prop :=
  (gr = -1 ∧ ∀ s, kVal P on s → ¬ D s) ∨ ∃ z, kVal P on z ∧ D z ∧ gr = nI (kwN lk (fun k => sN k (z k)) P) ∧ (∀ k, k < P → be k = nI (sN k (z k))) ∧ (∀ s, kVal P on s → D s → kwN lk (fun k => sN k (s k)) P ≤ kwN lk (fun k => sN k (z k)) P) ∧ (∀ s, kVal P on s → D s → kLx P s z → kwN lk (fun k => sN k (s k)) P < kwN lk (fun k => sN k (z k)) P)
theorem kwN_se {P : Nat} {sN lk : Nat → Nat → Nat} {s t : Nat → Nat} (h : kEq P s t) : kwN lk (fun k => sN k (s k)) P = kwN lk (fun k => sN k (t k)) P := kwN_e P (fun k hk => by show sN k (s k) = sN k (t k); rw [h k hk])
/-- all worths are small -/
def kSml (P : Nat) (on : Nat → Nat) (sN lk : Nat → Nat → Nat) : Prop := ∀ s, kVal P on s → kwN lk (fun k => sN k (s k)) P < 2 ^ 31
theorem kBst_n {P : Nat} {on : Nat → Nat} {sN lk : Nat → Nat → Nat} {t : Nat → Nat} {gr : Int32} {be : Nat → Int32} (hs : kSml P on sN lk) (ht : kVal P on t) (h : kBst P on sN lk (fun s => kLx P s t) gr be) (hc : nI (kwN lk (fun k => sN k (t k)) P) ≤ gr) : kBst P on sN lk (fun s => kLx P s t ∨ kEq P s t) gr be := by
  rcases h with h | ⟨z, a1, a2, a3, a4, a5, a6⟩
  · exfalso
    rw [h.1, Int32.le_iff_toInt_le, nI_toInt (hs t ht)] at hc
    have : (-1 : Int32).toInt = -1 := by decide
    omega
  · rw [a3, nI_leI (hs t ht) (hs z a1)] at hc
    refine Or.inr ⟨z, a1, Or.inl a2, a3, a4, fun s h1 h2 => ?_, fun s h1 h2 h3 => ?_⟩
    · rcases h2 with h2 | h2
      · exact a5 s h1 h2
      · rw [kwN_se h2]; exact hc
    · rcases h2 with h2 | h2
      · exact a6 s h1 h2 h3
      · exact absurd (kLx_tr (kLx_l (fun k hk => (h2 k hk).symm) h3) a2) kLx_ir
theorem kBst_y {P : Nat} {on : Nat → Nat} {sN lk : Nat → Nat → Nat} {t : Nat → Nat} {gr : Int32} {be be2 : Nat → Int32} (hs : kSml P on sN lk) (ht : kVal P on t) (h : kBst P on sN lk (fun s => kLx P s t) gr be) (hc : ¬ nI (kwN lk (fun k => sN k (t k)) P) ≤ gr) (hb : ∀ k, k < P → be2 k = nI (sN k (t k))) : kBst P on sN lk (fun s => kLx P s t ∨ kEq P s t) (nI (kwN lk (fun k => sN k (t k)) P)) be2 := by
  have key : ∀ s, kVal P on s → kLx P s t → kwN lk (fun k => sN k (s k)) P < kwN lk (fun k => sN k (t k)) P := by
    intro s h1 h2
    rcases h with h | ⟨z, a1, a2, a3, a4, a5, a6⟩
    · exact absurd h2 (h.2 s h1)
    · rw [a3, nI_leI (hs t ht) (hs z a1)] at hc
      have := a5 s h1 h2
      omega
  refine Or.inr ⟨t, ht, Or.inr (fun _ _ => rfl), rfl, hb, fun s h1 h2 => ?_, fun s h1 h2 h3 => key s h1 h3⟩
  rcases h2 with h2 | h2
  · exact Nat.le_of_lt (key s h1 h2)
  · exact Nat.le_of_eq (kwN_se h2)
theorem kBst_d {P : Nat} {on : Nat → Nat} {sN lk : Nat → Nat → Nat} {D E : (Nat → Nat) → Prop} {gr : Int32} {be : Nat → Int32} (h : kBst P on sN lk D gr be) (h1 : ∀ s, kVal P on s → E s → D s) (h2 : ∀ s, kVal P on s → D s → E s) : kBst P on sN lk E gr be := by
  rcases h with h | ⟨z, a1, a2, a3, a4, a5, a6⟩
  · exact Or.inl ⟨h.1, fun s hs he => h.2 s hs (h1 s hs he)⟩
  · exact Or.inr ⟨z, a1, h2 z a1 a2, a3, a4, fun s hs he => a5 s hs (h1 s hs he), fun s hs he => a6 s hs (h1 s hs he)⟩
def kTI (P : Nat) (on : Nat → Nat) (sN lk : Nat → Nat → Nat) (g be : Nat → Int32) (gr go : Int32) (x : Nat) : Prop :=
  ∃ t, kRt P g t ∧ kVal P on t ∧ ((go = 1 ∧ x = 15625 - kRk P t ∧ kBst P on sN lk (fun s => kLx P s t) gr be) ∨ (go = 0 ∧ kBst P on sN lk (fun _ => True) gr be))
theorem kTI_0 {P : Nat} {on : Nat → Nat} {sN lk : Nat → Nat → Nat} {g be : Nat → Int32} (ho : kOn P on) (hP : P ≤ 6) (hg : ∀ k, k < 6 → g k = 0) : kTI P on sN lk g be (-1) 1 (15625 - kRk P (fun _ => 0)) :=
  ⟨fun _ => 0, fun k hk => hg k (by omega), fun k hk => (ho k hk).1, Or.inl ⟨rfl, rfl, Or.inl ⟨rfl, fun s _ ⟨p, _, _, h⟩ => Nat.not_lt_zero _ h⟩⟩⟩
theorem kTI_o {P : Nat} {on : Nat → Nat} {sN lk : Nat → Nat → Nat} {g be : Nat → Int32} {gr go : Int32} {x : Nat} (h : kTI P on sN lk g be gr go x) (hg : ¬ go = 0) : ∃ t, kRt P g t ∧ kVal P on t ∧ x = 15625 - kRk P t ∧ kBst P on sN lk (fun s => kLx P s t) gr be := by
  obtain ⟨t, h1, h2, h3⟩ := h
  rcases h3 with h3 | h3
  · exact ⟨t, h1, h2, h3.2.1, h3.2.2⟩
  · exact absurd h3.1 hg
/-- the end: the first of the choices with the greatest worth -/
def kFin (P : Nat) (on : Nat → Nat) (sN lk : Nat → Nat → Nat) (gr : Int32) (be : Nat → Int32) : Prop :=
  ∃ z, kVal P on z ∧ gr = nI (kwN lk (fun k => sN k (z k)) P) ∧ (∀ k, k < P → be k = nI (sN k (z k))) ∧ (∀ s, kVal P on s → kwN lk (fun k => sN k (s k)) P ≤ kwN lk (fun k => sN k (z k)) P) ∧ (∀ s, kVal P on s → kLx P s z → kwN lk (fun k => sN k (s k)) P < kwN lk (fun k => sN k (z k)) P)
theorem kTI_e {P : Nat} {on : Nat → Nat} {sN lk : Nat → Nat → Nat} {g be : Nat → Int32} {gr go : Int32} {x : Nat} (h : kTI P on sN lk g be gr go x) (hg : go = 0) : kFin P on sN lk gr be := by
  obtain ⟨t, h1, h2, h3⟩ := h
  rcases h3 with h3 | h3
  · exfalso; rw [h3.1] at hg; exact absurd hg (by decide)
  · rcases h3.2 with h4 | ⟨z, a1, a2, a3, a4, a5, a6⟩
    · exact absurd trivial (h4.2 t h2)
    · exact ⟨z, a1, a3, a4, fun s hs => a5 s hs trivial, fun s hs => a6 s hs trivial⟩
theorem kTI_n {P : Nat} {on : Nat → Nat} {sN lk : Nat → Nat → Nat} {g be : Nat → Int32} {gr go : Int32} {x : Nat} {t : Nat → Nat} (ho : kOn P on) (hP : P ≤ 6) (ht : kVal P on t) (hx : x = 15625 - kRk P t) (hb : kBst P on sN lk (fun s => kLx P s t ∨ kEq P s t) gr be) (hr : go = nB (kgo on P t).1) (hg : kRt P g (kgo on P t).2) : ∃ x1, x1 < x ∧ kTI P on sN lk g be gr go x1 := by
  have hs := kgo_s P t ht
  have ht5 : ∀ k, k < P → t k < 5 := fun k hk => Nat.lt_of_lt_of_le (ht k hk) (ho k hk).2
  have hrk := kRk_b P ht5
  have h56 := k5_6 hP
  cases hc : (kgo on P t).1 with
  | false =>
    rw [hc] at hr
    obtain ⟨b1, b2⟩ := hs.2 hc
    refine ⟨0, by omega, (kgo on P t).2, hg, fun k hk => ?_, Or.inr ⟨hr, kBst_d hb (fun s h1 _ => ?_) (fun _ _ _ => trivial)⟩⟩
    · rw [(b1 k hk).2]; exact (ho k hk).1
    · exact kLx_le P (fun k hk => by have := h1 k hk; have := (b1 k hk).1; omega)
  | true =>
    rw [hc] at hr
    obtain ⟨q, b1, b2, b3, b4, b5, b6⟩ := hs.1 hc
    have hv : kVal P on (kgo on P t).2 := by
      intro k hk
      rcases Nat.lt_trichotomy k q with h | h | h
      · rw [b4 k h]; exact ht k hk
      · subst h; rw [b3]; exact b2
      · rw [(b5 k h hk).1]; exact (ho k hk).1
    have hl : kLx P t (kgo on P t).2 := ⟨q, b1, fun k hk => (b4 k hk).symm, by rw [b3]; omega⟩
    have hrr : kRk P t < kRk P (kgo on P t).2 := by
      have := kRk_l (s := t) (t := (kgo on P t).2) (q := q) (by rw [b3]; omega) (fun k hk => (b4 k hk).symm) (P - (q + 1)) (fun k _ h2 => ht5 k (by omega))
      rwa [show q + 1 + (P - (q + 1)) = P by omega] at this
    have hrk2 := kRk_b P (t := (kgo on P t).2) (fun k hk => Nat.lt_of_lt_of_le (hv k hk) (ho k hk).2)
    refine ⟨15625 - kRk P (kgo on P t).2, by omega, (kgo on P t).2, hg, hv, Or.inl ⟨hr, rfl, kBst_d hb (fun s h1 h2 => ?_) (fun s h1 h2 => ?_)⟩⟩
    · obtain ⟨r, c1, c2, c3⟩ := h2
      rcases Nat.lt_trichotomy r q with h | h | h
      · exact Or.inl ⟨r, c1, fun k hk => (c2 k hk).trans (b4 k (by omega)), by rw [← b4 r h]; exact c3⟩
      · subst h
        rw [b3] at c3
        refine kLx_le P (fun k hk => ?_)
        rcases Nat.lt_trichotomy k r with h | h | h
        · exact Nat.le_of_eq ((c2 k h).trans (b4 k h))
        · subst h; omega
        · have := (b5 k h hk).2
          have := h1 k hk
          omega
      · rw [(b5 r h c1).1] at c3; omega
    · rcases h2 with h2 | h2
      · exact kLx_tr h2 hl
      · exact kLx_l h2 hl
