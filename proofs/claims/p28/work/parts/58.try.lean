/-! The reference's choices: likes laid, a choice's worth, the next choice, all choices. -/
def kdv (tr : Int32) (pa ct : Nat → Int32) : Prop := ∀ up : Nat → Int32, kUp tr pa up → ∀ a b, a < 30 → b < 30 → bt tr a = true → bt tr b = true → (¬ kshr tr pa up ct a b 30 = -1 → ¬ 1 + kdst up a b = 0) ∧ ¬ kdpo tr pa up a 30 + kdpo tr pa up b 30 + 2 = 0
def klol (tr : Int32) (pa up ct mg : Nat → Int32) (wf nf : Nat → Nat) (P : Nat) (q : Int32) (k : Nat) : Int32 :=
  if (bt tr (k / 30) && bt tr (k % 30) && kstd mg wf nf (nI (k / 30)) P && kstd mg wf nf (nI (k % 30)) P) = true then klik tr pa up ct (k / 30) (k % 30) q else 0
theorem klol_s {tr q v : Int32} {pa up ct mg g : Nat → Int32} {wf nf : Nat → Nat} {P j : Nat} (h : ∀ k, k < j → g k = klol tr pa up ct mg wf nf P q k) (hv : v = klol tr pa up ct mg wf nf P q j) : ∀ k, k < j + 1 → upd g j v k = klol tr pa up ct mg wf nf P q k := by
  intro k hk
  unfold upd
  by_cases e : k = j
  · rw [if_pos e, hv, e]
  · rw [if_neg e]; exact h k (by omega)
def kset0 (t : Nat → Nat) (p v : Nat) : Nat → Nat := fun k => if k = p then v else t k
/-- the next choice: the places from the last one on -/
def kgo (on : Nat → Nat) : Nat → (Nat → Nat) → Bool × (Nat → Nat)
  | 0, t => (false, t)
  | p + 1, t => if t p + 1 = on p then kgo on p (kset0 t p 0) else (true, kset0 t p (t p + 1))
def kRt (P : Nat) (g : Nat → Int32) (t : Nat → Nat) : Prop := ∀ k, k < P → g k = nI (t k)
def kVal (P : Nat) (on t : Nat → Nat) : Prop := ∀ k, k < P → t k < on k
def kOn (P : Nat) (on : Nat → Nat) : Prop := ∀ k, k < P → 1 ≤ on k ∧ on k ≤ 5
theorem kRt_u {P p v : Nat} {g : Nat → Int32} {t : Nat → Nat} (h : kRt P g t) : kRt P (upd g p (nI v)) (kset0 t p v) := by
  intro k hk
  unfold upd kset0
  by_cases e : k = p
  · rw [if_pos e, if_pos e]
  · rw [if_neg e, if_neg e]; exact h k hk
theorem kVal_u {P p v : Nat} {on t : Nat → Nat} (h : kVal P on t) (hv : v < on p) : kVal P on (kset0 t p v) := by
  intro k hk
  unfold kset0
  by_cases e : k = p
  · rw [if_pos e, e]; exact hv
  · rw [if_neg e]; exact h k hk
def kwi (li : Nat → Int32) (sf : Nat → Nat) (p : Nat) : Nat → Int32 → Int32
  | 0, y => y
  | b + 1, y => kwi li sf p b y + li (30 * sf b + sf p)
def kwr (li : Nat → Int32) (sf : Nat → Nat) : Nat → Int32
  | 0 => 0
  | p + 1 => kwi li sf p p (kwr li sf p)
/-- at the loop's head in goOn: p places from the first on may still turn -/
def kGI (P : Nat) (on : Nat → Nat) (g : Nat → Int32) (R : Bool × (Nat → Nat)) (p : Nat) : Prop := p ≤ P ∧ ∃ t, kRt P g t ∧ kVal P on t ∧ kgo on p t = R
theorem kGI_o {P p : Nat} {on : Nat → Nat} {g : Nat → Int32} {R : Bool × (Nat → Nat)} (h : kGI P on g R p) (hP : P ≤ 6) (hn : ¬ nI p - 1 < 0) : ∃ p1 t, p = p1 + 1 ∧ p1 < P ∧ kRt P g t ∧ kVal P on t ∧ kgo on (p1 + 1) t = R := by
  obtain ⟨h1, t, h2, h3, h4⟩ := h
  cases p with
  | zero => exact absurd (by decide) hn
  | succ p1 => exact ⟨p1, t, rfl, by omega, h2, h3, h4⟩
theorem kGI_e {P p : Nat} {on : Nat → Nat} {g : Nat → Int32} {R : Bool × (Nat → Nat)} (h : kGI P on g R p) (hP : P ≤ 6) (hn : nI p - 1 < 0) : R.1 = false ∧ kRt P g R.2 := by
  obtain ⟨h1, t, h2, h3, h4⟩ := h
  cases p with
  | zero =>
    have h4 : (false, t) = R := h4
    rw [← h4]; exact ⟨rfl, h2⟩
  | succ p1 =>
    rw [nI_pred] at hn
    exact absurd hn (nI_pos (by omega))
theorem kGI_s {P p : Nat} {on t : Nat → Nat} {g : Nat → Int32} {R : Bool × (Nat → Nat)} (hp : p < P) (ho : kOn P on) (h1 : kRt P g t) (h2 : kVal P on t) (h3 : kgo on (p + 1) t = R) (he : nI (t p) = nI (on p) - 1) : kGI P on (upd g p 0) R p := by
  have ho := ho p hp
  have hv := h2 p hp
  have e : t p + 1 = on p := by
    have e2 : nI (on p) - 1 = nI (on p - 1) := pk_sub (b := 1) ho.1
    rw [e2, nI_eq (by omega) (by omega)] at he
    omega
  refine ⟨by omega, kset0 t p 0, kRt_u (v := 0) h1, kVal_u h2 (by omega), ?_⟩
  rw [← h3]
  exact (if_pos e).symm
theorem kGI_d {P p : Nat} {on t : Nat → Nat} {g : Nat → Int32} {R : Bool × (Nat → Nat)} (hp : p < P) (ho : kOn P on) (h1 : kRt P g t) (h2 : kVal P on t) (h3 : kgo on (p + 1) t = R) (he : ¬ nI (t p) = nI (on p) - 1) : R.1 = true ∧ kRt P (upd g p (nI (t p + 1))) R.2 := by
  have ho := ho p hp
  have hv := h2 p hp
  have e : ¬ t p + 1 = on p := by
    intro z
    have e2 : nI (on p) - 1 = nI (on p - 1) := pk_sub (b := 1) ho.1
    rw [e2, nI_eq (by omega) (by omega)] at he
    omega
  have h4 : kgo on (p + 1) t = (true, kset0 t p (t p + 1)) := if_neg e
  rw [h4] at h3
  rw [← h3]
  exact ⟨rfl, kRt_u h1⟩
theorem kx_m1 (p : Nat) : nI (p + 1) - 1 + Int32.ofInt (-1) = nI p - 1 := by
  rw [nI_pred, show Int32.ofInt (-1) = -1 by decide, Int32.sub_eq_add_neg]
