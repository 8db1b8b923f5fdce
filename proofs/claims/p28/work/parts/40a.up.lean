/-! What the Chooser's methods answer and leave; loops that count an int up to another one, or down to 0. -/
def kup {σ : Type} (f : Int32 → σ → σ) (b : Int32) : Nat → Int32 → σ → σ
  | 0, _, s => s
  | n + 1, x, s => if b ≤ x then s else kup f b n (x + 1) (f x s)
def kups {σ : Type} (f : Int32 → σ → σ) (b x : Int32) (s : σ) : σ := kup f b (b.toInt - x.toInt).toNat x s
theorem kups_x {σ : Type} {f : Int32 → σ → σ} {b x : Int32} {s : σ} (h : b ≤ x) : kups f b x s = s := by
  unfold kups
  cases (b.toInt - x.toInt).toNat with
  | zero => rfl
  | succ n => exact if_pos h
theorem kups_s {σ : Type} {f : Int32 → σ → σ} {b x : Int32} {s : σ} (h : ¬ b ≤ x) : kups f b x s = kups f b (x + 1) (f x s) := by
  have hm := (kx_m h).1
  unfold kups
  generalize (b.toInt - (x + 1).toInt).toNat = k at hm ⊢
  rw [← hm]
  exact if_neg h
def kdn {σ : Type} (f : Int32 → σ → σ) : Nat → Int32 → σ → σ
  | 0, _, s => s
  | n + 1, x, s => if x < 0 then s else kdn f n (x + (-1)) (f x s)
theorem kdn_st {σ : Type} (f : Int32 → σ → σ) (n : Nat) (x : Int32) (s : σ) : kdn f (n + 1) x s = if x < 0 then s else kdn f n (x + (-1)) (f x s) := rfl
def kdns {σ : Type} (f : Int32 → σ → σ) (x : Int32) (s : σ) : σ := kdn f (x.toInt + 1).toNat x s
theorem kdn_m {x : Int32} (h : ¬ x < 0) : ((x + (-1)).toInt + 1).toNat + 1 = (x.toInt + 1).toNat := by
  have h0 : 0 ≤ x.toInt := by
    rw [Int32.lt_iff_toInt_lt] at h
    have : (0 : Int32).toInt = 0 := by decide
    omega
  have h2 := x.toInt_lt
  have e : (x + (-1)).toInt = x.toInt - 1 := by
    rw [Int32.toInt_add]
    show (x.toInt + (-1 : Int32).toInt).bmod (2 ^ 32) = x.toInt - 1
    rw [show (-1 : Int32).toInt = -1 by decide, Int.bmod_eq_of_le (by omega) (by omega)]
    omega
  rw [e]; omega
theorem kdns_x {σ : Type} {f : Int32 → σ → σ} {x : Int32} {s : σ} (h : x < 0) : kdns f x s = s := by
  unfold kdns
  cases (x.toInt + 1).toNat with
  | zero => rfl
  | succ n => exact if_pos h
theorem kdns_s {σ : Type} {f : Int32 → σ → σ} {x : Int32} {s : σ} (h : ¬ x < 0) : kdns f x s = kdns f (x + (-1)) (f x s) := by
  have hm := kdn_m h
  unfold kdns
  generalize hy : x + (-1) = y at hm ⊢
  generalize (y.toInt + 1).toNat = k at hm ⊢
  rw [← hm, kdn_st, if_neg h, hy]
