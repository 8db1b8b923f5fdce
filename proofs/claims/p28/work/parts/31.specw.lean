/-! What the methods of Words answer and leave. -/
theorem kb_lt {b : Int32} {j : Nat} (h : j < b.toNatClampNeg) : ¬ b ≤ nI j := by
  intro hb
  have h1 : b.toInt.toNat = b.toNatClampNeg := rfl
  have h2 := b.toInt_lt
  have h3 : (nI j).toInt = (j : Int) := nI_toInt (by omega)
  rw [Int32.le_iff_toInt_le, h3] at hb
  omega
theorem kb_ge (b : Int32) : b ≤ nI b.toNatClampNeg := by
  have h1 : b.toInt.toNat = b.toNatClampNeg := rfl
  have h2 := b.toInt_lt
  have h3 : (nI b.toNatClampNeg).toInt = (b.toNatClampNeg : Int) := nI_toInt (by omega)
  rw [Int32.le_iff_toInt_le, h3]
  omega
theorem kb_sm (b : Int32) : b.toNatClampNeg < 2 ^ 31 := by
  have h1 : b.toInt.toNat = b.toNatClampNeg := rfl
  have h2 := b.toInt_lt
  omega
theorem nI_nm1 {j : Nat} (h : j < 2 ^ 31) : ¬ nI j = -1 := by
  intro e
  have h3 : (nI j).toInt = (j : Int) := nI_toInt h
  rw [e] at h3
  have : (-1 : Int32).toInt = -1 := by decide
  omega
/-- the first place of the sense k among the first n of the word i -/
def krnk (gv : Nat → Int32) (i k : Int32) : Nat → Int32
  | 0 => -1
  | j + 1 => if krnk gv i k j = -1 then (if ¬ kat 50 gv (i * 5 + nI j) = k then -1 else nI j) else krnk gv i k j
theorem krnk_of {gv : Nat → Int32} {i k : Int32} {j n : Nat} (hn : n < 2 ^ 31) (hj : j < n) (hI : krnk gv i k j = -1) (h : kat 50 gv (i * 5 + nI j) = k) : nI j = krnk gv i k n := by
  have key : ∀ q, krnk gv i k (j + 1 + q) = nI j := by
    intro q
    induction q with
    | zero =>
      show (if krnk gv i k j = -1 then (if ¬ kat 50 gv (i * 5 + nI j) = k then -1 else nI j) else krnk gv i k j) = nI j
      rw [if_pos hI, if_neg (Classical.not_not.mpr h)]
    | succ q ih =>
      show (if krnk gv i k (j + 1 + q) = -1 then _ else krnk gv i k (j + 1 + q)) = nI j
      rw [ih, if_neg (nI_nm1 (by omega))]
  have := key (n - (j + 1))
  rw [show j + 1 + (n - (j + 1)) = n by omega] at this
  exact this.symm
theorem krnk_s {gv : Nat → Int32} {i k : Int32} {j : Nat} (hI : krnk gv i k j = -1) (h : ¬ kat 50 gv (i * 5 + nI j) = k) : krnk gv i k (j + 1) = -1 := by
  show (if krnk gv i k j = -1 then (if ¬ kat 50 gv (i * 5 + nI j) = k then -1 else nI j) else krnk gv i k j) = -1
  rw [if_pos hI, if_pos h]
def krk (sz gv : Nat → Int32) (i k : Int32) : Int32 := krnk gv i k (kat 10 sz i).toNatClampNeg
def khsw (sz gv : Nat → Int32) (i k : Int32) : Bool := decide (¬ krk sz gv i k = -1)
def kany (sz gv : Nat → Int32) (k : Int32) : Nat → Bool
  | 0 => false
  | j + 1 => kany sz gv k j || khsw sz gv (nI j) k
theorem kany_of {sz gv : Nat → Int32} {k : Int32} {j n : Nat} (hj : j < n) (h : khsw sz gv (nI j) k = true) : kany sz gv k n = true := by
  have key : ∀ q, kany sz gv k (j + 1 + q) = true := by
    intro q
    induction q with
    | zero => show (kany sz gv k j || khsw sz gv (nI j) k) = true; rw [h, Bool.or_true]
    | succ q ih => show (kany sz gv k (j + 1 + q) || _) = true; rw [ih, Bool.true_or]
  have := key (n - (j + 1))
  rwa [show j + 1 + (n - (j + 1)) = n by omega] at this
def ksai (se : Nat → Int32) (i : Int32) : Nat → Bool
  | 0 => false
  | j + 1 => ksai se i j || decide (kat 6 se (nI j) = i)
theorem ksai_of {se : Nat → Int32} {i : Int32} {j n : Nat} (hj : j < n) (h : kat 6 se (nI j) = i) : ksai se i n = true := by
  have key : ∀ q, ksai se i (j + 1 + q) = true := by
    intro q
    induction q with
    | zero => show (ksai se i j || decide (kat 6 se (nI j) = i)) = true; rw [decide_eq_true h, Bool.or_true]
    | succ q ih => show (ksai se i (j + 1 + q) || _) = true; rw [ih, Bool.true_or]
  have := key (n - (j + 1))
  rwa [show j + 1 + (n - (j + 1)) = n by omega] at this
def kwex (kn i : Int32) : Bool := !decide (i < 0) && !decide (kn ≤ i)
def kopc (sz lk : Nat → Int32) (i : Int32) : Int32 := if ¬ kat 10 lk i = -1 then 1 else kat 10 sz i
def kopt (gv lk : Nat → Int32) (i k : Int32) : Int32 := if ¬ kat 10 lk i = -1 then kat 10 lk i else kat 50 gv (i * 5 + k)
/-- the senses behind the one that goes move up, from the place x on -/
def kdro (row z : Int32) : Nat → Int32 → (Nat → Int32) → (Nat → Int32)
  | 0, _, g => g
  | n + 1, x, g => if x < 0 then g else if z ≤ x then g else kdro row z n (x + 1) (kput 50 g (row + x) (kat 50 g (row + x + 1)))
theorem kdro_x {row z x : Int32} {g : Nat → Int32} (h : x < 0 ∨ z ≤ x) (n : Nat) : kdro row z n x g = g := by
  cases n with
  | zero => rfl
  | succ n =>
    show (if x < 0 then g else if z ≤ x then g else _) = g
    by_cases h0 : x < 0
    · rw [if_pos h0]
    · rcases h with h | h
      · exact absurd h h0
      · rw [if_neg h0, if_pos h]
theorem kx_m {z x : Int32} (h : ¬ z ≤ x) : (z.toInt - (x + 1).toInt).toNat + 1 = (z.toInt - x.toInt).toNat ∧ (x + 1).toInt = x.toInt + 1 := by
  rw [Int32.le_iff_toInt_le] at h
  have h2 := z.toInt_lt
  have h3 := x.le_toInt
  have e : (x + 1).toInt = x.toInt + 1 := by
    rw [Int32.toInt_add]
    show (x.toInt + 1).bmod (2 ^ 32) = x.toInt + 1
    rw [Int.bmod_eq_of_le (by omega) (by omega)]
  rw [e]
  exact ⟨by omega, rfl⟩
theorem kdro_s {row z x : Int32} {g T : Nat → Int32} {n : Nat} (hT : kdro row z n x g = T) (hn : (z.toInt - x.toInt).toNat ≤ n) (h0 : ¬ x < 0) (h1 : ¬ z ≤ x) : ∃ n', n = n' + 1 ∧ kdro row z n' (x + 1) (kput 50 g (row + x) (kat 50 g (row + x + 1))) = T ∧ (z.toInt - (x + 1).toInt).toNat ≤ n' := by
  have hm := (kx_m h1).1
  cases n with
  | zero => omega
  | succ n' =>
    refine ⟨n', rfl, ?_, by omega⟩
    rw [← hT]
    show _ = (if x < 0 then g else if z ≤ x then g else _)
    rw [if_neg h0, if_neg h1]
def kdr (sz gv : Nat → Int32) (i k : Int32) : Nat → Int32 := kdro (i * 5) (kat 10 sz i - 1) ((kat 10 sz i - 1).toInt - (krk sz gv i k).toInt).toNat (krk sz gv i k) gv
def klck (lk : Nat → Int32) (i k : Int32) : Nat → Int32 := if ¬ kat 10 lk i = k then lk else kput 10 lk i (-1)
