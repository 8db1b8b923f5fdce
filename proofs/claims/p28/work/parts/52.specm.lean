/-! What the reference's reading methods answer. -/
def kin (v a b : Int32) : Bool := !decide (v < a) && !decide (b < v)
def kcnt (z : Int32) : Nat → Nat
  | 0 => 0
  | j + 1 => kcnt z j + (if bt z j then 1 else 0)
def kplo (mg : Nat → Int32) (w : Nat) (i : Int32) : Nat → Int32
  | 0 => -1
  | k + 1 => if ¬ mg (5 * w + k) = i then kplo mg w i k else nI k
def kcov (up : Nat → Int32) (a b : Nat) : Bool := !decide (1000 ≤ up (30 * b + a))
def kmas (tr : Int32) (up ct : Nat → Int32) (a : Nat) : Nat → Int32
  | 0 => 0
  | k + 1 => kmas tr up ct a k + (if nB (bt tr k) = 0 then 0 else if nB (kcov up a k) = 0 then 0 else ct k)
def kdp1 (tr : Int32) (pa up : Nat → Int32) (a k : Nat) : Int32 := if nB (bt tr k) = 0 then 1000 else if ¬ pa k = 0 then 1000 else up (30 * a + k)
def kdpo (tr : Int32) (pa up : Nat → Int32) (a : Nat) : Nat → Int32
  | 0 => 1000
  | k + 1 => if kdpo tr pa up a k ≤ kdp1 tr pa up a k then kdpo tr pa up a k else kdp1 tr pa up a k
def kby (tr : Int32) (up ct : Nat → Int32) (k : Nat) (b : Int32) : Int32 := if ¬ b = -1 then kmas tr up ct k 30 - kmas tr up ct b.toNatClampNeg 30 else -1
def kbet (tr : Int32) (pa up ct : Nat → Int32) (k : Nat) (b : Int32) : Bool := decide (kby tr up ct k b < 0) || (decide (kby tr up ct k b = 0) && !decide (kdpo tr pa up k 30 ≤ kdpo tr pa up b.toNatClampNeg 30))
def kshr (tr : Int32) (pa up ct : Nat → Int32) (a b : Nat) : Nat → Int32
  | 0 => -1
  | k + 1 => if (bt tr k && kcov up k a && kcov up k b) = true then (if kbet tr pa up ct k (kshr tr pa up ct a b k) = true then nI k else kshr tr pa up ct a b k) else kshr tr pa up ct a b k
theorem kshr_in {tr : Int32} {pa up ct : Nat → Int32} {a b : Nat} : ∀ n, n ≤ 30 → kshr tr pa up ct a b n = -1 ∨ ∃ c, c < 30 ∧ kshr tr pa up ct a b n = nI c := by
  intro n
  induction n with
  | zero => exact fun _ => Or.inl rfl
  | succ n ih =>
    intro h
    unfold kshr
    split
    · split
      · exact Or.inr ⟨n, by omega, rfl⟩
      · exact ih (by omega)
    · exact ih (by omega)
def kdis (up : Nat → Int32) (a b : Nat) : Nat → Int32
  | 0 => 1000
  | k + 1 => if kdis up a b k ≤ up (30 * a + k) + up (30 * b + k) then kdis up a b k else up (30 * a + k) + up (30 * b + k)
def kdst (up : Nat → Int32) (a b : Nat) : Int32 := if 1000 ≤ kdis up a b 30 then -1 else kdis up a b 30
def kwho (tr : Int32) (ct : Nat → Int32) : Nat → Int32
  | 0 => 0
  | k + 1 => kwho tr ct k + (if nB (bt tr k) = 0 then 0 else ct k)
def klk1 (tr : Int32) (pa up : Nat → Int32) (c a b : Nat) : Int32 := 20000 * (kdpo tr pa up c 30 + 1) / (kdpo tr pa up a 30 + kdpo tr pa up b 30 + 2)
def klik (tr : Int32) (pa up ct : Nat → Int32) (a b : Nat) (q : Int32) : Int32 :=
  if kshr tr pa up ct a b 30 = -1 then 0
  else if q = 0 then 10000 / (1 + kdst up a b)
  else if q = 1 then (if 10000 ≤ klk1 tr pa up (kshr tr pa up ct a b 30).toNatClampNeg a b then 10000 else klk1 tr pa up (kshr tr pa up ct a b 30).toNatClampNeg a b)
  else if kwho tr ct 30 = 0 then 0 else 10000 * (kwho tr ct 30 - kmas tr up ct (kshr tr pa up ct a b 30).toNatClampNeg 30) / kwho tr ct 30
def kopm (mm mk : Nat → Int32) (w : Nat) : Int32 := if ¬ mk w = -1 then 1 else mm w
def ksem (mg mk : Nat → Int32) (w o : Nat) : Int32 := if ¬ mk w = -1 then mk w else mg (5 * w + o)
def kstd (mg : Nat → Int32) (wf nf : Nat → Nat) (i : Int32) : Nat → Bool
  | 0 => false
  | k + 1 => kstd mg wf nf i k || !decide (kplo mg (wf k) i (nf (wf k)) = -1)
theorem kin_w {mw i : Int32} {W : Nat} (hw : mw = nI W) (hW : W ≤ 10) : kin i 0 (mw - 1) = kwex mw i := by
  subst hw
  unfold kin kwex
  congr 1
  congr 1
  apply decide_eq_decide.mpr
  rw [Int32.lt_iff_toInt_lt, Int32.le_iff_toInt_le, nI_toInt (show W < 2 ^ 31 by omega)]
  have e : (nI W - 1).toInt = (W : Int) - 1 := by
    rw [show (1 : Int32) = nI 1 from rfl, pk_sub_toInt (by omega) (by omega)]; rfl
  rw [e]; omega
theorem kx_up {a b : Nat} : 30 * nI b + nI a = nI (30 * b + a) := by
  rw [show (30 : Int32) = nI 30 from rfl, pk_mul, nI_add]
theorem kx_gv {w k : Nat} : 5 * nI w + nI k = nI (5 * w + k) := by
  rw [show (5 : Int32) = nI 5 from rfl, pk_mul, nI_add]
theorem kin_of2 {i : Int32} (h : kin i 0 29 = true) : ∃ a, a < 30 ∧ i = nI a := by
  unfold kin at h
  rw [Bool.and_eq_true, Bool.not_eq_true', Bool.not_eq_true'] at h
  exact kin_of (of_decide_eq_false h.1) (of_decide_eq_false h.2)
theorem khas_nin {z i : Int32} (h : kin i 0 29 = false) : khas z i = false := by
  by_cases h0 : i < 0
  · exact khas_out (Or.inl h0)
  · by_cases h1 : 29 < i
    · refine khas_out (Or.inr ?_)
      rw [Int32.lt_iff_toInt_lt] at h1
      rw [Int32.le_iff_toInt_le]
      have e1 : (29 : Int32).toInt = 29 := by decide
      have e2 : (30 : Int32).toInt = 30 := by decide
      omega
    · unfold kin at h
      rw [decide_eq_false h0, decide_eq_false h1] at h
      cases h
