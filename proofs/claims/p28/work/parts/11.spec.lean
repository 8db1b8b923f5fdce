/-! What the class's small methods answer, in words of the machine's own ints. -/
def kbit (i : Int32) : Int32 := if i < 0 then 0 else if 30 ≤ i then 0 else 1 <<< (i &&& 31)
def khas (z i : Int32) : Bool := decide (¬ (z &&& kbit i) = 0)
def kat (n : Nat) (f : Nat → Int32) (i : Int32) : Int32 := if i < 0 then 0 else if nI n ≤ i then 0 else f i.toNatClampNeg
def kput (n : Nat) (f : Nat → Int32) (i v : Int32) : Nat → Int32 := if i < 0 then f else if nI n ≤ i then f else upd f i.toNatClampNeg v
theorem kx_in {n : Nat} {i : Int32} (hn : n < 2 ^ 31) (h0 : ¬ i < 0) (h1 : ¬ nI n ≤ i) : vp_in i n := by
  rw [vp_in_iff]
  rcases pk_ix i hn with h | h | ⟨j, hj, rfl⟩
  · exact absurd h h0
  · exact absurd h h1
  · rw [nI_toInt (by omega)]; omega
def kpop (x : Int32) : Int32 :=
  let a := x - ((x.toUInt32 >>> ((1 : Int32).toUInt32 &&& Int32.toUInt32 31)).toInt32 &&& 1431655765)
  let b := (a &&& 858993459) + ((a.toUInt32 >>> ((2 : Int32).toUInt32 &&& Int32.toUInt32 31)).toInt32 &&& 858993459)
  let d := (b + (b.toUInt32 >>> ((4 : Int32).toUInt32 &&& Int32.toUInt32 31)).toInt32) &&& 252645135
  let e := d + (d.toUInt32 >>> ((8 : Int32).toUInt32 &&& Int32.toUInt32 31)).toInt32
  let f := e + (e.toUInt32 >>> ((16 : Int32).toUInt32 &&& Int32.toUInt32 31)).toInt32
  f &&& 63
def kcvd (cv : Nat → Int32) (i : Int32) : Nat → Int32
  | 0 => 0
  | j + 1 => if nB (khas (kat 30 cv (nI j)) i) = 0 then kcvd cv i j else kcvd cv i j ||| kbit (nI j)
def kpw (ps : Nat → Int32) (i k : Int32) : Int32 := (kat 30 ps i ||| kat 30 ps k) &&& (kbit k ^^^ (-1))
def kpoa (ps : Nat → Int32) (z : Int32) : Nat → Int32
  | 0 => 0
  | j + 1 => if nB (khas z (nI j)) = 0 then kpoa ps z j else kpoa ps z j ||| kat 30 ps (nI j)
def ktop (ps : Nat → Int32) (z : Int32) : Nat → Bool
  | 0 => false
  | j + 1 => ktop ps z j || (khas z (nI j) && decide (kat 30 ps (nI j) = 0))
theorem ktop_mono {ps : Nat → Int32} {z : Int32} {j : Nat} (h : ktop ps z j = true) : ∀ n, j ≤ n → ktop ps z n = true := by
  intro n hn
  induction n with
  | zero => have : j = 0 := by omega
            subst this; exact h
  | succ n ih =>
    by_cases e : j = n + 1
    · subst e; exact h
    · simp only [ktop, ih (by omega), Bool.true_or]
theorem ktop_of {ps : Nat → Int32} {z : Int32} {j n : Nat} (hj : j < n) (h1 : khas z (nI j) = true) (h2 : kat 30 ps (nI j) = 0) : ktop ps z n = true :=
  ktop_mono (j := j + 1) (by simp only [ktop, h1, h2, decide_true, Bool.and_true, Bool.or_true]) n (by omega)
def kcoa (cs : Nat → Int32) (z : Int32) : Nat → Int32
  | 0 => 0
  | j + 1 => if nB (khas z (nI j)) = 0 then kcoa cs z j else kcoa cs z j + kat 30 cs (nI j)
def ksay (ms dp : Nat → Int32) (i k : Int32) : Bool := decide (kat 30 ms i < kat 30 ms k ∨ (kat 30 ms i = kat 30 ms k ∧ ¬ kat 30 dp i ≤ kat 30 dp k))
def ktel (ms dp : Nat → Int32) (z : Int32) : Nat → Int32
  | 0 => -1
  | j + 1 => if nB (khas z (nI j)) = 0 then ktel ms dp z j else if ktel ms dp z j = -1 then nI j else if nB (ksay ms dp (nI j) (ktel ms dp z j)) = 0 then ktel ms dp z j else nI j
def ksbt (sx : Nat → Int32) (i k z : Int32) : Nat → Int32
  | 0 => -1
  | j + 1 => if nB (khas z (nI j)) = 0 then ksbt sx i k z j else if ksbt sx i k z j = -1 then kat 900 sx (i * 30 + nI j) + kat 900 sx (k * 30 + nI j) else if kat 900 sx (i * 30 + nI j) + kat 900 sx (k * 30 + nI j) < ksbt sx i k z j then kat 900 sx (i * 30 + nI j) + kat 900 sx (k * 30 + nI j) else ksbt sx i k z j
def kquo (x y : Int32) : Int32 := if y ≤ 0 then 0 else x / y
def kal1 (dp : Nat → Int32) (c i k : Int32) : Int32 := kquo (20000 * (kat 30 dp c + 1)) (kat 30 dp i + 1 + kat 30 dp k + 1)
def kali (pr : Int32) (cs cv ms dp sx : Nat → Int32) (i k q : Int32) : Int32 :=
  if ktel ms dp (kat 30 cv i &&& kat 30 cv k) 30 = -1 then 0
  else if q = 0 then kquo 10000 (1 + ksbt sx i k (kat 30 cv i &&& kat 30 cv k) 30)
  else if q = 1 then (if kal1 dp (ktel ms dp (kat 30 cv i &&& kat 30 cv k) 30) i k < 10000 then kal1 dp (ktel ms dp (kat 30 cv i &&& kat 30 cv k) 30) i k else 10000)
  else kquo (10000 * (kcoa cs pr 30 - kat 30 ms (ktel ms dp (kat 30 cv i &&& kat 30 cv k) 30))) (kcoa cs pr 30)
def kcan (ps : Nat → Int32) (i : Int32) : Nat → Bool
  | 0 => true
  | j + 1 => kcan ps i j && !(khas (kat 30 ps (nI j)) i && !decide (kpop (kpw ps (nI j) i) ≤ 4))
theorem kcan_mono {ps : Nat → Int32} {i : Int32} {j : Nat} (h : kcan ps i j = false) : ∀ n, j ≤ n → kcan ps i n = false := by
  intro n hn
  induction n with
  | zero => have : j = 0 := by omega
            subst this; exact h
  | succ n ih =>
    by_cases e : j = n + 1
    · subst e; exact h
    · simp only [kcan, ih (by omega), Bool.false_and]
theorem kcan_of {ps : Nat → Int32} {i : Int32} {j n : Nat} (hj : j < n) (h1 : khas (kat 30 ps (nI j)) i = true) (h2 : ¬ kpop (kpw ps (nI j) i) ≤ 4) : kcan ps i n = false :=
  kcan_mono (j := j + 1) (by simp only [kcan, h1, decide_eq_false h2, Bool.not_false, Bool.and_true, Bool.not_true, Bool.and_false]) n (by omega)
