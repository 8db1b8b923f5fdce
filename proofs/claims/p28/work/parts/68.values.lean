/-! Values out of parts whose walks are not wanted here. -/
theorem kset2_e {f : Nat → Bool} {a j : Nat} (h : j = a) : kset2 f a (j + 1) = kset2 f a j ||| 0 := if_pos h
theorem kset2_n {f : Nat → Bool} {a j : Nat} (h : ¬ j = a) (h2 : f j = false) : kset2 f a (j + 1) = kset2 f a j ||| 0 := by
  show (if j = a then _ else if f j = true then _ else _) = _
  rw [if_neg h, if_neg (by rw [h2]; decide)]
theorem kset2_y {f : Nat → Bool} {a j : Nat} (h : ¬ j = a) (h2 : f j = true) (hj : j < 30) : kset2 f a (j + 1) = kset2 f a j ||| (1 <<< (nI j &&& 31)) := by
  show (if j = a then _ else if f j = true then _ else _) = _
  rw [if_neg h, if_pos h2, kbit_nI hj]
def kcho (mm mk : Nat → Int32) (wf : Nat → Nat) : Nat → Int32
  | 0 => 1
  | n + 1 => kcho mm mk wf n * kopm mm mk (wf n)
theorem nI_neg1 (q : Nat) (h : q < 2 ^ 31) : ¬ nI q = -1 := fun z => nI_pos h (by rw [z]; decide)
def kshc (mg : Nat → Int32) (a b : Nat) : Nat → Int32 := fun k => if a ≤ k ∧ k < b then mg (k + 1) else mg k
theorem kshc_0 (mg : Nat → Int32) (a : Nat) : kshc mg a a = mg := by
  funext k; unfold kshc; rw [if_neg (by omega)]
theorem kshc_s {mg : Nat → Int32} {a b : Nat} (h : a ≤ b) : upd (kshc mg a b) b (kshc mg a b (b + 1)) = kshc mg a (b + 1) := by
  funext k; unfold upd kshc
  by_cases e : k = b
  · subst e; rw [if_pos rfl, if_neg (by omega), if_pos (by omega)]
  · rw [if_neg e]
    by_cases e2 : a ≤ k ∧ k < b
    · rw [if_pos e2, if_pos (by omega)]
    · rw [if_neg e2, if_neg (by omega)]
def kbw (mg mm : Nat → Int32) (i : Int32) : Nat → Bool
  | 0 => false
  | n + 1 => kbw mg mm i n || !decide (kplo mg n i (mm n).toNatClampNeg = -1)
def kwo (pa : Nat → Int32) (k a : Nat) : Int32 := (pa k ||| pa a) &&& (kbit (nI a) ^^^ (-1))
def kbs (b : Bool) (tr : Int32) (pa : Nat → Int32) (a : Nat) : Nat → Bool
  | 0 => b
  | k + 1 => kbs b tr pa a k || ((bt tr k && bt (pa k) a) && !decide (nI (kcnt ((pa k ||| pa a) &&& (kbit (nI a) ^^^ (-1))) 30) ≤ 4))
def kkid (tr : Int32) (pa : Nat → Int32) (a : Nat) : Nat → Int32
  | 0 => 0
  | k + 1 => kkid tr pa a k + nB (bt tr k && bt (pa k) a)
def krp (tr : Int32) (pa : Nat → Int32) (a j : Nat) : Nat → Int32 := fun k => if k < j ∧ (bt tr k && bt (pa k) a) = true then kwo pa k a else pa k
def kmRem (tr : Int32) (pa mg mm : Nat → Int32) (W : Nat) (i : Int32) : Int32 := if khas tr i = false then 1 else if kbs (kbw mg mm i W) tr pa i.toNatClampNeg 30 = true then 2 else 0
