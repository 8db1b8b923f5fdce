/-! Which exception of the throws clause a method of the face throws: its place, 0 for none. -/
def kcAdd (ad : Int32) : Int32 := if ad < 30 then 0 else 1
def kcLink (pr : Int32) (ps cv : Nat → Int32) (i k : Int32) : Int32 := if khas pr i = false then 1 else if khas pr k = false then 1 else if ¬ nB (khas (kat 30 ps i) k) = 0 then 2 else if ¬ kpop (kat 30 ps i) < 4 then 2 else if ¬ nB (khas (kat 30 cv k) i) = 0 then 2 else 0
def kcUnl (pr : Int32) (ps : Nat → Int32) (i k : Int32) : Int32 := if khas pr i = false then 1 else if khas pr k = false then 1 else if nB (khas (kat 30 ps i) k) = 0 then 2 else 0
def kcRem (pr kn : Int32) (ps sz gv : Nat → Int32) (i : Int32) : Int32 := if khas pr i = false then 1 else if ¬ nB (kany sz gv i kn.toNatClampNeg) = 0 then 2 else if nB (kcan ps i 30) = 0 then 2 else 0
def kcCnt (pr i k : Int32) : Int32 := if khas pr i = false then 1 else if k < 0 then 2 else if ¬ k ≤ 1000 then 2 else 0
def kcAdw (kn : Int32) : Int32 := if kn < 10 then 0 else 1
def kcGiv (pr kn : Int32) (sz gv : Nat → Int32) (i k : Int32) : Int32 := if kwex kn i = false then 1 else if khas pr k = false then 1 else if ¬ nB (khsw sz gv i k) = 0 then 2 else if ¬ kat 10 sz i < 5 then 2 else 0
def kcTak (pr kn pl : Int32) (sz gv se : Nat → Int32) (i k : Int32) : Int32 := if kwex kn i = false then 1 else if khas pr k = false then 1 else if nB (khsw sz gv i k) = 0 then 2 else if ¬ kat 10 sz i = 1 then 0 else if ¬ nB (ksai se i pl.toNatClampNeg) = 0 then 2 else 0
def kcLoc (kn : Int32) (sz gv : Nat → Int32) (i k : Int32) : Int32 := if kwex kn i = false then 1 else if k = -1 then 0 else if nB (khsw sz gv i k) = 0 then 2 else 0
def kcSay (kn pl : Int32) (sz : Nat → Int32) (i : Int32) : Int32 := if kwex kn i = false then 1 else if ¬ pl < 6 then 2 else if kat 10 sz i = 0 then 2 else 0
def kcOne (pr i : Int32) : Int32 := if khas pr i = false then 1 else 0
def kcTwo (pr i k : Int32) : Int32 := if khas pr i = false then 1 else if khas pr k = false then 1 else 0
def kcLik (pr i k q : Int32) : Int32 := if khas pr i = false then 1 else if khas pr k = false then 1 else if kin q 0 2 = false then 2 else 0
def kcBst (q : Int32) : Int32 := if kin q 0 2 = false then 1 else 0
def kcCho (pl i q : Int32) : Int32 := if i < 0 then 1 else if ¬ i < pl then 1 else if kin q 0 2 = false then 2 else 0
def kchs (lk sz se : Nat → Int32) (x y : Int32) : Int32 := y * kopc sz lk (kat 6 se x)
