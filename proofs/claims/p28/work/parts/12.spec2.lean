/-! What the writing methods of Net leave, in words of the machine's own ints. -/
def knot (sx : Nat → Int32) (i z v : Int32) : Nat → (Nat → Int32)
  | 0 => sx
  | j + 1 => if nB (khas z (nI j)) = 0 then knot sx i z v j else kput 900 (knot sx i z v j) (i * 30 + nI j) v
def kdep (ps : Nat → Int32) (d lv : Int32) (j : Nat) : Int32 := if d = -1 then (if nB (ktop ps lv 30) = 0 then d else nI j) else d
/-- a step of the climb: what was met, the depth, the level, the steps -/
def kcl1 (ps : Nat → Int32) (i : Int32) (j : Nat) (x : Int32 × Int32 × Int32 × (Nat → Int32)) : Int32 × Int32 × Int32 × (Nat → Int32) :=
  if x.2.2.1 = 0 then x else (x.1 ||| x.2.2.1, kdep ps x.2.1 x.2.2.1 j, kpoa ps x.2.2.1 30 &&& ((x.1 ||| x.2.2.1) ^^^ (-1)), knot x.2.2.2 i x.2.2.1 (nI j) 30)
def kcl (pr : Int32) (ps sx : Nat → Int32) (i : Int32) : Nat → Int32 × Int32 × Int32 × (Nat → Int32)
  | 0 => (0, -1, (if nB (khas pr i) = 0 then 0 else kbit i), sx)
  | j + 1 => kcl1 ps i j (kcl pr ps sx i j)
theorem kcl_s {pr : Int32} {ps sx : Nat → Int32} {i mt d lv : Int32} {g : Nat → Int32} {j : Nat} (h : (mt, d, lv, g) = kcl pr ps sx i j) (hz : ¬ lv = 0) : (mt ||| lv, kdep ps d lv j, kpoa ps lv 30 &&& ((mt ||| lv) ^^^ (-1)), knot g i lv (nI j) 30) = kcl pr ps sx i (j + 1) := by
  show _ = kcl1 ps i j (kcl pr ps sx i j)
  rw [← h]
  exact (if_neg hz).symm
theorem kcl_e {pr : Int32} {ps sx : Nat → Int32} {i mt d lv : Int32} {g : Nat → Int32} {j n : Nat} (h : (mt, d, lv, g) = kcl pr ps sx i j) (hz : lv = 0) (hj : j < n) : (mt, d, lv, g) = kcl pr ps sx i n := by
  have key : ∀ k, (mt, d, lv, g) = kcl pr ps sx i (j + k) := by
    intro k
    induction k with
    | zero => exact h
    | succ k ih =>
      show _ = kcl1 ps i (j + k) (kcl pr ps sx i (j + k))
      rw [← ih]
      exact (if_pos hz).symm
  have := key (n - j)
  rwa [show j + (n - j) = n by omega] at this
def kwei (cs cv ms : Nat → Int32) : Nat → (Nat → Int32)
  | 0 => ms
  | j + 1 => kput 30 (kwei cs cv ms j) (nI j) (kcoa cs (kcvd cv (nI j) 30) 30)
def kset1 (pr : Int32) (ps : Nat → Int32) (j : Nat) (x : (Nat → Int32) × (Nat → Int32) × (Nat → Int32)) : (Nat → Int32) × (Nat → Int32) × (Nat → Int32) :=
  (kput 30 x.1 (nI j) (kcl pr ps x.2.2 (nI j) 30).1, kput 30 x.2.1 (nI j) (kcl pr ps x.2.2 (nI j) 30).2.1, (kcl pr ps x.2.2 (nI j) 30).2.2.2)
def kset (pr : Int32) (ps cv dp sx : Nat → Int32) : Nat → (Nat → Int32) × (Nat → Int32) × (Nat → Int32)
  | 0 => (cv, dp, sx)
  | j + 1 => kset1 pr ps j (kset pr ps cv dp sx j)
theorem kset_s {pr : Int32} {ps cv dp sx g1 g2 g3 : Nat → Int32} {j : Nat} (h : (g1, g2, g3) = kset pr ps cv dp sx j) : (kput 30 g1 (nI j) (kcl pr ps g3 (nI j) 30).1, kput 30 g2 (nI j) (kcl pr ps g3 (nI j) 30).2.1, (kcl pr ps g3 (nI j) 30).2.2.2) = kset pr ps cv dp sx (j + 1) := by
  show _ = kset1 pr ps j (kset pr ps cv dp sx j)
  rw [← h]
  simp only [kset1]
def klos1 (i : Int32) (j : Nat) (x : (Nat → Int32) × Int32) : (Nat → Int32) × Int32 := if nB (khas (kat 30 x.1 (nI j)) i) = 0 then x else (kput 30 x.1 (nI j) (kpw x.1 (nI j) i), x.2 + 1)
def klos (ps : Nat → Int32) (i : Int32) : Nat → (Nat → Int32) × Int32
  | 0 => (ps, 0)
  | j + 1 => klos1 i j (klos ps i j)
theorem klos_t {ps g : Nat → Int32} {i k : Int32} {j : Nat} (h : (g, k) = klos ps i j) (hc : nB (khas (kat 30 g (nI j)) i) = 0) : (g, k) = klos ps i (j + 1) := by
  show _ = klos1 i j (klos ps i j)
  rw [← h]
  exact (if_pos hc).symm
theorem klos_f {ps g : Nat → Int32} {i k : Int32} {j : Nat} (h : (g, k) = klos ps i j) (hc : ¬ nB (khas (kat 30 g (nI j)) i) = 0) : (kput 30 g (nI j) (kpw g (nI j) i), k + 1) = klos ps i (j + 1) := by
  show _ = klos1 i j (klos ps i j)
  rw [← h]
  exact (if_neg hc).symm
def kadd (g : Nat → Int32) (lv v : Int32) : Nat → (Nat → Int32)
  | 0 => g
  | k + 1 => if nB (khas lv (nI k)) = 0 then kadd g lv v k else kput 30 (kadd g lv v k) (nI k) (kat 30 (kadd g lv v k) (nI k) + v)
def kcar1 (ps : Nat → Int32) (v : Int32) (x : Int32 × Int32 × (Nat → Int32)) : Int32 × Int32 × (Nat → Int32) :=
  if x.2.1 = 0 then x else (x.1 ||| x.2.1, kpoa ps x.2.1 30 &&& ((x.1 ||| x.2.1) ^^^ (-1)), kadd x.2.2 x.2.1 v 30)
def kcar (ps wk : Nat → Int32) (v i : Int32) : Nat → Int32 × Int32 × (Nat → Int32)
  | 0 => (0, kbit i, wk)
  | j + 1 => kcar1 ps v (kcar ps wk v i j)
theorem kcar_s {ps wk g : Nat → Int32} {v i mt lv : Int32} {j : Nat} (h : (mt, lv, g) = kcar ps wk v i j) (hz : ¬ lv = 0) : (mt ||| lv, kpoa ps lv 30 &&& ((mt ||| lv) ^^^ (-1)), kadd g lv v 30) = kcar ps wk v i (j + 1) := by
  show _ = kcar1 ps v (kcar ps wk v i j)
  rw [← h]
  exact (if_neg hz).symm
theorem kcar_e {ps wk g : Nat → Int32} {v i mt lv : Int32} {j n : Nat} (h : (mt, lv, g) = kcar ps wk v i j) (hz : lv = 0) (hj : j < n) : (mt, lv, g) = kcar ps wk v i n := by
  have key : ∀ k, (mt, lv, g) = kcar ps wk v i (j + k) := by
    intro k
    induction k with
    | zero => exact h
    | succ k ih =>
      show _ = kcar1 ps v (kcar ps wk v i (j + k))
      rw [← ih]
      exact (if_pos hz).symm
  have := key (n - j)
  rwa [show j + (n - j) = n by omega] at this
def kzer (wk : Nat → Int32) : Nat → (Nat → Int32)
  | 0 => wk
  | j + 1 => kput 30 (kzer wk j) (nI j) 0
def kwlo (pr : Int32) (ps cs w0 : Nat → Int32) : Nat → (Nat → Int32)
  | 0 => w0
  | j + 1 => if nB (khas pr (nI j)) = 0 then kwlo pr ps cs w0 j else (kcar ps (kwlo pr ps cs w0 j) (kat 30 cs (nI j)) (nI j) 30).2.2
