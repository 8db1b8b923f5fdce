def klay (gv lk : Nat → Int32) (w i x : Int32) (g : Nat → Int32) : Nat → Int32 := kput 30 g (i * 5 + x) (kopt gv lk w x)
/-- one pair of options -/
def kcm1 (pr : Int32) (cs cv ms dp sx op : Nat → Int32) (q x y : Int32) (r : Int32 × (Nat → Int32)) : Int32 × (Nat → Int32) :=
  (if r.1 < kali pr cs cv ms dp sx (kat 30 op x) (kat 30 op y) q then kali pr cs cv ms dp sx (kat 30 op x) (kat 30 op y) q else r.1, kput 900 r.2 (y * 30 + x) (kali pr cs cv ms dp sx (kat 30 op x) (kat 30 op y) q))
def kcm2 (pr : Int32) (cs cv ms dp sx op zs : Nat → Int32) (q i3 x : Int32) (r : Int32 × (Nat → Int32)) : Int32 × (Nat → Int32) :=
  kups (kcm1 pr cs cv ms dp sx op q x) (i3 * 5 + kat 6 zs i3) (i3 * 5) r
def kcmp (pr : Int32) (cs cv ms dp sx op zs al : Nat → Int32) (i2 i3 q : Int32) : Int32 × (Nat → Int32) :=
  kups (kcm2 pr cs cv ms dp sx op zs q i3) (i2 * 5 + kat 6 zs i2) (i2 * 5) (0, al)
def kgai (al pk : Nat → Int32) (o x y : Int32) : Int32 := y + kat 900 al (o * 30 + kat 6 pk x)
def kgain (al pk : Nat → Int32) (i o : Int32) : Int32 := kups (kgai al pk o) i 0 0
def kkee (pk : Nat → Int32) (x : Int32) (g : Nat → Int32) : Nat → Int32 := kput 6 g x (kat 6 pk x)
def kplc (pl : Int32) : Int32 := if 6 < pl then 6 else pl
def kpr1 (sz lk gv se : Nat → Int32) (x : Int32) (r : (Nat → Int32) × (Nat → Int32)) : (Nat → Int32) × (Nat → Int32) :=
  (kput 6 r.1 x (kopc sz lk (kat 6 se x)), kups (klay gv lk (kat 6 se x) x) (kopc sz lk (kat 6 se x)) 0 r.2)
def kpr2 (pr : Int32) (cs cv ms dp sx op zs : Nat → Int32) (q x y : Int32) (r : Int32 × (Nat → Int32)) : Int32 × (Nat → Int32) :=
  (r.1 + (kcmp pr cs cv ms dp sx op zs r.2 y x q).1, (kcmp pr cs cv ms dp sx op zs r.2 y x q).2)
def kpr3 (pr : Int32) (cs cv ms dp sx op zs : Nat → Int32) (q x : Int32) (r : (Nat → Int32) × (Nat → Int32)) : (Nat → Int32) × (Nat → Int32) :=
  ((kups (kpr2 pr cs cv ms dp sx op zs q x) x 0 (0, r.1)).2, kput 7 r.2 x (kat 7 r.2 (x + 1) + (kups (kpr2 pr cs cv ms dp sx op zs q x) x 0 (0, r.1)).1))
def kprA (sz lk gv se zs op : Nat → Int32) (pl : Int32) : (Nat → Int32) × (Nat → Int32) := kups (kpr1 sz lk gv se) (kplc pl) 0 (zs, op)
def kprB (pr : Int32) (cs cv ms dp sx : Nat → Int32) (q : Int32) (zo : (Nat → Int32) × (Nat → Int32)) (al ho : Nat → Int32) (pl : Int32) : (Nat → Int32) × (Nat → Int32) :=
  kdns (kpr3 pr cs cv ms dp sx zo.2 zo.1 q) (kplc pl - 1) (al, kput 7 ho (kplc pl) 0)
theorem kpr3_e {pr : Int32} {cs cv ms dp sx op zs g3 g4 g5 : Nat → Int32} {q x mo : Int32} (h : kups (kpr2 pr cs cv ms dp sx op zs q x) x 0 (0, g3) = (mo, g5)) : kpr3 pr cs cv ms dp sx op zs q x (g3, g4) = (g5, kput 7 g4 x (kat 7 g4 (x + 1) + mo)) := by
  unfold kpr3
  rw [show kups (kpr2 pr cs cv ms dp sx op zs q x) x 0 (0, (g3, g4).1) = (mo, g5) from h]
/-- the search that stops early: best worth, picks, best picks; one option, with what the deeper search does -/
def kse1 (al : Nat → Int32) (i w : Int32) (rec : Int32 → Int32 → Int32 × (Nat → Int32) × (Nat → Int32) → Int32 × (Nat → Int32) × (Nat → Int32)) (x : Int32) (r : Int32 × (Nat → Int32) × (Nat → Int32)) : Int32 × (Nat → Int32) × (Nat → Int32) :=
  rec (i + 1) (w + kgain al (kput 6 r.2.1 i x) i x) (r.1, kput 6 r.2.1 i x, r.2.2)
def kse2 (al ho zs : Nat → Int32) (cp : Int32) (rec : Int32 → Int32 → Int32 × (Nat → Int32) × (Nat → Int32) → Int32 × (Nat → Int32) × (Nat → Int32)) (i w : Int32) (r : Int32 × (Nat → Int32) × (Nat → Int32)) : Int32 × (Nat → Int32) × (Nat → Int32) :=
  if 6 < i then r else if ¬ r.1 < w + kat 7 ho i then r else if ¬ i < cp then (w, r.2.1, kups (kkee r.2.1) cp 0 r.2.2)
  else kups (kse1 al i w rec) (i * 5 + kat 6 zs i) (i * 5) r
def ksek (al ho zs : Nat → Int32) (cp : Int32) : Nat → Int32 → Int32 → Int32 × (Nat → Int32) × (Nat → Int32) → Int32 × (Nat → Int32) × (Nat → Int32)
  | 0 => fun _ _ r => r
  | d + 1 => kse2 al ho zs cp (ksek al ho zs cp d)
/-- the search that tries all: the greatest worth, the picks -/
def kgr1 (al : Nat → Int32) (i w : Int32) (rec : Int32 → Int32 → (Nat → Int32) → Int32 × (Nat → Int32)) (x : Int32) (r : Int32 × (Nat → Int32)) : Int32 × (Nat → Int32) :=
  (if r.1 < (rec (i + 1) (w + kgain al (kput 6 r.2 i x) i x) (kput 6 r.2 i x)).1 then (rec (i + 1) (w + kgain al (kput 6 r.2 i x) i x) (kput 6 r.2 i x)).1 else r.1, (rec (i + 1) (w + kgain al (kput 6 r.2 i x) i x) (kput 6 r.2 i x)).2)
def kgr2 (al zs : Nat → Int32) (cp : Int32) (rec : Int32 → Int32 → (Nat → Int32) → Int32 × (Nat → Int32)) (i w : Int32) (g : Nat → Int32) : Int32 × (Nat → Int32) :=
  if 6 < i then (w, g) else if ¬ i < cp then (w, g) else kups (kgr1 al i w rec) (i * 5 + kat 6 zs i) (i * 5) (0, g)
def kgre (al zs : Nat → Int32) (cp : Int32) : Nat → Int32 → Int32 → (Nat → Int32) → Int32 × (Nat → Int32)
  | 0 => fun _ w g => (w, g)
  | d + 1 => kgr2 al zs cp (kgre al zs cp d)
