/-! p28: what an object holds that its answers rest on (its core), and what each edit answers and leaves. -/
abbrev kCS : Type := Int32 × Int32 × Int32 × Int32 × (Nat → Int32) × (Nat → Int32) × (Nat → Int32) × (Nat → Int32) × (Nat → Int32) × (Nat → Int32) × (Nat → Int32) × (Nat → Int32) × (Nat → Int32) × (Nat → Int32)
abbrev kAd (c : kCS) : Int32 := c.1
abbrev kPr (c : kCS) : Int32 := c.2.1
abbrev kKn (c : kCS) : Int32 := c.2.2.1
abbrev kPl (c : kCS) : Int32 := c.2.2.2.1
abbrev kPa (c : kCS) : Nat → Int32 := c.2.2.2.2.1
abbrev kCs (c : kCS) : Nat → Int32 := c.2.2.2.2.2.1
abbrev kCo (c : kCS) : Nat → Int32 := c.2.2.2.2.2.2.1
abbrev kMa (c : kCS) : Nat → Int32 := c.2.2.2.2.2.2.2.1
abbrev kDe (c : kCS) : Nat → Int32 := c.2.2.2.2.2.2.2.2.1
abbrev kSx (c : kCS) : Nat → Int32 := c.2.2.2.2.2.2.2.2.2.1
abbrev kGv (c : kCS) : Nat → Int32 := c.2.2.2.2.2.2.2.2.2.2.1
abbrev kSz (c : kCS) : Nat → Int32 := c.2.2.2.2.2.2.2.2.2.2.2.1
abbrev kLk (c : kCS) : Nat → Int32 := c.2.2.2.2.2.2.2.2.2.2.2.2.1
abbrev kSe (c : kCS) : Nat → Int32 := c.2.2.2.2.2.2.2.2.2.2.2.2.2
/-- the core stands as the edits keep it -/
def kInv (c : kCS) : Prop := ∃ (A W P : Nat) (cn rk nf wf : Nat → Nat) (pa : Nat → Int32), kRN A cn rk (kAd c) (kPr c) (kPa c) (kCs c) (kCo c) (kMa c) (kDe c) (kSx c) pa ∧ kRW W P nf wf (kPr c) (kKn c) (kPl c) (kGv c) (kSz c) (kLk c) (kSe c)
theorem kInv_mk {ad pr kn pl : Int32} {ps cs cv ms dp sx gv sz lk se pa : Nat → Int32} {A W P : Nat} {cn rk nf wf : Nat → Nat} (hN : kRN A cn rk ad pr ps cs cv ms dp sx pa) (hW : kRW W P nf wf pr kn pl gv sz lk se) : kInv (ad, pr, kn, pl, ps, cs, cv, ms, dp, sx, gv, sz, lk, se) := ⟨A, W, P, cn, rk, nf, wf, pa, hN, hW⟩
/-- links or senses edited: all that follows worked out -/
abbrev kSet (c : kCS) (ad pr : Int32) (ps cs : Nat → Int32) : kCS :=
  (ad, pr, kKn c, kPl c, ps, cs, (kset pr ps (kCo c) (kDe c) (kSx c) 30).1, kwei cs (kset pr ps (kCo c) (kDe c) (kSx c) 30).1 (kMa c) 30, (kset pr ps (kCo c) (kDe c) (kSx c) 30).2.1, (kset pr ps (kCo c) (kDe c) (kSx c) 30).2.2, kGv c, kSz c, kLk c, kSe c)
abbrev kWrd (c : kCS) (kn pl : Int32) (gv sz lk se : Nat → Int32) : kCS := (kAd c, kPr c, kn, pl, kPa c, kCs c, kCo c, kMa c, kDe c, kSx c, gv, sz, lk, se)
def oOr (p : Prop) [Decidable p] (c : kCS) (r : Int32) (c1 : kCS) : Int32 × kCS := if p then (r, c1) else (-99999, c)
def oAdd (c : kCS) : Int32 × kCS := oOr (kcAdd (kAd c) = 0) c (kAd c) (kSet c (kAd c + 1) (kPr c ||| kbit (kAd c)) (kPa c) (kCs c))
def oLnk (c : kCS) (i k : Int32) : Int32 × kCS := oOr (kcLink (kPr c) (kPa c) (kCo c) i k = 0) c (kpop (kat 30 (kput 30 (kPa c) i (kat 30 (kPa c) i ||| kbit k)) i)) (kSet c (kAd c) (kPr c) (kput 30 (kPa c) i (kat 30 (kPa c) i ||| kbit k)) (kCs c))
def oUnl (c : kCS) (i k : Int32) : Int32 × kCS := oOr (kcUnl (kPr c) (kPa c) i k = 0) c (kpop (kat 30 (kput 30 (kPa c) i (kat 30 (kPa c) i &&& (kbit k ^^^ (-1)))) i)) (kSet c (kAd c) (kPr c) (kput 30 (kPa c) i (kat 30 (kPa c) i &&& (kbit k ^^^ (-1)))) (kCs c))
def oRem (c : kCS) (i : Int32) : Int32 × kCS := oOr (kcRem (kPr c) (kKn c) (kPa c) (kSz c) (kGv c) i = 0) c (klos (kPa c) i 30).2 (kSet c (kAd c) (kPr c &&& (kbit i ^^^ (-1))) (kput 30 (klos (kPa c) i 30).1 i 0) (kput 30 (kCs c) i 0))
def oCnt (c : kCS) (i k : Int32) : Int32 × kCS := oOr (kcCnt (kPr c) i k = 0) c (kat 30 (kCs c) i) (kAd c, kPr c, kKn c, kPl c, kPa c, kput 30 (kCs c) i k, kCo c, kwei (kput 30 (kCs c) i k) (kCo c) (kMa c) 30, kDe c, kSx c, kGv c, kSz c, kLk c, kSe c)
def oAdw (c : kCS) : Int32 × kCS := oOr (kcAdw (kKn c) = 0) c (kKn c) (kWrd c (kKn c + 1) (kPl c) (kGv c) (kput 10 (kSz c) (kKn c) 0) (kput 10 (kLk c) (kKn c) (-1)) (kSe c))
def oGiv (c : kCS) (i k : Int32) : Int32 × kCS := oOr (kcGiv (kPr c) (kKn c) (kSz c) (kGv c) i k = 0) c (kat 10 (kSz c) i + 1) (kWrd c (kKn c) (kPl c) (kput 50 (kGv c) (i * 5 + kat 10 (kSz c) i) k) (kput 10 (kSz c) i (kat 10 (kSz c) i + 1)) (kLk c) (kSe c))
def oTak (c : kCS) (i k : Int32) : Int32 × kCS := oOr (kcTak (kPr c) (kKn c) (kPl c) (kSz c) (kGv c) (kSe c) i k = 0) c (kat 10 (kSz c) i - 1) (kWrd c (kKn c) (kPl c) (kdr (kSz c) (kGv c) i k) (kput 10 (kSz c) i (kat 10 (kSz c) i - 1)) (klck (kLk c) i k) (kSe c))
def oLoc (c : kCS) (i k : Int32) : Int32 × kCS := oOr (kcLoc (kKn c) (kSz c) (kGv c) i k = 0) c (kat 10 (kLk c) i) (kWrd c (kKn c) (kPl c) (kGv c) (kSz c) (kput 10 (kLk c) i k) (kSe c))
def oSay (c : kCS) (i : Int32) : Int32 × kCS := oOr (kcSay (kKn c) (kPl c) (kSz c) i = 0) c (kPl c + 1) (kWrd c (kKn c) (kPl c + 1) (kGv c) (kSz c) (kLk c) (kput 6 (kSe c) (kPl c) i))
def oHus (c : kCS) : Int32 × kCS := (kPl c, kWrd c (kKn c) 0 (kGv c) (kSz c) (kLk c) (kSe c))
/-- an edit: it keeps what stands; what is refused changes nothing -/
def kFine (c : kCS) (r : Int32 × kCS) : Prop := kInv r.2 ∧ (r.1 = -99999 → r.2 = c)
theorem oOr_i {p : Prop} [Decidable p] {c c1 : kCS} {r : Int32} (h0 : kInv c) (h1 : p → kInv c1 ∧ ¬ r = -99999) : kFine c (oOr p c r c1) := by
  unfold oOr kFine
  by_cases e : p
  · rw [if_pos e]; exact ⟨(h1 e).1, fun z => absurd z (h1 e).2⟩
  · rw [if_neg e]; exact ⟨h0, fun _ => rfl⟩
theorem i_99 {n : Nat} (h : n < 2 ^ 31) : ¬ nI n = -99999 := fun z => nI_pos h (by rw [z]; decide)
theorem kcnt_le (z : Int32) (n : Nat) : kcnt z n ≤ n := by rw [kcnt_c]; exact kct_le _ _
theorem kkid_n {tr : Int32} {pa : Nat → Int32} {a : Nat} : ∀ n, ∃ m, m ≤ n ∧ kkid tr pa a n = nI m := by
  intro n
  induction n with
  | zero => exact ⟨0, Nat.le_refl _, rfl⟩
  | succ n ih =>
    obtain ⟨m, h1, h2⟩ := ih
    show ∃ q, q ≤ n + 1 ∧ kkid tr pa a n + nB (bt tr n && bt (pa n) a) = nI q
    rw [h2, nB_nI, nI_add]
    exact ⟨_, by split <;> omega, rfl⟩
theorem oAdd_i {c : kCS} (h : kInv c) : kFine c (oAdd c) := by
  refine oOr_i h (fun e => ?_)
  obtain ⟨A, W, P, cn, rk, nf, wf, pa, hN, hW⟩ := h
  have k := (kO_add hN).2 e
  refine ⟨kInv_mk k.2 (kRW_m hW (fun w o s _ _ _ _ h => ?_)), ?_⟩
  · show bt (kPr c ||| kbit (kAd c)) s = true
    rw [b_or, h, Bool.true_or]
  · rw [show kAd c = nI A from hN.1.1]
    exact i_99 (by have := hN.1.2; omega)
theorem oLnk_i {c : kCS} (i k : Int32) (h : kInv c) : kFine c (oLnk c i k) := by
  refine oOr_i h (fun e => ?_)
  obtain ⟨A, W, P, cn, rk, nf, wf, pa, hN, hW⟩ := h
  obtain ⟨k1, rk2, k2⟩ := (kO_link i k hN).2 e
  refine ⟨kInv_mk k2 hW, ?_⟩
  rw [k1]
  exact i_99 (Nat.lt_of_le_of_lt (kcnt_le _ _) (by decide))
theorem oUnl_i {c : kCS} (i k : Int32) (h : kInv c) : kFine c (oUnl c i k) := by
  refine oOr_i h (fun e => ?_)
  obtain ⟨A, W, P, cn, rk, nf, wf, pa, hN, hW⟩ := h
  obtain ⟨k1, k2⟩ := (kO_unl i k hN).2 e
  refine ⟨kInv_mk k2 hW, ?_⟩
  rw [k1]
  exact i_99 (Nat.lt_of_le_of_lt (kcnt_le _ _) (by decide))
theorem oRem_i {c : kCS} (i : Int32) (h : kInv c) : kFine c (oRem c i) := by
  refine oOr_i h (fun e => ?_)
  obtain ⟨A, W, P, cn, rk, nf, wf, pa, hN, hW⟩ := h
  obtain ⟨k1, k2, cn2, k3⟩ := (kO_rem i hN hW).2 e
  refine ⟨kInv_mk k3 k2, ?_⟩
  obtain ⟨m, m1, m2⟩ := kkid_n (tr := kPr c) (pa := pa) (a := i.toNatClampNeg) 30
  rw [k1, m2]
  exact i_99 (by omega)
theorem oCnt_i {c : kCS} (i k : Int32) (h : kInv c) : kFine c (oCnt c i k) := by
  refine oOr_i h (fun e => ?_)
  obtain ⟨A, W, P, cn, rk, nf, wf, pa, hN, hW⟩ := h
  obtain ⟨cn2, k2⟩ := (kO_cnt i k hN).2 e
  refine ⟨⟨A, W, P, cn2, rk, nf, wf, _, k2, hW⟩, ?_⟩
  unfold kcCnt at e
  by_cases ci : khas (kPr c) i = false
  · rw [if_pos ci] at e; exact absurd e (by decide)
  · have ci : khas (kPr c) i = true := by
      cases z : khas (kPr c) i with
      | true => rfl
      | false => exact absurd z ci
    obtain ⟨a, ha, rfl, _⟩ := khas_in ci
    have q := hN.2.2.1.2.2 a ha
    rw [kat_nI ha (by decide), q.1]
    exact i_99 (by have := q.2; omega)
theorem oAdw_i {c : kCS} (h : kInv c) : kFine c (oAdw c) := by
  refine oOr_i h (fun e => ?_)
  obtain ⟨A, W, P, cn, rk, nf, wf, pa, hN, hW⟩ := h
  obtain ⟨k1, k2, nf2, k3⟩ := (kO_adw hW).2 e
  refine ⟨⟨A, W + 1, P, cn, rk, nf2, wf, pa, hN, ?_⟩, ?_⟩
  · show kRW (W + 1) P nf2 wf (kPr c) (kKn c + 1) (kPl c) (kGv c) (kput 10 (kSz c) (kKn c) 0) (kput 10 (kLk c) (kKn c) (-1)) (kSe c)
    rw [k1, k2]; exact k3
  · rw [show kKn c = nI W from hW.1.1]
    exact i_99 (by have := hW.1.2; omega)
theorem kwex_f {kn i : Int32} {x : Int32} (h : (if kwex kn i = false then 1 else x) = 0) : ¬ kwex kn i = false := fun z => by rw [if_pos z] at h; exact absurd h (by decide)
theorem oGiv_i {c : kCS} (i k : Int32) (h : kInv c) : kFine c (oGiv c i k) := by
  refine oOr_i h (fun e => ?_)
  obtain ⟨A, W, P, cn, rk, nf, wf, pa, hN, hW⟩ := h
  obtain ⟨k1, nf2, k3⟩ := (kO_giv i k hW).2 e
  refine ⟨⟨A, W, P, cn, rk, nf2, wf, pa, hN, ?_⟩, ?_⟩
  · show kRW W P nf2 wf (kPr c) (kKn c) (kPl c) (kput 50 (kGv c) (i * 5 + kat 10 (kSz c) i) k) (kput 10 (kSz c) i (kat 10 (kSz c) i + 1)) (kLk c) (kSe c)
    rw [k1]; exact k3
  · obtain ⟨w, hw, rfl⟩ := kwex_t (kwex_f e) hW.1.1 hW.1.2
    have q := hW.2.2.1 w hw
    have h10 := hW.1.2
    rw [kat_nI (by omega) (by decide), q.1, nI_1]
    exact i_99 (by have := q.2.1; omega)
theorem oTak_i {c : kCS} (i k : Int32) (h : kInv c) : kFine c (oTak c i k) := by
  refine oOr_i h (fun e => ?_)
  obtain ⟨A, W, P, cn, rk, nf, wf, pa, hN, hW⟩ := h
  obtain ⟨k1, k2, nf2, k3⟩ := (kO_tak i k hW).2 e
  refine ⟨⟨A, W, P, cn, rk, nf2, wf, pa, hN, ?_⟩, ?_⟩
  · show kRW W P nf2 wf (kPr c) (kKn c) (kPl c) (kdr (kSz c) (kGv c) i k) (kput 10 (kSz c) i (kat 10 (kSz c) i - 1)) (klck (kLk c) i k) (kSe c)
    rw [k1, k2]; exact k3
  · obtain ⟨w, hw, rfl⟩ := kwex_t (kwex_f e) hW.1.1 hW.1.2
    have q := hW.2.2.1 w hw
    have h10 := hW.1.2
    rw [kat_nI (by omega) (by decide), q.1]
    exact (show ∀ n, n ≤ 5 → ¬ nI n - 1 = -99999 by decide) _ q.2.1
theorem oLoc_i {c : kCS} (i k : Int32) (h : kInv c) : kFine c (oLoc c i k) := by
  refine oOr_i h (fun e => ?_)
  obtain ⟨A, W, P, cn, rk, nf, wf, pa, hN, hW⟩ := h
  refine ⟨⟨A, W, P, cn, rk, nf, wf, pa, hN, (kO_loc i k hW).2 e⟩, ?_⟩
  obtain ⟨w, hw, rfl⟩ := kwex_t (kwex_f e) hW.1.1 hW.1.2
  have q := hW.2.2.1 w hw
  have h10 := hW.1.2
  rw [kat_nI (by omega) (by decide)]
  rcases q.2.2.2.2 with z | ⟨o, o1, o2⟩
  · rw [z]; decide
  · obtain ⟨s, s1, s2, _⟩ := q.2.2.1 o o1
    rw [o2, s2]
    exact i_99 (by omega)
theorem oSay_i {c : kCS} (i : Int32) (h : kInv c) : kFine c (oSay c i) := by
  refine oOr_i h (fun e => ?_)
  obtain ⟨A, W, P, cn, rk, nf, wf, pa, hN, hW⟩ := h
  obtain ⟨k1, wf2, k3⟩ := (kO_say i hW).2 e
  refine ⟨⟨A, W, P + 1, cn, rk, nf, wf2, pa, hN, ?_⟩, ?_⟩
  · show kRW W (P + 1) nf wf2 (kPr c) (kKn c) (kPl c + 1) (kGv c) (kSz c) (kLk c) (kput 6 (kSe c) (kPl c) i)
    rw [k1]; exact k3
  · rw [show kPl c = nI P from hW.2.1.1, nI_1]
    exact i_99 (by have := hW.2.1.2; omega)
theorem oHus_i {c : kCS} (h : kInv c) : kFine c (oHus c) := by
  obtain ⟨A, W, P, cn, rk, nf, wf, pa, hN, hW⟩ := h
  refine ⟨⟨A, W, 0, cn, rk, nf, wf, pa, hN, kO_hush hW⟩, fun z => absurd z ?_⟩
  show ¬ kPl c = -99999
  rw [show kPl c = nI P from hW.2.1.1]
  exact i_99 (by have := hW.2.1.2; omega)
/-- the law's numbers out of a cell of its script -/
def klow (v n : Int32) : Int32 := (v &&& 2147483647) - (v &&& 2147483647) / n * n
theorem klow_n (v : Int32) {n : Nat} (h0 : 0 < n) (hn : n < 2 ^ 31) : ∃ k, k < n ∧ klow v (nI n) = nI k := by
  obtain ⟨j, hj, e⟩ := pk_andE v (m := 2147483647) 31 (by decide)
  unfold klow
  rw [e, pk_rem (show j < 2 ^ 31 from hj) h0 hn]
  exact ⟨j % n, Nat.mod_lt _ h0, rfl⟩
def kActN (c : kCS) (v : Int32) : Nat → Int32 × kCS
  | 0 | 1 | 2 | 3 => if klow (v >>> (14 &&& 31)) 4 ≤ 0 then oCnt c (klow (v >>> (4 &&& 31)) 14) (klow (v >>> (9 &&& 31)) 1010 - 5) else oAdd c
  | 4 | 5 | 6 | 7 => oLnk c (klow (v >>> (4 &&& 31)) 14) (klow (v >>> (8 &&& 31)) 14)
  | 8 => oUnl c (klow (v >>> (4 &&& 31)) 14) (klow (v >>> (8 &&& 31)) 14)
  | 9 => if ¬ klow (v >>> (14 &&& 31)) 2 = 0 then oLnk c (klow (v >>> (4 &&& 31)) 14) (klow (v >>> (8 &&& 31)) 14) else oRem c (klow (v >>> (4 &&& 31)) 14)
  | 10 | 11 => oCnt c (klow (v >>> (4 &&& 31)) 14) (klow (v >>> (12 &&& 31)) 20)
  | 12 => oAdw c
  | 13 | 14 => oGiv c (klow (v >>> (4 &&& 31)) 4) (klow (v >>> (8 &&& 31)) 14)
  | 15 => if ¬ klow (v >>> (14 &&& 31)) 3 = 0 then oGiv c (klow (v >>> (4 &&& 31)) 4) (klow (v >>> (8 &&& 31)) 14) else oTak c (klow (v >>> (4 &&& 31)) 4) (klow (v >>> (8 &&& 31)) 14)
  | 16 => oLoc c (klow (v >>> (4 &&& 31)) 4) (klow (v >>> (8 &&& 31)) 14 - 1)
  | 17 | 18 => oSay c (klow (v >>> (4 &&& 31)) 4)
  | _ => if ¬ klow (v >>> (14 &&& 31)) 4 = 0 then oSay c (klow (v >>> (4 &&& 31)) 4) else oHus c
def kAct (c : kCS) (v : Int32) : Int32 × kCS := kActN c v (klow v 20).toNatClampNeg
theorem kFine_if {p : Prop} [Decidable p] {c : kCS} {x y : Int32 × kCS} (h1 : kFine c x) (h2 : kFine c y) : kFine c (if p then x else y) := by
  by_cases e : p
  · rw [if_pos e]; exact h1
  · rw [if_neg e]; exact h2
theorem kAct_i {c : kCS} (v : Int32) (h : kInv c) : kFine c (kAct c v) := by
  unfold kAct
  obtain ⟨k, hk, e⟩ := klow_n v (n := 20) (by decide) (by decide)
  rw [show klow v 20 = nI k from e, nI_clamp (show k < 2 ^ 31 by omega)]
  have a := oAdd_i h
  have b := fun i k => oLnk_i i k h
  have d := fun i k => oCnt_i i k h
  have f := fun i k => oGiv_i i k h
  have g := fun i => oSay_i i h
  rcases (show k = 0 ∨ k = 1 ∨ k = 2 ∨ k = 3 ∨ k = 4 ∨ k = 5 ∨ k = 6 ∨ k = 7 ∨ k = 8 ∨ k = 9 ∨ k = 10 ∨ k = 11 ∨ k = 12 ∨ k = 13 ∨ k = 14 ∨ k = 15 ∨ k = 16 ∨ k = 17 ∨ k = 18 ∨ k = 19 by omega) with rfl | rfl | rfl | rfl | rfl | rfl | rfl | rfl | rfl | rfl | rfl | rfl | rfl | rfl | rfl | rfl | rfl | rfl | rfl | rfl
  · exact kFine_if (d _ _) a
  · exact kFine_if (d _ _) a
  · exact kFine_if (d _ _) a
  · exact kFine_if (d _ _) a
  · exact b _ _
  · exact b _ _
  · exact b _ _
  · exact b _ _
  · exact oUnl_i _ _ h
  · exact kFine_if (b _ _) (oRem_i _ h)
  · exact d _ _
  · exact d _ _
  · exact oAdw_i h
  · exact f _ _
  · exact f _ _
  · exact kFine_if (f _ _) (oTak_i _ _ h)
  · exact oLoc_i _ _ h
  · exact g _
  · exact g _
  · exact kFine_if (g _) (oHus_i h)
