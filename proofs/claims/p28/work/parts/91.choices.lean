/-! p28: areChoicesSo. -/
def kbe (P : Nat) (sf : Nat → Nat) (k : Nat) : Int32 := if k < P then nI (sf k) else -1
theorem kcCho_o {pl q : Int32} {P : Nat} (h : pl = nI P) (hP : P ≤ 6) : kcCho pl (nI P) q = 1 := by
  unfold kcCho
  rw [if_neg (nI_pos (by omega)), h, if_pos (nI_nlt (Nat.le_refl P) (by omega))]
theorem kcCho_i {pl q : Int32} {P v : Nat} (h : pl = nI P) (hP : P ≤ 6) (hv : v < P) (hq : kin q 0 2 = true) : kcCho pl (nI v) q = 0 := by
  unfold kcCho
  rw [if_neg (nI_pos (by omega)), h, if_neg (Classical.not_not.mpr (nI_lt hv (by omega))), hq]; rfl
theorem kfCho_b {c : kCS} {x : kXS} {q : Int32} (hkq : kin q 0 2 = true) {A Wn P : Nat} {cn rk nf wf : Nat → Nat} {pa : Nat → Int32} {sf : Nat → Nat} (hN : kRN A cn rk (kAd c) (kPr c) (kPa c) (kCs c) (kCo c) (kMa c) (kDe c) (kSx c) pa) (hW : kRW Wn P nf wf (kPr c) (kKn c) (kPl c) (kGv c) (kSz c) (kLk c) (kSe c)) (hF : kFin P (kon nf wf (kLk c)) (ksN wf (kGv c) (kLk c)) (kLL (kPr c) (kCs c) (kCo c) (kMa c) (kDe c) (kSx c) q) (nI (kwN (kLL (kPr c) (kCs c) (kCo c) (kMa c) (kDe c) (kSx c) q) sf P)) (fun k => nI (sf k))) {v : Nat} (hv : v ≤ P) : kfCho c x (nI v) q = kbe P sf v := by
  unfold kfCho kbe
  rcases Nat.lt_or_ge v P with h | h
  · rw [if_pos (kcCho_i hW.2.1.1 hW.2.1.2 h hkq), if_pos h]
    exact (kR_best q hN hW hF).2 v h
  · have e : v = P := by omega
    subst e
    have o : kcCho (kPl c) (nI v) q = 1 := kcCho_o hW.2.1.1 hW.2.1.2
    rw [o, if_neg (show ¬ v < v from Nat.lt_irrefl v)]; rfl
theorem kfCho_z {c : kCS} {x : kXS} {Wn P : Nat} {nf wf : Nat → Nat} (hW : kRW Wn P nf wf (kPr c) (kKn c) (kPl c) (kGv c) (kSz c) (kLk c) (kSe c)) (h : P = 0) : kfCho c x 0 3 = -1 := by
  subst h
  have o : kcCho (kPl c) 0 3 = 1 := kcCho_o (P := 0) hW.2.1.1 hW.2.1.2
  unfold kfCho
  rw [o]; rfl
theorem kfCho_n {c : kCS} {x : kXS} {Wn P : Nat} {nf wf : Nat → Nat} (hW : kRW Wn P nf wf (kPr c) (kKn c) (kPl c) (kGv c) (kSz c) (kLk c) (kSe c)) (h : ¬ P = 0) : kfCho c x 0 3 = -2 := by
  have o : kcCho (kPl c) 0 3 = 2 := by
    have h6 := hW.2.1.2
    unfold kcCho
    rw [if_neg (by decide), show kPl c = nI P from hW.2.1.1, if_neg (Classical.not_not.mpr (show (0 : Int32) < nI P from nI_lt (a := 0) (b := P) (by omega) (by omega)))]; rfl
  unfold kfCho
  rw [o]; rfl
theorem kbe_s {P j : Nat} {sf : Nat → Nat} {g : Nat → Int32} {y : Int32} (h : ∀ k, k ≤ j → g k = kbe P sf k) (hy : y = kbe P sf (j + 1)) : ∀ k, k ≤ j + 1 → upd g (j + 1) y k = kbe P sf k := by
  intro k hk
  by_cases e : k = j + 1
  · subst e; rw [pk_us]; exact hy
  · rw [pk_un e]; exact h k (by omega)
theorem kbe_0 {P : Nat} {sf : Nat → Nat} {g : Nat → Int32} {y : Int32} (hy : y = kbe P sf 0) : ∀ k, k ≤ 0 → upd g 0 y k = kbe P sf k := by
  intro k hk
  have e : k = 0 := by omega
  subst e; rw [pk_us]; exact hy
set_option maxHeartbeats 4000000 in
set_option maxRecDepth 100000 in
theorem cw_areChoicesSo (l : Launch) (D : va_G) (cI : ClassId) (a : Nat → Nat) (c : kCS) (x : kXS) (w : Nat) (f : Nat → Int32) (q : Int32) (hkq : kin q 0 2 = true) {A Wn P : Nat} {cn rk nf wf : Nat → Nat} {pa : Nat → Int32} (sf : Nat → Nat) (hN : kRN A cn rk (kAd c) (kPr c) (kPa c) (kCs c) (kCo c) (kMa c) (kDe c) (kSx c) pa) (hW : kRW Wn P nf wf (kPr c) (kKn c) (kPl c) (kGv c) (kSz c) (kLk c) (kSe c)) (hsf : ∀ k, k < P → sf k < 30 ∧ bt (kPr c) (sf k) = true) (hF : kFin P (kon nf wf (kLk c)) (ksN wf (kGv c) (kLk c)) (kLL (kPr c) (kCs c) (kCo c) (kMa c) (kDe c) (kSx c) q) (nI (kwN (kLL (kPr c) (kCs c) (kCo c) (kMa c) (kDe c) (kSx c) q) sf P)) (fun k => nI (sf k))) (hfl : l.stackTraces = false) : kc_X l yL_areChoicesSo wsL_areChoicesSo 13 312 120 720 D cI [.ref (a 0), .ref w, .int q] (oW cI a c x ++ [(w, .inl (cI, 8, .inl f))]) (fun (r : Int32) (_ : kXS × (Nat → Int32)) => r = 1) (fun u => oW cI a c u.1 ++ [(w, .inl (cI, 8, .inl u.2))]) (fun _ => False) := by
  refine ks_X (cc := cL_areChoicesSo) (nL := 7) (ret := (some .boolean)) (by decide) rfl (Nat.le_of_ble_eq_true rfl) ?_
  intro p e s m below meth cd ls hF ht hP hK hX hZ hS hA hD hl
  obtain ⟨hx, hb, hr, hml, hown, hts, hlocks⟩ := hF
  have hown : s.vm.findClass RL = some m.cls := hown
  have hS := kx_wk (ws := (oW cI a c x ++ [(w, .inl (cI, 8, .inl f))])) hS
  have hl : lv_has ls 7 [(0, .ref (a 0)), (1, .ref w), (2, .int q)] := hl
  have hP6 : P ≤ 6 := hW.2.1.2
  obtain ⟨mq, m1, m2, m3, m4⟩ := kC_cho hW
  refine lv_iconst (v := 0) hx hb dL_areChoicesSo_0 (by decide) ?_
  refine lv_istore_n (lv' := [(3, .int 0), (0, .ref (a 0)), (1, .ref w), (2, .int q)]) hx hb dL_areChoicesSo_1 rfl hl (by decide) rfl (fun ls hl => ?_)
  refine lv_aload_n hx hb dL_areChoicesSo_2 rfl (lv_at hl 2 rfl) ?_
  refine lv_iconst (v := 0) hx hb dL_areChoicesSo_3 (by decide) ?_
  refine lv_aload_n hx hb dL_areChoicesSo_4 rfl (lv_at hl 1 rfl) ?_
  refine lv_iconst (v := 0) hx hb dL_areChoicesSo_5 (by decide) ?_
  refine lv_iload_n hx hb dL_areChoicesSo_6 rfl (lv_at hl 3 rfl) ?_
  refine kq_O (px := fun _ => False) (vx_runSX (As := [.ref (a 0), .int 0, .int q]) (rest := [.int 0, .ref w]) ⟨hx, hb, hml, hown, hts⟩ (cw_chosen l D cI a c x 0 q hfl _) (vx_cwSW 3 hts gL_areChoicesSo_L_chosen rfl rfl rfl (by decide +kernel) ⟨Nat.le_of_ble_eq_true rfl, Nat.le_of_ble_eq_true rfl⟩) (kp_OS hP hD hK hX hZ hS hA) rfl rfl hl.1 rfl (lv_room (Nat.le_of_ble_eq_true rfl)) dL_areChoicesSo_7 ⟨(show 0 + 1 ≤ 120 from by omega), (show 0 + 6 ≤ 720 from by omega)⟩) hP hD hS hA (fun E ce q9 H locs hE hP hS hcell hv hcl => hE.elim) (fun r_7 x1 H locs er_7 hP hD hS => ?_)
  have hP : va_P D vwCl ((oW cI a c x1) ++ ([(w, .inl (cI, 8, .inl f))])) H := hP
  have hD : va_D _ ((oW cI a c x1) ++ ([(w, .inl (cI, 8, .inl f))])) := hD
  have hP : va_P D vwCl (oW cI a c x1 ++ [(w, .inl (cI, 8, .inl f))]) H := hP
  have hD : va_D _ (oW cI a c x1 ++ [(w, .inl (cI, 8, .inl f))]) := hD
  have er_7 : r_7 = kfCho c x 0 q := er_7
  rw [er_7]
  refine va_iast (q0 := 21) (t0 := 0) (n := 8) (f := f) hx hb hK.1 hP hD hS rfl rfl (show vp_in (0 : Int32) 8 from vp_in_nI (n := 0) (by decide) (by decide)) dL_areChoicesSo_10 (fun H locs hP hD hS => ?_)
  rw [show (0 : Int32).toNatClampNeg = 0 from nI_clamp (n := 0) (by decide)] at hP hD
  have hP : va_P D vwCl (oW cI a c x1 ++ [(w, .inl (cI, 8, .inl (upd f 0 (kfCho c x 0 q))))]) H := hP
  have hD : va_D _ (oW cI a c x1 ++ [(w, .inl (cI, 8, .inl (upd f 0 (kfCho c x 0 q))))]) := hD
  refine kl_forc (head := 11) (N := P) (kc := 1) (kn := 6) (c0 := 0 + 1) (s0 := 0 + 6) (fun (j : Nat) (H : Heap) (locs : List Loc) (ls : Array Slot) => ∃ (x2 : kXS), ∃ (g : Nat → Int32), (∀ k, k ≤ j → g k = kbe P sf k) ∧ va_P D vwCl (oW cI a c x2 ++ [(w, .inl (cI, 8, .inl g))]) H ∧ va_D (va_A (oW cI a c x ++ [(w, .inl (cI, 8, .inl f))]) s.heap.size) (oW cI a c x2 ++ [(w, .inl (cI, 8, .inl g))]) ∧ va_S (va_A (oW cI a c x ++ [(w, .inl (cI, 8, .inl f))]) s.heap.size) s.heap H locs ∧ lv_has ls 7 [(0, .ref (a 0)), (1, .ref w), (2, .int q), (3, .int (nI j))]) ?_ ?_ ⟨x1, (upd f 0 (kfCho c x 0 q)), (kbe_0 (kfCho_b (v := 0) hkq hN hW hF (Nat.zero_le P))), hP, hD, hS, (lv_sub hl [1, 2, 3, 0] rfl)⟩
  · skip
    intro j hj H locs ls hJ ih11
    obtain ⟨x2, g, hI11, hP, hD, hS, hl⟩ := hJ
    refine lv_aload_n hx hb dL_areChoicesSo_11 rfl (lv_at hl 1 rfl) ?_
    refine lv_iload_n hx hb dL_areChoicesSo_12 rfl (lv_at hl 3 rfl) ?_
    refine va_iald (q0 := 21) (t0 := 0) (n := 8) (f := g) hx hb hK.1 hP rfl rfl (vp_in_nI (by omega) (by decide)) dL_areChoicesSo_13 ?_
    refine kx_top (show g (nI j).toNatClampNeg = nI (sf j) from by rw [nI_clamp (show j < 2 ^ 31 by omega), hI11 j (Nat.le_refl j)]; exact if_pos hj) ?_
    refine lv_if_lt (tgt := 32) hx hb dL_areChoicesSo_14 (by decide) (fun hc => absurd hc (nI_pos (by have := (hsf j hj).1; omega))) (fun _ => ?_)
    refine lv_iinc (v := nI (j + 1)) (lv' := [(3, .int (nI (j + 1))), (0, .ref (a 0)), (1, .ref w), (2, .int q)]) hx hb dL_areChoicesSo_17 hl (k := 3) rfl (nI_1 _) (by decide) rfl (fun ls hl => ?_)
    refine lv_aload_n hx hb dL_areChoicesSo_20 rfl (lv_at hl 2 rfl) ?_
    refine lv_iload_n hx hb dL_areChoicesSo_21 rfl (lv_at hl 0 rfl) ?_
    refine lv_aload_n hx hb dL_areChoicesSo_22 rfl (lv_at hl 1 rfl) ?_
    refine lv_iload_n hx hb dL_areChoicesSo_23 rfl (lv_at hl 0 rfl) ?_
    refine lv_iload_n hx hb dL_areChoicesSo_24 rfl (lv_at hl 3 rfl) ?_
    refine kq_O (px := fun _ => False) (vx_runSX (As := [.ref (a 0), .int (nI (j + 1)), .int q]) (rest := [.int (nI (j + 1)), .ref w]) ⟨hx, hb, hml, hown, hts⟩ (cw_chosen l D cI a c x2 (nI (j + 1)) q hfl _) (vx_cwSW 3 hts gL_areChoicesSo_L_chosen rfl rfl rfl (by decide +kernel) ⟨Nat.le_of_ble_eq_true rfl, Nat.le_of_ble_eq_true rfl⟩) (kp_OS hP hD hK hX hZ hS hA) rfl rfl hl.1 rfl (lv_room (Nat.le_of_ble_eq_true rfl)) dL_areChoicesSo_25 ⟨(show (0 + 1) + 1 * j + 1 ≤ 120 from by omega), (show (0 + 6) + 6 * j + 6 ≤ 720 from by omega)⟩) hP hD hS hA (fun E ce q9 H locs hE hP hS hcell hv hcl => hE.elim) (fun r_25 x3 H locs er_25 hP hD hS => ?_)
    have hP : va_P D vwCl ((oW cI a c x3) ++ ([(w, .inl (cI, 8, .inl g))])) H := hP
    have hD : va_D _ ((oW cI a c x3) ++ ([(w, .inl (cI, 8, .inl g))])) := hD
    have hP : va_P D vwCl (oW cI a c x3 ++ [(w, .inl (cI, 8, .inl g))]) H := hP
    have hD : va_D _ (oW cI a c x3 ++ [(w, .inl (cI, 8, .inl g))]) := hD
    have er_25 : r_25 = kfCho c x2 (nI (j + 1)) q := er_25
    rw [er_25]
    refine va_iast (q0 := 21) (t0 := 0) (n := 8) (f := g) hx hb hK.1 hP hD hS rfl rfl (vp_in_nI (by omega) (by decide)) dL_areChoicesSo_28 (fun H locs hP hD hS => ?_)
    rw [show (nI (j + 1) : Int32).toNatClampNeg = j + 1 from nI_clamp (by omega)] at hP hD
    have hP : va_P D vwCl (oW cI a c x3 ++ [(w, .inl (cI, 8, .inl (upd g (j + 1) (kfCho c x2 (nI (j + 1)) q))))]) H := hP
    have hD : va_D _ (oW cI a c x3 ++ [(w, .inl (cI, 8, .inl (upd g (j + 1) (kfCho c x2 (nI (j + 1)) q))))]) := hD
    refine lv_goto (tgt := 11) hx hb dL_areChoicesSo_29 (by decide) ?_
    refine W.widen (k := (0 + 1) + 1 * (j + 1)) (n := (0 + 6) + 6 * (j + 1)) (by omega) (by omega) ?_
    exact ih11 _ _ _ ⟨x3, (upd g (j + 1) (kfCho c x2 (nI (j + 1)) q)), (kbe_s hI11 (kfCho_b hkq hN hW hF (by omega))), hP, hD, hS, (lv_sub hl [1, 2, 3, 0] rfl)⟩
  · skip
    intro H locs ls hJ
    obtain ⟨x2, g, hI11, hP, hD, hS, hl⟩ := hJ
    refine lv_aload_n hx hb dL_areChoicesSo_11 rfl (lv_at hl 1 rfl) ?_
    refine lv_iload_n hx hb dL_areChoicesSo_12 rfl (lv_at hl 3 rfl) ?_
    refine va_iald (q0 := 21) (t0 := 0) (n := 8) (f := g) hx hb hK.1 hP rfl rfl (vp_in_nI (by omega) (by decide)) dL_areChoicesSo_13 ?_
    refine kx_top (show g (nI P).toNatClampNeg = (-1) from by rw [nI_clamp (show P < 2 ^ 31 by omega), hI11 P (Nat.le_refl P)]; exact if_neg (Nat.lt_irrefl P)) ?_
    refine lv_if_lt (tgt := 32) hx hb dL_areChoicesSo_14 (by decide) (fun _ => ?_) (fun hc => absurd (by decide) hc)
    refine lv_iconst (v := 0) hx hb dL_areChoicesSo_32 (by decide) ?_
    refine lv_istore (lv' := [(4, .int 0), (0, .ref (a 0)), (1, .ref w), (2, .int q), (3, .int (nI P))]) hx hb dL_areChoicesSo_33 hl (by decide) rfl (fun ls hl => ?_)
    refine lv_iconst (v := 0) hx hb dL_areChoicesSo_35 (by decide) ?_
    refine lv_istore (lv' := [(5, .int 0), (4, .int 0), (0, .ref (a 0)), (1, .ref w), (2, .int q), (3, .int (nI P))]) hx hb dL_areChoicesSo_36 hl (by decide) rfl (fun ls hl => ?_)
    refine kl_forc (head := 38) (N := P) (kc := 18) (kn := 108) (c0 := (0 + 1) + 1 * P) (s0 := (0 + 6) + 6 * P) (fun (v : Nat) (H : Heap) (locs : List Loc) (ls : Array Slot) => va_P D vwCl (oW cI a c x2 ++ [(w, .inl (cI, 8, .inl g))]) H ∧ va_D (va_A (oW cI a c x ++ [(w, .inl (cI, 8, .inl f))]) s.heap.size) (oW cI a c x2 ++ [(w, .inl (cI, 8, .inl g))]) ∧ va_S (va_A (oW cI a c x ++ [(w, .inl (cI, 8, .inl f))]) s.heap.size) s.heap H locs ∧ lv_has ls 7 [(0, .ref (a 0)), (1, .ref w), (2, .int q), (3, .int (nI P)), (4, .int (nI (kwN (kLL (kPr c) (kCs c) (kCo c) (kMa c) (kDe c) (kSx c) q) sf v))), (5, .int (nI v))]) ?_ ?_ ⟨hP, hD, hS, (lv_sub hl [2, 3, 4, 5, 1, 0] rfl)⟩
    · skip
      intro v hv H locs ls hJ ih38
      obtain ⟨hP, hD, hS, hl⟩ := hJ
      refine lv_iload hx hb dL_areChoicesSo_38 (lv_at hl 5 rfl) ?_
      refine lv_iload_n hx hb dL_areChoicesSo_40 rfl (lv_at hl 3 rfl) ?_
      refine lv_icmp_ge (tgt := 84) hx hb dL_areChoicesSo_41 (by decide) (fun hc => absurd hc (nI_ge hv (by omega))) (fun _ => ?_)
      refine lv_iconst (v := 0) hx hb dL_areChoicesSo_44 (by decide) ?_
      refine lv_istore (lv' := [(6, .int 0), (0, .ref (a 0)), (1, .ref w), (2, .int q), (3, .int (nI P)), (4, .int (nI (kwN (kLL (kPr c) (kCs c) (kCo c) (kMa c) (kDe c) (kSx c) q) sf v))), (5, .int (nI v))]) hx hb dL_areChoicesSo_45 hl (by decide) rfl (fun ls hl => ?_)
      refine kl_forc (head := 47) (N := v) (kc := 3) (kn := 18) (c0 := ((0 + 1) + 1 * P) + 18 * v) (s0 := ((0 + 6) + 6 * P) + 108 * v) (fun (y : Nat) (H : Heap) (locs : List Loc) (ls : Array Slot) => va_P D vwCl (oW cI a c x2 ++ [(w, .inl (cI, 8, .inl g))]) H ∧ va_D (va_A (oW cI a c x ++ [(w, .inl (cI, 8, .inl f))]) s.heap.size) (oW cI a c x2 ++ [(w, .inl (cI, 8, .inl g))]) ∧ va_S (va_A (oW cI a c x ++ [(w, .inl (cI, 8, .inl f))]) s.heap.size) s.heap H locs ∧ lv_has ls 7 [(0, .ref (a 0)), (1, .ref w), (2, .int q), (3, .int (nI P)), (4, .int (nI (kwNi (kLL (kPr c) (kCs c) (kCo c) (kMa c) (kDe c) (kSx c) q) sf v y (kwN (kLL (kPr c) (kCs c) (kCo c) (kMa c) (kDe c) (kSx c) q) sf v)))), (5, .int (nI v)), (6, .int (nI y))]) ?_ ?_ ⟨hP, hD, hS, (lv_sub hl [1, 2, 3, 4, 5, 6, 0] rfl)⟩
      · skip
        intro y hy H locs ls hJ ih47
        obtain ⟨hP, hD, hS, hl⟩ := hJ
        refine lv_iload hx hb dL_areChoicesSo_47 (lv_at hl 6 rfl) ?_
        refine lv_iload hx hb dL_areChoicesSo_49 (lv_at hl 5 rfl) ?_
        refine lv_icmp_ge (tgt := 78) hx hb dL_areChoicesSo_51 (by decide) (fun hc => absurd hc (nI_ge hy (by omega))) (fun _ => ?_)
        refine lv_iload hx hb dL_areChoicesSo_54 (lv_at hl 4 rfl) ?_
        refine lv_aload_n hx hb dL_areChoicesSo_56 rfl (lv_at hl 0 rfl) ?_
        refine lv_aload_n hx hb dL_areChoicesSo_57 rfl (lv_at hl 1 rfl) ?_
        refine lv_iload hx hb dL_areChoicesSo_58 (lv_at hl 6 rfl) ?_
        refine va_iald (q0 := 21) (t0 := 0) (n := 8) (f := g) hx hb hK.1 hP rfl rfl (vp_in_nI (by omega) (by decide)) dL_areChoicesSo_60 ?_
        refine kx_top (show g (nI y).toNatClampNeg = nI (sf y) from by rw [nI_clamp (show y < 2 ^ 31 by omega), hI11 y (by omega)]; exact if_pos (by omega)) ?_
        refine lv_aload_n hx hb dL_areChoicesSo_61 rfl (lv_at hl 1 rfl) ?_
        refine lv_iload hx hb dL_areChoicesSo_62 (lv_at hl 5 rfl) ?_
        refine va_iald (q0 := 21) (t0 := 0) (n := 8) (f := g) hx hb hK.1 hP rfl rfl (vp_in_nI (by omega) (by decide)) dL_areChoicesSo_64 ?_
        refine kx_top (show g (nI v).toNatClampNeg = nI (sf v) from by rw [nI_clamp (show v < 2 ^ 31 by omega), hI11 v (by omega)]; exact if_pos (by omega)) ?_
        refine lv_iload_n hx hb dL_areChoicesSo_65 rfl (lv_at hl 2 rfl) ?_
        refine kq_O (px := fun _ => False) (vx_runV (As := [.int (nI (sf y)), .int (nI (sf v)), .int q]) (rest := [.int (nI (kwNi (kLL (kPr c) (kCs c) (kCo c) (kMa c) (kDe c) (kSx c) q) sf v y (kwN (kLL (kPr c) (kCs c) (kCo c) (kMa c) (kDe c) (kSx c) q) sf v)))]) ⟨hx, hb, hml, hown, hts⟩ (cG_likeness l D cI a c x2 (sf y) (sf v) (hsf y (by omega)).1 (hsf v (by omega)).1 (hsf y (by omega)).2 (hsf v (by omega)).2 q hkq hfl _) (cwV 3 hts gL_areChoicesSo_X3_likeness rfl rfl rfl (by decide +kernel) ⟨Nat.le_of_ble_eq_true rfl, Nat.le_of_ble_eq_true rfl⟩) (kp_OV hP hD hK hX hZ hS hA 0 3 rfl rfl) rfl rfl hl.1 rfl (lv_room (Nat.le_of_ble_eq_true rfl)) dL_areChoicesSo_66 ⟨(show (((0 + 1) + 1 * P) + 18 * v) + 3 * y + 3 ≤ 120 from by omega), (show (((0 + 6) + 6 * P) + 108 * v) + 18 * y + 18 ≤ 720 from by omega)⟩) hP hD hS hA (fun E ce q9 H locs hE hP hS hcell hv hcl => hE.elim) (fun r_66 _u H locs er_66 hP hD hS => ?_)
        have hP : va_P D vwCl ((oW cI a c x2) ++ ([(w, .inl (cI, 8, .inl g))])) H := hP
        have hD : va_D _ ((oW cI a c x2) ++ ([(w, .inl (cI, 8, .inl g))])) := hD
        have hP : va_P D vwCl (oW cI a c x2 ++ [(w, .inl (cI, 8, .inl g))]) H := hP
        have hD : va_D _ (oW cI a c x2 ++ [(w, .inl (cI, 8, .inl g))]) := hD
        have er_66 : r_66 = kali (kPr c) (kCs c) (kCo c) (kMa c) (kDe c) (kSx c) (nI (sf y)) (nI (sf v)) q := er_66
        rw [er_66]
        refine kx_top (show kali (kPr c) (kCs c) (kCo c) (kMa c) (kDe c) (kSx c) (nI (sf y)) (nI (sf v)) q = nI ((kLL (kPr c) (kCs c) (kCo c) (kMa c) (kDe c) (kSx c) q) (sf y) (sf v)) from (kR_al q hN (hsf y (by omega)).1 (hsf v (by omega)).1 (hsf y (by omega)).2 (hsf v (by omega)).2).1) ?_
        refine lv_iadd hx hb dL_areChoicesSo_69 ?_
        refine kx_top (show (nI (kwNi (kLL (kPr c) (kCs c) (kCo c) (kMa c) (kDe c) (kSx c) q) sf v y (kwN (kLL (kPr c) (kCs c) (kCo c) (kMa c) (kDe c) (kSx c) q) sf v))) + (nI ((kLL (kPr c) (kCs c) (kCo c) (kMa c) (kDe c) (kSx c) q) (sf y) (sf v))) = nI (kwNi (kLL (kPr c) (kCs c) (kCo c) (kMa c) (kDe c) (kSx c) q) sf v (y + 1) (kwN (kLL (kPr c) (kCs c) (kCo c) (kMa c) (kDe c) (kSx c) q) sf v)) from nI_add _ _) ?_
        refine lv_istore (lv' := [(4, .int (nI (kwNi (kLL (kPr c) (kCs c) (kCo c) (kMa c) (kDe c) (kSx c) q) sf v (y + 1) (kwN (kLL (kPr c) (kCs c) (kCo c) (kMa c) (kDe c) (kSx c) q) sf v)))), (0, .ref (a 0)), (1, .ref w), (2, .int q), (3, .int (nI P)), (5, .int (nI v)), (6, .int (nI y))]) hx hb dL_areChoicesSo_70 hl (by decide) rfl (fun ls hl => ?_)
        refine lv_iinc (v := nI (y + 1)) (lv' := [(6, .int (nI (y + 1))), (4, .int (nI (kwNi (kLL (kPr c) (kCs c) (kCo c) (kMa c) (kDe c) (kSx c) q) sf v (y + 1) (kwN (kLL (kPr c) (kCs c) (kCo c) (kMa c) (kDe c) (kSx c) q) sf v)))), (0, .ref (a 0)), (1, .ref w), (2, .int q), (3, .int (nI P)), (5, .int (nI v))]) hx hb dL_areChoicesSo_72 hl (k := 6) rfl (nI_1 _) (by decide) rfl (fun ls hl => ?_)
        refine lv_goto (tgt := 47) hx hb dL_areChoicesSo_75 (by decide) ?_
        refine W.widen (k := (((0 + 1) + 1 * P) + 18 * v) + 3 * (y + 1)) (n := (((0 + 6) + 6 * P) + 108 * v) + 18 * (y + 1)) (by omega) (by omega) ?_
        exact ih47 _ _ _ ⟨hP, hD, hS, (lv_sub hl [2, 3, 4, 5, 1, 6, 0] rfl)⟩
      · skip
        intro H locs ls hJ
        obtain ⟨hP, hD, hS, hl⟩ := hJ
        refine lv_iload hx hb dL_areChoicesSo_47 (lv_at hl 6 rfl) ?_
        refine lv_iload hx hb dL_areChoicesSo_49 (lv_at hl 5 rfl) ?_
        refine lv_icmp_ge (tgt := 78) hx hb dL_areChoicesSo_51 (by decide) (fun _ => ?_) (fun hc => absurd (nI_le (Nat.le_refl v) (by omega)) hc)
        refine lv_iinc (v := nI (v + 1)) (lv' := [(5, .int (nI (v + 1))), (0, .ref (a 0)), (1, .ref w), (2, .int q), (3, .int (nI P)), (4, .int (nI (kwNi (kLL (kPr c) (kCs c) (kCo c) (kMa c) (kDe c) (kSx c) q) sf v v (kwN (kLL (kPr c) (kCs c) (kCo c) (kMa c) (kDe c) (kSx c) q) sf v)))), (6, .int (nI v))]) hx hb dL_areChoicesSo_78 hl (k := 5) rfl (nI_1 _) (by decide) rfl (fun ls hl => ?_)
        refine lv_goto (tgt := 38) hx hb dL_areChoicesSo_81 (by decide) ?_
        refine W.widen (k := ((0 + 1) + 1 * P) + 18 * (v + 1)) (n := ((0 + 6) + 6 * P) + 108 * (v + 1)) (by omega) (by omega) ?_
        exact ih38 _ _ _ ⟨hP, hD, hS, (lv_sub hl [1, 2, 3, 4, 5, 0] rfl)⟩
    · skip
      intro H locs ls hJ
      obtain ⟨hP, hD, hS, hl⟩ := hJ
      refine lv_iload hx hb dL_areChoicesSo_38 (lv_at hl 5 rfl) ?_
      refine lv_iload_n hx hb dL_areChoicesSo_40 rfl (lv_at hl 3 rfl) ?_
      refine lv_icmp_ge (tgt := 84) hx hb dL_areChoicesSo_41 (by decide) (fun _ => ?_) (fun hc => absurd (nI_le (Nat.le_refl P) (by omega)) hc)
      refine lv_aload_n hx hb dL_areChoicesSo_84 rfl (lv_at hl 0 rfl) ?_
      refine lv_iload_n hx hb dL_areChoicesSo_85 rfl (lv_at hl 2 rfl) ?_
      refine kq_O (px := fun _ => False) (vx_runV (As := [.int q]) (rest := []) ⟨hx, hb, hml, hown, hts⟩ (cG_bestWorth l D cI a c x2 q hkq hN hW hF hfl _) (cwV 1 hts gL_areChoicesSo_X3_bestWorth rfl rfl rfl (by decide +kernel) ⟨Nat.le_of_ble_eq_true rfl, Nat.le_of_ble_eq_true rfl⟩) (kp_OV hP hD hK hX hZ hS hA 0 3 rfl rfl) rfl rfl hl.1 rfl (lv_room (Nat.le_of_ble_eq_true rfl)) dL_areChoicesSo_86 ⟨(show ((0 + 1) + 1 * P) + 18 * P + 1 ≤ 120 from by omega), (show ((0 + 6) + 6 * P) + 108 * P + 6 ≤ 720 from by omega)⟩) hP hD hS hA (fun E ce q9 H locs hE hP hS hcell hv hcl => hE.elim) (fun r_86 x4 H locs er_86 hP hD hS => ?_)
      have hP : va_P D vwCl ((oW cI a c x4) ++ ([(w, .inl (cI, 8, .inl g))])) H := hP
      have hD : va_D _ ((oW cI a c x4) ++ ([(w, .inl (cI, 8, .inl g))])) := hD
      have hP : va_P D vwCl (oW cI a c x4 ++ [(w, .inl (cI, 8, .inl g))]) H := hP
      have hD : va_D _ (oW cI a c x4 ++ [(w, .inl (cI, 8, .inl g))]) := hD
      have er_86 : r_86 = nI (kwN (kLL (kPr c) (kCs c) (kCo c) (kMa c) (kDe c) (kSx c) q) sf P) := er_86
      rw [er_86]
      refine lv_iload hx hb dL_areChoicesSo_89 (lv_at hl 4 rfl) ?_
      refine lv_icmp_ne (tgt := 153) hx hb dL_areChoicesSo_91 (by decide) (fun hc => absurd (rfl) hc) (fun _ => ?_)
      refine lv_aload_n hx hb dL_areChoicesSo_94 rfl (lv_at hl 0 rfl) ?_
      refine lv_iload_n hx hb dL_areChoicesSo_95 rfl (lv_at hl 2 rfl) ?_
      refine kq_O (px := fun _ => False) (vx_runV (As := [.int q]) (rest := []) ⟨hx, hb, hml, hown, hts⟩ (cG_greatestWorth l D cI a c x4 q hkq hN hW hF hfl _) (cwV 1 hts gL_areChoicesSo_X3_greatestWorth rfl rfl rfl (by decide +kernel) ⟨Nat.le_of_ble_eq_true rfl, Nat.le_of_ble_eq_true rfl⟩) (kp_OV hP hD hK hX hZ hS hA 0 3 rfl rfl) rfl rfl hl.1 rfl (lv_room (Nat.le_of_ble_eq_true rfl)) dL_areChoicesSo_96 ⟨(show ((0 + 1) + 1 * P) + 18 * P + 1 + 1 ≤ 120 from by omega), (show ((0 + 6) + 6 * P) + 108 * P + 6 + 6 ≤ 720 from by omega)⟩) hP hD hS hA (fun E ce q9 H locs hE hP hS hcell hv hcl => hE.elim) (fun r_96 x5 H locs er_96 hP hD hS => ?_)
      have hP : va_P D vwCl ((oW cI a c x5) ++ ([(w, .inl (cI, 8, .inl g))])) H := hP
      have hD : va_D _ ((oW cI a c x5) ++ ([(w, .inl (cI, 8, .inl g))])) := hD
      have hP : va_P D vwCl (oW cI a c x5 ++ [(w, .inl (cI, 8, .inl g))]) H := hP
      have hD : va_D _ (oW cI a c x5 ++ [(w, .inl (cI, 8, .inl g))]) := hD
      have er_96 : r_96 = nI (kwN (kLL (kPr c) (kCs c) (kCo c) (kMa c) (kDe c) (kSx c) q) sf P) := er_96
      rw [er_96]
      refine lv_iload hx hb dL_areChoicesSo_99 (lv_at hl 4 rfl) ?_
      refine lv_icmp_ne (tgt := 153) hx hb dL_areChoicesSo_101 (by decide) (fun hc => absurd (rfl) hc) (fun _ => ?_)
      refine lv_iload_n hx hb dL_areChoicesSo_104 rfl (lv_at hl 3 rfl) ?_
      refine lv_bipush (v := 6) hx hb dL_areChoicesSo_105 (by decide) ?_
      refine lv_icmp_gt (tgt := 153) hx hb dL_areChoicesSo_107 (by decide) (fun hc => absurd hc (nI_nlt (a := 6) hP6 (by decide))) (fun _ => ?_)
      refine lv_iload_n hx hb dL_areChoicesSo_110 rfl (lv_at hl 3 rfl) ?_
      refine lv_if_gt (tgt := 122) hx hb dL_areChoicesSo_111 (by decide) (fun c_111 => ?_) (fun c_111 => ?_)
      · skip
        have hP0 : ¬ P = 0 := fun e => by rw [e] at c_111; exact absurd c_111 (by decide)
        refine lv_aload_n hx hb dL_areChoicesSo_122 rfl (lv_at hl 0 rfl) ?_
        refine kq_R (va_runV (As := []) (rest := []) ⟨hx, hb, hml, hown, hts⟩ (cP_choices l D cI a c x5 _) (cwV 0 hts gL_areChoicesSo_X3_choices rfl rfl rfl (by decide +kernel) ⟨Nat.le_of_ble_eq_true rfl, Nat.le_of_ble_eq_true rfl⟩) (kp_RV (kP_l hP) hK 0 3 rfl rfl) rfl rfl hl.1 rfl (lv_room (Nat.le_of_ble_eq_true rfl)) dL_areChoicesSo_123 ⟨(show ((0 + 1) + 1 * P) + 18 * P + 1 + 1 + 0 ≤ 120 from by omega), (show ((0 + 6) + 6 * P) + 108 * P + 6 + 6 + 0 ≤ 720 from by omega)⟩) hP hS hA (fun r_123 H locs er_123 hP hS => ?_)
        have er_123 : r_123 = kups (kchs (kLk c) (kSz c) (kSe c)) (kPl c) 0 1 := er_123
        rw [er_123]
        refine kx_top (show kups (kchs (kLk c) (kSz c) (kSe c)) (kPl c) 0 1 = nI mq from m3) ?_
        refine lv_iconst (v := 1) hx hb dL_areChoicesSo_126 (by decide) ?_
        refine lv_icmp_lt (tgt := 153) hx hb dL_areChoicesSo_127 (by decide) (fun hc => absurd hc (nI_nlt (a := mq) (b := 1) m1 (by omega))) (fun _ => ?_)
        refine lv_aload_n hx hb dL_areChoicesSo_130 rfl (lv_at hl 0 rfl) ?_
        refine lv_iconst (v := 0) hx hb dL_areChoicesSo_131 (by decide) ?_
        refine lv_iconst (v := 3) hx hb dL_areChoicesSo_132 (by decide) ?_
        refine kq_O (px := fun _ => False) (vx_runSX (As := [.ref (a 0), .int 0, .int 3]) (rest := []) ⟨hx, hb, hml, hown, hts⟩ (cw_chosen l D cI a c x5 0 3 hfl _) (vx_cwSW 3 hts gL_areChoicesSo_L_chosen rfl rfl rfl (by decide +kernel) ⟨Nat.le_of_ble_eq_true rfl, Nat.le_of_ble_eq_true rfl⟩) (kp_OS hP hD hK hX hZ hS hA) rfl rfl hl.1 rfl (lv_room (Nat.le_of_ble_eq_true rfl)) dL_areChoicesSo_133 ⟨(show ((0 + 1) + 1 * P) + 18 * P + 1 + 1 + 1 ≤ 120 from by omega), (show ((0 + 6) + 6 * P) + 108 * P + 6 + 6 + 6 ≤ 720 from by omega)⟩) hP hD hS hA (fun E ce q9 H locs hE hP hS hcell hv hcl => hE.elim) (fun r_133 x6 H locs er_133 hP hD hS => ?_)
        have hP : va_P D vwCl ((oW cI a c x6) ++ ([(w, .inl (cI, 8, .inl g))])) H := hP
        have hD : va_D _ ((oW cI a c x6) ++ ([(w, .inl (cI, 8, .inl g))])) := hD
        have hP : va_P D vwCl (oW cI a c x6 ++ [(w, .inl (cI, 8, .inl g))]) H := hP
        have hD : va_D _ (oW cI a c x6 ++ [(w, .inl (cI, 8, .inl g))]) := hD
        have er_133 : r_133 = kfCho c x5 0 3 := er_133
        rw [er_133]
        refine lv_iload_n hx hb dL_areChoicesSo_136 rfl (lv_at hl 3 rfl) ?_
        refine lv_if_ne (tgt := 144) hx hb dL_areChoicesSo_137 (by decide) (fun _ => ?_) (fun hc => absurd hc (nI_ne0 (by omega) (by omega)))
        refine lv_bipush (v := (-2)) hx hb dL_areChoicesSo_144 (by decide) ?_
        refine lv_icmp_ne (tgt := 153) hx hb dL_areChoicesSo_146 (by decide) (fun hc => absurd (kfCho_n hW hP0) hc) (fun _ => ?_)
        refine lv_iconst (v := 1) hx hb dL_areChoicesSo_149 (by decide) ?_
        refine lv_goto (tgt := 154) hx hb dL_areChoicesSo_150 (by decide) ?_
        exact ke_XZ hx hb hr hlocks (x6, g) hP hD hS (show ((0 + 1) + 1 * P) + 18 * P + 1 + 1 + 1 ≤ 120 from by omega) (show ((0 + 6) + 6 * P) + 108 * P + 6 + 6 + 6 ≤ 720 from by omega) dL_areChoicesSo_154 true rfl (rfl)
      · skip
        have hP0 : P = 0 := (Nat.eq_zero_or_pos P).resolve_right (fun h => c_111 (nI_lt (a := 0) h (by omega)))
        refine lv_aload_n hx hb dL_areChoicesSo_114 rfl (lv_at hl 0 rfl) ?_
        refine kq_R (va_runV (As := []) (rest := []) ⟨hx, hb, hml, hown, hts⟩ (cP_choices l D cI a c x5 _) (cwV 0 hts gL_areChoicesSo_X3_choices rfl rfl rfl (by decide +kernel) ⟨Nat.le_of_ble_eq_true rfl, Nat.le_of_ble_eq_true rfl⟩) (kp_RV (kP_l hP) hK 0 3 rfl rfl) rfl rfl hl.1 rfl (lv_room (Nat.le_of_ble_eq_true rfl)) dL_areChoicesSo_115 ⟨(show ((0 + 1) + 1 * P) + 18 * P + 1 + 1 + 0 ≤ 120 from by omega), (show ((0 + 6) + 6 * P) + 108 * P + 6 + 6 + 0 ≤ 720 from by omega)⟩) hP hS hA (fun r_115 H locs er_115 hP hS => ?_)
        have er_115 : r_115 = kups (kchs (kLk c) (kSz c) (kSe c)) (kPl c) 0 1 := er_115
        rw [er_115]
        refine kx_top (show kups (kchs (kLk c) (kSz c) (kSe c)) (kPl c) 0 1 = nI mq from m3) ?_
        refine lv_iconst (v := 1) hx hb dL_areChoicesSo_118 (by decide) ?_
        refine lv_icmp_ne (tgt := 153) hx hb dL_areChoicesSo_119 (by decide) (fun hc => absurd (by rw [m4 hP0]; rfl) hc) (fun _ => ?_)
        refine lv_aload_n hx hb dL_areChoicesSo_122 rfl (lv_at hl 0 rfl) ?_
        refine kq_R (va_runV (As := []) (rest := []) ⟨hx, hb, hml, hown, hts⟩ (cP_choices l D cI a c x5 _) (cwV 0 hts gL_areChoicesSo_X3_choices rfl rfl rfl (by decide +kernel) ⟨Nat.le_of_ble_eq_true rfl, Nat.le_of_ble_eq_true rfl⟩) (kp_RV (kP_l hP) hK 0 3 rfl rfl) rfl rfl hl.1 rfl (lv_room (Nat.le_of_ble_eq_true rfl)) dL_areChoicesSo_123 ⟨(show ((0 + 1) + 1 * P) + 18 * P + 1 + 1 + 0 ≤ 120 from by omega), (show ((0 + 6) + 6 * P) + 108 * P + 6 + 6 + 0 ≤ 720 from by omega)⟩) hP hS hA (fun r_123 H locs er_123 hP hS => ?_)
        have er_123 : r_123 = kups (kchs (kLk c) (kSz c) (kSe c)) (kPl c) 0 1 := er_123
        rw [er_123]
        refine kx_top (show kups (kchs (kLk c) (kSz c) (kSe c)) (kPl c) 0 1 = nI mq from m3) ?_
        refine lv_iconst (v := 1) hx hb dL_areChoicesSo_126 (by decide) ?_
        refine lv_icmp_lt (tgt := 153) hx hb dL_areChoicesSo_127 (by decide) (fun hc => absurd hc (nI_nlt (a := mq) (b := 1) m1 (by omega))) (fun _ => ?_)
        refine lv_aload_n hx hb dL_areChoicesSo_130 rfl (lv_at hl 0 rfl) ?_
        refine lv_iconst (v := 0) hx hb dL_areChoicesSo_131 (by decide) ?_
        refine lv_iconst (v := 3) hx hb dL_areChoicesSo_132 (by decide) ?_
        refine kq_O (px := fun _ => False) (vx_runSX (As := [.ref (a 0), .int 0, .int 3]) (rest := []) ⟨hx, hb, hml, hown, hts⟩ (cw_chosen l D cI a c x5 0 3 hfl _) (vx_cwSW 3 hts gL_areChoicesSo_L_chosen rfl rfl rfl (by decide +kernel) ⟨Nat.le_of_ble_eq_true rfl, Nat.le_of_ble_eq_true rfl⟩) (kp_OS hP hD hK hX hZ hS hA) rfl rfl hl.1 rfl (lv_room (Nat.le_of_ble_eq_true rfl)) dL_areChoicesSo_133 ⟨(show ((0 + 1) + 1 * P) + 18 * P + 1 + 1 + 1 ≤ 120 from by omega), (show ((0 + 6) + 6 * P) + 108 * P + 6 + 6 + 6 ≤ 720 from by omega)⟩) hP hD hS hA (fun E ce q9 H locs hE hP hS hcell hv hcl => hE.elim) (fun r_133 x6 H locs er_133 hP hD hS => ?_)
        have hP : va_P D vwCl ((oW cI a c x6) ++ ([(w, .inl (cI, 8, .inl g))])) H := hP
        have hD : va_D _ ((oW cI a c x6) ++ ([(w, .inl (cI, 8, .inl g))])) := hD
        have hP : va_P D vwCl (oW cI a c x6 ++ [(w, .inl (cI, 8, .inl g))]) H := hP
        have hD : va_D _ (oW cI a c x6 ++ [(w, .inl (cI, 8, .inl g))]) := hD
        have er_133 : r_133 = kfCho c x5 0 3 := er_133
        rw [er_133]
        refine lv_iload_n hx hb dL_areChoicesSo_136 rfl (lv_at hl 3 rfl) ?_
        refine lv_if_ne (tgt := 144) hx hb dL_areChoicesSo_137 (by decide) (fun hc => absurd (by rw [hP0]; rfl) hc) (fun _ => ?_)
        refine lv_iconst (v := (-1)) hx hb dL_areChoicesSo_140 (by decide) ?_
        refine lv_goto (tgt := 146) hx hb dL_areChoicesSo_141 (by decide) ?_
        refine lv_icmp_ne (tgt := 153) hx hb dL_areChoicesSo_146 (by decide) (fun hc => absurd (kfCho_z hW hP0) hc) (fun _ => ?_)
        refine lv_iconst (v := 1) hx hb dL_areChoicesSo_149 (by decide) ?_
        refine lv_goto (tgt := 154) hx hb dL_areChoicesSo_150 (by decide) ?_
        exact ke_XZ hx hb hr hlocks (x6, g) hP hD hS (show ((0 + 1) + 1 * P) + 18 * P + 1 + 1 + 1 ≤ 120 from by omega) (show ((0 + 6) + 6 * P) + 108 * P + 6 + 6 + 6 ≤ 720 from by omega) dL_areChoicesSo_154 true rfl (rfl)
