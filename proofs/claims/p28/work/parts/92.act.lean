/-! p28: act. -/
theorem kAct_k {c : kCS} {v : Int32} {k : Nat} (e : klow v 20 = nI k) (hk : k < 2 ^ 31) : kAct c v = kActN c v k := by
  unfold kAct
  rw [e, nI_clamp hk]
set_option maxHeartbeats 4000000 in
set_option maxRecDepth 100000 in
theorem cw_act (l : Launch) (D : va_G) (cI : ClassId) (a : Nat → Nat) (c : kCS) (x : kXS) (v : Int32) (hfl : l.stackTraces = false) : kc_X l yL_act wsL_act 9 180 3 18 D cI [.ref (a 0), .int v] (oW cI a c x) (fun (r : Int32) (_ : Unit) => r = (kAct c v).1) (fun _ => oW cI a (kAct c v).2 x) (fun _ => False) := by
  refine ks_X (cc := cL_act) (nL := 5) (ret := (some .int)) (by decide) rfl (Nat.le_of_ble_eq_true rfl) ?_
  intro p e s m below meth cd ls hF ht hP hK hX hZ hS hA hD hl
  obtain ⟨hx, hb, hr, hml, hown, hts, hlocks⟩ := hF
  have hown : s.vm.findClass RL = some m.cls := hown
  have hS := kx_wk (ws := (oW cI a c x)) hS
  have hl : lv_has ls 5 [(0, .ref (a 0)), (1, .int v)] := hl
  refine lv_iload_n hx hb dL_act_0 rfl (lv_at hl 1 rfl) ?_
  refine lv_iconst (v := 4) hx hb dL_act_1 (by decide) ?_
  refine lv_ishr hx hb dL_act_2 ?_
  refine lv_bipush (v := 14) hx hb dL_act_3 (by decide) ?_
  refine kq_R (va_runS (As := [.int (v >>> (4 &&& 31)), .int 14]) (rest := []) ⟨hx, hb, hml, hown, hts⟩ (cw_low l D cI (v >>> (4 &&& 31)) 14 (by decide) _) (va_cwS 2 hts gL_act_L_low rfl rfl rfl (by decide +kernel) ⟨Nat.le_of_ble_eq_true rfl, Nat.le_of_ble_eq_true rfl⟩) (kp_RS (hP.sub (ws' := []) [] rfl) hK) rfl rfl hl.1 rfl (lv_room (Nat.le_of_ble_eq_true rfl)) dL_act_5 ⟨(show 0 + 0 ≤ 3 from by omega), (show 0 + 0 ≤ 18 from by omega)⟩) hP hS hA (fun r_5 H locs er_5 hP hS => ?_)
  have er_5 : r_5 = klow (v >>> (4 &&& 31)) 14 := er_5
  rw [er_5]
  refine lv_istore_n (lv' := [(2, .int (klow (v >>> (4 &&& 31)) 14)), (0, .ref (a 0)), (1, .int v)]) hx hb dL_act_8 rfl hl (by decide) rfl (fun ls hl => ?_)
  refine lv_iload_n hx hb dL_act_9 rfl (lv_at hl 2 rfl) ?_
  refine lv_bipush (v := 8) hx hb dL_act_10 (by decide) ?_
  refine lv_ishr hx hb dL_act_12 ?_
  refine lv_bipush (v := 14) hx hb dL_act_13 (by decide) ?_
  refine kq_R (va_runS (As := [.int (v >>> (8 &&& 31)), .int 14]) (rest := []) ⟨hx, hb, hml, hown, hts⟩ (cw_low l D cI (v >>> (8 &&& 31)) 14 (by decide) _) (va_cwS 2 hts gL_act_L_low rfl rfl rfl (by decide +kernel) ⟨Nat.le_of_ble_eq_true rfl, Nat.le_of_ble_eq_true rfl⟩) (kp_RS (hP.sub (ws' := []) [] rfl) hK) rfl rfl hl.1 rfl (lv_room (Nat.le_of_ble_eq_true rfl)) dL_act_15 ⟨(show 0 + 0 ≤ 3 from by omega), (show 0 + 0 ≤ 18 from by omega)⟩) hP hS hA (fun r_15 H locs er_15 hP hS => ?_)
  have er_15 : r_15 = klow (v >>> (8 &&& 31)) 14 := er_15
  rw [er_15]
  refine lv_istore_n (lv' := [(3, .int (klow (v >>> (8 &&& 31)) 14)), (2, .int (klow (v >>> (4 &&& 31)) 14)), (0, .ref (a 0)), (1, .int v)]) hx hb dL_act_18 rfl hl (by decide) rfl (fun ls hl => ?_)
  refine lv_iload_n hx hb dL_act_19 rfl (lv_at hl 3 rfl) ?_
  refine lv_iconst (v := 4) hx hb dL_act_20 (by decide) ?_
  refine lv_ishr hx hb dL_act_21 ?_
  refine lv_iconst (v := 4) hx hb dL_act_22 (by decide) ?_
  refine kq_R (va_runS (As := [.int (v >>> (4 &&& 31)), .int 4]) (rest := []) ⟨hx, hb, hml, hown, hts⟩ (cw_low l D cI (v >>> (4 &&& 31)) 4 (by decide) _) (va_cwS 2 hts gL_act_L_low rfl rfl rfl (by decide +kernel) ⟨Nat.le_of_ble_eq_true rfl, Nat.le_of_ble_eq_true rfl⟩) (kp_RS (hP.sub (ws' := []) [] rfl) hK) rfl rfl hl.1 rfl (lv_room (Nat.le_of_ble_eq_true rfl)) dL_act_23 ⟨(show 0 + 0 ≤ 3 from by omega), (show 0 + 0 ≤ 18 from by omega)⟩) hP hS hA (fun r_23 H locs er_23 hP hS => ?_)
  have er_23 : r_23 = klow (v >>> (4 &&& 31)) 4 := er_23
  rw [er_23]
  refine lv_istore (lv' := [(4, .int (klow (v >>> (4 &&& 31)) 4)), (3, .int (klow (v >>> (8 &&& 31)) 14)), (2, .int (klow (v >>> (4 &&& 31)) 14)), (0, .ref (a 0)), (1, .int v)]) hx hb dL_act_26 hl (by decide) rfl (fun ls hl => ?_)
  refine lv_iload_n hx hb dL_act_28 rfl (lv_at hl 4 rfl) ?_
  refine lv_bipush (v := 20) hx hb dL_act_29 (by decide) ?_
  refine kq_R (va_runS (As := [.int v, .int 20]) (rest := []) ⟨hx, hb, hml, hown, hts⟩ (cw_low l D cI v 20 (by decide) _) (va_cwS 2 hts gL_act_L_low rfl rfl rfl (by decide +kernel) ⟨Nat.le_of_ble_eq_true rfl, Nat.le_of_ble_eq_true rfl⟩) (kp_RS (hP.sub (ws' := []) [] rfl) hK) rfl rfl hl.1 rfl (lv_room (Nat.le_of_ble_eq_true rfl)) dL_act_31 ⟨(show 0 + 0 ≤ 3 from by omega), (show 0 + 0 ≤ 18 from by omega)⟩) hP hS hA (fun r_31 H locs er_31 hP hS => ?_)
  have er_31 : r_31 = klow v 20 := er_31
  rw [er_31]
  obtain ⟨k, hk, ek⟩ := klow_n v (n := 20) (by decide) (by decide)
  have ek : klow v 20 = nI k := ek
  have ea := kAct_k (c := c) ek (by omega)
  refine kx_top ek ?_
  rcases (show k = 0 ∨ k = 1 ∨ k = 2 ∨ k = 3 ∨ k = 4 ∨ k = 5 ∨ k = 6 ∨ k = 7 ∨ k = 8 ∨ k = 9 ∨ k = 10 ∨ k = 11 ∨ k = 12 ∨ k = 13 ∨ k = 14 ∨ k = 15 ∨ k = 16 ∨ k = 17 ∨ k = 18 ∨ k = 19 by omega) with rfl | rfl | rfl | rfl | rfl | rfl | rfl | rfl | rfl | rfl | rfl | rfl | rfl | rfl | rfl | rfl | rfl | rfl | rfl | rfl
  · skip
    refine lv_tableIn (tgt := 124) (off := 90) hx hb dL_act_34 (by decide +kernel) (by decide +kernel) (by decide +kernel) (by decide +kernel) ?_
    refine lv_iload_n hx hb dL_act_124 rfl (lv_at hl 4 rfl) ?_
    refine lv_bipush (v := 14) hx hb dL_act_125 (by decide) ?_
    refine lv_ishr hx hb dL_act_127 ?_
    refine lv_iconst (v := 4) hx hb dL_act_128 (by decide) ?_
    refine kq_R (va_runS (As := [.int (v >>> (14 &&& 31)), .int 4]) (rest := []) ⟨hx, hb, hml, hown, hts⟩ (cw_low l D cI (v >>> (14 &&& 31)) 4 (by decide) _) (va_cwS 2 hts gL_act_L_low rfl rfl rfl (by decide +kernel) ⟨Nat.le_of_ble_eq_true rfl, Nat.le_of_ble_eq_true rfl⟩) (kp_RS (hP.sub (ws' := []) [] rfl) hK) rfl rfl hl.1 rfl (lv_room (Nat.le_of_ble_eq_true rfl)) dL_act_129 ⟨(show 0 + 0 ≤ 3 from by omega), (show 0 + 0 ≤ 18 from by omega)⟩) hP hS hA (fun r_129 H locs er_129 hP hS => ?_)
    have er_129 : r_129 = klow (v >>> (14 &&& 31)) 4 := er_129
    rw [er_129]
    refine lv_if_le (tgt := 142) hx hb dL_act_132 (by decide) (fun c_132 => ?_) (fun c_132 => ?_)
    · skip
      refine lv_aload_n hx hb dL_act_142 rfl (lv_at hl 3 rfl) ?_
      refine lv_iload_n hx hb dL_act_143 rfl (lv_at hl 2 rfl) ?_
      refine lv_iload_n hx hb dL_act_144 rfl (lv_at hl 4 rfl) ?_
      refine lv_bipush (v := 9) hx hb dL_act_145 (by decide) ?_
      refine lv_ishr hx hb dL_act_147 ?_
      refine lv_sipush (v := 1010) hx hb dL_act_148 (by decide) ?_
      refine kq_R (va_runS (As := [.int (v >>> (9 &&& 31)), .int 1010]) (rest := [.int (klow (v >>> (4 &&& 31)) 14), .ref (a 0)]) ⟨hx, hb, hml, hown, hts⟩ (cw_low l D cI (v >>> (9 &&& 31)) 1010 (by decide) _) (va_cwS 2 hts gL_act_L_low rfl rfl rfl (by decide +kernel) ⟨Nat.le_of_ble_eq_true rfl, Nat.le_of_ble_eq_true rfl⟩) (kp_RS (hP.sub (ws' := []) [] rfl) hK) rfl rfl hl.1 rfl (lv_room (Nat.le_of_ble_eq_true rfl)) dL_act_151 ⟨(show 0 + 0 ≤ 3 from by omega), (show 0 + 0 ≤ 18 from by omega)⟩) hP hS hA (fun r_151 H locs er_151 hP hS => ?_)
      have er_151 : r_151 = klow (v >>> (9 &&& 31)) 1010 := er_151
      rw [er_151]
      refine lv_iconst (v := 5) hx hb dL_act_154 (by decide) ?_
      refine lv_isub hx hb dL_act_155 ?_
      refine kq_0 (px := fun _ => False) (vx_runSX (As := [.ref (a 0), .int (klow (v >>> (4 &&& 31)) 14), .int ((klow (v >>> (9 &&& 31)) 1010) - 5)]) (rest := []) ⟨hx, hb, hml, hown, hts⟩ (cw_setCount l D cI a c x (klow (v >>> (4 &&& 31)) 14) (klow (v >>> (9 &&& 31)) 1010 - 5) hfl _) (vx_cwSW 3 hts gL_act_L_setCount rfl rfl rfl (by decide +kernel) ⟨Nat.le_of_ble_eq_true rfl, Nat.le_of_ble_eq_true rfl⟩) (kp_0S hP hD hK hX hZ hS hA) rfl rfl hl.1 rfl (lv_room (Nat.le_of_ble_eq_true rfl)) dL_act_156 ⟨(show 0 + 2 ≤ 3 from by omega), (show 0 + 12 ≤ 18 from by omega)⟩) hP hD hS hA (fun E ce q9 H locs hE hP hS hcell hv hcl => hE.elim) (fun r_156 _u H locs er_156 hP hD hS => ?_)
      have hP : va_P D vwCl (oW cI a (oCnt c (klow (v >>> (4 &&& 31)) 14) (klow (v >>> (9 &&& 31)) 1010 - 5)).2 x) H := hP
      have hD : va_D _ (oW cI a (oCnt c (klow (v >>> (4 &&& 31)) 14) (klow (v >>> (9 &&& 31)) 1010 - 5)).2 x) := hD
      have er_156 : r_156 = (oCnt c (klow (v >>> (4 &&& 31)) 14) (klow (v >>> (9 &&& 31)) 1010 - 5)).1 := er_156
      rw [er_156]
      exact ke_X hx hb hr hlocks (()) (by rw [show kAct c v = (oCnt c (klow (v >>> (4 &&& 31)) 14) (klow (v >>> (9 &&& 31)) 1010 - 5)) from ea.trans (if_pos c_132)]; exact hP) (by rw [show kAct c v = (oCnt c (klow (v >>> (4 &&& 31)) 14) (klow (v >>> (9 &&& 31)) 1010 - 5)) from ea.trans (if_pos c_132)]; exact hD) hS (show 0 + 2 ≤ 3 from by omega) (show 0 + 12 ≤ 18 from by omega) dL_act_159 (by rw [show kAct c v = (oCnt c (klow (v >>> (4 &&& 31)) 14) (klow (v >>> (9 &&& 31)) 1010 - 5)) from ea.trans (if_pos c_132)])
    · skip
      refine lv_aload_n hx hb dL_act_135 rfl (lv_at hl 3 rfl) ?_
      refine kq_0 (px := fun _ => False) (vx_runSX (As := [.ref (a 0)]) (rest := []) ⟨hx, hb, hml, hown, hts⟩ (cw_addSense l D cI a c x hfl _) (vx_cwSW 1 hts gL_act_L_addSense rfl rfl rfl (by decide +kernel) ⟨Nat.le_of_ble_eq_true rfl, Nat.le_of_ble_eq_true rfl⟩) (kp_0S hP hD hK hX hZ hS hA) rfl rfl hl.1 rfl (lv_room (Nat.le_of_ble_eq_true rfl)) dL_act_136 ⟨(show 0 + 1 ≤ 3 from by omega), (show 0 + 6 ≤ 18 from by omega)⟩) hP hD hS hA (fun E ce q9 H locs hE hP hS hcell hv hcl => hE.elim) (fun r_136 _u H locs er_136 hP hD hS => ?_)
      have hP : va_P D vwCl (oW cI a (oAdd c).2 x) H := hP
      have hD : va_D _ (oW cI a (oAdd c).2 x) := hD
      have er_136 : r_136 = (oAdd c).1 := er_136
      rw [er_136]
      refine lv_goto (tgt := 159) hx hb dL_act_139 (by decide) ?_
      exact ke_X hx hb hr hlocks (()) (by rw [show kAct c v = (oAdd c) from ea.trans (if_neg c_132)]; exact hP) (by rw [show kAct c v = (oAdd c) from ea.trans (if_neg c_132)]; exact hD) hS (show 0 + 1 ≤ 3 from by omega) (show 0 + 6 ≤ 18 from by omega) dL_act_159 (by rw [show kAct c v = (oAdd c) from ea.trans (if_neg c_132)])
  · skip
    refine lv_tableIn (tgt := 124) (off := 90) hx hb dL_act_34 (by decide +kernel) (by decide +kernel) (by decide +kernel) (by decide +kernel) ?_
    refine lv_iload_n hx hb dL_act_124 rfl (lv_at hl 4 rfl) ?_
    refine lv_bipush (v := 14) hx hb dL_act_125 (by decide) ?_
    refine lv_ishr hx hb dL_act_127 ?_
    refine lv_iconst (v := 4) hx hb dL_act_128 (by decide) ?_
    refine kq_R (va_runS (As := [.int (v >>> (14 &&& 31)), .int 4]) (rest := []) ⟨hx, hb, hml, hown, hts⟩ (cw_low l D cI (v >>> (14 &&& 31)) 4 (by decide) _) (va_cwS 2 hts gL_act_L_low rfl rfl rfl (by decide +kernel) ⟨Nat.le_of_ble_eq_true rfl, Nat.le_of_ble_eq_true rfl⟩) (kp_RS (hP.sub (ws' := []) [] rfl) hK) rfl rfl hl.1 rfl (lv_room (Nat.le_of_ble_eq_true rfl)) dL_act_129 ⟨(show 0 + 0 ≤ 3 from by omega), (show 0 + 0 ≤ 18 from by omega)⟩) hP hS hA (fun r_129 H locs er_129 hP hS => ?_)
    have er_129 : r_129 = klow (v >>> (14 &&& 31)) 4 := er_129
    rw [er_129]
    refine lv_if_le (tgt := 142) hx hb dL_act_132 (by decide) (fun c_132 => ?_) (fun c_132 => ?_)
    · skip
      refine lv_aload_n hx hb dL_act_142 rfl (lv_at hl 3 rfl) ?_
      refine lv_iload_n hx hb dL_act_143 rfl (lv_at hl 2 rfl) ?_
      refine lv_iload_n hx hb dL_act_144 rfl (lv_at hl 4 rfl) ?_
      refine lv_bipush (v := 9) hx hb dL_act_145 (by decide) ?_
      refine lv_ishr hx hb dL_act_147 ?_
      refine lv_sipush (v := 1010) hx hb dL_act_148 (by decide) ?_
      refine kq_R (va_runS (As := [.int (v >>> (9 &&& 31)), .int 1010]) (rest := [.int (klow (v >>> (4 &&& 31)) 14), .ref (a 0)]) ⟨hx, hb, hml, hown, hts⟩ (cw_low l D cI (v >>> (9 &&& 31)) 1010 (by decide) _) (va_cwS 2 hts gL_act_L_low rfl rfl rfl (by decide +kernel) ⟨Nat.le_of_ble_eq_true rfl, Nat.le_of_ble_eq_true rfl⟩) (kp_RS (hP.sub (ws' := []) [] rfl) hK) rfl rfl hl.1 rfl (lv_room (Nat.le_of_ble_eq_true rfl)) dL_act_151 ⟨(show 0 + 0 ≤ 3 from by omega), (show 0 + 0 ≤ 18 from by omega)⟩) hP hS hA (fun r_151 H locs er_151 hP hS => ?_)
      have er_151 : r_151 = klow (v >>> (9 &&& 31)) 1010 := er_151
      rw [er_151]
      refine lv_iconst (v := 5) hx hb dL_act_154 (by decide) ?_
      refine lv_isub hx hb dL_act_155 ?_
      refine kq_0 (px := fun _ => False) (vx_runSX (As := [.ref (a 0), .int (klow (v >>> (4 &&& 31)) 14), .int ((klow (v >>> (9 &&& 31)) 1010) - 5)]) (rest := []) ⟨hx, hb, hml, hown, hts⟩ (cw_setCount l D cI a c x (klow (v >>> (4 &&& 31)) 14) (klow (v >>> (9 &&& 31)) 1010 - 5) hfl _) (vx_cwSW 3 hts gL_act_L_setCount rfl rfl rfl (by decide +kernel) ⟨Nat.le_of_ble_eq_true rfl, Nat.le_of_ble_eq_true rfl⟩) (kp_0S hP hD hK hX hZ hS hA) rfl rfl hl.1 rfl (lv_room (Nat.le_of_ble_eq_true rfl)) dL_act_156 ⟨(show 0 + 2 ≤ 3 from by omega), (show 0 + 12 ≤ 18 from by omega)⟩) hP hD hS hA (fun E ce q9 H locs hE hP hS hcell hv hcl => hE.elim) (fun r_156 _u H locs er_156 hP hD hS => ?_)
      have hP : va_P D vwCl (oW cI a (oCnt c (klow (v >>> (4 &&& 31)) 14) (klow (v >>> (9 &&& 31)) 1010 - 5)).2 x) H := hP
      have hD : va_D _ (oW cI a (oCnt c (klow (v >>> (4 &&& 31)) 14) (klow (v >>> (9 &&& 31)) 1010 - 5)).2 x) := hD
      have er_156 : r_156 = (oCnt c (klow (v >>> (4 &&& 31)) 14) (klow (v >>> (9 &&& 31)) 1010 - 5)).1 := er_156
      rw [er_156]
      exact ke_X hx hb hr hlocks (()) (by rw [show kAct c v = (oCnt c (klow (v >>> (4 &&& 31)) 14) (klow (v >>> (9 &&& 31)) 1010 - 5)) from ea.trans (if_pos c_132)]; exact hP) (by rw [show kAct c v = (oCnt c (klow (v >>> (4 &&& 31)) 14) (klow (v >>> (9 &&& 31)) 1010 - 5)) from ea.trans (if_pos c_132)]; exact hD) hS (show 0 + 2 ≤ 3 from by omega) (show 0 + 12 ≤ 18 from by omega) dL_act_159 (by rw [show kAct c v = (oCnt c (klow (v >>> (4 &&& 31)) 14) (klow (v >>> (9 &&& 31)) 1010 - 5)) from ea.trans (if_pos c_132)])
    · skip
      refine lv_aload_n hx hb dL_act_135 rfl (lv_at hl 3 rfl) ?_
      refine kq_0 (px := fun _ => False) (vx_runSX (As := [.ref (a 0)]) (rest := []) ⟨hx, hb, hml, hown, hts⟩ (cw_addSense l D cI a c x hfl _) (vx_cwSW 1 hts gL_act_L_addSense rfl rfl rfl (by decide +kernel) ⟨Nat.le_of_ble_eq_true rfl, Nat.le_of_ble_eq_true rfl⟩) (kp_0S hP hD hK hX hZ hS hA) rfl rfl hl.1 rfl (lv_room (Nat.le_of_ble_eq_true rfl)) dL_act_136 ⟨(show 0 + 1 ≤ 3 from by omega), (show 0 + 6 ≤ 18 from by omega)⟩) hP hD hS hA (fun E ce q9 H locs hE hP hS hcell hv hcl => hE.elim) (fun r_136 _u H locs er_136 hP hD hS => ?_)
      have hP : va_P D vwCl (oW cI a (oAdd c).2 x) H := hP
      have hD : va_D _ (oW cI a (oAdd c).2 x) := hD
      have er_136 : r_136 = (oAdd c).1 := er_136
      rw [er_136]
      refine lv_goto (tgt := 159) hx hb dL_act_139 (by decide) ?_
      exact ke_X hx hb hr hlocks (()) (by rw [show kAct c v = (oAdd c) from ea.trans (if_neg c_132)]; exact hP) (by rw [show kAct c v = (oAdd c) from ea.trans (if_neg c_132)]; exact hD) hS (show 0 + 1 ≤ 3 from by omega) (show 0 + 6 ≤ 18 from by omega) dL_act_159 (by rw [show kAct c v = (oAdd c) from ea.trans (if_neg c_132)])
  · skip
    refine lv_tableIn (tgt := 124) (off := 90) hx hb dL_act_34 (by decide +kernel) (by decide +kernel) (by decide +kernel) (by decide +kernel) ?_
    refine lv_iload_n hx hb dL_act_124 rfl (lv_at hl 4 rfl) ?_
    refine lv_bipush (v := 14) hx hb dL_act_125 (by decide) ?_
    refine lv_ishr hx hb dL_act_127 ?_
    refine lv_iconst (v := 4) hx hb dL_act_128 (by decide) ?_
    refine kq_R (va_runS (As := [.int (v >>> (14 &&& 31)), .int 4]) (rest := []) ⟨hx, hb, hml, hown, hts⟩ (cw_low l D cI (v >>> (14 &&& 31)) 4 (by decide) _) (va_cwS 2 hts gL_act_L_low rfl rfl rfl (by decide +kernel) ⟨Nat.le_of_ble_eq_true rfl, Nat.le_of_ble_eq_true rfl⟩) (kp_RS (hP.sub (ws' := []) [] rfl) hK) rfl rfl hl.1 rfl (lv_room (Nat.le_of_ble_eq_true rfl)) dL_act_129 ⟨(show 0 + 0 ≤ 3 from by omega), (show 0 + 0 ≤ 18 from by omega)⟩) hP hS hA (fun r_129 H locs er_129 hP hS => ?_)
    have er_129 : r_129 = klow (v >>> (14 &&& 31)) 4 := er_129
    rw [er_129]
    refine lv_if_le (tgt := 142) hx hb dL_act_132 (by decide) (fun c_132 => ?_) (fun c_132 => ?_)
    · skip
      refine lv_aload_n hx hb dL_act_142 rfl (lv_at hl 3 rfl) ?_
      refine lv_iload_n hx hb dL_act_143 rfl (lv_at hl 2 rfl) ?_
      refine lv_iload_n hx hb dL_act_144 rfl (lv_at hl 4 rfl) ?_
      refine lv_bipush (v := 9) hx hb dL_act_145 (by decide) ?_
      refine lv_ishr hx hb dL_act_147 ?_
      refine lv_sipush (v := 1010) hx hb dL_act_148 (by decide) ?_
      refine kq_R (va_runS (As := [.int (v >>> (9 &&& 31)), .int 1010]) (rest := [.int (klow (v >>> (4 &&& 31)) 14), .ref (a 0)]) ⟨hx, hb, hml, hown, hts⟩ (cw_low l D cI (v >>> (9 &&& 31)) 1010 (by decide) _) (va_cwS 2 hts gL_act_L_low rfl rfl rfl (by decide +kernel) ⟨Nat.le_of_ble_eq_true rfl, Nat.le_of_ble_eq_true rfl⟩) (kp_RS (hP.sub (ws' := []) [] rfl) hK) rfl rfl hl.1 rfl (lv_room (Nat.le_of_ble_eq_true rfl)) dL_act_151 ⟨(show 0 + 0 ≤ 3 from by omega), (show 0 + 0 ≤ 18 from by omega)⟩) hP hS hA (fun r_151 H locs er_151 hP hS => ?_)
      have er_151 : r_151 = klow (v >>> (9 &&& 31)) 1010 := er_151
      rw [er_151]
      refine lv_iconst (v := 5) hx hb dL_act_154 (by decide) ?_
      refine lv_isub hx hb dL_act_155 ?_
      refine kq_0 (px := fun _ => False) (vx_runSX (As := [.ref (a 0), .int (klow (v >>> (4 &&& 31)) 14), .int ((klow (v >>> (9 &&& 31)) 1010) - 5)]) (rest := []) ⟨hx, hb, hml, hown, hts⟩ (cw_setCount l D cI a c x (klow (v >>> (4 &&& 31)) 14) (klow (v >>> (9 &&& 31)) 1010 - 5) hfl _) (vx_cwSW 3 hts gL_act_L_setCount rfl rfl rfl (by decide +kernel) ⟨Nat.le_of_ble_eq_true rfl, Nat.le_of_ble_eq_true rfl⟩) (kp_0S hP hD hK hX hZ hS hA) rfl rfl hl.1 rfl (lv_room (Nat.le_of_ble_eq_true rfl)) dL_act_156 ⟨(show 0 + 2 ≤ 3 from by omega), (show 0 + 12 ≤ 18 from by omega)⟩) hP hD hS hA (fun E ce q9 H locs hE hP hS hcell hv hcl => hE.elim) (fun r_156 _u H locs er_156 hP hD hS => ?_)
      have hP : va_P D vwCl (oW cI a (oCnt c (klow (v >>> (4 &&& 31)) 14) (klow (v >>> (9 &&& 31)) 1010 - 5)).2 x) H := hP
      have hD : va_D _ (oW cI a (oCnt c (klow (v >>> (4 &&& 31)) 14) (klow (v >>> (9 &&& 31)) 1010 - 5)).2 x) := hD
      have er_156 : r_156 = (oCnt c (klow (v >>> (4 &&& 31)) 14) (klow (v >>> (9 &&& 31)) 1010 - 5)).1 := er_156
      rw [er_156]
      exact ke_X hx hb hr hlocks (()) (by rw [show kAct c v = (oCnt c (klow (v >>> (4 &&& 31)) 14) (klow (v >>> (9 &&& 31)) 1010 - 5)) from ea.trans (if_pos c_132)]; exact hP) (by rw [show kAct c v = (oCnt c (klow (v >>> (4 &&& 31)) 14) (klow (v >>> (9 &&& 31)) 1010 - 5)) from ea.trans (if_pos c_132)]; exact hD) hS (show 0 + 2 ≤ 3 from by omega) (show 0 + 12 ≤ 18 from by omega) dL_act_159 (by rw [show kAct c v = (oCnt c (klow (v >>> (4 &&& 31)) 14) (klow (v >>> (9 &&& 31)) 1010 - 5)) from ea.trans (if_pos c_132)])
    · skip
      refine lv_aload_n hx hb dL_act_135 rfl (lv_at hl 3 rfl) ?_
      refine kq_0 (px := fun _ => False) (vx_runSX (As := [.ref (a 0)]) (rest := []) ⟨hx, hb, hml, hown, hts⟩ (cw_addSense l D cI a c x hfl _) (vx_cwSW 1 hts gL_act_L_addSense rfl rfl rfl (by decide +kernel) ⟨Nat.le_of_ble_eq_true rfl, Nat.le_of_ble_eq_true rfl⟩) (kp_0S hP hD hK hX hZ hS hA) rfl rfl hl.1 rfl (lv_room (Nat.le_of_ble_eq_true rfl)) dL_act_136 ⟨(show 0 + 1 ≤ 3 from by omega), (show 0 + 6 ≤ 18 from by omega)⟩) hP hD hS hA (fun E ce q9 H locs hE hP hS hcell hv hcl => hE.elim) (fun r_136 _u H locs er_136 hP hD hS => ?_)
      have hP : va_P D vwCl (oW cI a (oAdd c).2 x) H := hP
      have hD : va_D _ (oW cI a (oAdd c).2 x) := hD
      have er_136 : r_136 = (oAdd c).1 := er_136
      rw [er_136]
      refine lv_goto (tgt := 159) hx hb dL_act_139 (by decide) ?_
      exact ke_X hx hb hr hlocks (()) (by rw [show kAct c v = (oAdd c) from ea.trans (if_neg c_132)]; exact hP) (by rw [show kAct c v = (oAdd c) from ea.trans (if_neg c_132)]; exact hD) hS (show 0 + 1 ≤ 3 from by omega) (show 0 + 6 ≤ 18 from by omega) dL_act_159 (by rw [show kAct c v = (oAdd c) from ea.trans (if_neg c_132)])
  · skip
    refine lv_tableIn (tgt := 124) (off := 90) hx hb dL_act_34 (by decide +kernel) (by decide +kernel) (by decide +kernel) (by decide +kernel) ?_
    refine lv_iload_n hx hb dL_act_124 rfl (lv_at hl 4 rfl) ?_
    refine lv_bipush (v := 14) hx hb dL_act_125 (by decide) ?_
    refine lv_ishr hx hb dL_act_127 ?_
    refine lv_iconst (v := 4) hx hb dL_act_128 (by decide) ?_
    refine kq_R (va_runS (As := [.int (v >>> (14 &&& 31)), .int 4]) (rest := []) ⟨hx, hb, hml, hown, hts⟩ (cw_low l D cI (v >>> (14 &&& 31)) 4 (by decide) _) (va_cwS 2 hts gL_act_L_low rfl rfl rfl (by decide +kernel) ⟨Nat.le_of_ble_eq_true rfl, Nat.le_of_ble_eq_true rfl⟩) (kp_RS (hP.sub (ws' := []) [] rfl) hK) rfl rfl hl.1 rfl (lv_room (Nat.le_of_ble_eq_true rfl)) dL_act_129 ⟨(show 0 + 0 ≤ 3 from by omega), (show 0 + 0 ≤ 18 from by omega)⟩) hP hS hA (fun r_129 H locs er_129 hP hS => ?_)
    have er_129 : r_129 = klow (v >>> (14 &&& 31)) 4 := er_129
    rw [er_129]
    refine lv_if_le (tgt := 142) hx hb dL_act_132 (by decide) (fun c_132 => ?_) (fun c_132 => ?_)
    · skip
      refine lv_aload_n hx hb dL_act_142 rfl (lv_at hl 3 rfl) ?_
      refine lv_iload_n hx hb dL_act_143 rfl (lv_at hl 2 rfl) ?_
      refine lv_iload_n hx hb dL_act_144 rfl (lv_at hl 4 rfl) ?_
      refine lv_bipush (v := 9) hx hb dL_act_145 (by decide) ?_
      refine lv_ishr hx hb dL_act_147 ?_
      refine lv_sipush (v := 1010) hx hb dL_act_148 (by decide) ?_
      refine kq_R (va_runS (As := [.int (v >>> (9 &&& 31)), .int 1010]) (rest := [.int (klow (v >>> (4 &&& 31)) 14), .ref (a 0)]) ⟨hx, hb, hml, hown, hts⟩ (cw_low l D cI (v >>> (9 &&& 31)) 1010 (by decide) _) (va_cwS 2 hts gL_act_L_low rfl rfl rfl (by decide +kernel) ⟨Nat.le_of_ble_eq_true rfl, Nat.le_of_ble_eq_true rfl⟩) (kp_RS (hP.sub (ws' := []) [] rfl) hK) rfl rfl hl.1 rfl (lv_room (Nat.le_of_ble_eq_true rfl)) dL_act_151 ⟨(show 0 + 0 ≤ 3 from by omega), (show 0 + 0 ≤ 18 from by omega)⟩) hP hS hA (fun r_151 H locs er_151 hP hS => ?_)
      have er_151 : r_151 = klow (v >>> (9 &&& 31)) 1010 := er_151
      rw [er_151]
      refine lv_iconst (v := 5) hx hb dL_act_154 (by decide) ?_
      refine lv_isub hx hb dL_act_155 ?_
      refine kq_0 (px := fun _ => False) (vx_runSX (As := [.ref (a 0), .int (klow (v >>> (4 &&& 31)) 14), .int ((klow (v >>> (9 &&& 31)) 1010) - 5)]) (rest := []) ⟨hx, hb, hml, hown, hts⟩ (cw_setCount l D cI a c x (klow (v >>> (4 &&& 31)) 14) (klow (v >>> (9 &&& 31)) 1010 - 5) hfl _) (vx_cwSW 3 hts gL_act_L_setCount rfl rfl rfl (by decide +kernel) ⟨Nat.le_of_ble_eq_true rfl, Nat.le_of_ble_eq_true rfl⟩) (kp_0S hP hD hK hX hZ hS hA) rfl rfl hl.1 rfl (lv_room (Nat.le_of_ble_eq_true rfl)) dL_act_156 ⟨(show 0 + 2 ≤ 3 from by omega), (show 0 + 12 ≤ 18 from by omega)⟩) hP hD hS hA (fun E ce q9 H locs hE hP hS hcell hv hcl => hE.elim) (fun r_156 _u H locs er_156 hP hD hS => ?_)
      have hP : va_P D vwCl (oW cI a (oCnt c (klow (v >>> (4 &&& 31)) 14) (klow (v >>> (9 &&& 31)) 1010 - 5)).2 x) H := hP
      have hD : va_D _ (oW cI a (oCnt c (klow (v >>> (4 &&& 31)) 14) (klow (v >>> (9 &&& 31)) 1010 - 5)).2 x) := hD
      have er_156 : r_156 = (oCnt c (klow (v >>> (4 &&& 31)) 14) (klow (v >>> (9 &&& 31)) 1010 - 5)).1 := er_156
      rw [er_156]
      exact ke_X hx hb hr hlocks (()) (by rw [show kAct c v = (oCnt c (klow (v >>> (4 &&& 31)) 14) (klow (v >>> (9 &&& 31)) 1010 - 5)) from ea.trans (if_pos c_132)]; exact hP) (by rw [show kAct c v = (oCnt c (klow (v >>> (4 &&& 31)) 14) (klow (v >>> (9 &&& 31)) 1010 - 5)) from ea.trans (if_pos c_132)]; exact hD) hS (show 0 + 2 ≤ 3 from by omega) (show 0 + 12 ≤ 18 from by omega) dL_act_159 (by rw [show kAct c v = (oCnt c (klow (v >>> (4 &&& 31)) 14) (klow (v >>> (9 &&& 31)) 1010 - 5)) from ea.trans (if_pos c_132)])
    · skip
      refine lv_aload_n hx hb dL_act_135 rfl (lv_at hl 3 rfl) ?_
      refine kq_0 (px := fun _ => False) (vx_runSX (As := [.ref (a 0)]) (rest := []) ⟨hx, hb, hml, hown, hts⟩ (cw_addSense l D cI a c x hfl _) (vx_cwSW 1 hts gL_act_L_addSense rfl rfl rfl (by decide +kernel) ⟨Nat.le_of_ble_eq_true rfl, Nat.le_of_ble_eq_true rfl⟩) (kp_0S hP hD hK hX hZ hS hA) rfl rfl hl.1 rfl (lv_room (Nat.le_of_ble_eq_true rfl)) dL_act_136 ⟨(show 0 + 1 ≤ 3 from by omega), (show 0 + 6 ≤ 18 from by omega)⟩) hP hD hS hA (fun E ce q9 H locs hE hP hS hcell hv hcl => hE.elim) (fun r_136 _u H locs er_136 hP hD hS => ?_)
      have hP : va_P D vwCl (oW cI a (oAdd c).2 x) H := hP
      have hD : va_D _ (oW cI a (oAdd c).2 x) := hD
      have er_136 : r_136 = (oAdd c).1 := er_136
      rw [er_136]
      refine lv_goto (tgt := 159) hx hb dL_act_139 (by decide) ?_
      exact ke_X hx hb hr hlocks (()) (by rw [show kAct c v = (oAdd c) from ea.trans (if_neg c_132)]; exact hP) (by rw [show kAct c v = (oAdd c) from ea.trans (if_neg c_132)]; exact hD) hS (show 0 + 1 ≤ 3 from by omega) (show 0 + 6 ≤ 18 from by omega) dL_act_159 (by rw [show kAct c v = (oAdd c) from ea.trans (if_neg c_132)])
  · skip
    refine lv_tableIn (tgt := 160) (off := 126) hx hb dL_act_34 (by decide +kernel) (by decide +kernel) (by decide +kernel) (by decide +kernel) ?_
    refine lv_aload_n hx hb dL_act_160 rfl (lv_at hl 3 rfl) ?_
    refine lv_iload_n hx hb dL_act_161 rfl (lv_at hl 2 rfl) ?_
    refine lv_iload_n hx hb dL_act_162 rfl (lv_at hl 1 rfl) ?_
    refine kq_0 (px := fun _ => False) (vx_runSX (As := [.ref (a 0), .int (klow (v >>> (4 &&& 31)) 14), .int (klow (v >>> (8 &&& 31)) 14)]) (rest := []) ⟨hx, hb, hml, hown, hts⟩ (cw_link l D cI a c x (klow (v >>> (4 &&& 31)) 14) (klow (v >>> (8 &&& 31)) 14) hfl _) (vx_cwSW 3 hts gL_act_L_link rfl rfl rfl (by decide +kernel) ⟨Nat.le_of_ble_eq_true rfl, Nat.le_of_ble_eq_true rfl⟩) (kp_0S hP hD hK hX hZ hS hA) rfl rfl hl.1 rfl (lv_room (Nat.le_of_ble_eq_true rfl)) dL_act_163 ⟨(show 0 + 3 ≤ 3 from by omega), (show 0 + 18 ≤ 18 from by omega)⟩) hP hD hS hA (fun E ce q9 H locs hE hP hS hcell hv hcl => hE.elim) (fun r_163 _u H locs er_163 hP hD hS => ?_)
    have hP : va_P D vwCl (oW cI a (oLnk c (klow (v >>> (4 &&& 31)) 14) (klow (v >>> (8 &&& 31)) 14)).2 x) H := hP
    have hD : va_D _ (oW cI a (oLnk c (klow (v >>> (4 &&& 31)) 14) (klow (v >>> (8 &&& 31)) 14)).2 x) := hD
    have er_163 : r_163 = (oLnk c (klow (v >>> (4 &&& 31)) 14) (klow (v >>> (8 &&& 31)) 14)).1 := er_163
    rw [er_163]
    exact ke_X hx hb hr hlocks (()) (by rw [show kAct c v = (oLnk c (klow (v >>> (4 &&& 31)) 14) (klow (v >>> (8 &&& 31)) 14)) from ea]; exact hP) (by rw [show kAct c v = (oLnk c (klow (v >>> (4 &&& 31)) 14) (klow (v >>> (8 &&& 31)) 14)) from ea]; exact hD) hS (show 0 + 3 ≤ 3 from by omega) (show 0 + 18 ≤ 18 from by omega) dL_act_166 (by rw [show kAct c v = (oLnk c (klow (v >>> (4 &&& 31)) 14) (klow (v >>> (8 &&& 31)) 14)) from ea])
  · skip
    refine lv_tableIn (tgt := 160) (off := 126) hx hb dL_act_34 (by decide +kernel) (by decide +kernel) (by decide +kernel) (by decide +kernel) ?_
    refine lv_aload_n hx hb dL_act_160 rfl (lv_at hl 3 rfl) ?_
    refine lv_iload_n hx hb dL_act_161 rfl (lv_at hl 2 rfl) ?_
    refine lv_iload_n hx hb dL_act_162 rfl (lv_at hl 1 rfl) ?_
    refine kq_0 (px := fun _ => False) (vx_runSX (As := [.ref (a 0), .int (klow (v >>> (4 &&& 31)) 14), .int (klow (v >>> (8 &&& 31)) 14)]) (rest := []) ⟨hx, hb, hml, hown, hts⟩ (cw_link l D cI a c x (klow (v >>> (4 &&& 31)) 14) (klow (v >>> (8 &&& 31)) 14) hfl _) (vx_cwSW 3 hts gL_act_L_link rfl rfl rfl (by decide +kernel) ⟨Nat.le_of_ble_eq_true rfl, Nat.le_of_ble_eq_true rfl⟩) (kp_0S hP hD hK hX hZ hS hA) rfl rfl hl.1 rfl (lv_room (Nat.le_of_ble_eq_true rfl)) dL_act_163 ⟨(show 0 + 3 ≤ 3 from by omega), (show 0 + 18 ≤ 18 from by omega)⟩) hP hD hS hA (fun E ce q9 H locs hE hP hS hcell hv hcl => hE.elim) (fun r_163 _u H locs er_163 hP hD hS => ?_)
    have hP : va_P D vwCl (oW cI a (oLnk c (klow (v >>> (4 &&& 31)) 14) (klow (v >>> (8 &&& 31)) 14)).2 x) H := hP
    have hD : va_D _ (oW cI a (oLnk c (klow (v >>> (4 &&& 31)) 14) (klow (v >>> (8 &&& 31)) 14)).2 x) := hD
    have er_163 : r_163 = (oLnk c (klow (v >>> (4 &&& 31)) 14) (klow (v >>> (8 &&& 31)) 14)).1 := er_163
    rw [er_163]
    exact ke_X hx hb hr hlocks (()) (by rw [show kAct c v = (oLnk c (klow (v >>> (4 &&& 31)) 14) (klow (v >>> (8 &&& 31)) 14)) from ea]; exact hP) (by rw [show kAct c v = (oLnk c (klow (v >>> (4 &&& 31)) 14) (klow (v >>> (8 &&& 31)) 14)) from ea]; exact hD) hS (show 0 + 3 ≤ 3 from by omega) (show 0 + 18 ≤ 18 from by omega) dL_act_166 (by rw [show kAct c v = (oLnk c (klow (v >>> (4 &&& 31)) 14) (klow (v >>> (8 &&& 31)) 14)) from ea])
  · skip
    refine lv_tableIn (tgt := 160) (off := 126) hx hb dL_act_34 (by decide +kernel) (by decide +kernel) (by decide +kernel) (by decide +kernel) ?_
    refine lv_aload_n hx hb dL_act_160 rfl (lv_at hl 3 rfl) ?_
    refine lv_iload_n hx hb dL_act_161 rfl (lv_at hl 2 rfl) ?_
    refine lv_iload_n hx hb dL_act_162 rfl (lv_at hl 1 rfl) ?_
    refine kq_0 (px := fun _ => False) (vx_runSX (As := [.ref (a 0), .int (klow (v >>> (4 &&& 31)) 14), .int (klow (v >>> (8 &&& 31)) 14)]) (rest := []) ⟨hx, hb, hml, hown, hts⟩ (cw_link l D cI a c x (klow (v >>> (4 &&& 31)) 14) (klow (v >>> (8 &&& 31)) 14) hfl _) (vx_cwSW 3 hts gL_act_L_link rfl rfl rfl (by decide +kernel) ⟨Nat.le_of_ble_eq_true rfl, Nat.le_of_ble_eq_true rfl⟩) (kp_0S hP hD hK hX hZ hS hA) rfl rfl hl.1 rfl (lv_room (Nat.le_of_ble_eq_true rfl)) dL_act_163 ⟨(show 0 + 3 ≤ 3 from by omega), (show 0 + 18 ≤ 18 from by omega)⟩) hP hD hS hA (fun E ce q9 H locs hE hP hS hcell hv hcl => hE.elim) (fun r_163 _u H locs er_163 hP hD hS => ?_)
    have hP : va_P D vwCl (oW cI a (oLnk c (klow (v >>> (4 &&& 31)) 14) (klow (v >>> (8 &&& 31)) 14)).2 x) H := hP
    have hD : va_D _ (oW cI a (oLnk c (klow (v >>> (4 &&& 31)) 14) (klow (v >>> (8 &&& 31)) 14)).2 x) := hD
    have er_163 : r_163 = (oLnk c (klow (v >>> (4 &&& 31)) 14) (klow (v >>> (8 &&& 31)) 14)).1 := er_163
    rw [er_163]
    exact ke_X hx hb hr hlocks (()) (by rw [show kAct c v = (oLnk c (klow (v >>> (4 &&& 31)) 14) (klow (v >>> (8 &&& 31)) 14)) from ea]; exact hP) (by rw [show kAct c v = (oLnk c (klow (v >>> (4 &&& 31)) 14) (klow (v >>> (8 &&& 31)) 14)) from ea]; exact hD) hS (show 0 + 3 ≤ 3 from by omega) (show 0 + 18 ≤ 18 from by omega) dL_act_166 (by rw [show kAct c v = (oLnk c (klow (v >>> (4 &&& 31)) 14) (klow (v >>> (8 &&& 31)) 14)) from ea])
  · skip
    refine lv_tableIn (tgt := 160) (off := 126) hx hb dL_act_34 (by decide +kernel) (by decide +kernel) (by decide +kernel) (by decide +kernel) ?_
    refine lv_aload_n hx hb dL_act_160 rfl (lv_at hl 3 rfl) ?_
    refine lv_iload_n hx hb dL_act_161 rfl (lv_at hl 2 rfl) ?_
    refine lv_iload_n hx hb dL_act_162 rfl (lv_at hl 1 rfl) ?_
    refine kq_0 (px := fun _ => False) (vx_runSX (As := [.ref (a 0), .int (klow (v >>> (4 &&& 31)) 14), .int (klow (v >>> (8 &&& 31)) 14)]) (rest := []) ⟨hx, hb, hml, hown, hts⟩ (cw_link l D cI a c x (klow (v >>> (4 &&& 31)) 14) (klow (v >>> (8 &&& 31)) 14) hfl _) (vx_cwSW 3 hts gL_act_L_link rfl rfl rfl (by decide +kernel) ⟨Nat.le_of_ble_eq_true rfl, Nat.le_of_ble_eq_true rfl⟩) (kp_0S hP hD hK hX hZ hS hA) rfl rfl hl.1 rfl (lv_room (Nat.le_of_ble_eq_true rfl)) dL_act_163 ⟨(show 0 + 3 ≤ 3 from by omega), (show 0 + 18 ≤ 18 from by omega)⟩) hP hD hS hA (fun E ce q9 H locs hE hP hS hcell hv hcl => hE.elim) (fun r_163 _u H locs er_163 hP hD hS => ?_)
    have hP : va_P D vwCl (oW cI a (oLnk c (klow (v >>> (4 &&& 31)) 14) (klow (v >>> (8 &&& 31)) 14)).2 x) H := hP
    have hD : va_D _ (oW cI a (oLnk c (klow (v >>> (4 &&& 31)) 14) (klow (v >>> (8 &&& 31)) 14)).2 x) := hD
    have er_163 : r_163 = (oLnk c (klow (v >>> (4 &&& 31)) 14) (klow (v >>> (8 &&& 31)) 14)).1 := er_163
    rw [er_163]
    exact ke_X hx hb hr hlocks (()) (by rw [show kAct c v = (oLnk c (klow (v >>> (4 &&& 31)) 14) (klow (v >>> (8 &&& 31)) 14)) from ea]; exact hP) (by rw [show kAct c v = (oLnk c (klow (v >>> (4 &&& 31)) 14) (klow (v >>> (8 &&& 31)) 14)) from ea]; exact hD) hS (show 0 + 3 ≤ 3 from by omega) (show 0 + 18 ≤ 18 from by omega) dL_act_166 (by rw [show kAct c v = (oLnk c (klow (v >>> (4 &&& 31)) 14) (klow (v >>> (8 &&& 31)) 14)) from ea])
  · skip
    refine lv_tableIn (tgt := 167) (off := 133) hx hb dL_act_34 (by decide +kernel) (by decide +kernel) (by decide +kernel) (by decide +kernel) ?_
    refine lv_aload_n hx hb dL_act_167 rfl (lv_at hl 3 rfl) ?_
    refine lv_iload_n hx hb dL_act_168 rfl (lv_at hl 2 rfl) ?_
    refine lv_iload_n hx hb dL_act_169 rfl (lv_at hl 1 rfl) ?_
    refine kq_0 (px := fun _ => False) (vx_runSX (As := [.ref (a 0), .int (klow (v >>> (4 &&& 31)) 14), .int (klow (v >>> (8 &&& 31)) 14)]) (rest := []) ⟨hx, hb, hml, hown, hts⟩ (cw_unlink l D cI a c x (klow (v >>> (4 &&& 31)) 14) (klow (v >>> (8 &&& 31)) 14) hfl _) (vx_cwSW 3 hts gL_act_L_unlink rfl rfl rfl (by decide +kernel) ⟨Nat.le_of_ble_eq_true rfl, Nat.le_of_ble_eq_true rfl⟩) (kp_0S hP hD hK hX hZ hS hA) rfl rfl hl.1 rfl (lv_room (Nat.le_of_ble_eq_true rfl)) dL_act_170 ⟨(show 0 + 3 ≤ 3 from by omega), (show 0 + 18 ≤ 18 from by omega)⟩) hP hD hS hA (fun E ce q9 H locs hE hP hS hcell hv hcl => hE.elim) (fun r_170 _u H locs er_170 hP hD hS => ?_)
    have hP : va_P D vwCl (oW cI a (oUnl c (klow (v >>> (4 &&& 31)) 14) (klow (v >>> (8 &&& 31)) 14)).2 x) H := hP
    have hD : va_D _ (oW cI a (oUnl c (klow (v >>> (4 &&& 31)) 14) (klow (v >>> (8 &&& 31)) 14)).2 x) := hD
    have er_170 : r_170 = (oUnl c (klow (v >>> (4 &&& 31)) 14) (klow (v >>> (8 &&& 31)) 14)).1 := er_170
    rw [er_170]
    exact ke_X hx hb hr hlocks (()) (by rw [show kAct c v = (oUnl c (klow (v >>> (4 &&& 31)) 14) (klow (v >>> (8 &&& 31)) 14)) from ea]; exact hP) (by rw [show kAct c v = (oUnl c (klow (v >>> (4 &&& 31)) 14) (klow (v >>> (8 &&& 31)) 14)) from ea]; exact hD) hS (show 0 + 3 ≤ 3 from by omega) (show 0 + 18 ≤ 18 from by omega) dL_act_173 (by rw [show kAct c v = (oUnl c (klow (v >>> (4 &&& 31)) 14) (klow (v >>> (8 &&& 31)) 14)) from ea])
  · skip
    refine lv_tableIn (tgt := 174) (off := 140) hx hb dL_act_34 (by decide +kernel) (by decide +kernel) (by decide +kernel) (by decide +kernel) ?_
    refine lv_iload_n hx hb dL_act_174 rfl (lv_at hl 4 rfl) ?_
    refine lv_bipush (v := 14) hx hb dL_act_175 (by decide) ?_
    refine lv_ishr hx hb dL_act_177 ?_
    refine lv_iconst (v := 2) hx hb dL_act_178 (by decide) ?_
    refine kq_R (va_runS (As := [.int (v >>> (14 &&& 31)), .int 2]) (rest := []) ⟨hx, hb, hml, hown, hts⟩ (cw_low l D cI (v >>> (14 &&& 31)) 2 (by decide) _) (va_cwS 2 hts gL_act_L_low rfl rfl rfl (by decide +kernel) ⟨Nat.le_of_ble_eq_true rfl, Nat.le_of_ble_eq_true rfl⟩) (kp_RS (hP.sub (ws' := []) [] rfl) hK) rfl rfl hl.1 rfl (lv_room (Nat.le_of_ble_eq_true rfl)) dL_act_179 ⟨(show 0 + 0 ≤ 3 from by omega), (show 0 + 0 ≤ 18 from by omega)⟩) hP hS hA (fun r_179 H locs er_179 hP hS => ?_)
    have er_179 : r_179 = klow (v >>> (14 &&& 31)) 2 := er_179
    rw [er_179]
    refine lv_if_ne (tgt := 193) hx hb dL_act_182 (by decide) (fun c_182 => ?_) (fun c_182 => ?_)
    · skip
      refine lv_aload_n hx hb dL_act_193 rfl (lv_at hl 3 rfl) ?_
      refine lv_iload_n hx hb dL_act_194 rfl (lv_at hl 2 rfl) ?_
      refine lv_iload_n hx hb dL_act_195 rfl (lv_at hl 1 rfl) ?_
      refine kq_0 (px := fun _ => False) (vx_runSX (As := [.ref (a 0), .int (klow (v >>> (4 &&& 31)) 14), .int (klow (v >>> (8 &&& 31)) 14)]) (rest := []) ⟨hx, hb, hml, hown, hts⟩ (cw_link l D cI a c x (klow (v >>> (4 &&& 31)) 14) (klow (v >>> (8 &&& 31)) 14) hfl _) (vx_cwSW 3 hts gL_act_L_link rfl rfl rfl (by decide +kernel) ⟨Nat.le_of_ble_eq_true rfl, Nat.le_of_ble_eq_true rfl⟩) (kp_0S hP hD hK hX hZ hS hA) rfl rfl hl.1 rfl (lv_room (Nat.le_of_ble_eq_true rfl)) dL_act_196 ⟨(show 0 + 3 ≤ 3 from by omega), (show 0 + 18 ≤ 18 from by omega)⟩) hP hD hS hA (fun E ce q9 H locs hE hP hS hcell hv hcl => hE.elim) (fun r_196 _u H locs er_196 hP hD hS => ?_)
      have hP : va_P D vwCl (oW cI a (oLnk c (klow (v >>> (4 &&& 31)) 14) (klow (v >>> (8 &&& 31)) 14)).2 x) H := hP
      have hD : va_D _ (oW cI a (oLnk c (klow (v >>> (4 &&& 31)) 14) (klow (v >>> (8 &&& 31)) 14)).2 x) := hD
      have er_196 : r_196 = (oLnk c (klow (v >>> (4 &&& 31)) 14) (klow (v >>> (8 &&& 31)) 14)).1 := er_196
      rw [er_196]
      exact ke_X hx hb hr hlocks (()) (by rw [show kAct c v = (oLnk c (klow (v >>> (4 &&& 31)) 14) (klow (v >>> (8 &&& 31)) 14)) from ea.trans (if_pos c_182)]; exact hP) (by rw [show kAct c v = (oLnk c (klow (v >>> (4 &&& 31)) 14) (klow (v >>> (8 &&& 31)) 14)) from ea.trans (if_pos c_182)]; exact hD) hS (show 0 + 3 ≤ 3 from by omega) (show 0 + 18 ≤ 18 from by omega) dL_act_199 (by rw [show kAct c v = (oLnk c (klow (v >>> (4 &&& 31)) 14) (klow (v >>> (8 &&& 31)) 14)) from ea.trans (if_pos c_182)])
    · skip
      refine lv_aload_n hx hb dL_act_185 rfl (lv_at hl 3 rfl) ?_
      refine lv_iload_n hx hb dL_act_186 rfl (lv_at hl 2 rfl) ?_
      refine kq_0 (px := fun _ => False) (vx_runSX (As := [.ref (a 0), .int (klow (v >>> (4 &&& 31)) 14)]) (rest := []) ⟨hx, hb, hml, hown, hts⟩ (cw_remove l D cI a c x (klow (v >>> (4 &&& 31)) 14) hfl _) (vx_cwSW 2 hts gL_act_L_remove rfl rfl rfl (by decide +kernel) ⟨Nat.le_of_ble_eq_true rfl, Nat.le_of_ble_eq_true rfl⟩) (kp_0S hP hD hK hX hZ hS hA) rfl rfl hl.1 rfl (lv_room (Nat.le_of_ble_eq_true rfl)) dL_act_187 ⟨(show 0 + 2 ≤ 3 from by omega), (show 0 + 12 ≤ 18 from by omega)⟩) hP hD hS hA (fun E ce q9 H locs hE hP hS hcell hv hcl => hE.elim) (fun r_187 _u H locs er_187 hP hD hS => ?_)
      have hP : va_P D vwCl (oW cI a (oRem c (klow (v >>> (4 &&& 31)) 14)).2 x) H := hP
      have hD : va_D _ (oW cI a (oRem c (klow (v >>> (4 &&& 31)) 14)).2 x) := hD
      have er_187 : r_187 = (oRem c (klow (v >>> (4 &&& 31)) 14)).1 := er_187
      rw [er_187]
      refine lv_goto (tgt := 199) hx hb dL_act_190 (by decide) ?_
      exact ke_X hx hb hr hlocks (()) (by rw [show kAct c v = (oRem c (klow (v >>> (4 &&& 31)) 14)) from ea.trans (if_neg (fun h => h c_182))]; exact hP) (by rw [show kAct c v = (oRem c (klow (v >>> (4 &&& 31)) 14)) from ea.trans (if_neg (fun h => h c_182))]; exact hD) hS (show 0 + 2 ≤ 3 from by omega) (show 0 + 12 ≤ 18 from by omega) dL_act_199 (by rw [show kAct c v = (oRem c (klow (v >>> (4 &&& 31)) 14)) from ea.trans (if_neg (fun h => h c_182))])
  · skip
    refine lv_tableIn (tgt := 200) (off := 166) hx hb dL_act_34 (by decide +kernel) (by decide +kernel) (by decide +kernel) (by decide +kernel) ?_
    refine lv_aload_n hx hb dL_act_200 rfl (lv_at hl 3 rfl) ?_
    refine lv_iload_n hx hb dL_act_201 rfl (lv_at hl 2 rfl) ?_
    refine lv_iload_n hx hb dL_act_202 rfl (lv_at hl 4 rfl) ?_
    refine lv_bipush (v := 12) hx hb dL_act_203 (by decide) ?_
    refine lv_ishr hx hb dL_act_205 ?_
    refine lv_bipush (v := 20) hx hb dL_act_206 (by decide) ?_
    refine kq_R (va_runS (As := [.int (v >>> (12 &&& 31)), .int 20]) (rest := [.int (klow (v >>> (4 &&& 31)) 14), .ref (a 0)]) ⟨hx, hb, hml, hown, hts⟩ (cw_low l D cI (v >>> (12 &&& 31)) 20 (by decide) _) (va_cwS 2 hts gL_act_L_low rfl rfl rfl (by decide +kernel) ⟨Nat.le_of_ble_eq_true rfl, Nat.le_of_ble_eq_true rfl⟩) (kp_RS (hP.sub (ws' := []) [] rfl) hK) rfl rfl hl.1 rfl (lv_room (Nat.le_of_ble_eq_true rfl)) dL_act_208 ⟨(show 0 + 0 ≤ 3 from by omega), (show 0 + 0 ≤ 18 from by omega)⟩) hP hS hA (fun r_208 H locs er_208 hP hS => ?_)
    have er_208 : r_208 = klow (v >>> (12 &&& 31)) 20 := er_208
    rw [er_208]
    refine kq_0 (px := fun _ => False) (vx_runSX (As := [.ref (a 0), .int (klow (v >>> (4 &&& 31)) 14), .int (klow (v >>> (12 &&& 31)) 20)]) (rest := []) ⟨hx, hb, hml, hown, hts⟩ (cw_setCount l D cI a c x (klow (v >>> (4 &&& 31)) 14) (klow (v >>> (12 &&& 31)) 20) hfl _) (vx_cwSW 3 hts gL_act_L_setCount rfl rfl rfl (by decide +kernel) ⟨Nat.le_of_ble_eq_true rfl, Nat.le_of_ble_eq_true rfl⟩) (kp_0S hP hD hK hX hZ hS hA) rfl rfl hl.1 rfl (lv_room (Nat.le_of_ble_eq_true rfl)) dL_act_211 ⟨(show 0 + 2 ≤ 3 from by omega), (show 0 + 12 ≤ 18 from by omega)⟩) hP hD hS hA (fun E ce q9 H locs hE hP hS hcell hv hcl => hE.elim) (fun r_211 _u H locs er_211 hP hD hS => ?_)
    have hP : va_P D vwCl (oW cI a (oCnt c (klow (v >>> (4 &&& 31)) 14) (klow (v >>> (12 &&& 31)) 20)).2 x) H := hP
    have hD : va_D _ (oW cI a (oCnt c (klow (v >>> (4 &&& 31)) 14) (klow (v >>> (12 &&& 31)) 20)).2 x) := hD
    have er_211 : r_211 = (oCnt c (klow (v >>> (4 &&& 31)) 14) (klow (v >>> (12 &&& 31)) 20)).1 := er_211
    rw [er_211]
    exact ke_X hx hb hr hlocks (()) (by rw [show kAct c v = (oCnt c (klow (v >>> (4 &&& 31)) 14) (klow (v >>> (12 &&& 31)) 20)) from ea]; exact hP) (by rw [show kAct c v = (oCnt c (klow (v >>> (4 &&& 31)) 14) (klow (v >>> (12 &&& 31)) 20)) from ea]; exact hD) hS (show 0 + 2 ≤ 3 from by omega) (show 0 + 12 ≤ 18 from by omega) dL_act_214 (by rw [show kAct c v = (oCnt c (klow (v >>> (4 &&& 31)) 14) (klow (v >>> (12 &&& 31)) 20)) from ea])
  · skip
    refine lv_tableIn (tgt := 200) (off := 166) hx hb dL_act_34 (by decide +kernel) (by decide +kernel) (by decide +kernel) (by decide +kernel) ?_
    refine lv_aload_n hx hb dL_act_200 rfl (lv_at hl 3 rfl) ?_
    refine lv_iload_n hx hb dL_act_201 rfl (lv_at hl 2 rfl) ?_
    refine lv_iload_n hx hb dL_act_202 rfl (lv_at hl 4 rfl) ?_
    refine lv_bipush (v := 12) hx hb dL_act_203 (by decide) ?_
    refine lv_ishr hx hb dL_act_205 ?_
    refine lv_bipush (v := 20) hx hb dL_act_206 (by decide) ?_
    refine kq_R (va_runS (As := [.int (v >>> (12 &&& 31)), .int 20]) (rest := [.int (klow (v >>> (4 &&& 31)) 14), .ref (a 0)]) ⟨hx, hb, hml, hown, hts⟩ (cw_low l D cI (v >>> (12 &&& 31)) 20 (by decide) _) (va_cwS 2 hts gL_act_L_low rfl rfl rfl (by decide +kernel) ⟨Nat.le_of_ble_eq_true rfl, Nat.le_of_ble_eq_true rfl⟩) (kp_RS (hP.sub (ws' := []) [] rfl) hK) rfl rfl hl.1 rfl (lv_room (Nat.le_of_ble_eq_true rfl)) dL_act_208 ⟨(show 0 + 0 ≤ 3 from by omega), (show 0 + 0 ≤ 18 from by omega)⟩) hP hS hA (fun r_208 H locs er_208 hP hS => ?_)
    have er_208 : r_208 = klow (v >>> (12 &&& 31)) 20 := er_208
    rw [er_208]
    refine kq_0 (px := fun _ => False) (vx_runSX (As := [.ref (a 0), .int (klow (v >>> (4 &&& 31)) 14), .int (klow (v >>> (12 &&& 31)) 20)]) (rest := []) ⟨hx, hb, hml, hown, hts⟩ (cw_setCount l D cI a c x (klow (v >>> (4 &&& 31)) 14) (klow (v >>> (12 &&& 31)) 20) hfl _) (vx_cwSW 3 hts gL_act_L_setCount rfl rfl rfl (by decide +kernel) ⟨Nat.le_of_ble_eq_true rfl, Nat.le_of_ble_eq_true rfl⟩) (kp_0S hP hD hK hX hZ hS hA) rfl rfl hl.1 rfl (lv_room (Nat.le_of_ble_eq_true rfl)) dL_act_211 ⟨(show 0 + 2 ≤ 3 from by omega), (show 0 + 12 ≤ 18 from by omega)⟩) hP hD hS hA (fun E ce q9 H locs hE hP hS hcell hv hcl => hE.elim) (fun r_211 _u H locs er_211 hP hD hS => ?_)
    have hP : va_P D vwCl (oW cI a (oCnt c (klow (v >>> (4 &&& 31)) 14) (klow (v >>> (12 &&& 31)) 20)).2 x) H := hP
    have hD : va_D _ (oW cI a (oCnt c (klow (v >>> (4 &&& 31)) 14) (klow (v >>> (12 &&& 31)) 20)).2 x) := hD
    have er_211 : r_211 = (oCnt c (klow (v >>> (4 &&& 31)) 14) (klow (v >>> (12 &&& 31)) 20)).1 := er_211
    rw [er_211]
    exact ke_X hx hb hr hlocks (()) (by rw [show kAct c v = (oCnt c (klow (v >>> (4 &&& 31)) 14) (klow (v >>> (12 &&& 31)) 20)) from ea]; exact hP) (by rw [show kAct c v = (oCnt c (klow (v >>> (4 &&& 31)) 14) (klow (v >>> (12 &&& 31)) 20)) from ea]; exact hD) hS (show 0 + 2 ≤ 3 from by omega) (show 0 + 12 ≤ 18 from by omega) dL_act_214 (by rw [show kAct c v = (oCnt c (klow (v >>> (4 &&& 31)) 14) (klow (v >>> (12 &&& 31)) 20)) from ea])
  · skip
    refine lv_tableIn (tgt := 215) (off := 181) hx hb dL_act_34 (by decide +kernel) (by decide +kernel) (by decide +kernel) (by decide +kernel) ?_
    refine lv_aload_n hx hb dL_act_215 rfl (lv_at hl 3 rfl) ?_
    refine kq_0 (px := fun _ => False) (vx_runSX (As := [.ref (a 0)]) (rest := []) ⟨hx, hb, hml, hown, hts⟩ (cw_addWord l D cI a c x hfl _) (vx_cwSW 1 hts gL_act_L_addWord rfl rfl rfl (by decide +kernel) ⟨Nat.le_of_ble_eq_true rfl, Nat.le_of_ble_eq_true rfl⟩) (kp_0S hP hD hK hX hZ hS hA) rfl rfl hl.1 rfl (lv_room (Nat.le_of_ble_eq_true rfl)) dL_act_216 ⟨(show 0 + 1 ≤ 3 from by omega), (show 0 + 6 ≤ 18 from by omega)⟩) hP hD hS hA (fun E ce q9 H locs hE hP hS hcell hv hcl => hE.elim) (fun r_216 _u H locs er_216 hP hD hS => ?_)
    have hP : va_P D vwCl (oW cI a (oAdw c).2 x) H := hP
    have hD : va_D _ (oW cI a (oAdw c).2 x) := hD
    have er_216 : r_216 = (oAdw c).1 := er_216
    rw [er_216]
    exact ke_X hx hb hr hlocks (()) (by rw [show kAct c v = (oAdw c) from ea]; exact hP) (by rw [show kAct c v = (oAdw c) from ea]; exact hD) hS (show 0 + 1 ≤ 3 from by omega) (show 0 + 6 ≤ 18 from by omega) dL_act_219 (by rw [show kAct c v = (oAdw c) from ea])
  · skip
    refine lv_tableIn (tgt := 220) (off := 186) hx hb dL_act_34 (by decide +kernel) (by decide +kernel) (by decide +kernel) (by decide +kernel) ?_
    refine lv_aload_n hx hb dL_act_220 rfl (lv_at hl 3 rfl) ?_
    refine lv_iload hx hb dL_act_221 (lv_at hl 0 rfl) ?_
    refine lv_iload_n hx hb dL_act_223 rfl (lv_at hl 1 rfl) ?_
    refine kq_0 (px := fun _ => False) (vx_runSX (As := [.ref (a 0), .int (klow (v >>> (4 &&& 31)) 4), .int (klow (v >>> (8 &&& 31)) 14)]) (rest := []) ⟨hx, hb, hml, hown, hts⟩ (cw_give l D cI a c x (klow (v >>> (4 &&& 31)) 4) (klow (v >>> (8 &&& 31)) 14) hfl _) (vx_cwSW 3 hts gL_act_L_give rfl rfl rfl (by decide +kernel) ⟨Nat.le_of_ble_eq_true rfl, Nat.le_of_ble_eq_true rfl⟩) (kp_0S hP hD hK hX hZ hS hA) rfl rfl hl.1 rfl (lv_room (Nat.le_of_ble_eq_true rfl)) dL_act_224 ⟨(show 0 + 3 ≤ 3 from by omega), (show 0 + 18 ≤ 18 from by omega)⟩) hP hD hS hA (fun E ce q9 H locs hE hP hS hcell hv hcl => hE.elim) (fun r_224 _u H locs er_224 hP hD hS => ?_)
    have hP : va_P D vwCl (oW cI a (oGiv c (klow (v >>> (4 &&& 31)) 4) (klow (v >>> (8 &&& 31)) 14)).2 x) H := hP
    have hD : va_D _ (oW cI a (oGiv c (klow (v >>> (4 &&& 31)) 4) (klow (v >>> (8 &&& 31)) 14)).2 x) := hD
    have er_224 : r_224 = (oGiv c (klow (v >>> (4 &&& 31)) 4) (klow (v >>> (8 &&& 31)) 14)).1 := er_224
    rw [er_224]
    exact ke_X hx hb hr hlocks (()) (by rw [show kAct c v = (oGiv c (klow (v >>> (4 &&& 31)) 4) (klow (v >>> (8 &&& 31)) 14)) from ea]; exact hP) (by rw [show kAct c v = (oGiv c (klow (v >>> (4 &&& 31)) 4) (klow (v >>> (8 &&& 31)) 14)) from ea]; exact hD) hS (show 0 + 3 ≤ 3 from by omega) (show 0 + 18 ≤ 18 from by omega) dL_act_227 (by rw [show kAct c v = (oGiv c (klow (v >>> (4 &&& 31)) 4) (klow (v >>> (8 &&& 31)) 14)) from ea])
  · skip
    refine lv_tableIn (tgt := 220) (off := 186) hx hb dL_act_34 (by decide +kernel) (by decide +kernel) (by decide +kernel) (by decide +kernel) ?_
    refine lv_aload_n hx hb dL_act_220 rfl (lv_at hl 3 rfl) ?_
    refine lv_iload hx hb dL_act_221 (lv_at hl 0 rfl) ?_
    refine lv_iload_n hx hb dL_act_223 rfl (lv_at hl 1 rfl) ?_
    refine kq_0 (px := fun _ => False) (vx_runSX (As := [.ref (a 0), .int (klow (v >>> (4 &&& 31)) 4), .int (klow (v >>> (8 &&& 31)) 14)]) (rest := []) ⟨hx, hb, hml, hown, hts⟩ (cw_give l D cI a c x (klow (v >>> (4 &&& 31)) 4) (klow (v >>> (8 &&& 31)) 14) hfl _) (vx_cwSW 3 hts gL_act_L_give rfl rfl rfl (by decide +kernel) ⟨Nat.le_of_ble_eq_true rfl, Nat.le_of_ble_eq_true rfl⟩) (kp_0S hP hD hK hX hZ hS hA) rfl rfl hl.1 rfl (lv_room (Nat.le_of_ble_eq_true rfl)) dL_act_224 ⟨(show 0 + 3 ≤ 3 from by omega), (show 0 + 18 ≤ 18 from by omega)⟩) hP hD hS hA (fun E ce q9 H locs hE hP hS hcell hv hcl => hE.elim) (fun r_224 _u H locs er_224 hP hD hS => ?_)
    have hP : va_P D vwCl (oW cI a (oGiv c (klow (v >>> (4 &&& 31)) 4) (klow (v >>> (8 &&& 31)) 14)).2 x) H := hP
    have hD : va_D _ (oW cI a (oGiv c (klow (v >>> (4 &&& 31)) 4) (klow (v >>> (8 &&& 31)) 14)).2 x) := hD
    have er_224 : r_224 = (oGiv c (klow (v >>> (4 &&& 31)) 4) (klow (v >>> (8 &&& 31)) 14)).1 := er_224
    rw [er_224]
    exact ke_X hx hb hr hlocks (()) (by rw [show kAct c v = (oGiv c (klow (v >>> (4 &&& 31)) 4) (klow (v >>> (8 &&& 31)) 14)) from ea]; exact hP) (by rw [show kAct c v = (oGiv c (klow (v >>> (4 &&& 31)) 4) (klow (v >>> (8 &&& 31)) 14)) from ea]; exact hD) hS (show 0 + 3 ≤ 3 from by omega) (show 0 + 18 ≤ 18 from by omega) dL_act_227 (by rw [show kAct c v = (oGiv c (klow (v >>> (4 &&& 31)) 4) (klow (v >>> (8 &&& 31)) 14)) from ea])
  · skip
    refine lv_tableIn (tgt := 228) (off := 194) hx hb dL_act_34 (by decide +kernel) (by decide +kernel) (by decide +kernel) (by decide +kernel) ?_
    refine lv_iload_n hx hb dL_act_228 rfl (lv_at hl 4 rfl) ?_
    refine lv_bipush (v := 14) hx hb dL_act_229 (by decide) ?_
    refine lv_ishr hx hb dL_act_231 ?_
    refine lv_iconst (v := 3) hx hb dL_act_232 (by decide) ?_
    refine kq_R (va_runS (As := [.int (v >>> (14 &&& 31)), .int 3]) (rest := []) ⟨hx, hb, hml, hown, hts⟩ (cw_low l D cI (v >>> (14 &&& 31)) 3 (by decide) _) (va_cwS 2 hts gL_act_L_low rfl rfl rfl (by decide +kernel) ⟨Nat.le_of_ble_eq_true rfl, Nat.le_of_ble_eq_true rfl⟩) (kp_RS (hP.sub (ws' := []) [] rfl) hK) rfl rfl hl.1 rfl (lv_room (Nat.le_of_ble_eq_true rfl)) dL_act_233 ⟨(show 0 + 0 ≤ 3 from by omega), (show 0 + 0 ≤ 18 from by omega)⟩) hP hS hA (fun r_233 H locs er_233 hP hS => ?_)
    have er_233 : r_233 = klow (v >>> (14 &&& 31)) 3 := er_233
    rw [er_233]
    refine lv_if_ne (tgt := 249) hx hb dL_act_236 (by decide) (fun c_236 => ?_) (fun c_236 => ?_)
    · skip
      refine lv_aload_n hx hb dL_act_249 rfl (lv_at hl 3 rfl) ?_
      refine lv_iload hx hb dL_act_250 (lv_at hl 0 rfl) ?_
      refine lv_iload_n hx hb dL_act_252 rfl (lv_at hl 1 rfl) ?_
      refine kq_0 (px := fun _ => False) (vx_runSX (As := [.ref (a 0), .int (klow (v >>> (4 &&& 31)) 4), .int (klow (v >>> (8 &&& 31)) 14)]) (rest := []) ⟨hx, hb, hml, hown, hts⟩ (cw_give l D cI a c x (klow (v >>> (4 &&& 31)) 4) (klow (v >>> (8 &&& 31)) 14) hfl _) (vx_cwSW 3 hts gL_act_L_give rfl rfl rfl (by decide +kernel) ⟨Nat.le_of_ble_eq_true rfl, Nat.le_of_ble_eq_true rfl⟩) (kp_0S hP hD hK hX hZ hS hA) rfl rfl hl.1 rfl (lv_room (Nat.le_of_ble_eq_true rfl)) dL_act_253 ⟨(show 0 + 3 ≤ 3 from by omega), (show 0 + 18 ≤ 18 from by omega)⟩) hP hD hS hA (fun E ce q9 H locs hE hP hS hcell hv hcl => hE.elim) (fun r_253 _u H locs er_253 hP hD hS => ?_)
      have hP : va_P D vwCl (oW cI a (oGiv c (klow (v >>> (4 &&& 31)) 4) (klow (v >>> (8 &&& 31)) 14)).2 x) H := hP
      have hD : va_D _ (oW cI a (oGiv c (klow (v >>> (4 &&& 31)) 4) (klow (v >>> (8 &&& 31)) 14)).2 x) := hD
      have er_253 : r_253 = (oGiv c (klow (v >>> (4 &&& 31)) 4) (klow (v >>> (8 &&& 31)) 14)).1 := er_253
      rw [er_253]
      exact ke_X hx hb hr hlocks (()) (by rw [show kAct c v = (oGiv c (klow (v >>> (4 &&& 31)) 4) (klow (v >>> (8 &&& 31)) 14)) from ea.trans (if_pos c_236)]; exact hP) (by rw [show kAct c v = (oGiv c (klow (v >>> (4 &&& 31)) 4) (klow (v >>> (8 &&& 31)) 14)) from ea.trans (if_pos c_236)]; exact hD) hS (show 0 + 3 ≤ 3 from by omega) (show 0 + 18 ≤ 18 from by omega) dL_act_256 (by rw [show kAct c v = (oGiv c (klow (v >>> (4 &&& 31)) 4) (klow (v >>> (8 &&& 31)) 14)) from ea.trans (if_pos c_236)])
    · skip
      refine lv_aload_n hx hb dL_act_239 rfl (lv_at hl 3 rfl) ?_
      refine lv_iload hx hb dL_act_240 (lv_at hl 0 rfl) ?_
      refine lv_iload_n hx hb dL_act_242 rfl (lv_at hl 1 rfl) ?_
      refine kq_0 (px := fun _ => False) (vx_runSX (As := [.ref (a 0), .int (klow (v >>> (4 &&& 31)) 4), .int (klow (v >>> (8 &&& 31)) 14)]) (rest := []) ⟨hx, hb, hml, hown, hts⟩ (cw_take l D cI a c x (klow (v >>> (4 &&& 31)) 4) (klow (v >>> (8 &&& 31)) 14) hfl _) (vx_cwSW 3 hts gL_act_L_take rfl rfl rfl (by decide +kernel) ⟨Nat.le_of_ble_eq_true rfl, Nat.le_of_ble_eq_true rfl⟩) (kp_0S hP hD hK hX hZ hS hA) rfl rfl hl.1 rfl (lv_room (Nat.le_of_ble_eq_true rfl)) dL_act_243 ⟨(show 0 + 3 ≤ 3 from by omega), (show 0 + 18 ≤ 18 from by omega)⟩) hP hD hS hA (fun E ce q9 H locs hE hP hS hcell hv hcl => hE.elim) (fun r_243 _u H locs er_243 hP hD hS => ?_)
      have hP : va_P D vwCl (oW cI a (oTak c (klow (v >>> (4 &&& 31)) 4) (klow (v >>> (8 &&& 31)) 14)).2 x) H := hP
      have hD : va_D _ (oW cI a (oTak c (klow (v >>> (4 &&& 31)) 4) (klow (v >>> (8 &&& 31)) 14)).2 x) := hD
      have er_243 : r_243 = (oTak c (klow (v >>> (4 &&& 31)) 4) (klow (v >>> (8 &&& 31)) 14)).1 := er_243
      rw [er_243]
      refine lv_goto (tgt := 256) hx hb dL_act_246 (by decide) ?_
      exact ke_X hx hb hr hlocks (()) (by rw [show kAct c v = (oTak c (klow (v >>> (4 &&& 31)) 4) (klow (v >>> (8 &&& 31)) 14)) from ea.trans (if_neg (fun h => h c_236))]; exact hP) (by rw [show kAct c v = (oTak c (klow (v >>> (4 &&& 31)) 4) (klow (v >>> (8 &&& 31)) 14)) from ea.trans (if_neg (fun h => h c_236))]; exact hD) hS (show 0 + 3 ≤ 3 from by omega) (show 0 + 18 ≤ 18 from by omega) dL_act_256 (by rw [show kAct c v = (oTak c (klow (v >>> (4 &&& 31)) 4) (klow (v >>> (8 &&& 31)) 14)) from ea.trans (if_neg (fun h => h c_236))])
  · skip
    refine lv_tableIn (tgt := 257) (off := 223) hx hb dL_act_34 (by decide +kernel) (by decide +kernel) (by decide +kernel) (by decide +kernel) ?_
    refine lv_aload_n hx hb dL_act_257 rfl (lv_at hl 3 rfl) ?_
    refine lv_iload hx hb dL_act_258 (lv_at hl 0 rfl) ?_
    refine lv_iload_n hx hb dL_act_260 rfl (lv_at hl 1 rfl) ?_
    refine lv_iconst (v := 1) hx hb dL_act_261 (by decide) ?_
    refine lv_isub hx hb dL_act_262 ?_
    refine kq_0 (px := fun _ => False) (vx_runSX (As := [.ref (a 0), .int (klow (v >>> (4 &&& 31)) 4), .int ((klow (v >>> (8 &&& 31)) 14) - 1)]) (rest := []) ⟨hx, hb, hml, hown, hts⟩ (cw_lock l D cI a c x (klow (v >>> (4 &&& 31)) 4) (klow (v >>> (8 &&& 31)) 14 - 1) hfl _) (vx_cwSW 3 hts gL_act_L_lock rfl rfl rfl (by decide +kernel) ⟨Nat.le_of_ble_eq_true rfl, Nat.le_of_ble_eq_true rfl⟩) (kp_0S hP hD hK hX hZ hS hA) rfl rfl hl.1 rfl (lv_room (Nat.le_of_ble_eq_true rfl)) dL_act_263 ⟨(show 0 + 2 ≤ 3 from by omega), (show 0 + 12 ≤ 18 from by omega)⟩) hP hD hS hA (fun E ce q9 H locs hE hP hS hcell hv hcl => hE.elim) (fun r_263 _u H locs er_263 hP hD hS => ?_)
    have hP : va_P D vwCl (oW cI a (oLoc c (klow (v >>> (4 &&& 31)) 4) (klow (v >>> (8 &&& 31)) 14 - 1)).2 x) H := hP
    have hD : va_D _ (oW cI a (oLoc c (klow (v >>> (4 &&& 31)) 4) (klow (v >>> (8 &&& 31)) 14 - 1)).2 x) := hD
    have er_263 : r_263 = (oLoc c (klow (v >>> (4 &&& 31)) 4) (klow (v >>> (8 &&& 31)) 14 - 1)).1 := er_263
    rw [er_263]
    exact ke_X hx hb hr hlocks (()) (by rw [show kAct c v = (oLoc c (klow (v >>> (4 &&& 31)) 4) (klow (v >>> (8 &&& 31)) 14 - 1)) from ea]; exact hP) (by rw [show kAct c v = (oLoc c (klow (v >>> (4 &&& 31)) 4) (klow (v >>> (8 &&& 31)) 14 - 1)) from ea]; exact hD) hS (show 0 + 2 ≤ 3 from by omega) (show 0 + 12 ≤ 18 from by omega) dL_act_266 (by rw [show kAct c v = (oLoc c (klow (v >>> (4 &&& 31)) 4) (klow (v >>> (8 &&& 31)) 14 - 1)) from ea])
  · skip
    refine lv_tableIn (tgt := 267) (off := 233) hx hb dL_act_34 (by decide +kernel) (by decide +kernel) (by decide +kernel) (by decide +kernel) ?_
    refine lv_aload_n hx hb dL_act_267 rfl (lv_at hl 3 rfl) ?_
    refine lv_iload hx hb dL_act_268 (lv_at hl 0 rfl) ?_
    refine kq_0 (px := fun _ => False) (vx_runSX (As := [.ref (a 0), .int (klow (v >>> (4 &&& 31)) 4)]) (rest := []) ⟨hx, hb, hml, hown, hts⟩ (cw_say l D cI a c x (klow (v >>> (4 &&& 31)) 4) hfl _) (vx_cwSW 2 hts gL_act_L_say rfl rfl rfl (by decide +kernel) ⟨Nat.le_of_ble_eq_true rfl, Nat.le_of_ble_eq_true rfl⟩) (kp_0S hP hD hK hX hZ hS hA) rfl rfl hl.1 rfl (lv_room (Nat.le_of_ble_eq_true rfl)) dL_act_270 ⟨(show 0 + 2 ≤ 3 from by omega), (show 0 + 12 ≤ 18 from by omega)⟩) hP hD hS hA (fun E ce q9 H locs hE hP hS hcell hv hcl => hE.elim) (fun r_270 _u H locs er_270 hP hD hS => ?_)
    have hP : va_P D vwCl (oW cI a (oSay c (klow (v >>> (4 &&& 31)) 4)).2 x) H := hP
    have hD : va_D _ (oW cI a (oSay c (klow (v >>> (4 &&& 31)) 4)).2 x) := hD
    have er_270 : r_270 = (oSay c (klow (v >>> (4 &&& 31)) 4)).1 := er_270
    rw [er_270]
    exact ke_X hx hb hr hlocks (()) (by rw [show kAct c v = (oSay c (klow (v >>> (4 &&& 31)) 4)) from ea]; exact hP) (by rw [show kAct c v = (oSay c (klow (v >>> (4 &&& 31)) 4)) from ea]; exact hD) hS (show 0 + 2 ≤ 3 from by omega) (show 0 + 12 ≤ 18 from by omega) dL_act_273 (by rw [show kAct c v = (oSay c (klow (v >>> (4 &&& 31)) 4)) from ea])
  · skip
    refine lv_tableIn (tgt := 267) (off := 233) hx hb dL_act_34 (by decide +kernel) (by decide +kernel) (by decide +kernel) (by decide +kernel) ?_
    refine lv_aload_n hx hb dL_act_267 rfl (lv_at hl 3 rfl) ?_
    refine lv_iload hx hb dL_act_268 (lv_at hl 0 rfl) ?_
    refine kq_0 (px := fun _ => False) (vx_runSX (As := [.ref (a 0), .int (klow (v >>> (4 &&& 31)) 4)]) (rest := []) ⟨hx, hb, hml, hown, hts⟩ (cw_say l D cI a c x (klow (v >>> (4 &&& 31)) 4) hfl _) (vx_cwSW 2 hts gL_act_L_say rfl rfl rfl (by decide +kernel) ⟨Nat.le_of_ble_eq_true rfl, Nat.le_of_ble_eq_true rfl⟩) (kp_0S hP hD hK hX hZ hS hA) rfl rfl hl.1 rfl (lv_room (Nat.le_of_ble_eq_true rfl)) dL_act_270 ⟨(show 0 + 2 ≤ 3 from by omega), (show 0 + 12 ≤ 18 from by omega)⟩) hP hD hS hA (fun E ce q9 H locs hE hP hS hcell hv hcl => hE.elim) (fun r_270 _u H locs er_270 hP hD hS => ?_)
    have hP : va_P D vwCl (oW cI a (oSay c (klow (v >>> (4 &&& 31)) 4)).2 x) H := hP
    have hD : va_D _ (oW cI a (oSay c (klow (v >>> (4 &&& 31)) 4)).2 x) := hD
    have er_270 : r_270 = (oSay c (klow (v >>> (4 &&& 31)) 4)).1 := er_270
    rw [er_270]
    exact ke_X hx hb hr hlocks (()) (by rw [show kAct c v = (oSay c (klow (v >>> (4 &&& 31)) 4)) from ea]; exact hP) (by rw [show kAct c v = (oSay c (klow (v >>> (4 &&& 31)) 4)) from ea]; exact hD) hS (show 0 + 2 ≤ 3 from by omega) (show 0 + 12 ≤ 18 from by omega) dL_act_273 (by rw [show kAct c v = (oSay c (klow (v >>> (4 &&& 31)) 4)) from ea])
  · skip
    refine lv_tableOut (tgt := 274) hx hb dL_act_34 (by decide +kernel) (by decide +kernel) ?_
    refine lv_iload_n hx hb dL_act_274 rfl (lv_at hl 4 rfl) ?_
    refine lv_bipush (v := 14) hx hb dL_act_275 (by decide) ?_
    refine lv_ishr hx hb dL_act_277 ?_
    refine lv_iconst (v := 4) hx hb dL_act_278 (by decide) ?_
    refine kq_R (va_runS (As := [.int (v >>> (14 &&& 31)), .int 4]) (rest := []) ⟨hx, hb, hml, hown, hts⟩ (cw_low l D cI (v >>> (14 &&& 31)) 4 (by decide) _) (va_cwS 2 hts gL_act_L_low rfl rfl rfl (by decide +kernel) ⟨Nat.le_of_ble_eq_true rfl, Nat.le_of_ble_eq_true rfl⟩) (kp_RS (hP.sub (ws' := []) [] rfl) hK) rfl rfl hl.1 rfl (lv_room (Nat.le_of_ble_eq_true rfl)) dL_act_279 ⟨(show 0 + 0 ≤ 3 from by omega), (show 0 + 0 ≤ 18 from by omega)⟩) hP hS hA (fun r_279 H locs er_279 hP hS => ?_)
    have er_279 : r_279 = klow (v >>> (14 &&& 31)) 4 := er_279
    rw [er_279]
    refine lv_if_ne (tgt := 292) hx hb dL_act_282 (by decide) (fun c_282 => ?_) (fun c_282 => ?_)
    · skip
      refine lv_aload_n hx hb dL_act_292 rfl (lv_at hl 3 rfl) ?_
      refine lv_iload hx hb dL_act_293 (lv_at hl 0 rfl) ?_
      refine kq_0 (px := fun _ => False) (vx_runSX (As := [.ref (a 0), .int (klow (v >>> (4 &&& 31)) 4)]) (rest := []) ⟨hx, hb, hml, hown, hts⟩ (cw_say l D cI a c x (klow (v >>> (4 &&& 31)) 4) hfl _) (vx_cwSW 2 hts gL_act_L_say rfl rfl rfl (by decide +kernel) ⟨Nat.le_of_ble_eq_true rfl, Nat.le_of_ble_eq_true rfl⟩) (kp_0S hP hD hK hX hZ hS hA) rfl rfl hl.1 rfl (lv_room (Nat.le_of_ble_eq_true rfl)) dL_act_295 ⟨(show 0 + 2 ≤ 3 from by omega), (show 0 + 12 ≤ 18 from by omega)⟩) hP hD hS hA (fun E ce q9 H locs hE hP hS hcell hv hcl => hE.elim) (fun r_295 _u H locs er_295 hP hD hS => ?_)
      have hP : va_P D vwCl (oW cI a (oSay c (klow (v >>> (4 &&& 31)) 4)).2 x) H := hP
      have hD : va_D _ (oW cI a (oSay c (klow (v >>> (4 &&& 31)) 4)).2 x) := hD
      have er_295 : r_295 = (oSay c (klow (v >>> (4 &&& 31)) 4)).1 := er_295
      rw [er_295]
      exact ke_X hx hb hr hlocks (()) (by rw [show kAct c v = (oSay c (klow (v >>> (4 &&& 31)) 4)) from ea.trans (if_pos c_282)]; exact hP) (by rw [show kAct c v = (oSay c (klow (v >>> (4 &&& 31)) 4)) from ea.trans (if_pos c_282)]; exact hD) hS (show 0 + 2 ≤ 3 from by omega) (show 0 + 12 ≤ 18 from by omega) dL_act_298 (by rw [show kAct c v = (oSay c (klow (v >>> (4 &&& 31)) 4)) from ea.trans (if_pos c_282)])
    · skip
      refine lv_aload_n hx hb dL_act_285 rfl (lv_at hl 3 rfl) ?_
      refine kq_0W (va_runV (As := []) (rest := []) ⟨hx, hb, hml, hown, hts⟩ (cP_hush l D cI a c x _) (cwV 0 hts gL_act_X3_hush rfl rfl rfl (by decide +kernel) ⟨Nat.le_of_ble_eq_true rfl, Nat.le_of_ble_eq_true rfl⟩) (kp_WV hP hD hK 0 3 rfl rfl) rfl rfl hl.1 rfl (lv_room (Nat.le_of_ble_eq_true rfl)) dL_act_286 ⟨(show 0 + 0 ≤ 3 from by omega), (show 0 + 0 ≤ 18 from by omega)⟩) hP hD hS hA (fun r_286 _u H locs er_286 hP hD hS => ?_)
      have hP : va_P D vwCl (oW cI a (oHus c).2 x) H := hP
      have hD : va_D _ (oW cI a (oHus c).2 x) := hD
      have er_286 : r_286 = (oHus c).1 := er_286
      rw [er_286]
      refine lv_goto (tgt := 298) hx hb dL_act_289 (by decide) ?_
      exact ke_X hx hb hr hlocks (()) (by rw [show kAct c v = (oHus c) from ea.trans (if_neg (fun h => h c_282))]; exact hP) (by rw [show kAct c v = (oHus c) from ea.trans (if_neg (fun h => h c_282))]; exact hD) hS (show 0 ≤ 3 from by omega) (show 0 ≤ 18 from by omega) dL_act_298 (by rw [show kAct c v = (oHus c) from ea.trans (if_neg (fun h => h c_282))])
