set_option maxHeartbeats 4000000 in
set_option maxRecDepth 100000 in
theorem c_X4_thrown (l : Launch) (D : va_G) (cI : ClassId) (m0 m3 m4 m5 m6 m7 m9 m11 m12 m13 m14 : Nat) (th : Int32) (ma : Int32) (tr : Int32) (mw : Int32) (sd : Int32) (pa : Nat → Int32) (ct : Nat → Int32) (mg : Nat → Int32) (mm : Nat → Int32) (mk : Nat → Int32) (mt : Nat → Int32) (up : Nat → Int32) (li : Nat → Int32) (td : Nat → Int32) (be : Nat → Int32) : kc_R l yX4_thrown wsX4_thrown 0 0 D cI [.ref m0] [(m0, .inr (4, [.int th, .int ma, .int tr, .ref m3, .ref m4, .ref m5, .ref m6, .ref m7, .int mw, .ref m9, .int sd, .ref m11, .ref m12, .ref m13, .ref m14])), (m3, .inl (cI, 30, .inl pa)), (m4, .inl (cI, 30, .inl ct)), (m5, .inl (cI, 50, .inl mg)), (m6, .inl (cI, 10, .inl mm)), (m7, .inl (cI, 10, .inl mk)), (m9, .inl (cI, 6, .inl mt)), (m11, .inl (cI, 900, .inl up)), (m12, .inl (cI, 900, .inl li)), (m13, .inl (cI, 6, .inl td)), (m14, .inl (cI, 6, .inl be))] (fun r => r = th) := by
  refine ks_R (cc := cX4_thrown) (nL := 1) (ret := (some .int)) (by decide) rfl (Nat.le_of_ble_eq_true rfl) ?_
  intro p e s m below meth c ls hF hP hK hS hA hl
  obtain ⟨hx, hb, hr, hml, hown, hts, hlocks⟩ := hF
  have hown : s.vm.findClass RX4 = some m.cls := hown
  have hl : lv_has ls 1 [(0, .ref m0)] := hl
  refine lv_aload_n hx hb dX4_thrown_0 rfl (lv_at hl 0 rfl) ?_
  refine va_get (D := D) (ci := 4) (v := .int th) (C := RX4) (T := TX4) (N := 15) hx hb hts (fun w h => List.mem_cons_of_mem _ (List.mem_append_right _ (h))) hown hK.1 hP 0 rfl rfl 0 (by decide) (hts (.fieldLink RX4 40 "SenseNetModel" "thrown" "I") (List.mem_of_getElem? (i := 1) rfl)) (fun _ h9 => h9) rfl dX4_thrown_1 ?_
  exact ke_R hx hb hr hlocks hS dX4_thrown_4 (rfl)
set_option maxHeartbeats 4000000 in
set_option maxRecDepth 100000 in
theorem c_X4_goesWell (l : Launch) (D : va_G) (cI : ClassId) (m0 m3 m4 m5 m6 m7 m9 m11 m12 m13 m14 : Nat) (th : Int32) (ma : Int32) (tr : Int32) (mw : Int32) (sd : Int32) (pa : Nat → Int32) (ct : Nat → Int32) (mg : Nat → Int32) (mm : Nat → Int32) (mk : Nat → Int32) (mt : Nat → Int32) (up : Nat → Int32) (li : Nat → Int32) (td : Nat → Int32) (be : Nat → Int32) (i1 : Int32) : kc_W l yX4_goesWell wsX4_goesWell 0 0 D cI [.ref m0, .int i1] [(m0, .inr (4, [.int th, .int ma, .int tr, .ref m3, .ref m4, .ref m5, .ref m6, .ref m7, .int mw, .ref m9, .int sd, .ref m11, .ref m12, .ref m13, .ref m14])), (m3, .inl (cI, 30, .inl pa)), (m4, .inl (cI, 30, .inl ct)), (m5, .inl (cI, 50, .inl mg)), (m6, .inl (cI, 10, .inl mm)), (m7, .inl (cI, 10, .inl mk)), (m9, .inl (cI, 6, .inl mt)), (m11, .inl (cI, 900, .inl up)), (m12, .inl (cI, 900, .inl li)), (m13, .inl (cI, 6, .inl td)), (m14, .inl (cI, 6, .inl be))] (fun (r : Int32) (u : Unit) => r = nB (decide (i1 = 0))) (fun u => [(m0, .inr (4, [.int i1, .int ma, .int tr, .ref m3, .ref m4, .ref m5, .ref m6, .ref m7, .int mw, .ref m9, .int sd, .ref m11, .ref m12, .ref m13, .ref m14])), (m3, .inl (cI, 30, .inl pa)), (m4, .inl (cI, 30, .inl ct)), (m5, .inl (cI, 50, .inl mg)), (m6, .inl (cI, 10, .inl mm)), (m7, .inl (cI, 10, .inl mk)), (m9, .inl (cI, 6, .inl mt)), (m11, .inl (cI, 900, .inl up)), (m12, .inl (cI, 900, .inl li)), (m13, .inl (cI, 6, .inl td)), (m14, .inl (cI, 6, .inl be))]) := by
  refine ks_W (cc := cX4_goesWell) (nL := 2) (ret := (some .boolean)) (by decide) rfl (Nat.le_of_ble_eq_true rfl) ?_
  intro p e s m below meth c ls hF hP hK hS hA hD hl
  obtain ⟨hx, hb, hr, hml, hown, hts, hlocks⟩ := hF
  have hown : s.vm.findClass RX4 = some m.cls := hown
  have hl : lv_has ls 2 [(0, .ref m0), (1, .int i1)] := hl
  refine lv_aload_n hx hb dX4_goesWell_0 rfl (lv_at hl 0 rfl) ?_
  refine lv_iload_n hx hb dX4_goesWell_1 rfl (lv_at hl 1 rfl) ?_
  refine va_put (D := D) (ci := 4) (v := .int i1) (ty := .int) (C := RX4) (T := TX4) (N := 15) hx hb hts (fun w h => List.mem_cons_of_mem _ (List.mem_append_right _ (h))) tyX4 tyX4_ok nmX4 hown hK.1 hP hD hS 0 rfl rfl 0 (by decide) (hts (.fieldLink RX4 40 "SenseNetModel" "thrown" "I") (List.mem_of_getElem? (i := 1) rfl)) (fun _ h9 => h9) rfl (by decide +kernel) rfl rfl (Nat.le_of_ble_eq_true rfl) dX4_goesWell_2 (fun H locs hP hD hS => ?_)
  have hP : va_P D vwCl [(m0, .inr (4, [.int i1, .int ma, .int tr, .ref m3, .ref m4, .ref m5, .ref m6, .ref m7, .int mw, .ref m9, .int sd, .ref m11, .ref m12, .ref m13, .ref m14])), (m3, .inl (cI, 30, .inl pa)), (m4, .inl (cI, 30, .inl ct)), (m5, .inl (cI, 50, .inl mg)), (m6, .inl (cI, 10, .inl mm)), (m7, .inl (cI, 10, .inl mk)), (m9, .inl (cI, 6, .inl mt)), (m11, .inl (cI, 900, .inl up)), (m12, .inl (cI, 900, .inl li)), (m13, .inl (cI, 6, .inl td)), (m14, .inl (cI, 6, .inl be))] H := hP
  have hD := (show va_D _ [(m0, .inr (4, [.int i1, .int ma, .int tr, .ref m3, .ref m4, .ref m5, .ref m6, .ref m7, .int mw, .ref m9, .int sd, .ref m11, .ref m12, .ref m13, .ref m14])), (m3, .inl (cI, 30, .inl pa)), (m4, .inl (cI, 30, .inl ct)), (m5, .inl (cI, 50, .inl mg)), (m6, .inl (cI, 10, .inl mm)), (m7, .inl (cI, 10, .inl mk)), (m9, .inl (cI, 6, .inl mt)), (m11, .inl (cI, 900, .inl up)), (m12, .inl (cI, 900, .inl li)), (m13, .inl (cI, 6, .inl td)), (m14, .inl (cI, 6, .inl be))] from hD)
  refine lv_iload_n hx hb dX4_goesWell_5 rfl (lv_at hl 1 rfl) ?_
  refine lv_if_ne (tgt := 13) hx hb dX4_goesWell_6 (by decide) (fun c_6 => ?_) (fun c_6 => ?_)
  · skip
    refine lv_iconst (v := 0) hx hb dX4_goesWell_13 (by decide) ?_
    exact ke_WZ hx hb hr hlocks (()) hP hD hS dX4_goesWell_14 (decide (i1 = 0)) (by unfold nB; simp [*]) (rfl)
  · skip
    refine lv_iconst (v := 1) hx hb dX4_goesWell_9 (by decide) ?_
    refine lv_goto (tgt := 14) hx hb dX4_goesWell_10 (by decide) ?_
    exact ke_WZ hx hb hr hlocks (()) hP hD hS dX4_goesWell_14 (decide (i1 = 0)) (by unfold nB; simp [*]) (rfl)
set_option maxHeartbeats 4000000 in
set_option maxRecDepth 100000 in
theorem c_X4_in (l : Launch) (D : va_G) (cI : ClassId) (i1 : Int32) (i2 : Int32) (i3 : Int32) : kc_R l yX4_in wsX4_in 0 0 D cI [.int i1, .int i2, .int i3] [] (fun r => r = nB (kin i1 i2 i3)) := by
  refine ks_R (cc := cX4_in) (nL := 3) (ret := (some .boolean)) (by decide) rfl (Nat.le_of_ble_eq_true rfl) ?_
  intro p e s m below meth c ls hF hP hK hS hA hl
  obtain ⟨hx, hb, hr, hml, hown, hts, hlocks⟩ := hF
  have hown : s.vm.findClass RX4 = some m.cls := hown
  have hl : lv_has ls 3 [(0, .int i1), (1, .int i2), (2, .int i3)] := hl
  refine lv_iload_n hx hb dX4_in_0 rfl (lv_at hl 0 rfl) ?_
  refine lv_iload_n hx hb dX4_in_1 rfl (lv_at hl 1 rfl) ?_
  refine lv_icmp_lt (tgt := 14) hx hb dX4_in_2 (by decide) (fun c_2 => ?_) (fun c_2 => ?_)
  · skip
    refine lv_iconst (v := 0) hx hb dX4_in_14 (by decide) ?_
    exact ke_Z hx hb hr hlocks hS dX4_in_15 (kin i1 i2 i3) (by unfold kin nB; simp [*]) (rfl)
  · skip
    refine lv_iload_n hx hb dX4_in_5 rfl (lv_at hl 0 rfl) ?_
    refine lv_iload_n hx hb dX4_in_6 rfl (lv_at hl 2 rfl) ?_
    refine lv_icmp_gt (tgt := 14) hx hb dX4_in_7 (by decide) (fun c_7 => ?_) (fun c_7 => ?_)
    · skip
      refine lv_iconst (v := 0) hx hb dX4_in_14 (by decide) ?_
      exact ke_Z hx hb hr hlocks hS dX4_in_15 (kin i1 i2 i3) (by unfold kin nB; simp [*]) (rfl)
    · skip
      refine lv_iconst (v := 1) hx hb dX4_in_10 (by decide) ?_
      refine lv_goto (tgt := 15) hx hb dX4_in_11 (by decide) ?_
      exact ke_Z hx hb hr hlocks hS dX4_in_15 (kin i1 i2 i3) (by unfold kin nB; simp [*]) (rfl)
set_option maxHeartbeats 4000000 in
set_option maxRecDepth 100000 in
theorem c_X4_has (l : Launch) (D : va_G) (cI : ClassId) (i1 : Int32) (a : Nat) (ha : a < 30) : kc_R l yX4_has wsX4_has 0 0 D cI [.int i1, .int (nI a)] [] (fun r => r = nB (bt i1 a)) := by
  refine ks_R (cc := cX4_has) (nL := 2) (ret := (some .boolean)) (by decide) rfl (Nat.le_of_ble_eq_true rfl) ?_
  intro p e s m below meth c ls hF hP hK hS hA hl
  obtain ⟨hx, hb, hr, hml, hown, hts, hlocks⟩ := hF
  have hown : s.vm.findClass RX4 = some m.cls := hown
  have hl : lv_has ls 2 [(0, .int i1), (1, .int (nI a))] := hl
  refine lv_iload_n hx hb dX4_has_0 rfl (lv_at hl 0 rfl) ?_
  refine lv_iload_n hx hb dX4_has_1 rfl (lv_at hl 1 rfl) ?_
  refine lv_ishr hx hb dX4_has_2 ?_
  refine lv_iconst (v := 1) hx hb dX4_has_3 (by decide) ?_
  refine lv_iand hx hb dX4_has_4 ?_
  refine kx_top (show (i1 >>> ((nI a) &&& 31)) &&& 1 = nB (bt i1 a) from b_sar (by omega)) ?_
  refine lv_iconst (v := 1) hx hb dX4_has_5 (by decide) ?_
  refine lv_icmp_ne (tgt := 13) hx hb dX4_has_6 (by decide) (fun c_6 => ?_) (fun c_6 => ?_)
  · skip
    refine lv_iconst (v := 0) hx hb dX4_has_13 (by decide) ?_
    exact ke_Z hx hb hr hlocks hS dX4_has_14 (bt i1 a) (by first | exact (nB_1.mp c_6 ▸ rfl) | (have := (not_congr nB_1).mp c_6; unfold nB; simp [this])) (rfl)
  · skip
    refine lv_iconst (v := 1) hx hb dX4_has_9 (by decide) ?_
    refine lv_goto (tgt := 14) hx hb dX4_has_10 (by decide) ?_
    exact ke_Z hx hb hr hlocks hS dX4_has_14 (bt i1 a) (by first | exact (nB_1.mp c_6 ▸ rfl) | (have := (not_congr nB_1).mp c_6; unfold nB; simp [this])) (rfl)
set_option maxHeartbeats 4000000 in
set_option maxRecDepth 100000 in
theorem c_X4_isSense (l : Launch) (D : va_G) (cI : ClassId) (m0 m3 m4 m5 m6 m7 m9 m11 m12 m13 m14 : Nat) (th : Int32) (ma : Int32) (tr : Int32) (mw : Int32) (sd : Int32) (pa : Nat → Int32) (ct : Nat → Int32) (mg : Nat → Int32) (mm : Nat → Int32) (mk : Nat → Int32) (mt : Nat → Int32) (up : Nat → Int32) (li : Nat → Int32) (td : Nat → Int32) (be : Nat → Int32) (i1 : Int32) : kc_R l yX4_isSense wsX4_isSense 1 22 D cI [.ref m0, .int i1] [(m0, .inr (4, [.int th, .int ma, .int tr, .ref m3, .ref m4, .ref m5, .ref m6, .ref m7, .int mw, .ref m9, .int sd, .ref m11, .ref m12, .ref m13, .ref m14])), (m3, .inl (cI, 30, .inl pa)), (m4, .inl (cI, 30, .inl ct)), (m5, .inl (cI, 50, .inl mg)), (m6, .inl (cI, 10, .inl mm)), (m7, .inl (cI, 10, .inl mk)), (m9, .inl (cI, 6, .inl mt)), (m11, .inl (cI, 900, .inl up)), (m12, .inl (cI, 900, .inl li)), (m13, .inl (cI, 6, .inl td)), (m14, .inl (cI, 6, .inl be))] (fun r => r = nB (khas tr i1)) := by
  refine ks_R (cc := cX4_isSense) (nL := 2) (ret := (some .boolean)) (by decide) rfl (Nat.le_of_ble_eq_true rfl) ?_
  intro p e s m below meth c ls hF hP hK hS hA hl
  obtain ⟨hx, hb, hr, hml, hown, hts, hlocks⟩ := hF
  have hown : s.vm.findClass RX4 = some m.cls := hown
  have hl : lv_has ls 2 [(0, .ref m0), (1, .int i1)] := hl
  refine lv_iload_n hx hb dX4_isSense_0 rfl (lv_at hl 1 rfl) ?_
  refine lv_iconst (v := 0) hx hb dX4_isSense_1 (by decide) ?_
  refine lv_bipush (v := 29) hx hb dX4_isSense_2 (by decide) ?_
  refine kq_R (va_runS (As := [.int i1, .int 0, .int 29]) (rest := []) ⟨hx, hb, hml, hown, hts⟩ (c_X4_in l D cI i1 0 29 _) (va_cwS 3 hts gX4_isSense_X4_in rfl rfl rfl (by decide +kernel) ⟨Nat.le_of_ble_eq_true rfl, Nat.le_of_ble_eq_true rfl⟩) (kp_RS (hP.sub (ws' := []) [] rfl) hK) rfl rfl hl.1 rfl (lv_room (Nat.le_of_ble_eq_true rfl)) dX4_isSense_4 ⟨Nat.zero_le _, Nat.zero_le _⟩) hP hS hA (fun r_4 H locs er_4 hP hS => ?_)
  subst er_4
  refine lv_if_eq (tgt := 25) hx hb dX4_isSense_7 (by decide) (fun c_7 => ?_) (fun c_7 => ?_)
  · skip
    refine lv_iconst (v := 0) hx hb dX4_isSense_25 (by decide) ?_
    exact ke_Z hx hb hr hlocks hS dX4_isSense_26 (khas tr i1) (by rw [khas_nin (nB_0.mp c_7)]; rfl) (rfl)
  · skip
    obtain ⟨a, ha, rfl⟩ := kin_of2 (nB_n0.mp c_7)
    refine lv_aload_n hx hb dX4_isSense_10 rfl (lv_at hl 0 rfl) ?_
    refine va_get (D := D) (ci := 4) (v := .int tr) (C := RX4) (T := TX4) (N := 15) hx hb hts (fun w h => List.mem_cons_of_mem _ (List.mem_append_right _ (h))) hown hK.1 hP 0 rfl rfl 2 (by decide) (hts (.fieldLink RX4 48 "SenseNetModel" "there" "I") (List.mem_of_getElem? (i := 1) rfl)) (fun _ h9 => h9) rfl dX4_isSense_11 ?_
    refine lv_iload_n hx hb dX4_isSense_14 rfl (lv_at hl 1 rfl) ?_
    refine kq_R (va_runS (As := [.int tr, .int (nI a)]) (rest := []) ⟨hx, hb, hml, hown, hts⟩ (c_X4_has l D cI tr a (ha) _) (va_cwS 2 hts gX4_isSense_X4_has rfl rfl rfl (by decide +kernel) ⟨Nat.le_of_ble_eq_true rfl, Nat.le_of_ble_eq_true rfl⟩) (kp_RS (hP.sub (ws' := []) [] rfl) hK) rfl rfl hl.1 rfl (lv_room (Nat.le_of_ble_eq_true rfl)) dX4_isSense_15 ⟨Nat.zero_le _, Nat.zero_le _⟩) hP hS hA (fun r_15 H locs er_15 hP hS => ?_)
    subst er_15
    refine lv_if_eq (tgt := 25) hx hb dX4_isSense_18 (by decide) (fun c_18 => ?_) (fun c_18 => ?_)
    · skip
      refine lv_iconst (v := 0) hx hb dX4_isSense_25 (by decide) ?_
      exact ke_Z hx hb hr hlocks hS dX4_isSense_26 (khas tr (nI a)) (by rw [khas_nI ha, nB_0.mp c_18]; rfl) (rfl)
    · skip
      refine lv_iconst (v := 1) hx hb dX4_isSense_21 (by decide) ?_
      refine lv_goto (tgt := 26) hx hb dX4_isSense_22 (by decide) ?_
      exact ke_Z hx hb hr hlocks hS dX4_isSense_26 (khas tr (nI a)) (by rw [khas_nI ha, nB_n0.mp c_18]; rfl) (rfl)
set_option maxHeartbeats 4000000 in
set_option maxRecDepth 100000 in
theorem c_X4_isWord (l : Launch) (D : va_G) (cI : ClassId) (m0 m3 m4 m5 m6 m7 m9 m11 m12 m13 m14 : Nat) (th : Int32) (ma : Int32) (tr : Int32) (mw : Int32) (sd : Int32) (pa : Nat → Int32) (ct : Nat → Int32) (mg : Nat → Int32) (mm : Nat → Int32) (mk : Nat → Int32) (mt : Nat → Int32) (up : Nat → Int32) (li : Nat → Int32) (td : Nat → Int32) (be : Nat → Int32) (W : Nat) (i1 : Int32) (hw1 : mw = nI W) (hw2 : W ≤ 10) : kc_R l yX4_isWord wsX4_isWord 1 22 D cI [.ref m0, .int i1] [(m0, .inr (4, [.int th, .int ma, .int tr, .ref m3, .ref m4, .ref m5, .ref m6, .ref m7, .int mw, .ref m9, .int sd, .ref m11, .ref m12, .ref m13, .ref m14])), (m3, .inl (cI, 30, .inl pa)), (m4, .inl (cI, 30, .inl ct)), (m5, .inl (cI, 50, .inl mg)), (m6, .inl (cI, 10, .inl mm)), (m7, .inl (cI, 10, .inl mk)), (m9, .inl (cI, 6, .inl mt)), (m11, .inl (cI, 900, .inl up)), (m12, .inl (cI, 900, .inl li)), (m13, .inl (cI, 6, .inl td)), (m14, .inl (cI, 6, .inl be))] (fun r => r = nB (kwex mw i1)) := by
  refine ks_R (cc := cX4_isWord) (nL := 2) (ret := (some .boolean)) (by decide) rfl (Nat.le_of_ble_eq_true rfl) ?_
  intro p e s m below meth c ls hF hP hK hS hA hl
  obtain ⟨hx, hb, hr, hml, hown, hts, hlocks⟩ := hF
  have hown : s.vm.findClass RX4 = some m.cls := hown
  have hl : lv_has ls 2 [(0, .ref m0), (1, .int i1)] := hl
  refine lv_iload_n hx hb dX4_isWord_0 rfl (lv_at hl 1 rfl) ?_
  refine lv_iconst (v := 0) hx hb dX4_isWord_1 (by decide) ?_
  refine lv_aload_n hx hb dX4_isWord_2 rfl (lv_at hl 0 rfl) ?_
  refine va_get (D := D) (ci := 4) (v := .int mw) (C := RX4) (T := TX4) (N := 15) hx hb hts (fun w h => List.mem_cons_of_mem _ (List.mem_append_right _ (h))) hown hK.1 hP 0 rfl rfl 8 (by decide) (hts (.fieldLink RX4 55 "SenseNetModel" "words" "I") (List.mem_of_getElem? (i := 1) rfl)) (fun _ h9 => h9) rfl dX4_isWord_3 ?_
  refine lv_iconst (v := 1) hx hb dX4_isWord_6 (by decide) ?_
  refine lv_isub hx hb dX4_isWord_7 ?_
  refine kq_R (va_runS (As := [.int i1, .int 0, .int (mw - 1)]) (rest := []) ⟨hx, hb, hml, hown, hts⟩ (c_X4_in l D cI i1 0 (mw - 1) _) (va_cwS 3 hts gX4_isWord_X4_in rfl rfl rfl (by decide +kernel) ⟨Nat.le_of_ble_eq_true rfl, Nat.le_of_ble_eq_true rfl⟩) (kp_RS (hP.sub (ws' := []) [] rfl) hK) rfl rfl hl.1 rfl (lv_room (Nat.le_of_ble_eq_true rfl)) dX4_isWord_8 ⟨Nat.zero_le _, Nat.zero_le _⟩) hP hS hA (fun r_8 H locs er_8 hP hS => ?_)
  subst er_8
  exact ke_Z hx hb hr hlocks hS dX4_isWord_11 (kin i1 0 (mw - 1)) (rfl) (by rw [kin_w hw1 hw2])
set_option maxHeartbeats 4000000 in
set_option maxRecDepth 100000 in
theorem c_X4_sizeOf (l : Launch) (D : va_G) (cI : ClassId) (i1 : Int32) : kc_R l yX4_sizeOf wsX4_sizeOf 0 0 D cI [.int i1] [] (fun r => r = nI (kcnt i1 30)) := by
  refine ks_R (cc := cX4_sizeOf) (nL := 3) (ret := (some .int)) (by decide) rfl (Nat.le_of_ble_eq_true rfl) ?_
  intro p e s m below meth c ls hF hP hK hS hA hl
  obtain ⟨hx, hb, hr, hml, hown, hts, hlocks⟩ := hF
  have hown : s.vm.findClass RX4 = some m.cls := hown
  have hl : lv_has ls 3 [(0, .int i1)] := hl
  refine lv_iconst (v := 0) hx hb dX4_sizeOf_0 (by decide) ?_
  refine lv_istore_n (lv' := [(1, .int 0), (0, .int i1)]) hx hb dX4_sizeOf_1 rfl hl (by decide) rfl (fun ls hl => ?_)
  refine lv_iconst (v := 0) hx hb dX4_sizeOf_2 (by decide) ?_
  refine lv_istore_n (lv' := [(2, .int 0), (1, .int 0), (0, .int i1)]) hx hb dX4_sizeOf_3 rfl hl (by decide) rfl (fun ls hl => ?_)
  refine kl_for (head := 4) (N := 30) (fun (j : Nat) (H : Heap) (locs : List Loc) (ls : Array Slot) => ∃ (y : Int32), (y = nI (kcnt i1 j)) ∧ va_P D vwCl [] H ∧ va_S (va_A [] s.heap.size) s.heap H locs ∧ lv_has ls 3 [(0, .int i1), (1, .int y), (2, .int (nI j))]) 0 (Nat.zero_le _) ?_ ?_ ⟨0, (rfl), hP, hS, (lv_sub hl [2, 1, 0] rfl)⟩
  · skip
    intro j hj H locs ls hJ ih4
    obtain ⟨y, hI, hP, hS, hl⟩ := hJ
    refine lv_iload_n hx hb dX4_sizeOf_4 rfl (lv_at hl 2 rfl) ?_
    refine lv_bipush (v := 30) hx hb dX4_sizeOf_5 (by decide) ?_
    refine lv_icmp_ge (tgt := 24) hx hb dX4_sizeOf_7 (by decide) (fun hc => absurd hc (nI_ge (b := 30) hj (by decide))) (fun _ => ?_)
    refine lv_iload_n hx hb dX4_sizeOf_10 rfl (lv_at hl 1 rfl) ?_
    refine lv_iload_n hx hb dX4_sizeOf_11 rfl (lv_at hl 0 rfl) ?_
    refine lv_iload_n hx hb dX4_sizeOf_12 rfl (lv_at hl 2 rfl) ?_
    refine lv_ishr hx hb dX4_sizeOf_13 ?_
    refine lv_iconst (v := 1) hx hb dX4_sizeOf_14 (by decide) ?_
    refine lv_iand hx hb dX4_sizeOf_15 ?_
    refine kx_top (show (i1 >>> ((nI j) &&& 31)) &&& 1 = nB (bt i1 j) from b_sar (by omega)) ?_
    refine lv_iadd hx hb dX4_sizeOf_16 ?_
    refine lv_istore_n (lv' := [(1, .int (y + (nB (bt i1 j)))), (0, .int i1), (2, .int (nI j))]) hx hb dX4_sizeOf_17 rfl hl (by decide) rfl (fun ls hl => ?_)
    refine lv_iinc (v := nI (j + 1)) (lv' := [(2, .int (nI (j + 1))), (1, .int (y + (nB (bt i1 j)))), (0, .int i1)]) hx hb dX4_sizeOf_18 hl (k := 2) rfl (nI_1 _) (by decide) rfl (fun ls hl => ?_)
    refine lv_goto (tgt := 4) hx hb dX4_sizeOf_21 (by decide) ?_
    exact ih4 _ _ _ ⟨(y + (nB (bt i1 j))), (by rw [hI, nB_nI, nI_add]; rfl), hP, hS, (lv_sub hl [2, 1, 0] rfl)⟩
  · skip
    intro H locs ls hJ
    obtain ⟨y, hI, hP, hS, hl⟩ := hJ
    refine lv_iload_n hx hb dX4_sizeOf_4 rfl (lv_at hl 2 rfl) ?_
    refine lv_bipush (v := 30) hx hb dX4_sizeOf_5 (by decide) ?_
    refine lv_icmp_ge (tgt := 24) hx hb dX4_sizeOf_7 (by decide) (fun _ => ?_) (fun hc => absurd (nI_le (a := 30) (b := 30) (Nat.le_refl _) (by decide)) hc)
    refine lv_iload_n hx hb dX4_sizeOf_24 rfl (lv_at hl 1 rfl) ?_
    exact ke_R hx hb hr hlocks hS dX4_sizeOf_25 (hI)
set_option maxHeartbeats 4000000 in
set_option maxRecDepth 100000 in
theorem c_X4_covers (l : Launch) (D : va_G) (cI : ClassId) (m0 m3 m4 m5 m6 m7 m9 m11 m12 m13 m14 : Nat) (th : Int32) (ma : Int32) (tr : Int32) (mw : Int32) (sd : Int32) (pa : Nat → Int32) (ct : Nat → Int32) (mg : Nat → Int32) (mm : Nat → Int32) (mk : Nat → Int32) (mt : Nat → Int32) (up : Nat → Int32) (li : Nat → Int32) (td : Nat → Int32) (be : Nat → Int32) (a : Nat) (b : Nat) (ha : a < 30) (hbb : b < 30) : kc_R l yX4_covers wsX4_covers 0 0 D cI [.ref m0, .int (nI a), .int (nI b)] [(m0, .inr (4, [.int th, .int ma, .int tr, .ref m3, .ref m4, .ref m5, .ref m6, .ref m7, .int mw, .ref m9, .int sd, .ref m11, .ref m12, .ref m13, .ref m14])), (m3, .inl (cI, 30, .inl pa)), (m4, .inl (cI, 30, .inl ct)), (m5, .inl (cI, 50, .inl mg)), (m6, .inl (cI, 10, .inl mm)), (m7, .inl (cI, 10, .inl mk)), (m9, .inl (cI, 6, .inl mt)), (m11, .inl (cI, 900, .inl up)), (m12, .inl (cI, 900, .inl li)), (m13, .inl (cI, 6, .inl td)), (m14, .inl (cI, 6, .inl be))] (fun r => r = nB (kcov up a b)) := by
  refine ks_R (cc := cX4_covers) (nL := 3) (ret := (some .boolean)) (by decide) rfl (Nat.le_of_ble_eq_true rfl) ?_
  intro p e s m below meth c ls hF hP hK hS hA hl
  obtain ⟨hx, hb, hr, hml, hown, hts, hlocks⟩ := hF
  have hown : s.vm.findClass RX4 = some m.cls := hown
  have hl : lv_has ls 3 [(0, .ref m0), (1, .int (nI a)), (2, .int (nI b))] := hl
  refine lv_aload_n hx hb dX4_covers_0 rfl (lv_at hl 0 rfl) ?_
  refine va_get (D := D) (ci := 4) (v := .ref m11) (C := RX4) (T := TX4) (N := 15) hx hb hts (fun w h => List.mem_cons_of_mem _ (List.mem_append_right _ (h))) hown hK.1 hP 0 rfl rfl 11 (by decide) (hts (.fieldLink RX4 28 "SenseNetModel" "up" "[I") (List.mem_of_getElem? (i := 1) rfl)) (fun _ h9 => h9) rfl dX4_covers_1 ?_
  refine lv_bipush (v := 30) hx hb dX4_covers_4 (by decide) ?_
  refine lv_iload_n hx hb dX4_covers_6 rfl (lv_at hl 2 rfl) ?_
  refine lv_imul hx hb dX4_covers_7 ?_
  refine lv_iload_n hx hb dX4_covers_8 rfl (lv_at hl 1 rfl) ?_
  refine lv_iadd hx hb dX4_covers_9 ?_
  refine kx_top (show (30 * (nI b)) + (nI a) = nI (30 * b + a) from kx_up) ?_
  refine va_iald (q0 := 7) (t0 := 0) hx hb hK.1 hP rfl rfl (vp_in_nI (show (30 * b + a) < 900 from by omega) (by decide)) dX4_covers_10 ?_
  refine kx_top (show up (nI (30 * b + a)).toNatClampNeg = up (30 * b + a) from congrArg up (nI_clamp (Nat.lt_trans (show (30 * b + a) < 900 from by omega) (by decide)))) ?_
  refine lv_sipush (v := 1000) hx hb dX4_covers_11 (by decide) ?_
  refine lv_icmp_ge (tgt := 21) hx hb dX4_covers_14 (by decide) (fun c_14 => ?_) (fun c_14 => ?_)
  · skip
    refine lv_iconst (v := 0) hx hb dX4_covers_21 (by decide) ?_
    exact ke_Z hx hb hr hlocks hS dX4_covers_22 (kcov up a b) (by unfold kcov nB; simp [*]) (rfl)
  · skip
    refine lv_iconst (v := 1) hx hb dX4_covers_17 (by decide) ?_
    refine lv_goto (tgt := 22) hx hb dX4_covers_18 (by decide) ?_
    exact ke_Z hx hb hr hlocks hS dX4_covers_22 (kcov up a b) (by unfold kcov nB; simp [*]) (rfl)
set_option maxHeartbeats 4000000 in
set_option maxRecDepth 100000 in
theorem c_X4_placeOf (l : Launch) (D : va_G) (cI : ClassId) (m0 m3 m4 m5 m6 m7 m9 m11 m12 m13 m14 : Nat) (th : Int32) (ma : Int32) (tr : Int32) (mw : Int32) (sd : Int32) (pa : Nat → Int32) (ct : Nat → Int32) (mg : Nat → Int32) (mm : Nat → Int32) (mk : Nat → Int32) (mt : Nat → Int32) (up : Nat → Int32) (li : Nat → Int32) (td : Nat → Int32) (be : Nat → Int32) (n : Nat) (a : Nat) (i2 : Int32) (ha : a < 10) (hn : mm a = nI n) (hn5 : n ≤ 5) : kc_R l yX4_placeOf wsX4_placeOf 0 0 D cI [.ref m0, .int (nI a), .int i2] [(m0, .inr (4, [.int th, .int ma, .int tr, .ref m3, .ref m4, .ref m5, .ref m6, .ref m7, .int mw, .ref m9, .int sd, .ref m11, .ref m12, .ref m13, .ref m14])), (m3, .inl (cI, 30, .inl pa)), (m4, .inl (cI, 30, .inl ct)), (m5, .inl (cI, 50, .inl mg)), (m6, .inl (cI, 10, .inl mm)), (m7, .inl (cI, 10, .inl mk)), (m9, .inl (cI, 6, .inl mt)), (m11, .inl (cI, 900, .inl up)), (m12, .inl (cI, 900, .inl li)), (m13, .inl (cI, 6, .inl td)), (m14, .inl (cI, 6, .inl be))] (fun r => r = kplo mg a i2 n) := by
  refine ks_R (cc := cX4_placeOf) (nL := 5) (ret := (some .int)) (by decide) rfl (Nat.le_of_ble_eq_true rfl) ?_
  intro p e s m below meth c ls hF hP hK hS hA hl
  obtain ⟨hx, hb, hr, hml, hown, hts, hlocks⟩ := hF
  have hown : s.vm.findClass RX4 = some m.cls := hown
  have hl : lv_has ls 5 [(0, .ref m0), (1, .int (nI a)), (2, .int i2)] := hl
  refine lv_iconst (v := (-1)) hx hb dX4_placeOf_0 (by decide) ?_
  refine lv_istore_n (lv' := [(3, .int (-1)), (0, .ref m0), (1, .int (nI a)), (2, .int i2)]) hx hb dX4_placeOf_1 rfl hl (by decide) rfl (fun ls hl => ?_)
  refine lv_iconst (v := 0) hx hb dX4_placeOf_2 (by decide) ?_
  refine lv_istore (lv' := [(4, .int 0), (3, .int (-1)), (0, .ref m0), (1, .int (nI a)), (2, .int i2)]) hx hb dX4_placeOf_3 hl (by decide) rfl (fun ls hl => ?_)
  refine kl_for (head := 5) (N := n) (fun (j : Nat) (H : Heap) (locs : List Loc) (ls : Array Slot) => ∃ (y : Int32), (y = kplo mg a i2 j) ∧ va_P D vwCl [(m0, .inr (4, [.int th, .int ma, .int tr, .ref m3, .ref m4, .ref m5, .ref m6, .ref m7, .int mw, .ref m9, .int sd, .ref m11, .ref m12, .ref m13, .ref m14])), (m3, .inl (cI, 30, .inl pa)), (m4, .inl (cI, 30, .inl ct)), (m5, .inl (cI, 50, .inl mg)), (m6, .inl (cI, 10, .inl mm)), (m7, .inl (cI, 10, .inl mk)), (m9, .inl (cI, 6, .inl mt)), (m11, .inl (cI, 900, .inl up)), (m12, .inl (cI, 900, .inl li)), (m13, .inl (cI, 6, .inl td)), (m14, .inl (cI, 6, .inl be))] H ∧ va_S (va_A [] s.heap.size) s.heap H locs ∧ lv_has ls 5 [(0, .ref m0), (1, .int (nI a)), (2, .int i2), (3, .int y), (4, .int (nI j))]) 0 (Nat.zero_le _) ?_ ?_ ⟨(-1), (rfl), hP, hS, (lv_sub hl [2, 3, 4, 1, 0] rfl)⟩
  · skip
    intro j hj H locs ls hJ ih5
    obtain ⟨y, hI, hP, hS, hl⟩ := hJ
    refine lv_iload hx hb dX4_placeOf_5 (lv_at hl 4 rfl) ?_
    refine lv_aload_n hx hb dX4_placeOf_7 rfl (lv_at hl 0 rfl) ?_
    refine va_get (D := D) (ci := 4) (v := .ref m6) (C := RX4) (T := TX4) (N := 15) hx hb hts (fun w h => List.mem_cons_of_mem _ (List.mem_append_right _ (h))) hown hK.1 hP 0 rfl rfl 6 (by decide) (hts (.fieldLink RX4 19 "SenseNetModel" "givenMany" "[I") (List.mem_of_getElem? (i := 1) rfl)) (fun _ h9 => h9) rfl dX4_placeOf_8 ?_
    refine lv_iload_n hx hb dX4_placeOf_11 rfl (lv_at hl 1 rfl) ?_
    refine va_iald (q0 := 4) (t0 := 0) hx hb hK.1 hP rfl rfl (vp_in_nI (show a < 10 from ha) (by decide)) dX4_placeOf_12 ?_
    refine kx_top (show mm (nI a).toNatClampNeg = mm a from congrArg mm (nI_clamp (Nat.lt_trans (show a < 10 from ha) (by decide)))) ?_
    refine kx_top (show mm a = nI n from hn) ?_
    refine lv_icmp_ge (tgt := 44) hx hb dX4_placeOf_13 (by decide) (fun hc => absurd hc (nI_ge (b := n) hj (by omega))) (fun _ => ?_)
    refine lv_aload_n hx hb dX4_placeOf_16 rfl (lv_at hl 0 rfl) ?_
    refine va_get (D := D) (ci := 4) (v := .ref m5) (C := RX4) (T := TX4) (N := 15) hx hb hts (fun w h => List.mem_cons_of_mem _ (List.mem_append_right _ (h))) hown hK.1 hP 0 rfl rfl 5 (by decide) (hts (.fieldLink RX4 16 "SenseNetModel" "given" "[I") (List.mem_of_getElem? (i := 2) rfl)) (fun _ h9 => h9) rfl dX4_placeOf_17 ?_
    refine lv_iconst (v := 5) hx hb dX4_placeOf_20 (by decide) ?_
    refine lv_iload_n hx hb dX4_placeOf_21 rfl (lv_at hl 1 rfl) ?_
    refine lv_imul hx hb dX4_placeOf_22 ?_
    refine lv_iload hx hb dX4_placeOf_23 (lv_at hl 4 rfl) ?_
    refine lv_iadd hx hb dX4_placeOf_25 ?_
    refine kx_top (show (5 * (nI a)) + (nI j) = nI (5 * a + j) from kx_gv) ?_
    refine va_iald (q0 := 3) (t0 := 0) hx hb hK.1 hP rfl rfl (vp_in_nI (show (5 * a + j) < 50 from by omega) (by decide)) dX4_placeOf_26 ?_
    refine kx_top (show mg (nI (5 * a + j)).toNatClampNeg = mg (5 * a + j) from congrArg mg (nI_clamp (Nat.lt_trans (show (5 * a + j) < 50 from by omega) (by decide)))) ?_
    refine lv_iload_n hx hb dX4_placeOf_27 rfl (lv_at hl 2 rfl) ?_
    refine lv_icmp_ne (tgt := 36) hx hb dX4_placeOf_28 (by decide) (fun c_28 => ?_) (fun c_28 => ?_)
    · skip
      refine lv_iload_n hx hb dX4_placeOf_36 rfl (lv_at hl 3 rfl) ?_
      refine lv_istore_n (lv' := [(3, .int y), (0, .ref m0), (1, .int (nI a)), (2, .int i2), (4, .int (nI j))]) hx hb dX4_placeOf_37 rfl hl (by decide) rfl (fun ls hl => ?_)
      refine lv_iinc (v := nI (j + 1)) (lv' := [(4, .int (nI (j + 1))), (3, .int y), (0, .ref m0), (1, .int (nI a)), (2, .int i2)]) hx hb dX4_placeOf_38 hl (k := 4) rfl (nI_1 _) (by decide) rfl (fun ls hl => ?_)
      refine lv_goto (tgt := 5) hx hb dX4_placeOf_41 (by decide) ?_
      exact ih5 _ _ _ ⟨y, (hI.trans (if_pos c_28).symm), hP, hS, (lv_sub hl [2, 3, 4, 1, 0] rfl)⟩
    · skip
      refine lv_iload hx hb dX4_placeOf_31 (lv_at hl 4 rfl) ?_
      refine lv_goto (tgt := 37) hx hb dX4_placeOf_33 (by decide) ?_
      refine lv_istore_n (lv' := [(3, .int (nI j)), (0, .ref m0), (1, .int (nI a)), (2, .int i2), (4, .int (nI j))]) hx hb dX4_placeOf_37 rfl hl (by decide) rfl (fun ls hl => ?_)
      refine lv_iinc (v := nI (j + 1)) (lv' := [(4, .int (nI (j + 1))), (3, .int (nI j)), (0, .ref m0), (1, .int (nI a)), (2, .int i2)]) hx hb dX4_placeOf_38 hl (k := 4) rfl (nI_1 _) (by decide) rfl (fun ls hl => ?_)
      refine lv_goto (tgt := 5) hx hb dX4_placeOf_41 (by decide) ?_
      exact ih5 _ _ _ ⟨(nI j), ((if_neg (Classical.not_not.mpr c_28)).symm), hP, hS, (lv_sub hl [2, 3, 4, 1, 0] rfl)⟩
  · skip
    intro H locs ls hJ
    obtain ⟨y, hI, hP, hS, hl⟩ := hJ
    refine lv_iload hx hb dX4_placeOf_5 (lv_at hl 4 rfl) ?_
    refine lv_aload_n hx hb dX4_placeOf_7 rfl (lv_at hl 0 rfl) ?_
    refine va_get (D := D) (ci := 4) (v := .ref m6) (C := RX4) (T := TX4) (N := 15) hx hb hts (fun w h => List.mem_cons_of_mem _ (List.mem_append_right _ (h))) hown hK.1 hP 0 rfl rfl 6 (by decide) (hts (.fieldLink RX4 19 "SenseNetModel" "givenMany" "[I") (List.mem_of_getElem? (i := 1) rfl)) (fun _ h9 => h9) rfl dX4_placeOf_8 ?_
    refine lv_iload_n hx hb dX4_placeOf_11 rfl (lv_at hl 1 rfl) ?_
    refine va_iald (q0 := 4) (t0 := 0) hx hb hK.1 hP rfl rfl (vp_in_nI (show a < 10 from ha) (by decide)) dX4_placeOf_12 ?_
    refine kx_top (show mm (nI a).toNatClampNeg = mm a from congrArg mm (nI_clamp (Nat.lt_trans (show a < 10 from ha) (by decide)))) ?_
    refine kx_top (show mm a = nI n from hn) ?_
    refine lv_icmp_ge (tgt := 44) hx hb dX4_placeOf_13 (by decide) (fun _ => ?_) (fun hc => absurd (nI_le (a := n) (b := n) (Nat.le_refl _) (by omega)) hc)
    refine lv_iload_n hx hb dX4_placeOf_44 rfl (lv_at hl 3 rfl) ?_
    exact ke_R hx hb hr hlocks hS dX4_placeOf_45 (hI)
set_option maxHeartbeats 4000000 in
set_option maxRecDepth 100000 in
theorem c_X4_without (l : Launch) (D : va_G) (cI : ClassId) (m0 m3 m4 m5 m6 m7 m9 m11 m12 m13 m14 : Nat) (th : Int32) (ma : Int32) (tr : Int32) (mw : Int32) (sd : Int32) (pa : Nat → Int32) (ct : Nat → Int32) (mg : Nat → Int32) (mm : Nat → Int32) (mk : Nat → Int32) (mt : Nat → Int32) (up : Nat → Int32) (li : Nat → Int32) (td : Nat → Int32) (be : Nat → Int32) (a : Nat) (b : Nat) (ha : a < 30) (hbb : b < 30) : kc_R l yX4_without wsX4_without 0 0 D cI [.ref m0, .int (nI a), .int (nI b)] [(m0, .inr (4, [.int th, .int ma, .int tr, .ref m3, .ref m4, .ref m5, .ref m6, .ref m7, .int mw, .ref m9, .int sd, .ref m11, .ref m12, .ref m13, .ref m14])), (m3, .inl (cI, 30, .inl pa)), (m4, .inl (cI, 30, .inl ct)), (m5, .inl (cI, 50, .inl mg)), (m6, .inl (cI, 10, .inl mm)), (m7, .inl (cI, 10, .inl mk)), (m9, .inl (cI, 6, .inl mt)), (m11, .inl (cI, 900, .inl up)), (m12, .inl (cI, 900, .inl li)), (m13, .inl (cI, 6, .inl td)), (m14, .inl (cI, 6, .inl be))] (fun r => r = (pa a ||| pa b) &&& (kbit (nI b) ^^^ (-1))) := by
  refine ks_R (cc := cX4_without) (nL := 3) (ret := (some .int)) (by decide) rfl (Nat.le_of_ble_eq_true rfl) ?_
  intro p e s m below meth c ls hF hP hK hS hA hl
  obtain ⟨hx, hb, hr, hml, hown, hts, hlocks⟩ := hF
  have hown : s.vm.findClass RX4 = some m.cls := hown
  have hl : lv_has ls 3 [(0, .ref m0), (1, .int (nI a)), (2, .int (nI b))] := hl
  refine lv_aload_n hx hb dX4_without_0 rfl (lv_at hl 0 rfl) ?_
  refine va_get (D := D) (ci := 4) (v := .ref m3) (C := RX4) (T := TX4) (N := 15) hx hb hts (fun w h => List.mem_cons_of_mem _ (List.mem_append_right _ (h))) hown hK.1 hP 0 rfl rfl 3 (by decide) (hts (.fieldLink RX4 7 "SenseNetModel" "parents" "[I") (List.mem_of_getElem? (i := 1) rfl)) (fun _ h9 => h9) rfl dX4_without_1 ?_
  refine lv_iload_n hx hb dX4_without_4 rfl (lv_at hl 1 rfl) ?_
  refine va_iald (q0 := 1) (t0 := 0) hx hb hK.1 hP rfl rfl (vp_in_nI (show a < 30 from ha) (by decide)) dX4_without_5 ?_
  refine kx_top (show pa (nI a).toNatClampNeg = pa a from congrArg pa (nI_clamp (Nat.lt_trans (show a < 30 from ha) (by decide)))) ?_
  refine lv_aload_n hx hb dX4_without_6 rfl (lv_at hl 0 rfl) ?_
  refine va_get (D := D) (ci := 4) (v := .ref m3) (C := RX4) (T := TX4) (N := 15) hx hb hts (fun w h => List.mem_cons_of_mem _ (List.mem_append_right _ (h))) hown hK.1 hP 0 rfl rfl 3 (by decide) (hts (.fieldLink RX4 7 "SenseNetModel" "parents" "[I") (List.mem_of_getElem? (i := 1) rfl)) (fun _ h9 => h9) rfl dX4_without_7 ?_
  refine lv_iload_n hx hb dX4_without_10 rfl (lv_at hl 2 rfl) ?_
  refine va_iald (q0 := 1) (t0 := 0) hx hb hK.1 hP rfl rfl (vp_in_nI (show b < 30 from hbb) (by decide)) dX4_without_11 ?_
  refine kx_top (show pa (nI b).toNatClampNeg = pa b from congrArg pa (nI_clamp (Nat.lt_trans (show b < 30 from hbb) (by decide)))) ?_
  refine lv_ior hx hb dX4_without_12 ?_
  refine lv_iconst (v := 1) hx hb dX4_without_13 (by decide) ?_
  refine lv_iload_n hx hb dX4_without_14 rfl (lv_at hl 2 rfl) ?_
  refine lv_ishl hx hb dX4_without_15 ?_
  refine lv_iconst (v := (-1)) hx hb dX4_without_16 (by decide) ?_
  refine lv_ixor hx hb dX4_without_17 ?_
  refine lv_iand hx hb dX4_without_18 ?_
  exact ke_R hx hb hr hlocks hS dX4_without_19 (by rw [kbit_nI hbb])
set_option maxHeartbeats 4000000 in
set_option maxRecDepth 100000 in
theorem c_X4_isChild (l : Launch) (D : va_G) (cI : ClassId) (m0 m3 m4 m5 m6 m7 m9 m11 m12 m13 m14 : Nat) (th : Int32) (ma : Int32) (tr : Int32) (mw : Int32) (sd : Int32) (pa : Nat → Int32) (ct : Nat → Int32) (mg : Nat → Int32) (mm : Nat → Int32) (mk : Nat → Int32) (mt : Nat → Int32) (up : Nat → Int32) (li : Nat → Int32) (td : Nat → Int32) (be : Nat → Int32) (a : Nat) (b : Nat) (ha : a < 30) (hbb : b < 30) : kc_R l yX4_isChild wsX4_isChild 1 21 D cI [.ref m0, .int (nI a), .int (nI b)] [(m0, .inr (4, [.int th, .int ma, .int tr, .ref m3, .ref m4, .ref m5, .ref m6, .ref m7, .int mw, .ref m9, .int sd, .ref m11, .ref m12, .ref m13, .ref m14])), (m3, .inl (cI, 30, .inl pa)), (m4, .inl (cI, 30, .inl ct)), (m5, .inl (cI, 50, .inl mg)), (m6, .inl (cI, 10, .inl mm)), (m7, .inl (cI, 10, .inl mk)), (m9, .inl (cI, 6, .inl mt)), (m11, .inl (cI, 900, .inl up)), (m12, .inl (cI, 900, .inl li)), (m13, .inl (cI, 6, .inl td)), (m14, .inl (cI, 6, .inl be))] (fun r => r = nB (bt tr a && bt (pa a) b)) := by
  refine ks_R (cc := cX4_isChild) (nL := 3) (ret := (some .boolean)) (by decide) rfl (Nat.le_of_ble_eq_true rfl) ?_
  intro p e s m below meth c ls hF hP hK hS hA hl
  obtain ⟨hx, hb, hr, hml, hown, hts, hlocks⟩ := hF
  have hown : s.vm.findClass RX4 = some m.cls := hown
  have hl : lv_has ls 3 [(0, .ref m0), (1, .int (nI a)), (2, .int (nI b))] := hl
  refine lv_aload_n hx hb dX4_isChild_0 rfl (lv_at hl 0 rfl) ?_
  refine va_get (D := D) (ci := 4) (v := .int tr) (C := RX4) (T := TX4) (N := 15) hx hb hts (fun w h => List.mem_cons_of_mem _ (List.mem_append_right _ (h))) hown hK.1 hP 0 rfl rfl 2 (by decide) (hts (.fieldLink RX4 48 "SenseNetModel" "there" "I") (List.mem_of_getElem? (i := 1) rfl)) (fun _ h9 => h9) rfl dX4_isChild_1 ?_
  refine lv_iload_n hx hb dX4_isChild_4 rfl (lv_at hl 1 rfl) ?_
  refine kq_R (va_runS (As := [.int tr, .int (nI a)]) (rest := []) ⟨hx, hb, hml, hown, hts⟩ (c_X4_has l D cI tr a (ha) _) (va_cwS 2 hts gX4_isChild_X4_has rfl rfl rfl (by decide +kernel) ⟨Nat.le_of_ble_eq_true rfl, Nat.le_of_ble_eq_true rfl⟩) (kp_RS (hP.sub (ws' := []) [] rfl) hK) rfl rfl hl.1 rfl (lv_room (Nat.le_of_ble_eq_true rfl)) dX4_isChild_5 ⟨Nat.zero_le _, Nat.zero_le _⟩) hP hS hA (fun r_5 H locs er_5 hP hS => ?_)
  subst er_5
  refine lv_if_eq (tgt := 28) hx hb dX4_isChild_8 (by decide) (fun c_8 => ?_) (fun c_8 => ?_)
  · skip
    refine lv_iconst (v := 0) hx hb dX4_isChild_28 (by decide) ?_
    exact ke_Z hx hb hr hlocks hS dX4_isChild_29 (bt tr a && bt (pa a) b) (by first | rw [nB_0.mp c_8]; rfl | (rw [nB_n0.mp c_8, nB_0.mp c_21]; rfl) | (rw [nB_n0.mp c_8, nB_n0.mp c_21]; rfl)) (rfl)
  · skip
    refine lv_aload_n hx hb dX4_isChild_11 rfl (lv_at hl 0 rfl) ?_
    refine va_get (D := D) (ci := 4) (v := .ref m3) (C := RX4) (T := TX4) (N := 15) hx hb hts (fun w h => List.mem_cons_of_mem _ (List.mem_append_right _ (h))) hown hK.1 hP 0 rfl rfl 3 (by decide) (hts (.fieldLink RX4 7 "SenseNetModel" "parents" "[I") (List.mem_of_getElem? (i := 2) rfl)) (fun _ h9 => h9) rfl dX4_isChild_12 ?_
    refine lv_iload_n hx hb dX4_isChild_15 rfl (lv_at hl 1 rfl) ?_
    refine va_iald (q0 := 1) (t0 := 0) hx hb hK.1 hP rfl rfl (vp_in_nI (show a < 30 from ha) (by decide)) dX4_isChild_16 ?_
    refine kx_top (show pa (nI a).toNatClampNeg = pa a from congrArg pa (nI_clamp (Nat.lt_trans (show a < 30 from ha) (by decide)))) ?_
    refine lv_iload_n hx hb dX4_isChild_17 rfl (lv_at hl 2 rfl) ?_
    refine kq_R (va_runS (As := [.int (pa a), .int (nI b)]) (rest := []) ⟨hx, hb, hml, hown, hts⟩ (c_X4_has l D cI (pa a) b (hbb) _) (va_cwS 2 hts gX4_isChild_X4_has rfl rfl rfl (by decide +kernel) ⟨Nat.le_of_ble_eq_true rfl, Nat.le_of_ble_eq_true rfl⟩) (kp_RS (hP.sub (ws' := []) [] rfl) hK) rfl rfl hl.1 rfl (lv_room (Nat.le_of_ble_eq_true rfl)) dX4_isChild_18 ⟨Nat.zero_le _, Nat.zero_le _⟩) hP hS hA (fun r_18 H locs er_18 hP hS => ?_)
    subst er_18
    refine lv_if_eq (tgt := 28) hx hb dX4_isChild_21 (by decide) (fun c_21 => ?_) (fun c_21 => ?_)
    · skip
      refine lv_iconst (v := 0) hx hb dX4_isChild_28 (by decide) ?_
      exact ke_Z hx hb hr hlocks hS dX4_isChild_29 (bt tr a && bt (pa a) b) (by first | rw [nB_0.mp c_8]; rfl | (rw [nB_n0.mp c_8, nB_0.mp c_21]; rfl) | (rw [nB_n0.mp c_8, nB_n0.mp c_21]; rfl)) (rfl)
    · skip
      refine lv_iconst (v := 1) hx hb dX4_isChild_24 (by decide) ?_
      refine lv_goto (tgt := 29) hx hb dX4_isChild_25 (by decide) ?_
      exact ke_Z hx hb hr hlocks hS dX4_isChild_29 (bt tr a && bt (pa a) b) (by first | rw [nB_0.mp c_8]; rfl | (rw [nB_n0.mp c_8, nB_0.mp c_21]; rfl) | (rw [nB_n0.mp c_8, nB_n0.mp c_21]; rfl)) (rfl)
set_option maxHeartbeats 4000000 in
set_option maxRecDepth 100000 in
theorem c_X4_isSaid (l : Launch) (D : va_G) (cI : ClassId) (m0 m3 m4 m5 m6 m7 m9 m11 m12 m13 m14 : Nat) (th : Int32) (ma : Int32) (tr : Int32) (mw : Int32) (sd : Int32) (pa : Nat → Int32) (ct : Nat → Int32) (mg : Nat → Int32) (mm : Nat → Int32) (mk : Nat → Int32) (mt : Nat → Int32) (up : Nat → Int32) (li : Nat → Int32) (td : Nat → Int32) (be : Nat → Int32) (P : Nat) (i1 : Int32) (hp1 : sd = nI P) (hp2 : P ≤ 6) : kc_R l yX4_isSaid wsX4_isSaid 0 0 D cI [.ref m0, .int i1] [(m0, .inr (4, [.int th, .int ma, .int tr, .ref m3, .ref m4, .ref m5, .ref m6, .ref m7, .int mw, .ref m9, .int sd, .ref m11, .ref m12, .ref m13, .ref m14])), (m3, .inl (cI, 30, .inl pa)), (m4, .inl (cI, 30, .inl ct)), (m5, .inl (cI, 50, .inl mg)), (m6, .inl (cI, 10, .inl mm)), (m7, .inl (cI, 10, .inl mk)), (m9, .inl (cI, 6, .inl mt)), (m11, .inl (cI, 900, .inl up)), (m12, .inl (cI, 900, .inl li)), (m13, .inl (cI, 6, .inl td)), (m14, .inl (cI, 6, .inl be))] (fun r => r = nB (ksai mt i1 P)) := by
  refine ks_R (cc := cX4_isSaid) (nL := 4) (ret := (some .boolean)) (by decide) rfl (Nat.le_of_ble_eq_true rfl) ?_
  intro p e s m below meth c ls hF hP hK hS hA hl
  obtain ⟨hx, hb, hr, hml, hown, hts, hlocks⟩ := hF
  have hown : s.vm.findClass RX4 = some m.cls := hown
  have hl : lv_has ls 4 [(0, .ref m0), (1, .int i1)] := hl
  refine lv_iconst (v := 0) hx hb dX4_isSaid_0 (by decide) ?_
  refine lv_istore_n (lv' := [(2, .int 0), (0, .ref m0), (1, .int i1)]) hx hb dX4_isSaid_1 rfl hl (by decide) rfl (fun ls hl => ?_)
  refine lv_iconst (v := 0) hx hb dX4_isSaid_2 (by decide) ?_
  refine lv_istore_n (lv' := [(3, .int 0), (2, .int 0), (0, .ref m0), (1, .int i1)]) hx hb dX4_isSaid_3 rfl hl (by decide) rfl (fun ls hl => ?_)
  refine kl_for (head := 4) (N := P) (fun (j : Nat) (H : Heap) (locs : List Loc) (ls : Array Slot) => ∃ (y : Int32), (y = nB (ksai mt i1 j)) ∧ va_P D vwCl [(m0, .inr (4, [.int th, .int ma, .int tr, .ref m3, .ref m4, .ref m5, .ref m6, .ref m7, .int mw, .ref m9, .int sd, .ref m11, .ref m12, .ref m13, .ref m14])), (m3, .inl (cI, 30, .inl pa)), (m4, .inl (cI, 30, .inl ct)), (m5, .inl (cI, 50, .inl mg)), (m6, .inl (cI, 10, .inl mm)), (m7, .inl (cI, 10, .inl mk)), (m9, .inl (cI, 6, .inl mt)), (m11, .inl (cI, 900, .inl up)), (m12, .inl (cI, 900, .inl li)), (m13, .inl (cI, 6, .inl td)), (m14, .inl (cI, 6, .inl be))] H ∧ va_S (va_A [] s.heap.size) s.heap H locs ∧ lv_has ls 4 [(0, .ref m0), (1, .int i1), (2, .int y), (3, .int (nI j))]) 0 (Nat.zero_le _) ?_ ?_ ⟨0, (rfl), hP, hS, (lv_sub hl [2, 3, 1, 0] rfl)⟩
  · skip
    intro j hj H locs ls hJ ih4
    obtain ⟨y, hI, hP, hS, hl⟩ := hJ
    refine lv_iload_n hx hb dX4_isSaid_4 rfl (lv_at hl 3 rfl) ?_
    refine lv_aload_n hx hb dX4_isSaid_5 rfl (lv_at hl 0 rfl) ?_
    refine va_get (D := D) (ci := 4) (v := .int sd) (C := RX4) (T := TX4) (N := 15) hx hb hts (fun w h => List.mem_cons_of_mem _ (List.mem_append_right _ (h))) hown hK.1 hP 0 rfl rfl 10 (by decide) (hts (.fieldLink RX4 91 "SenseNetModel" "said" "I") (List.mem_of_getElem? (i := 1) rfl)) (fun _ h9 => h9) rfl dX4_isSaid_6 ?_
    refine lv_icmp_ge (tgt := 38) hx hb dX4_isSaid_9 (by decide) (fun hc => absurd hc (by rw [hp1]; exact nI_ge (b := P) hj (by omega))) (fun _ => ?_)
    refine lv_iload_n hx hb dX4_isSaid_12 rfl (lv_at hl 2 rfl) ?_
    refine lv_if_ne (tgt := 26) hx hb dX4_isSaid_13 (by decide) (fun c_13 => ?_) (fun c_13 => ?_)
    · skip
      refine lv_iconst (v := 1) hx hb dX4_isSaid_26 (by decide) ?_
      refine lv_goto (tgt := 31) hx hb dX4_isSaid_27 (by decide) ?_
      refine lv_istore_n (lv' := [(2, .int 1), (0, .ref m0), (1, .int i1), (3, .int (nI j))]) hx hb dX4_isSaid_31 rfl hl (by decide) rfl (fun ls hl => ?_)
      refine lv_iinc (v := nI (j + 1)) (lv' := [(3, .int (nI (j + 1))), (2, .int 1), (0, .ref m0), (1, .int i1)]) hx hb dX4_isSaid_32 hl (k := 3) rfl (nI_1 _) (by decide) rfl (fun ls hl => ?_)
      refine lv_goto (tgt := 4) hx hb dX4_isSaid_35 (by decide) ?_
      exact ih4 _ _ _ ⟨1, (by rw [hI] at c_13; simp only [ksai, nB_n0.mp c_13, Bool.true_or]; rfl), hP, hS, (lv_sub hl [2, 3, 1, 0] rfl)⟩
    · skip
      refine lv_aload_n hx hb dX4_isSaid_16 rfl (lv_at hl 0 rfl) ?_
      refine va_get (D := D) (ci := 4) (v := .ref m9) (C := RX4) (T := TX4) (N := 15) hx hb hts (fun w h => List.mem_cons_of_mem _ (List.mem_append_right _ (h))) hown hK.1 hP 0 rfl rfl 9 (by decide) (hts (.fieldLink RX4 25 "SenseNetModel" "sentence" "[I") (List.mem_of_getElem? (i := 2) rfl)) (fun _ h9 => h9) rfl dX4_isSaid_17 ?_
      refine lv_iload_n hx hb dX4_isSaid_20 rfl (lv_at hl 3 rfl) ?_
      refine va_iald (q0 := 6) (t0 := 0) hx hb hK.1 hP rfl rfl (vp_in_nI (show j < 6 from by omega) (by decide)) dX4_isSaid_21 ?_
      refine kx_top (show mt (nI j).toNatClampNeg = mt j from congrArg mt (nI_clamp (Nat.lt_trans (show j < 6 from by omega) (by decide)))) ?_
      refine lv_iload_n hx hb dX4_isSaid_22 rfl (lv_at hl 1 rfl) ?_
      refine lv_icmp_ne (tgt := 30) hx hb dX4_isSaid_23 (by decide) (fun c_23 => ?_) (fun c_23 => ?_)
      · skip
        refine lv_iconst (v := 0) hx hb dX4_isSaid_30 (by decide) ?_
        refine lv_istore_n (lv' := [(2, .int 0), (0, .ref m0), (1, .int i1), (3, .int (nI j))]) hx hb dX4_isSaid_31 rfl hl (by decide) rfl (fun ls hl => ?_)
        refine lv_iinc (v := nI (j + 1)) (lv' := [(3, .int (nI (j + 1))), (2, .int 0), (0, .ref m0), (1, .int i1)]) hx hb dX4_isSaid_32 hl (k := 3) rfl (nI_1 _) (by decide) rfl (fun ls hl => ?_)
        refine lv_goto (tgt := 4) hx hb dX4_isSaid_35 (by decide) ?_
        exact ih4 _ _ _ ⟨0, (by rw [hI] at c_13; simp only [ksai, kat_nI (show j < 6 by omega) (show 6 < 2 ^ 31 by decide), nB_0.mp c_13, decide_eq_false c_23, Bool.or_false]; rfl), hP, hS, (lv_sub hl [2, 3, 1, 0] rfl)⟩
      · skip
        refine lv_iconst (v := 1) hx hb dX4_isSaid_26 (by decide) ?_
        refine lv_goto (tgt := 31) hx hb dX4_isSaid_27 (by decide) ?_
        refine lv_istore_n (lv' := [(2, .int 1), (0, .ref m0), (1, .int i1), (3, .int (nI j))]) hx hb dX4_isSaid_31 rfl hl (by decide) rfl (fun ls hl => ?_)
        refine lv_iinc (v := nI (j + 1)) (lv' := [(3, .int (nI (j + 1))), (2, .int 1), (0, .ref m0), (1, .int i1)]) hx hb dX4_isSaid_32 hl (k := 3) rfl (nI_1 _) (by decide) rfl (fun ls hl => ?_)
        refine lv_goto (tgt := 4) hx hb dX4_isSaid_35 (by decide) ?_
        exact ih4 _ _ _ ⟨1, (by simp only [ksai, kat_nI (show j < 6 by omega) (show 6 < 2 ^ 31 by decide), decide_eq_true c_23, Bool.or_true]; rfl), hP, hS, (lv_sub hl [2, 3, 1, 0] rfl)⟩
  · skip
    intro H locs ls hJ
    obtain ⟨y, hI, hP, hS, hl⟩ := hJ
    refine lv_iload_n hx hb dX4_isSaid_4 rfl (lv_at hl 3 rfl) ?_
    refine lv_aload_n hx hb dX4_isSaid_5 rfl (lv_at hl 0 rfl) ?_
    refine va_get (D := D) (ci := 4) (v := .int sd) (C := RX4) (T := TX4) (N := 15) hx hb hts (fun w h => List.mem_cons_of_mem _ (List.mem_append_right _ (h))) hown hK.1 hP 0 rfl rfl 10 (by decide) (hts (.fieldLink RX4 91 "SenseNetModel" "said" "I") (List.mem_of_getElem? (i := 1) rfl)) (fun _ h9 => h9) rfl dX4_isSaid_6 ?_
    refine lv_icmp_ge (tgt := 38) hx hb dX4_isSaid_9 (by decide) (fun _ => ?_) (fun hc => absurd (by rw [hp1]; exact nI_le (a := P) (b := P) (Nat.le_refl _) (by omega)) hc)
    refine lv_iload_n hx hb dX4_isSaid_38 rfl (lv_at hl 2 rfl) ?_
    exact ke_Z hx hb hr hlocks hS dX4_isSaid_39 (ksai mt i1 P) (hI) (rfl)
set_option maxHeartbeats 4000000 in
set_option maxRecDepth 100000 in
theorem c_X4_massOf (l : Launch) (D : va_G) (cI : ClassId) (m0 m3 m4 m5 m6 m7 m9 m11 m12 m13 m14 : Nat) (th : Int32) (ma : Int32) (tr : Int32) (mw : Int32) (sd : Int32) (pa : Nat → Int32) (ct : Nat → Int32) (mg : Nat → Int32) (mm : Nat → Int32) (mk : Nat → Int32) (mt : Nat → Int32) (up : Nat → Int32) (li : Nat → Int32) (td : Nat → Int32) (be : Nat → Int32) (a : Nat) (ha : a < 30) : kc_R l yX4_massOf wsX4_massOf 1 22 D cI [.ref m0, .int (nI a)] [(m0, .inr (4, [.int th, .int ma, .int tr, .ref m3, .ref m4, .ref m5, .ref m6, .ref m7, .int mw, .ref m9, .int sd, .ref m11, .ref m12, .ref m13, .ref m14])), (m3, .inl (cI, 30, .inl pa)), (m4, .inl (cI, 30, .inl ct)), (m5, .inl (cI, 50, .inl mg)), (m6, .inl (cI, 10, .inl mm)), (m7, .inl (cI, 10, .inl mk)), (m9, .inl (cI, 6, .inl mt)), (m11, .inl (cI, 900, .inl up)), (m12, .inl (cI, 900, .inl li)), (m13, .inl (cI, 6, .inl td)), (m14, .inl (cI, 6, .inl be))] (fun r => r = kmas tr up ct a 30) := by
  refine ks_R (cc := cX4_massOf) (nL := 4) (ret := (some .int)) (by decide) rfl (Nat.le_of_ble_eq_true rfl) ?_
  intro p e s m below meth c ls hF hP hK hS hA hl
  obtain ⟨hx, hb, hr, hml, hown, hts, hlocks⟩ := hF
  have hown : s.vm.findClass RX4 = some m.cls := hown
  have hl : lv_has ls 4 [(0, .ref m0), (1, .int (nI a))] := hl
  refine lv_iconst (v := 0) hx hb dX4_massOf_0 (by decide) ?_
  refine lv_istore_n (lv' := [(2, .int 0), (0, .ref m0), (1, .int (nI a))]) hx hb dX4_massOf_1 rfl hl (by decide) rfl (fun ls hl => ?_)
  refine lv_iconst (v := 0) hx hb dX4_massOf_2 (by decide) ?_
  refine lv_istore_n (lv' := [(3, .int 0), (2, .int 0), (0, .ref m0), (1, .int (nI a))]) hx hb dX4_massOf_3 rfl hl (by decide) rfl (fun ls hl => ?_)
  refine kl_for (head := 4) (N := 30) (fun (j : Nat) (H : Heap) (locs : List Loc) (ls : Array Slot) => ∃ (y : Int32), (y = kmas tr up ct a j) ∧ va_P D vwCl [(m0, .inr (4, [.int th, .int ma, .int tr, .ref m3, .ref m4, .ref m5, .ref m6, .ref m7, .int mw, .ref m9, .int sd, .ref m11, .ref m12, .ref m13, .ref m14])), (m3, .inl (cI, 30, .inl pa)), (m4, .inl (cI, 30, .inl ct)), (m5, .inl (cI, 50, .inl mg)), (m6, .inl (cI, 10, .inl mm)), (m7, .inl (cI, 10, .inl mk)), (m9, .inl (cI, 6, .inl mt)), (m11, .inl (cI, 900, .inl up)), (m12, .inl (cI, 900, .inl li)), (m13, .inl (cI, 6, .inl td)), (m14, .inl (cI, 6, .inl be))] H ∧ va_S (va_A [] s.heap.size) s.heap H locs ∧ lv_has ls 4 [(0, .ref m0), (1, .int (nI a)), (2, .int y), (3, .int (nI j))]) 0 (Nat.zero_le _) ?_ ?_ ⟨0, (rfl), hP, hS, (lv_sub hl [2, 3, 1, 0] rfl)⟩
  · skip
    intro j hj H locs ls hJ ih4
    obtain ⟨y, hI, hP, hS, hl⟩ := hJ
    refine lv_iload_n hx hb dX4_massOf_4 rfl (lv_at hl 3 rfl) ?_
    refine lv_bipush (v := 30) hx hb dX4_massOf_5 (by decide) ?_
    refine lv_icmp_ge (tgt := 49) hx hb dX4_massOf_7 (by decide) (fun hc => absurd hc (nI_ge (b := 30) hj (by decide))) (fun _ => ?_)
    refine lv_iload_n hx hb dX4_massOf_10 rfl (lv_at hl 2 rfl) ?_
    refine lv_aload_n hx hb dX4_massOf_11 rfl (lv_at hl 0 rfl) ?_
    refine va_get (D := D) (ci := 4) (v := .int tr) (C := RX4) (T := TX4) (N := 15) hx hb hts (fun w h => List.mem_cons_of_mem _ (List.mem_append_right _ (h))) hown hK.1 hP 0 rfl rfl 2 (by decide) (hts (.fieldLink RX4 48 "SenseNetModel" "there" "I") (List.mem_of_getElem? (i := 1) rfl)) (fun _ h9 => h9) rfl dX4_massOf_12 ?_
    refine lv_iload_n hx hb dX4_massOf_15 rfl (lv_at hl 3 rfl) ?_
    refine kq_R (va_runS (As := [.int tr, .int (nI j)]) (rest := [.int y]) ⟨hx, hb, hml, hown, hts⟩ (c_X4_has l D cI tr j (hj) _) (va_cwS 2 hts gX4_massOf_X4_has rfl rfl rfl (by decide +kernel) ⟨Nat.le_of_ble_eq_true rfl, Nat.le_of_ble_eq_true rfl⟩) (kp_RS (hP.sub (ws' := []) [] rfl) hK) rfl rfl hl.1 rfl (lv_room (Nat.le_of_ble_eq_true rfl)) dX4_massOf_16 ⟨Nat.zero_le _, Nat.zero_le _⟩) hP hS hA (fun r_16 H locs er_16 hP hS => ?_)
    subst er_16
    refine lv_if_eq (tgt := 40) hx hb dX4_massOf_19 (by decide) (fun c_19 => ?_) (fun c_19 => ?_)
    · skip
      refine lv_iconst (v := 0) hx hb dX4_massOf_40 (by decide) ?_
      refine lv_iadd hx hb dX4_massOf_41 ?_
      refine lv_istore_n (lv' := [(2, .int (y + 0)), (0, .ref m0), (1, .int (nI a)), (3, .int (nI j))]) hx hb dX4_massOf_42 rfl hl (by decide) rfl (fun ls hl => ?_)
      refine lv_iinc (v := nI (j + 1)) (lv' := [(3, .int (nI (j + 1))), (2, .int (y + 0)), (0, .ref m0), (1, .int (nI a))]) hx hb dX4_massOf_43 hl (k := 3) rfl (nI_1 _) (by decide) rfl (fun ls hl => ?_)
      refine lv_goto (tgt := 4) hx hb dX4_massOf_46 (by decide) ?_
      exact ih4 _ _ _ ⟨(y + 0), (by rw [hI]; show _ = _ + _; rw [if_pos c_19]), hP, hS, (lv_sub hl [2, 3, 1, 0] rfl)⟩
    · skip
      refine lv_aload_n hx hb dX4_massOf_22 rfl (lv_at hl 0 rfl) ?_
      refine lv_iload_n hx hb dX4_massOf_23 rfl (lv_at hl 1 rfl) ?_
      refine lv_iload_n hx hb dX4_massOf_24 rfl (lv_at hl 3 rfl) ?_
      refine kq_R (va_runV (As := [.int (nI a), .int (nI j)]) (rest := [.int y]) ⟨hx, hb, hml, hown, hts⟩ (c_X4_covers l D cI m0 m3 m4 m5 m6 m7 m9 m11 m12 m13 m14 th ma tr mw sd pa ct mg mm mk mt up li td be a j (ha) (hj) _) (cwV 2 hts gX4_massOf_X4_covers rfl rfl rfl (by decide +kernel) ⟨Nat.le_of_ble_eq_true rfl, Nat.le_of_ble_eq_true rfl⟩) (kp_RV (hP.sub (ws' := [(m0, .inr (4, [.int th, .int ma, .int tr, .ref m3, .ref m4, .ref m5, .ref m6, .ref m7, .int mw, .ref m9, .int sd, .ref m11, .ref m12, .ref m13, .ref m14])), (m3, .inl (cI, 30, .inl pa)), (m4, .inl (cI, 30, .inl ct)), (m5, .inl (cI, 50, .inl mg)), (m6, .inl (cI, 10, .inl mm)), (m7, .inl (cI, 10, .inl mk)), (m9, .inl (cI, 6, .inl mt)), (m11, .inl (cI, 900, .inl up)), (m12, .inl (cI, 900, .inl li)), (m13, .inl (cI, 6, .inl td)), (m14, .inl (cI, 6, .inl be))]) [0, 1, 2, 3, 4, 5, 6, 7, 8, 9, 10] rfl) hK 0 4 rfl rfl) rfl rfl hl.1 rfl (lv_room (Nat.le_of_ble_eq_true rfl)) dX4_massOf_25 ⟨Nat.zero_le _, Nat.zero_le _⟩) hP hS hA (fun r_25 H locs er_25 hP hS => ?_)
      subst er_25
      refine lv_if_eq (tgt := 40) hx hb dX4_massOf_28 (by decide) (fun c_28 => ?_) (fun c_28 => ?_)
      · skip
        refine lv_iconst (v := 0) hx hb dX4_massOf_40 (by decide) ?_
        refine lv_iadd hx hb dX4_massOf_41 ?_
        refine lv_istore_n (lv' := [(2, .int (y + 0)), (0, .ref m0), (1, .int (nI a)), (3, .int (nI j))]) hx hb dX4_massOf_42 rfl hl (by decide) rfl (fun ls hl => ?_)
        refine lv_iinc (v := nI (j + 1)) (lv' := [(3, .int (nI (j + 1))), (2, .int (y + 0)), (0, .ref m0), (1, .int (nI a))]) hx hb dX4_massOf_43 hl (k := 3) rfl (nI_1 _) (by decide) rfl (fun ls hl => ?_)
        refine lv_goto (tgt := 4) hx hb dX4_massOf_46 (by decide) ?_
        exact ih4 _ _ _ ⟨(y + 0), (by rw [hI]; show _ = _ + _; rw [if_neg c_19, if_pos c_28]), hP, hS, (lv_sub hl [2, 3, 1, 0] rfl)⟩
      · skip
        refine lv_aload_n hx hb dX4_massOf_31 rfl (lv_at hl 0 rfl) ?_
        refine va_get (D := D) (ci := 4) (v := .ref m4) (C := RX4) (T := TX4) (N := 15) hx hb hts (fun w h => List.mem_cons_of_mem _ (List.mem_append_right _ (h))) hown hK.1 hP 0 rfl rfl 4 (by decide) (hts (.fieldLink RX4 13 "SenseNetModel" "counts" "[I") (List.mem_of_getElem? (i := 2) rfl)) (fun _ h9 => h9) rfl dX4_massOf_32 ?_
        refine lv_iload_n hx hb dX4_massOf_35 rfl (lv_at hl 3 rfl) ?_
        refine va_iald (q0 := 2) (t0 := 0) hx hb hK.1 hP rfl rfl (vp_in_nI (show j < 30 from hj) (by decide)) dX4_massOf_36 ?_
        refine kx_top (show ct (nI j).toNatClampNeg = ct j from congrArg ct (nI_clamp (Nat.lt_trans (show j < 30 from hj) (by decide)))) ?_
        refine lv_goto (tgt := 41) hx hb dX4_massOf_37 (by decide) ?_
        refine lv_iadd hx hb dX4_massOf_41 ?_
        refine lv_istore_n (lv' := [(2, .int (y + (ct j))), (0, .ref m0), (1, .int (nI a)), (3, .int (nI j))]) hx hb dX4_massOf_42 rfl hl (by decide) rfl (fun ls hl => ?_)
        refine lv_iinc (v := nI (j + 1)) (lv' := [(3, .int (nI (j + 1))), (2, .int (y + (ct j))), (0, .ref m0), (1, .int (nI a))]) hx hb dX4_massOf_43 hl (k := 3) rfl (nI_1 _) (by decide) rfl (fun ls hl => ?_)
        refine lv_goto (tgt := 4) hx hb dX4_massOf_46 (by decide) ?_
        exact ih4 _ _ _ ⟨(y + (ct j)), (by rw [hI]; show _ = _ + _; rw [if_neg c_19, if_neg c_28]), hP, hS, (lv_sub hl [2, 3, 1, 0] rfl)⟩
  · skip
    intro H locs ls hJ
    obtain ⟨y, hI, hP, hS, hl⟩ := hJ
    refine lv_iload_n hx hb dX4_massOf_4 rfl (lv_at hl 3 rfl) ?_
    refine lv_bipush (v := 30) hx hb dX4_massOf_5 (by decide) ?_
    refine lv_icmp_ge (tgt := 49) hx hb dX4_massOf_7 (by decide) (fun _ => ?_) (fun hc => absurd (nI_le (a := 30) (b := 30) (Nat.le_refl _) (by decide)) hc)
    refine lv_iload_n hx hb dX4_massOf_49 rfl (lv_at hl 2 rfl) ?_
    exact ke_R hx hb hr hlocks hS dX4_massOf_50 (hI)
set_option maxHeartbeats 4000000 in
set_option maxRecDepth 100000 in
theorem c_X4_depthOf (l : Launch) (D : va_G) (cI : ClassId) (m0 m3 m4 m5 m6 m7 m9 m11 m12 m13 m14 : Nat) (th : Int32) (ma : Int32) (tr : Int32) (mw : Int32) (sd : Int32) (pa : Nat → Int32) (ct : Nat → Int32) (mg : Nat → Int32) (mm : Nat → Int32) (mk : Nat → Int32) (mt : Nat → Int32) (up : Nat → Int32) (li : Nat → Int32) (td : Nat → Int32) (be : Nat → Int32) (a : Nat) (ha : a < 30) : kc_R l yX4_depthOf wsX4_depthOf 1 21 D cI [.ref m0, .int (nI a)] [(m0, .inr (4, [.int th, .int ma, .int tr, .ref m3, .ref m4, .ref m5, .ref m6, .ref m7, .int mw, .ref m9, .int sd, .ref m11, .ref m12, .ref m13, .ref m14])), (m3, .inl (cI, 30, .inl pa)), (m4, .inl (cI, 30, .inl ct)), (m5, .inl (cI, 50, .inl mg)), (m6, .inl (cI, 10, .inl mm)), (m7, .inl (cI, 10, .inl mk)), (m9, .inl (cI, 6, .inl mt)), (m11, .inl (cI, 900, .inl up)), (m12, .inl (cI, 900, .inl li)), (m13, .inl (cI, 6, .inl td)), (m14, .inl (cI, 6, .inl be))] (fun r => r = kdpo tr pa up a 30) := by
  refine ks_R (cc := cX4_depthOf) (nL := 5) (ret := (some .int)) (by decide) rfl (Nat.le_of_ble_eq_true rfl) ?_
  intro p e s m below meth c ls hF hP hK hS hA hl
  obtain ⟨hx, hb, hr, hml, hown, hts, hlocks⟩ := hF
  have hown : s.vm.findClass RX4 = some m.cls := hown
  have hl : lv_has ls 5 [(0, .ref m0), (1, .int (nI a))] := hl
  refine lv_sipush (v := 1000) hx hb dX4_depthOf_0 (by decide) ?_
  refine lv_istore_n (lv' := [(2, .int 1000), (0, .ref m0), (1, .int (nI a))]) hx hb dX4_depthOf_3 rfl hl (by decide) rfl (fun ls hl => ?_)
  refine lv_iconst (v := 0) hx hb dX4_depthOf_4 (by decide) ?_
  refine lv_istore_n (lv' := [(3, .int 0), (2, .int 1000), (0, .ref m0), (1, .int (nI a))]) hx hb dX4_depthOf_5 rfl hl (by decide) rfl (fun ls hl => ?_)
  refine kl_for (head := 6) (N := 30) (fun (j : Nat) (H : Heap) (locs : List Loc) (ls : Array Slot) => ∃ (y : Int32), (y = kdpo tr pa up a j) ∧ va_P D vwCl [(m0, .inr (4, [.int th, .int ma, .int tr, .ref m3, .ref m4, .ref m5, .ref m6, .ref m7, .int mw, .ref m9, .int sd, .ref m11, .ref m12, .ref m13, .ref m14])), (m3, .inl (cI, 30, .inl pa)), (m4, .inl (cI, 30, .inl ct)), (m5, .inl (cI, 50, .inl mg)), (m6, .inl (cI, 10, .inl mm)), (m7, .inl (cI, 10, .inl mk)), (m9, .inl (cI, 6, .inl mt)), (m11, .inl (cI, 900, .inl up)), (m12, .inl (cI, 900, .inl li)), (m13, .inl (cI, 6, .inl td)), (m14, .inl (cI, 6, .inl be))] H ∧ va_S (va_A [] s.heap.size) s.heap H locs ∧ lv_has ls 5 [(0, .ref m0), (1, .int (nI a)), (2, .int y), (3, .int (nI j))]) 0 (Nat.zero_le _) ?_ ?_ ⟨1000, (rfl), hP, hS, (lv_sub hl [2, 3, 1, 0] rfl)⟩
  · skip
    intro j hj H locs ls hJ ih6
    obtain ⟨y, hI, hP, hS, hl⟩ := hJ
    refine lv_iload_n hx hb dX4_depthOf_6 rfl (lv_at hl 3 rfl) ?_
    refine lv_bipush (v := 30) hx hb dX4_depthOf_7 (by decide) ?_
    refine lv_icmp_ge (tgt := 70) hx hb dX4_depthOf_9 (by decide) (fun hc => absurd hc (nI_ge (b := 30) hj (by decide))) (fun _ => ?_)
    refine lv_aload_n hx hb dX4_depthOf_12 rfl (lv_at hl 0 rfl) ?_
    refine va_get (D := D) (ci := 4) (v := .int tr) (C := RX4) (T := TX4) (N := 15) hx hb hts (fun w h => List.mem_cons_of_mem _ (List.mem_append_right _ (h))) hown hK.1 hP 0 rfl rfl 2 (by decide) (hts (.fieldLink RX4 48 "SenseNetModel" "there" "I") (List.mem_of_getElem? (i := 1) rfl)) (fun _ h9 => h9) rfl dX4_depthOf_13 ?_
    refine lv_iload_n hx hb dX4_depthOf_16 rfl (lv_at hl 3 rfl) ?_
    refine kq_R (va_runS (As := [.int tr, .int (nI j)]) (rest := []) ⟨hx, hb, hml, hown, hts⟩ (c_X4_has l D cI tr j (hj) _) (va_cwS 2 hts gX4_depthOf_X4_has rfl rfl rfl (by decide +kernel) ⟨Nat.le_of_ble_eq_true rfl, Nat.le_of_ble_eq_true rfl⟩) (kp_RS (hP.sub (ws' := []) [] rfl) hK) rfl rfl hl.1 rfl (lv_room (Nat.le_of_ble_eq_true rfl)) dX4_depthOf_17 ⟨Nat.zero_le _, Nat.zero_le _⟩) hP hS hA (fun r_17 H locs er_17 hP hS => ?_)
    subst er_17
    refine kl_cut (pc := 49) (fun (H : Heap) (locs : List Loc) (ls : Array Slot) (st : List Value) => ∃ (v : Int32), (v = kdp1 tr pa up a j) ∧ st = [.int v] ∧ va_P D vwCl [(m0, .inr (4, [.int th, .int ma, .int tr, .ref m3, .ref m4, .ref m5, .ref m6, .ref m7, .int mw, .ref m9, .int sd, .ref m11, .ref m12, .ref m13, .ref m14])), (m3, .inl (cI, 30, .inl pa)), (m4, .inl (cI, 30, .inl ct)), (m5, .inl (cI, 50, .inl mg)), (m6, .inl (cI, 10, .inl mm)), (m7, .inl (cI, 10, .inl mk)), (m9, .inl (cI, 6, .inl mt)), (m11, .inl (cI, 900, .inl up)), (m12, .inl (cI, 900, .inl li)), (m13, .inl (cI, 6, .inl td)), (m14, .inl (cI, 6, .inl be))] H ∧ va_S (va_A [] s.heap.size) s.heap H locs ∧ lv_has ls 5 [(0, .ref m0), (1, .int (nI a)), (2, .int y), (3, .int (nI j))]) ?_ (fun jn49 => ?_)
    · skip
      intro H locs ls st hJ
      obtain ⟨v, hI49, rfl, hP, hS, hl⟩ := hJ
      refine lv_istore (lv' := [(4, .int v), (0, .ref m0), (1, .int (nI a)), (2, .int y), (3, .int (nI j))]) hx hb dX4_depthOf_49 hl (by decide) rfl (fun ls hl => ?_)
      refine lv_iload hx hb dX4_depthOf_51 (lv_at hl 0 rfl) ?_
      refine lv_iload_n hx hb dX4_depthOf_53 rfl (lv_at hl 3 rfl) ?_
      refine lv_icmp_ge (tgt := 62) hx hb dX4_depthOf_54 (by decide) (fun c_54 => ?_) (fun c_54 => ?_)
      · skip
        refine lv_iload_n hx hb dX4_depthOf_62 rfl (lv_at hl 3 rfl) ?_
        refine lv_istore_n (lv' := [(2, .int y), (4, .int v), (0, .ref m0), (1, .int (nI a)), (3, .int (nI j))]) hx hb dX4_depthOf_63 rfl hl (by decide) rfl (fun ls hl => ?_)
        refine lv_iinc (v := nI (j + 1)) (lv' := [(3, .int (nI (j + 1))), (2, .int y), (4, .int v), (0, .ref m0), (1, .int (nI a))]) hx hb dX4_depthOf_64 hl (k := 4) rfl (nI_1 _) (by decide) rfl (fun ls hl => ?_)
        refine lv_goto (tgt := 6) hx hb dX4_depthOf_67 (by decide) ?_
        exact ih6 _ _ _ ⟨y, (by rw [hI] at c_54 ⊢; rw [hI49] at c_54; exact (if_pos c_54).symm), hP, hS, (lv_sub hl [3, 4, 1, 0] rfl)⟩
      · skip
        refine lv_iload hx hb dX4_depthOf_57 (lv_at hl 0 rfl) ?_
        refine lv_goto (tgt := 63) hx hb dX4_depthOf_59 (by decide) ?_
        refine lv_istore_n (lv' := [(2, .int v), (4, .int v), (0, .ref m0), (1, .int (nI a)), (3, .int (nI j))]) hx hb dX4_depthOf_63 rfl hl (by decide) rfl (fun ls hl => ?_)
        refine lv_iinc (v := nI (j + 1)) (lv' := [(3, .int (nI (j + 1))), (2, .int v), (4, .int v), (0, .ref m0), (1, .int (nI a))]) hx hb dX4_depthOf_64 hl (k := 4) rfl (nI_1 _) (by decide) rfl (fun ls hl => ?_)
        refine lv_goto (tgt := 6) hx hb dX4_depthOf_67 (by decide) ?_
        exact ih6 _ _ _ ⟨v, (by rw [hI, hI49] at c_54; rw [hI49]; exact (if_neg c_54).symm), hP, hS, (lv_sub hl [3, 4, 1, 0] rfl)⟩
    refine lv_if_eq (tgt := 46) hx hb dX4_depthOf_20 (by decide) (fun c_20 => ?_) (fun c_20 => ?_)
    · skip
      refine lv_sipush (v := 1000) hx hb dX4_depthOf_46 (by decide) ?_
      exact jn49 _ _ _ _ ⟨1000, ((if_pos c_20).symm), rfl, hP, hS, (lv_sub hl [0, 1, 2, 3] rfl)⟩
    · skip
      refine lv_aload_n hx hb dX4_depthOf_23 rfl (lv_at hl 0 rfl) ?_
      refine va_get (D := D) (ci := 4) (v := .ref m3) (C := RX4) (T := TX4) (N := 15) hx hb hts (fun w h => List.mem_cons_of_mem _ (List.mem_append_right _ (h))) hown hK.1 hP 0 rfl rfl 3 (by decide) (hts (.fieldLink RX4 7 "SenseNetModel" "parents" "[I") (List.mem_of_getElem? (i := 2) rfl)) (fun _ h9 => h9) rfl dX4_depthOf_24 ?_
      refine lv_iload_n hx hb dX4_depthOf_27 rfl (lv_at hl 3 rfl) ?_
      refine va_iald (q0 := 1) (t0 := 0) hx hb hK.1 hP rfl rfl (vp_in_nI (show j < 30 from hj) (by decide)) dX4_depthOf_28 ?_
      refine kx_top (show pa (nI j).toNatClampNeg = pa j from congrArg pa (nI_clamp (Nat.lt_trans (show j < 30 from hj) (by decide)))) ?_
      refine lv_if_ne (tgt := 46) hx hb dX4_depthOf_29 (by decide) (fun c_29 => ?_) (fun c_29 => ?_)
      · skip
        refine lv_sipush (v := 1000) hx hb dX4_depthOf_46 (by decide) ?_
        exact jn49 _ _ _ _ ⟨1000, (by unfold kdp1; rw [if_neg c_20, if_pos c_29]), rfl, hP, hS, (lv_sub hl [0, 1, 2, 3] rfl)⟩
      · skip
        refine lv_aload_n hx hb dX4_depthOf_32 rfl (lv_at hl 0 rfl) ?_
        refine va_get (D := D) (ci := 4) (v := .ref m11) (C := RX4) (T := TX4) (N := 15) hx hb hts (fun w h => List.mem_cons_of_mem _ (List.mem_append_right _ (h))) hown hK.1 hP 0 rfl rfl 11 (by decide) (hts (.fieldLink RX4 28 "SenseNetModel" "up" "[I") (List.mem_of_getElem? (i := 3) rfl)) (fun _ h9 => h9) rfl dX4_depthOf_33 ?_
        refine lv_bipush (v := 30) hx hb dX4_depthOf_36 (by decide) ?_
        refine lv_iload_n hx hb dX4_depthOf_38 rfl (lv_at hl 1 rfl) ?_
        refine lv_imul hx hb dX4_depthOf_39 ?_
        refine lv_iload_n hx hb dX4_depthOf_40 rfl (lv_at hl 3 rfl) ?_
        refine lv_iadd hx hb dX4_depthOf_41 ?_
        refine kx_top (show (30 * (nI a)) + (nI j) = nI (30 * a + j) from kx_up) ?_
        refine va_iald (q0 := 7) (t0 := 0) hx hb hK.1 hP rfl rfl (vp_in_nI (show (30 * a + j) < 900 from by omega) (by decide)) dX4_depthOf_42 ?_
        refine kx_top (show up (nI (30 * a + j)).toNatClampNeg = up (30 * a + j) from congrArg up (nI_clamp (Nat.lt_trans (show (30 * a + j) < 900 from by omega) (by decide)))) ?_
        refine lv_goto (tgt := 49) hx hb dX4_depthOf_43 (by decide) ?_
        exact jn49 _ _ _ _ ⟨(up (30 * a + j)), (by unfold kdp1; rw [if_neg c_20, if_neg (Classical.not_not.mpr c_29)]), rfl, hP, hS, (lv_sub hl [0, 1, 2, 3] rfl)⟩
  · skip
    intro H locs ls hJ
    obtain ⟨y, hI, hP, hS, hl⟩ := hJ
    refine lv_iload_n hx hb dX4_depthOf_6 rfl (lv_at hl 3 rfl) ?_
    refine lv_bipush (v := 30) hx hb dX4_depthOf_7 (by decide) ?_
    refine lv_icmp_ge (tgt := 70) hx hb dX4_depthOf_9 (by decide) (fun _ => ?_) (fun hc => absurd (nI_le (a := 30) (b := 30) (Nat.le_refl _) (by decide)) hc)
    refine lv_iload_n hx hb dX4_depthOf_70 rfl (lv_at hl 2 rfl) ?_
    exact ke_R hx hb hr hlocks hS dX4_depthOf_71 (hI)
set_option maxHeartbeats 4000000 in
set_option maxRecDepth 100000 in
theorem c_X4_distanceOf (l : Launch) (D : va_G) (cI : ClassId) (m0 m3 m4 m5 m6 m7 m9 m11 m12 m13 m14 : Nat) (th : Int32) (ma : Int32) (tr : Int32) (mw : Int32) (sd : Int32) (pa : Nat → Int32) (ct : Nat → Int32) (mg : Nat → Int32) (mm : Nat → Int32) (mk : Nat → Int32) (mt : Nat → Int32) (up : Nat → Int32) (li : Nat → Int32) (td : Nat → Int32) (be : Nat → Int32) (a : Nat) (b : Nat) (ha : a < 30) (hbb : b < 30) : kc_R l yX4_distanceOf wsX4_distanceOf 0 0 D cI [.ref m0, .int (nI a), .int (nI b)] [(m0, .inr (4, [.int th, .int ma, .int tr, .ref m3, .ref m4, .ref m5, .ref m6, .ref m7, .int mw, .ref m9, .int sd, .ref m11, .ref m12, .ref m13, .ref m14])), (m3, .inl (cI, 30, .inl pa)), (m4, .inl (cI, 30, .inl ct)), (m5, .inl (cI, 50, .inl mg)), (m6, .inl (cI, 10, .inl mm)), (m7, .inl (cI, 10, .inl mk)), (m9, .inl (cI, 6, .inl mt)), (m11, .inl (cI, 900, .inl up)), (m12, .inl (cI, 900, .inl li)), (m13, .inl (cI, 6, .inl td)), (m14, .inl (cI, 6, .inl be))] (fun r => r = kdst up a b) := by
  refine ks_R (cc := cX4_distanceOf) (nL := 6) (ret := (some .int)) (by decide) rfl (Nat.le_of_ble_eq_true rfl) ?_
  intro p e s m below meth c ls hF hP hK hS hA hl
  obtain ⟨hx, hb, hr, hml, hown, hts, hlocks⟩ := hF
  have hown : s.vm.findClass RX4 = some m.cls := hown
  have hl : lv_has ls 6 [(0, .ref m0), (1, .int (nI a)), (2, .int (nI b))] := hl
  refine lv_sipush (v := 1000) hx hb dX4_distanceOf_0 (by decide) ?_
  refine lv_istore_n (lv' := [(3, .int 1000), (0, .ref m0), (1, .int (nI a)), (2, .int (nI b))]) hx hb dX4_distanceOf_3 rfl hl (by decide) rfl (fun ls hl => ?_)
  refine lv_iconst (v := 0) hx hb dX4_distanceOf_4 (by decide) ?_
  refine lv_istore (lv' := [(4, .int 0), (3, .int 1000), (0, .ref m0), (1, .int (nI a)), (2, .int (nI b))]) hx hb dX4_distanceOf_5 hl (by decide) rfl (fun ls hl => ?_)
  refine kl_for (head := 7) (N := 30) (fun (j : Nat) (H : Heap) (locs : List Loc) (ls : Array Slot) => ∃ (y : Int32), (y = kdis up a b j) ∧ va_P D vwCl [(m0, .inr (4, [.int th, .int ma, .int tr, .ref m3, .ref m4, .ref m5, .ref m6, .ref m7, .int mw, .ref m9, .int sd, .ref m11, .ref m12, .ref m13, .ref m14])), (m3, .inl (cI, 30, .inl pa)), (m4, .inl (cI, 30, .inl ct)), (m5, .inl (cI, 50, .inl mg)), (m6, .inl (cI, 10, .inl mm)), (m7, .inl (cI, 10, .inl mk)), (m9, .inl (cI, 6, .inl mt)), (m11, .inl (cI, 900, .inl up)), (m12, .inl (cI, 900, .inl li)), (m13, .inl (cI, 6, .inl td)), (m14, .inl (cI, 6, .inl be))] H ∧ va_S (va_A [] s.heap.size) s.heap H locs ∧ lv_has ls 6 [(0, .ref m0), (1, .int (nI a)), (2, .int (nI b)), (3, .int y), (4, .int (nI j))]) 0 (Nat.zero_le _) ?_ ?_ ⟨1000, (rfl), hP, hS, (lv_sub hl [2, 3, 4, 1, 0] rfl)⟩
  · skip
    intro j hj H locs ls hJ ih7
    obtain ⟨y, hI, hP, hS, hl⟩ := hJ
    refine lv_iload hx hb dX4_distanceOf_7 (lv_at hl 4 rfl) ?_
    refine lv_bipush (v := 30) hx hb dX4_distanceOf_9 (by decide) ?_
    refine lv_icmp_ge (tgt := 60) hx hb dX4_distanceOf_11 (by decide) (fun hc => absurd hc (nI_ge (b := 30) hj (by decide))) (fun _ => ?_)
    refine lv_aload_n hx hb dX4_distanceOf_14 rfl (lv_at hl 0 rfl) ?_
    refine va_get (D := D) (ci := 4) (v := .ref m11) (C := RX4) (T := TX4) (N := 15) hx hb hts (fun w h => List.mem_cons_of_mem _ (List.mem_append_right _ (h))) hown hK.1 hP 0 rfl rfl 11 (by decide) (hts (.fieldLink RX4 28 "SenseNetModel" "up" "[I") (List.mem_of_getElem? (i := 1) rfl)) (fun _ h9 => h9) rfl dX4_distanceOf_15 ?_
    refine lv_bipush (v := 30) hx hb dX4_distanceOf_18 (by decide) ?_
    refine lv_iload_n hx hb dX4_distanceOf_20 rfl (lv_at hl 1 rfl) ?_
    refine lv_imul hx hb dX4_distanceOf_21 ?_
    refine lv_iload hx hb dX4_distanceOf_22 (lv_at hl 4 rfl) ?_
    refine lv_iadd hx hb dX4_distanceOf_24 ?_
    refine kx_top (show (30 * (nI a)) + (nI j) = nI (30 * a + j) from kx_up) ?_
    refine va_iald (q0 := 7) (t0 := 0) hx hb hK.1 hP rfl rfl (vp_in_nI (show (30 * a + j) < 900 from by omega) (by decide)) dX4_distanceOf_25 ?_
    refine kx_top (show up (nI (30 * a + j)).toNatClampNeg = up (30 * a + j) from congrArg up (nI_clamp (Nat.lt_trans (show (30 * a + j) < 900 from by omega) (by decide)))) ?_
    refine lv_aload_n hx hb dX4_distanceOf_26 rfl (lv_at hl 0 rfl) ?_
    refine va_get (D := D) (ci := 4) (v := .ref m11) (C := RX4) (T := TX4) (N := 15) hx hb hts (fun w h => List.mem_cons_of_mem _ (List.mem_append_right _ (h))) hown hK.1 hP 0 rfl rfl 11 (by decide) (hts (.fieldLink RX4 28 "SenseNetModel" "up" "[I") (List.mem_of_getElem? (i := 1) rfl)) (fun _ h9 => h9) rfl dX4_distanceOf_27 ?_
    refine lv_bipush (v := 30) hx hb dX4_distanceOf_30 (by decide) ?_
    refine lv_iload_n hx hb dX4_distanceOf_32 rfl (lv_at hl 2 rfl) ?_
    refine lv_imul hx hb dX4_distanceOf_33 ?_
    refine lv_iload hx hb dX4_distanceOf_34 (lv_at hl 4 rfl) ?_
    refine lv_iadd hx hb dX4_distanceOf_36 ?_
    refine kx_top (show (30 * (nI b)) + (nI j) = nI (30 * b + j) from kx_up) ?_
    refine va_iald (q0 := 7) (t0 := 0) hx hb hK.1 hP rfl rfl (vp_in_nI (show (30 * b + j) < 900 from by omega) (by decide)) dX4_distanceOf_37 ?_
    refine kx_top (show up (nI (30 * b + j)).toNatClampNeg = up (30 * b + j) from congrArg up (nI_clamp (Nat.lt_trans (show (30 * b + j) < 900 from by omega) (by decide)))) ?_
    refine lv_iadd hx hb dX4_distanceOf_38 ?_
    refine lv_istore (lv' := [(5, .int ((up (30 * a + j)) + (up (30 * b + j)))), (0, .ref m0), (1, .int (nI a)), (2, .int (nI b)), (3, .int y), (4, .int (nI j))]) hx hb dX4_distanceOf_39 hl (by decide) rfl (fun ls hl => ?_)
    refine lv_iload hx hb dX4_distanceOf_41 (lv_at hl 0 rfl) ?_
    refine lv_iload_n hx hb dX4_distanceOf_43 rfl (lv_at hl 4 rfl) ?_
    refine lv_icmp_ge (tgt := 52) hx hb dX4_distanceOf_44 (by decide) (fun c_44 => ?_) (fun c_44 => ?_)
    · skip
      refine lv_iload_n hx hb dX4_distanceOf_52 rfl (lv_at hl 4 rfl) ?_
      refine lv_istore_n (lv' := [(3, .int y), (5, .int ((up (30 * a + j)) + (up (30 * b + j)))), (0, .ref m0), (1, .int (nI a)), (2, .int (nI b)), (4, .int (nI j))]) hx hb dX4_distanceOf_53 rfl hl (by decide) rfl (fun ls hl => ?_)
      refine lv_iinc (v := nI (j + 1)) (lv' := [(4, .int (nI (j + 1))), (3, .int y), (5, .int ((up (30 * a + j)) + (up (30 * b + j)))), (0, .ref m0), (1, .int (nI a)), (2, .int (nI b))]) hx hb dX4_distanceOf_54 hl (k := 5) rfl (nI_1 _) (by decide) rfl (fun ls hl => ?_)
      refine lv_goto (tgt := 7) hx hb dX4_distanceOf_57 (by decide) ?_
      exact ih7 _ _ _ ⟨y, (by rw [hI] at c_44 ⊢; exact (if_pos c_44).symm), hP, hS, (lv_sub hl [3, 4, 5, 1, 0] rfl)⟩
    · skip
      refine lv_iload hx hb dX4_distanceOf_47 (lv_at hl 0 rfl) ?_
      refine lv_goto (tgt := 53) hx hb dX4_distanceOf_49 (by decide) ?_
      refine lv_istore_n (lv' := [(3, .int ((up (30 * a + j)) + (up (30 * b + j)))), (5, .int ((up (30 * a + j)) + (up (30 * b + j)))), (0, .ref m0), (1, .int (nI a)), (2, .int (nI b)), (4, .int (nI j))]) hx hb dX4_distanceOf_53 rfl hl (by decide) rfl (fun ls hl => ?_)
      refine lv_iinc (v := nI (j + 1)) (lv' := [(4, .int (nI (j + 1))), (3, .int ((up (30 * a + j)) + (up (30 * b + j)))), (5, .int ((up (30 * a + j)) + (up (30 * b + j)))), (0, .ref m0), (1, .int (nI a)), (2, .int (nI b))]) hx hb dX4_distanceOf_54 hl (k := 5) rfl (nI_1 _) (by decide) rfl (fun ls hl => ?_)
      refine lv_goto (tgt := 7) hx hb dX4_distanceOf_57 (by decide) ?_
      exact ih7 _ _ _ ⟨((up (30 * a + j)) + (up (30 * b + j))), (by rw [hI] at c_44; exact (if_neg c_44).symm), hP, hS, (lv_sub hl [3, 4, 5, 1, 0] rfl)⟩
  · skip
    intro H locs ls hJ
    obtain ⟨y, hI, hP, hS, hl⟩ := hJ
    refine lv_iload hx hb dX4_distanceOf_7 (lv_at hl 4 rfl) ?_
    refine lv_bipush (v := 30) hx hb dX4_distanceOf_9 (by decide) ?_
    refine lv_icmp_ge (tgt := 60) hx hb dX4_distanceOf_11 (by decide) (fun _ => ?_) (fun hc => absurd (nI_le (a := 30) (b := 30) (Nat.le_refl _) (by decide)) hc)
    refine lv_iload_n hx hb dX4_distanceOf_60 rfl (lv_at hl 3 rfl) ?_
    refine lv_sipush (v := 1000) hx hb dX4_distanceOf_61 (by decide) ?_
    refine lv_icmp_ge (tgt := 71) hx hb dX4_distanceOf_64 (by decide) (fun c_64 => ?_) (fun c_64 => ?_)
    · skip
      refine lv_iconst (v := (-1)) hx hb dX4_distanceOf_71 (by decide) ?_
      exact ke_R hx hb hr hlocks hS dX4_distanceOf_72 (by rw [hI] at c_64; exact (if_pos c_64).symm)
    · skip
      refine lv_iload_n hx hb dX4_distanceOf_67 rfl (lv_at hl 3 rfl) ?_
      refine lv_goto (tgt := 72) hx hb dX4_distanceOf_68 (by decide) ?_
      exact ke_R hx hb hr hlocks hS dX4_distanceOf_72 (by rw [hI] at c_64 ⊢; exact (if_neg c_64).symm)
set_option maxHeartbeats 4000000 in
set_option maxRecDepth 100000 in
theorem c_X4_isMeasure (l : Launch) (D : va_G) (cI : ClassId) (i1 : Int32) : kc_R l yX4_isMeasure wsX4_isMeasure 1 22 D cI [.int i1] [] (fun r => r = nB (kin i1 0 2)) := by
  refine ks_R (cc := cX4_isMeasure) (nL := 1) (ret := (some .boolean)) (by decide) rfl (Nat.le_of_ble_eq_true rfl) ?_
  intro p e s m below meth c ls hF hP hK hS hA hl
  obtain ⟨hx, hb, hr, hml, hown, hts, hlocks⟩ := hF
  have hown : s.vm.findClass RX4 = some m.cls := hown
  have hl : lv_has ls 1 [(0, .int i1)] := hl
  refine lv_iload_n hx hb dX4_isMeasure_0 rfl (lv_at hl 0 rfl) ?_
  refine lv_iconst (v := 0) hx hb dX4_isMeasure_1 (by decide) ?_
  refine lv_iconst (v := 2) hx hb dX4_isMeasure_2 (by decide) ?_
  refine kq_R (va_runS (As := [.int i1, .int 0, .int 2]) (rest := []) ⟨hx, hb, hml, hown, hts⟩ (c_X4_in l D cI i1 0 2 _) (va_cwS 3 hts gX4_isMeasure_X4_in rfl rfl rfl (by decide +kernel) ⟨Nat.le_of_ble_eq_true rfl, Nat.le_of_ble_eq_true rfl⟩) (kp_RS (hP.sub (ws' := []) [] rfl) hK) rfl rfl hl.1 rfl (lv_room (Nat.le_of_ble_eq_true rfl)) dX4_isMeasure_3 ⟨Nat.zero_le _, Nat.zero_le _⟩) hP hS hA (fun r_3 H locs er_3 hP hS => ?_)
  subst er_3
  exact ke_Z hx hb hr hlocks hS dX4_isMeasure_6 ((kin i1 0 2)) (rfl) (rfl)
set_option maxHeartbeats 4000000 in
set_option maxRecDepth 100000 in
theorem c_X4_optionsAt (l : Launch) (D : va_G) (cI : ClassId) (m0 m3 m4 m5 m6 m7 m9 m11 m12 m13 m14 : Nat) (th : Int32) (ma : Int32) (tr : Int32) (mw : Int32) (sd : Int32) (pa : Nat → Int32) (ct : Nat → Int32) (mg : Nat → Int32) (mm : Nat → Int32) (mk : Nat → Int32) (mt : Nat → Int32) (up : Nat → Int32) (li : Nat → Int32) (td : Nat → Int32) (be : Nat → Int32) (w : Nat) (a : Nat) (ha : a < 6) (hw : mt a = nI w) (hw2 : w < 10) : kc_R l yX4_optionsAt wsX4_optionsAt 0 0 D cI [.ref m0, .int (nI a)] [(m0, .inr (4, [.int th, .int ma, .int tr, .ref m3, .ref m4, .ref m5, .ref m6, .ref m7, .int mw, .ref m9, .int sd, .ref m11, .ref m12, .ref m13, .ref m14])), (m3, .inl (cI, 30, .inl pa)), (m4, .inl (cI, 30, .inl ct)), (m5, .inl (cI, 50, .inl mg)), (m6, .inl (cI, 10, .inl mm)), (m7, .inl (cI, 10, .inl mk)), (m9, .inl (cI, 6, .inl mt)), (m11, .inl (cI, 900, .inl up)), (m12, .inl (cI, 900, .inl li)), (m13, .inl (cI, 6, .inl td)), (m14, .inl (cI, 6, .inl be))] (fun r => r = kopm mm mk w) := by
  refine ks_R (cc := cX4_optionsAt) (nL := 2) (ret := (some .int)) (by decide) rfl (Nat.le_of_ble_eq_true rfl) ?_
  intro p e s m below meth c ls hF hP hK hS hA hl
  obtain ⟨hx, hb, hr, hml, hown, hts, hlocks⟩ := hF
  have hown : s.vm.findClass RX4 = some m.cls := hown
  have hl : lv_has ls 2 [(0, .ref m0), (1, .int (nI a))] := hl
  refine lv_aload_n hx hb dX4_optionsAt_0 rfl (lv_at hl 0 rfl) ?_
  refine va_get (D := D) (ci := 4) (v := .ref m7) (C := RX4) (T := TX4) (N := 15) hx hb hts (fun w h => List.mem_cons_of_mem _ (List.mem_append_right _ (h))) hown hK.1 hP 0 rfl rfl 7 (by decide) (hts (.fieldLink RX4 22 "SenseNetModel" "locks" "[I") (List.mem_of_getElem? (i := 1) rfl)) (fun _ h9 => h9) rfl dX4_optionsAt_1 ?_
  refine lv_aload_n hx hb dX4_optionsAt_4 rfl (lv_at hl 0 rfl) ?_
  refine va_get (D := D) (ci := 4) (v := .ref m9) (C := RX4) (T := TX4) (N := 15) hx hb hts (fun w h => List.mem_cons_of_mem _ (List.mem_append_right _ (h))) hown hK.1 hP 0 rfl rfl 9 (by decide) (hts (.fieldLink RX4 25 "SenseNetModel" "sentence" "[I") (List.mem_of_getElem? (i := 2) rfl)) (fun _ h9 => h9) rfl dX4_optionsAt_5 ?_
  refine lv_iload_n hx hb dX4_optionsAt_8 rfl (lv_at hl 1 rfl) ?_
  refine va_iald (q0 := 6) (t0 := 0) hx hb hK.1 hP rfl rfl (vp_in_nI (show a < 6 from ha) (by decide)) dX4_optionsAt_9 ?_
  refine kx_top (show mt (nI a).toNatClampNeg = mt a from congrArg mt (nI_clamp (Nat.lt_trans (show a < 6 from ha) (by decide)))) ?_
  refine kx_top (show mt a = nI w from hw) ?_
  refine va_iald (q0 := 5) (t0 := 0) hx hb hK.1 hP rfl rfl (vp_in_nI (show w < 10 from hw2) (by decide)) dX4_optionsAt_10 ?_
  refine kx_top (show mk (nI w).toNatClampNeg = mk w from congrArg mk (nI_clamp (Nat.lt_trans (show w < 10 from hw2) (by decide)))) ?_
  refine lv_iconst (v := (-1)) hx hb dX4_optionsAt_11 (by decide) ?_
  refine lv_icmp_ne (tgt := 29) hx hb dX4_optionsAt_12 (by decide) (fun c_12 => ?_) (fun c_12 => ?_)
  · skip
    refine lv_iconst (v := 1) hx hb dX4_optionsAt_29 (by decide) ?_
    exact ke_R hx hb hr hlocks hS dX4_optionsAt_30 ((if_pos c_12).symm)
  · skip
    refine lv_aload_n hx hb dX4_optionsAt_15 rfl (lv_at hl 0 rfl) ?_
    refine va_get (D := D) (ci := 4) (v := .ref m6) (C := RX4) (T := TX4) (N := 15) hx hb hts (fun w h => List.mem_cons_of_mem _ (List.mem_append_right _ (h))) hown hK.1 hP 0 rfl rfl 6 (by decide) (hts (.fieldLink RX4 19 "SenseNetModel" "givenMany" "[I") (List.mem_of_getElem? (i := 3) rfl)) (fun _ h9 => h9) rfl dX4_optionsAt_16 ?_
    refine lv_aload_n hx hb dX4_optionsAt_19 rfl (lv_at hl 0 rfl) ?_
    refine va_get (D := D) (ci := 4) (v := .ref m9) (C := RX4) (T := TX4) (N := 15) hx hb hts (fun w h => List.mem_cons_of_mem _ (List.mem_append_right _ (h))) hown hK.1 hP 0 rfl rfl 9 (by decide) (hts (.fieldLink RX4 25 "SenseNetModel" "sentence" "[I") (List.mem_of_getElem? (i := 2) rfl)) (fun _ h9 => h9) rfl dX4_optionsAt_20 ?_
    refine lv_iload_n hx hb dX4_optionsAt_23 rfl (lv_at hl 1 rfl) ?_
    refine va_iald (q0 := 6) (t0 := 0) hx hb hK.1 hP rfl rfl (vp_in_nI (show a < 6 from ha) (by decide)) dX4_optionsAt_24 ?_
    refine kx_top (show mt (nI a).toNatClampNeg = mt a from congrArg mt (nI_clamp (Nat.lt_trans (show a < 6 from ha) (by decide)))) ?_
    refine kx_top (show mt a = nI w from hw) ?_
    refine va_iald (q0 := 4) (t0 := 0) hx hb hK.1 hP rfl rfl (vp_in_nI (show w < 10 from hw2) (by decide)) dX4_optionsAt_25 ?_
    refine kx_top (show mm (nI w).toNatClampNeg = mm w from congrArg mm (nI_clamp (Nat.lt_trans (show w < 10 from hw2) (by decide)))) ?_
    refine lv_goto (tgt := 30) hx hb dX4_optionsAt_26 (by decide) ?_
    exact ke_R hx hb hr hlocks hS dX4_optionsAt_30 ((if_neg (Classical.not_not.mpr c_12)).symm)
set_option maxHeartbeats 4000000 in
set_option maxRecDepth 100000 in
theorem c_X4_senseAt (l : Launch) (D : va_G) (cI : ClassId) (m0 m3 m4 m5 m6 m7 m9 m11 m12 m13 m14 : Nat) (th : Int32) (ma : Int32) (tr : Int32) (mw : Int32) (sd : Int32) (pa : Nat → Int32) (ct : Nat → Int32) (mg : Nat → Int32) (mm : Nat → Int32) (mk : Nat → Int32) (mt : Nat → Int32) (up : Nat → Int32) (li : Nat → Int32) (td : Nat → Int32) (be : Nat → Int32) (w : Nat) (a : Nat) (b : Nat) (ha : a < 6) (hw : mt a = nI w) (hw2 : w < 10) (hbb : b < 5) : kc_R l yX4_senseAt wsX4_senseAt 0 0 D cI [.ref m0, .int (nI a), .int (nI b)] [(m0, .inr (4, [.int th, .int ma, .int tr, .ref m3, .ref m4, .ref m5, .ref m6, .ref m7, .int mw, .ref m9, .int sd, .ref m11, .ref m12, .ref m13, .ref m14])), (m3, .inl (cI, 30, .inl pa)), (m4, .inl (cI, 30, .inl ct)), (m5, .inl (cI, 50, .inl mg)), (m6, .inl (cI, 10, .inl mm)), (m7, .inl (cI, 10, .inl mk)), (m9, .inl (cI, 6, .inl mt)), (m11, .inl (cI, 900, .inl up)), (m12, .inl (cI, 900, .inl li)), (m13, .inl (cI, 6, .inl td)), (m14, .inl (cI, 6, .inl be))] (fun r => r = ksem mg mk w b) := by
  refine ks_R (cc := cX4_senseAt) (nL := 4) (ret := (some .int)) (by decide) rfl (Nat.le_of_ble_eq_true rfl) ?_
  intro p e s m below meth c ls hF hP hK hS hA hl
  obtain ⟨hx, hb, hr, hml, hown, hts, hlocks⟩ := hF
  have hown : s.vm.findClass RX4 = some m.cls := hown
  have hl : lv_has ls 4 [(0, .ref m0), (1, .int (nI a)), (2, .int (nI b))] := hl
  refine lv_aload_n hx hb dX4_senseAt_0 rfl (lv_at hl 0 rfl) ?_
  refine va_get (D := D) (ci := 4) (v := .ref m9) (C := RX4) (T := TX4) (N := 15) hx hb hts (fun w h => List.mem_cons_of_mem _ (List.mem_append_right _ (h))) hown hK.1 hP 0 rfl rfl 9 (by decide) (hts (.fieldLink RX4 25 "SenseNetModel" "sentence" "[I") (List.mem_of_getElem? (i := 1) rfl)) (fun _ h9 => h9) rfl dX4_senseAt_1 ?_
  refine lv_iload_n hx hb dX4_senseAt_4 rfl (lv_at hl 1 rfl) ?_
  refine va_iald (q0 := 6) (t0 := 0) hx hb hK.1 hP rfl rfl (vp_in_nI (show a < 6 from ha) (by decide)) dX4_senseAt_5 ?_
  refine kx_top (show mt (nI a).toNatClampNeg = mt a from congrArg mt (nI_clamp (Nat.lt_trans (show a < 6 from ha) (by decide)))) ?_
  refine kx_top (show mt a = nI w from hw) ?_
  refine lv_istore_n (lv' := [(3, .int (nI w)), (0, .ref m0), (1, .int (nI a)), (2, .int (nI b))]) hx hb dX4_senseAt_6 rfl hl (by decide) rfl (fun ls hl => ?_)
  refine lv_aload_n hx hb dX4_senseAt_7 rfl (lv_at hl 1 rfl) ?_
  refine va_get (D := D) (ci := 4) (v := .ref m7) (C := RX4) (T := TX4) (N := 15) hx hb hts (fun w h => List.mem_cons_of_mem _ (List.mem_append_right _ (h))) hown hK.1 hP 0 rfl rfl 7 (by decide) (hts (.fieldLink RX4 22 "SenseNetModel" "locks" "[I") (List.mem_of_getElem? (i := 2) rfl)) (fun _ h9 => h9) rfl dX4_senseAt_8 ?_
  refine lv_iload_n hx hb dX4_senseAt_11 rfl (lv_at hl 0 rfl) ?_
  refine va_iald (q0 := 5) (t0 := 0) hx hb hK.1 hP rfl rfl (vp_in_nI (show w < 10 from hw2) (by decide)) dX4_senseAt_12 ?_
  refine kx_top (show mk (nI w).toNatClampNeg = mk w from congrArg mk (nI_clamp (Nat.lt_trans (show w < 10 from hw2) (by decide)))) ?_
  refine lv_iconst (v := (-1)) hx hb dX4_senseAt_13 (by decide) ?_
  refine lv_icmp_ne (tgt := 30) hx hb dX4_senseAt_14 (by decide) (fun c_14 => ?_) (fun c_14 => ?_)
  · skip
    refine lv_aload_n hx hb dX4_senseAt_30 rfl (lv_at hl 1 rfl) ?_
    refine va_get (D := D) (ci := 4) (v := .ref m7) (C := RX4) (T := TX4) (N := 15) hx hb hts (fun w h => List.mem_cons_of_mem _ (List.mem_append_right _ (h))) hown hK.1 hP 0 rfl rfl 7 (by decide) (hts (.fieldLink RX4 22 "SenseNetModel" "locks" "[I") (List.mem_of_getElem? (i := 2) rfl)) (fun _ h9 => h9) rfl dX4_senseAt_31 ?_
    refine lv_iload_n hx hb dX4_senseAt_34 rfl (lv_at hl 0 rfl) ?_
    refine va_iald (q0 := 5) (t0 := 0) hx hb hK.1 hP rfl rfl (vp_in_nI (show w < 10 from hw2) (by decide)) dX4_senseAt_35 ?_
    refine kx_top (show mk (nI w).toNatClampNeg = mk w from congrArg mk (nI_clamp (Nat.lt_trans (show w < 10 from hw2) (by decide)))) ?_
    exact ke_R hx hb hr hlocks hS dX4_senseAt_36 ((if_pos c_14).symm)
  · skip
    refine lv_aload_n hx hb dX4_senseAt_17 rfl (lv_at hl 1 rfl) ?_
    refine va_get (D := D) (ci := 4) (v := .ref m5) (C := RX4) (T := TX4) (N := 15) hx hb hts (fun w h => List.mem_cons_of_mem _ (List.mem_append_right _ (h))) hown hK.1 hP 0 rfl rfl 5 (by decide) (hts (.fieldLink RX4 16 "SenseNetModel" "given" "[I") (List.mem_of_getElem? (i := 3) rfl)) (fun _ h9 => h9) rfl dX4_senseAt_18 ?_
    refine lv_iconst (v := 5) hx hb dX4_senseAt_21 (by decide) ?_
    refine lv_iload_n hx hb dX4_senseAt_22 rfl (lv_at hl 0 rfl) ?_
    refine lv_imul hx hb dX4_senseAt_23 ?_
    refine lv_iload_n hx hb dX4_senseAt_24 rfl (lv_at hl 3 rfl) ?_
    refine lv_iadd hx hb dX4_senseAt_25 ?_
    refine kx_top (show (5 * (nI w)) + (nI b) = nI (5 * w + b) from kx_gv) ?_
    refine va_iald (q0 := 3) (t0 := 0) hx hb hK.1 hP rfl rfl (vp_in_nI (show (5 * w + b) < 50 from by omega) (by decide)) dX4_senseAt_26 ?_
    refine kx_top (show mg (nI (5 * w + b)).toNatClampNeg = mg (5 * w + b) from congrArg mg (nI_clamp (Nat.lt_trans (show (5 * w + b) < 50 from by omega) (by decide)))) ?_
    refine lv_goto (tgt := 36) hx hb dX4_senseAt_27 (by decide) ?_
    exact ke_R hx hb hr hlocks hS dX4_senseAt_36 ((if_neg (Classical.not_not.mpr c_14)).symm)
