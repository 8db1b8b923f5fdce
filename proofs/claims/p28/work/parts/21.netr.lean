set_option maxHeartbeats 4000000 in
set_option maxRecDepth 100000 in
theorem c_J6_bitCount_0f7a4 (l : Launch) (D : va_G) (cI : ClassId) (i1 : Int32) : kc_R l yJ6_bitCount_0f7a4 wsJ6_bitCount_0f7a4 0 0 D cI [.int i1] [] (fun r => r = kpop i1) := by
  refine ks_R (cc := cJ6_bitCount_0f7a4) (nL := 1) (ret := (some .int)) (by decide) rfl (Nat.le_of_ble_eq_true rfl) ?_
  intro p e s m below meth c ls hF hP hK hS hA hl
  obtain ⟨hx, hb, hr, hml, hown, hts, hlocks⟩ := hF
  have hown : s.vm.findClass RJ6 = some m.cls := hown
  have hl : lv_has ls 1 [(0, .int i1)] := hl
  refine lv_iload_n hx hb dJ6_bitCount_0f7a4_0 rfl (lv_at hl 0 rfl) ?_
  refine lv_iload_n hx hb dJ6_bitCount_0f7a4_1 rfl (lv_at hl 0 rfl) ?_
  refine lv_iconst (v := 1) hx hb dJ6_bitCount_0f7a4_2 (by decide) ?_
  refine lv_iushr (v := (i1.toUInt32 >>> ((1 : Int32).toUInt32 &&& Int32.toUInt32 31)).toInt32) hx hb dJ6_bitCount_0f7a4_3 rfl ?_
  refine lv_ldcw (v := 1431655765) hx hb hown (hts (.constant RJ6 265 (1431655765)) (List.mem_of_getElem? (i := 1) rfl)) dJ6_bitCount_0f7a4_4 ?_
  refine lv_iand hx hb dJ6_bitCount_0f7a4_7 ?_
  refine lv_isub hx hb dJ6_bitCount_0f7a4_8 ?_
  refine lv_topi (fun x1 ex1 => ?_)
  refine lv_istore_n (lv' := [(0, .int x1)]) hx hb dJ6_bitCount_0f7a4_9 rfl hl (by decide) rfl (fun ls hl => ?_)
  refine lv_iload_n hx hb dJ6_bitCount_0f7a4_10 rfl (lv_at hl 0 rfl) ?_
  refine lv_ldcw (v := 858993459) hx hb hown (hts (.constant RJ6 266 (858993459)) (List.mem_of_getElem? (i := 2) rfl)) dJ6_bitCount_0f7a4_11 ?_
  refine lv_iand hx hb dJ6_bitCount_0f7a4_14 ?_
  refine lv_iload_n hx hb dJ6_bitCount_0f7a4_15 rfl (lv_at hl 0 rfl) ?_
  refine lv_iconst (v := 2) hx hb dJ6_bitCount_0f7a4_16 (by decide) ?_
  refine lv_iushr (v := (x1.toUInt32 >>> ((2 : Int32).toUInt32 &&& Int32.toUInt32 31)).toInt32) hx hb dJ6_bitCount_0f7a4_17 rfl ?_
  refine lv_ldcw (v := 858993459) hx hb hown (hts (.constant RJ6 266 (858993459)) (List.mem_of_getElem? (i := 2) rfl)) dJ6_bitCount_0f7a4_18 ?_
  refine lv_iand hx hb dJ6_bitCount_0f7a4_21 ?_
  refine lv_iadd hx hb dJ6_bitCount_0f7a4_22 ?_
  refine lv_topi (fun x2 ex2 => ?_)
  refine lv_istore_n (lv' := [(0, .int x2)]) hx hb dJ6_bitCount_0f7a4_23 rfl hl (by decide) rfl (fun ls hl => ?_)
  refine lv_iload_n hx hb dJ6_bitCount_0f7a4_24 rfl (lv_at hl 0 rfl) ?_
  refine lv_iload_n hx hb dJ6_bitCount_0f7a4_25 rfl (lv_at hl 0 rfl) ?_
  refine lv_iconst (v := 4) hx hb dJ6_bitCount_0f7a4_26 (by decide) ?_
  refine lv_iushr (v := (x2.toUInt32 >>> ((4 : Int32).toUInt32 &&& Int32.toUInt32 31)).toInt32) hx hb dJ6_bitCount_0f7a4_27 rfl ?_
  refine lv_iadd hx hb dJ6_bitCount_0f7a4_28 ?_
  refine lv_ldcw (v := 252645135) hx hb hown (hts (.constant RJ6 267 (252645135)) (List.mem_of_getElem? (i := 3) rfl)) dJ6_bitCount_0f7a4_29 ?_
  refine lv_iand hx hb dJ6_bitCount_0f7a4_32 ?_
  refine lv_topi (fun x3 ex3 => ?_)
  refine lv_istore_n (lv' := [(0, .int x3)]) hx hb dJ6_bitCount_0f7a4_33 rfl hl (by decide) rfl (fun ls hl => ?_)
  refine lv_iload_n hx hb dJ6_bitCount_0f7a4_34 rfl (lv_at hl 0 rfl) ?_
  refine lv_iload_n hx hb dJ6_bitCount_0f7a4_35 rfl (lv_at hl 0 rfl) ?_
  refine lv_bipush (v := 8) hx hb dJ6_bitCount_0f7a4_36 (by decide) ?_
  refine lv_iushr (v := (x3.toUInt32 >>> ((8 : Int32).toUInt32 &&& Int32.toUInt32 31)).toInt32) hx hb dJ6_bitCount_0f7a4_38 rfl ?_
  refine lv_iadd hx hb dJ6_bitCount_0f7a4_39 ?_
  refine lv_topi (fun x4 ex4 => ?_)
  refine lv_istore_n (lv' := [(0, .int x4)]) hx hb dJ6_bitCount_0f7a4_40 rfl hl (by decide) rfl (fun ls hl => ?_)
  refine lv_iload_n hx hb dJ6_bitCount_0f7a4_41 rfl (lv_at hl 0 rfl) ?_
  refine lv_iload_n hx hb dJ6_bitCount_0f7a4_42 rfl (lv_at hl 0 rfl) ?_
  refine lv_bipush (v := 16) hx hb dJ6_bitCount_0f7a4_43 (by decide) ?_
  refine lv_iushr (v := (x4.toUInt32 >>> ((16 : Int32).toUInt32 &&& Int32.toUInt32 31)).toInt32) hx hb dJ6_bitCount_0f7a4_45 rfl ?_
  refine lv_iadd hx hb dJ6_bitCount_0f7a4_46 ?_
  refine lv_topi (fun x5 ex5 => ?_)
  refine lv_istore_n (lv' := [(0, .int x5)]) hx hb dJ6_bitCount_0f7a4_47 rfl hl (by decide) rfl (fun ls hl => ?_)
  refine lv_iload_n hx hb dJ6_bitCount_0f7a4_48 rfl (lv_at hl 0 rfl) ?_
  refine lv_bipush (v := 63) hx hb dJ6_bitCount_0f7a4_49 (by decide) ?_
  refine lv_iand hx hb dJ6_bitCount_0f7a4_51 ?_
  exact ke_R hx hb hr hlocks hS dJ6_bitCount_0f7a4_52 (by rw [ex5, ex4, ex3, ex2, ex1]; rfl)
set_option maxHeartbeats 4000000 in
set_option maxRecDepth 100000 in
theorem c_X1_exists (l : Launch) (D : va_G) (cI : ClassId) (h0 h2 h3 h4 h5 h6 h7 h8 : Nat) (ad : Int32) (pr : Int32) (ps : Nat → Int32) (cs : Nat → Int32) (cv : Nat → Int32) (ms : Nat → Int32) (dp : Nat → Int32) (sx : Nat → Int32) (wk : Nat → Int32) (i1 : Int32) : kc_R l yX1_exists wsX1_exists 2 41 D cI [.ref h0, .int i1] [(h0, .inr (1, [.int ad, .int pr, .ref h2, .ref h3, .ref h4, .ref h5, .ref h6, .ref h7, .ref h8])), (h2, .inl (cI, 30, .inl ps)), (h3, .inl (cI, 30, .inl cs)), (h4, .inl (cI, 30, .inl cv)), (h5, .inl (cI, 30, .inl ms)), (h6, .inl (cI, 30, .inl dp)), (h7, .inl (cI, 900, .inl sx)), (h8, .inl (cI, 30, .inl wk))] (fun r => r = nB (khas pr i1)) := by
  refine ks_R (cc := cX1_exists) (nL := 2) (ret := (some .boolean)) (by decide) rfl (Nat.le_of_ble_eq_true rfl) ?_
  intro p e s m below meth c ls hF hP hK hS hA hl
  obtain ⟨hx, hb, hr, hml, hown, hts, hlocks⟩ := hF
  have hown : s.vm.findClass RX1 = some m.cls := hown
  have hl : lv_has ls 2 [(0, .ref h0), (1, .int i1)] := hl
  refine lv_aload_n hx hb dX1_exists_0 rfl (lv_at hl 0 rfl) ?_
  refine va_get (D := D) (ci := 1) (v := .int pr) (C := RX1) (T := TX1) (N := 9) hx hb hts (fun w h => List.mem_cons_of_mem _ (List.mem_append_right _ (h))) hown hK.1 hP 0 rfl rfl 1 (by decide) (hts (.fieldLink RX1 15 "SenseNet$Net" "present" "I") (List.mem_of_getElem? (i := 1) rfl)) (fun _ h9 => h9) rfl dX1_exists_1 ?_
  refine lv_iload_n hx hb dX1_exists_4 rfl (lv_at hl 1 rfl) ?_
  refine kq_R (va_runSN (As := [.int pr, .int i1]) (rest := []) ⟨hx, hb, hml, hown, hts⟩ (c_X3_holds l D cI pr i1 _) ⟨va_cnB 2 hts gX1_exists_X3_holds_n40 rfl rfl rfl hK.2.2.2.1 (hts (.initialized RX3) (List.mem_of_getElem? (i := 3) rfl)) (by decide +kernel) ⟨Nat.le_of_ble_eq_true rfl, Nat.le_of_ble_eq_true rfl⟩, (hts (.static yX3_holds) (List.mem_of_getElem? (i := 2) rfl)), trivial⟩ (kp_RS (hP.sub (ws' := []) [] rfl) hK) rfl rfl hl.1 rfl (lv_room (Nat.le_of_ble_eq_true rfl)) dX1_exists_5 ⟨Nat.zero_le _, Nat.zero_le _⟩) hP hS hA (fun r_5 H locs er_5 hP hS => ?_)
  subst er_5
  exact ke_Z hx hb hr hlocks hS dX1_exists_8 ((khas pr i1)) (rfl) (rfl)
set_option maxHeartbeats 4000000 in
set_option maxRecDepth 100000 in
theorem c_X1_isParent (l : Launch) (D : va_G) (cI : ClassId) (h0 h2 h3 h4 h5 h6 h7 h8 : Nat) (ad : Int32) (pr : Int32) (ps : Nat → Int32) (cs : Nat → Int32) (cv : Nat → Int32) (ms : Nat → Int32) (dp : Nat → Int32) (sx : Nat → Int32) (wk : Nat → Int32) (i1 : Int32) (i2 : Int32) : kc_R l yX1_isParent wsX1_isParent 2 41 D cI [.ref h0, .int i1, .int i2] [(h0, .inr (1, [.int ad, .int pr, .ref h2, .ref h3, .ref h4, .ref h5, .ref h6, .ref h7, .ref h8])), (h2, .inl (cI, 30, .inl ps)), (h3, .inl (cI, 30, .inl cs)), (h4, .inl (cI, 30, .inl cv)), (h5, .inl (cI, 30, .inl ms)), (h6, .inl (cI, 30, .inl dp)), (h7, .inl (cI, 900, .inl sx)), (h8, .inl (cI, 30, .inl wk))] (fun r => r = nB (khas (kat 30 ps i1) i2)) := by
  refine ks_R (cc := cX1_isParent) (nL := 3) (ret := (some .boolean)) (by decide) rfl (Nat.le_of_ble_eq_true rfl) ?_
  intro p e s m below meth c ls hF hP hK hS hA hl
  obtain ⟨hx, hb, hr, hml, hown, hts, hlocks⟩ := hF
  have hown : s.vm.findClass RX1 = some m.cls := hown
  have hl : lv_has ls 3 [(0, .ref h0), (1, .int i1), (2, .int i2)] := hl
  refine lv_aload_n hx hb dX1_isParent_0 rfl (lv_at hl 0 rfl) ?_
  refine va_get (D := D) (ci := 1) (v := .ref h2) (C := RX1) (T := TX1) (N := 9) hx hb hts (fun w h => List.mem_cons_of_mem _ (List.mem_append_right _ (h))) hown hK.1 hP 0 rfl rfl 2 (by decide) (hts (.fieldLink RX1 18 "SenseNet$Net" "parentSets" "[I") (List.mem_of_getElem? (i := 1) rfl)) (fun _ h9 => h9) rfl dX1_isParent_1 ?_
  refine lv_iload_n hx hb dX1_isParent_4 rfl (lv_at hl 1 rfl) ?_
  refine kq_R (va_runSN (As := [.ref h2, .int i1]) (rest := []) ⟨hx, hb, hml, hown, hts⟩ (c_X3_at l D cI h2 30 ps i1 (by decide) _) ⟨va_cnB 2 hts gX1_isParent_X3_at_n44 rfl rfl rfl hK.2.2.2.2.1 (hts (.initialized RX3) (List.mem_of_getElem? (i := 3) rfl)) (by decide +kernel) ⟨Nat.le_of_ble_eq_true rfl, Nat.le_of_ble_eq_true rfl⟩, (hts (.static yX3_at) (List.mem_of_getElem? (i := 2) rfl)), trivial⟩ (kp_RS (hP.sub (ws' := [(h2, .inl (cI, 30, .inl ps))]) [1] rfl) hK) rfl rfl hl.1 rfl (lv_room (Nat.le_of_ble_eq_true rfl)) dX1_isParent_5 ⟨Nat.zero_le _, Nat.zero_le _⟩) hP hS hA (fun r_5 H locs er_5 hP hS => ?_)
  subst er_5
  refine lv_iload_n hx hb dX1_isParent_8 rfl (lv_at hl 2 rfl) ?_
  refine kq_R (va_runSN (As := [.int (kat 30 ps i1), .int i2]) (rest := []) ⟨hx, hb, hml, hown, hts⟩ (c_X3_holds l D cI (kat 30 ps i1) i2 _) ⟨va_cnB 2 hts gX1_isParent_X3_holds_n40 rfl rfl rfl hK.2.2.2.1 (hts (.initialized RX3) (List.mem_of_getElem? (i := 3) rfl)) (by decide +kernel) ⟨Nat.le_of_ble_eq_true rfl, Nat.le_of_ble_eq_true rfl⟩, (hts (.static yX3_holds) (List.mem_of_getElem? (i := 5) rfl)), trivial⟩ (kp_RS (hP.sub (ws' := []) [] rfl) hK) rfl rfl hl.1 rfl (lv_room (Nat.le_of_ble_eq_true rfl)) dX1_isParent_9 ⟨Nat.zero_le _, Nat.zero_le _⟩) hP hS hA (fun r_9 H locs er_9 hP hS => ?_)
  subst er_9
  exact ke_Z hx hb hr hlocks hS dX1_isParent_12 ((khas (kat 30 ps i1) i2)) (rfl) (rfl)
set_option maxHeartbeats 4000000 in
set_option maxRecDepth 100000 in
theorem c_X1_parentSet (l : Launch) (D : va_G) (cI : ClassId) (h0 h2 h3 h4 h5 h6 h7 h8 : Nat) (ad : Int32) (pr : Int32) (ps : Nat → Int32) (cs : Nat → Int32) (cv : Nat → Int32) (ms : Nat → Int32) (dp : Nat → Int32) (sx : Nat → Int32) (wk : Nat → Int32) (i1 : Int32) : kc_R l yX1_parentSet wsX1_parentSet 1 21 D cI [.ref h0, .int i1] [(h0, .inr (1, [.int ad, .int pr, .ref h2, .ref h3, .ref h4, .ref h5, .ref h6, .ref h7, .ref h8])), (h2, .inl (cI, 30, .inl ps)), (h3, .inl (cI, 30, .inl cs)), (h4, .inl (cI, 30, .inl cv)), (h5, .inl (cI, 30, .inl ms)), (h6, .inl (cI, 30, .inl dp)), (h7, .inl (cI, 900, .inl sx)), (h8, .inl (cI, 30, .inl wk))] (fun r => r = kat 30 ps i1) := by
  refine ks_R (cc := cX1_parentSet) (nL := 2) (ret := (some .int)) (by decide) rfl (Nat.le_of_ble_eq_true rfl) ?_
  intro p e s m below meth c ls hF hP hK hS hA hl
  obtain ⟨hx, hb, hr, hml, hown, hts, hlocks⟩ := hF
  have hown : s.vm.findClass RX1 = some m.cls := hown
  have hl : lv_has ls 2 [(0, .ref h0), (1, .int i1)] := hl
  refine lv_aload_n hx hb dX1_parentSet_0 rfl (lv_at hl 0 rfl) ?_
  refine va_get (D := D) (ci := 1) (v := .ref h2) (C := RX1) (T := TX1) (N := 9) hx hb hts (fun w h => List.mem_cons_of_mem _ (List.mem_append_right _ (h))) hown hK.1 hP 0 rfl rfl 2 (by decide) (hts (.fieldLink RX1 18 "SenseNet$Net" "parentSets" "[I") (List.mem_of_getElem? (i := 1) rfl)) (fun _ h9 => h9) rfl dX1_parentSet_1 ?_
  refine lv_iload_n hx hb dX1_parentSet_4 rfl (lv_at hl 1 rfl) ?_
  refine kq_R (va_runSN (As := [.ref h2, .int i1]) (rest := []) ⟨hx, hb, hml, hown, hts⟩ (c_X3_at l D cI h2 30 ps i1 (by decide) _) ⟨va_cnB 2 hts gX1_parentSet_X3_at_n44 rfl rfl rfl hK.2.2.2.2.1 (hts (.initialized RX3) (List.mem_of_getElem? (i := 3) rfl)) (by decide +kernel) ⟨Nat.le_of_ble_eq_true rfl, Nat.le_of_ble_eq_true rfl⟩, (hts (.static yX3_at) (List.mem_of_getElem? (i := 2) rfl)), trivial⟩ (kp_RS (hP.sub (ws' := [(h2, .inl (cI, 30, .inl ps))]) [1] rfl) hK) rfl rfl hl.1 rfl (lv_room (Nat.le_of_ble_eq_true rfl)) dX1_parentSet_5 ⟨Nat.zero_le _, Nat.zero_le _⟩) hP hS hA (fun r_5 H locs er_5 hP hS => ?_)
  subst er_5
  exact ke_R hx hb hr hlocks hS dX1_parentSet_8 (rfl)
set_option maxHeartbeats 4000000 in
set_option maxRecDepth 100000 in
theorem c_X1_coverSet (l : Launch) (D : va_G) (cI : ClassId) (h0 h2 h3 h4 h5 h6 h7 h8 : Nat) (ad : Int32) (pr : Int32) (ps : Nat → Int32) (cs : Nat → Int32) (cv : Nat → Int32) (ms : Nat → Int32) (dp : Nat → Int32) (sx : Nat → Int32) (wk : Nat → Int32) (i1 : Int32) : kc_R l yX1_coverSet wsX1_coverSet 1 21 D cI [.ref h0, .int i1] [(h0, .inr (1, [.int ad, .int pr, .ref h2, .ref h3, .ref h4, .ref h5, .ref h6, .ref h7, .ref h8])), (h2, .inl (cI, 30, .inl ps)), (h3, .inl (cI, 30, .inl cs)), (h4, .inl (cI, 30, .inl cv)), (h5, .inl (cI, 30, .inl ms)), (h6, .inl (cI, 30, .inl dp)), (h7, .inl (cI, 900, .inl sx)), (h8, .inl (cI, 30, .inl wk))] (fun r => r = kat 30 cv i1) := by
  refine ks_R (cc := cX1_coverSet) (nL := 2) (ret := (some .int)) (by decide) rfl (Nat.le_of_ble_eq_true rfl) ?_
  intro p e s m below meth c ls hF hP hK hS hA hl
  obtain ⟨hx, hb, hr, hml, hown, hts, hlocks⟩ := hF
  have hown : s.vm.findClass RX1 = some m.cls := hown
  have hl : lv_has ls 2 [(0, .ref h0), (1, .int i1)] := hl
  refine lv_aload_n hx hb dX1_coverSet_0 rfl (lv_at hl 0 rfl) ?_
  refine va_get (D := D) (ci := 1) (v := .ref h4) (C := RX1) (T := TX1) (N := 9) hx hb hts (fun w h => List.mem_cons_of_mem _ (List.mem_append_right _ (h))) hown hK.1 hP 0 rfl rfl 4 (by decide) (hts (.fieldLink RX1 25 "SenseNet$Net" "coverSets" "[I") (List.mem_of_getElem? (i := 1) rfl)) (fun _ h9 => h9) rfl dX1_coverSet_1 ?_
  refine lv_iload_n hx hb dX1_coverSet_4 rfl (lv_at hl 1 rfl) ?_
  refine kq_R (va_runSN (As := [.ref h4, .int i1]) (rest := []) ⟨hx, hb, hml, hown, hts⟩ (c_X3_at l D cI h4 30 cv i1 (by decide) _) ⟨va_cnB 2 hts gX1_coverSet_X3_at_n44 rfl rfl rfl hK.2.2.2.2.1 (hts (.initialized RX3) (List.mem_of_getElem? (i := 3) rfl)) (by decide +kernel) ⟨Nat.le_of_ble_eq_true rfl, Nat.le_of_ble_eq_true rfl⟩, (hts (.static yX3_at) (List.mem_of_getElem? (i := 2) rfl)), trivial⟩ (kp_RS (hP.sub (ws' := [(h4, .inl (cI, 30, .inl cv))]) [3] rfl) hK) rfl rfl hl.1 rfl (lv_room (Nat.le_of_ble_eq_true rfl)) dX1_coverSet_5 ⟨Nat.zero_le _, Nat.zero_le _⟩) hP hS hA (fun r_5 H locs er_5 hP hS => ?_)
  subst er_5
  exact ke_R hx hb hr hlocks hS dX1_coverSet_8 (rfl)
set_option maxHeartbeats 4000000 in
set_option maxRecDepth 100000 in
theorem c_X1_covers (l : Launch) (D : va_G) (cI : ClassId) (h0 h2 h3 h4 h5 h6 h7 h8 : Nat) (ad : Int32) (pr : Int32) (ps : Nat → Int32) (cs : Nat → Int32) (cv : Nat → Int32) (ms : Nat → Int32) (dp : Nat → Int32) (sx : Nat → Int32) (wk : Nat → Int32) (i1 : Int32) (i2 : Int32) : kc_R l yX1_covers wsX1_covers 2 41 D cI [.ref h0, .int i1, .int i2] [(h0, .inr (1, [.int ad, .int pr, .ref h2, .ref h3, .ref h4, .ref h5, .ref h6, .ref h7, .ref h8])), (h2, .inl (cI, 30, .inl ps)), (h3, .inl (cI, 30, .inl cs)), (h4, .inl (cI, 30, .inl cv)), (h5, .inl (cI, 30, .inl ms)), (h6, .inl (cI, 30, .inl dp)), (h7, .inl (cI, 900, .inl sx)), (h8, .inl (cI, 30, .inl wk))] (fun r => r = nB (khas (kat 30 cv i2) i1)) := by
  refine ks_R (cc := cX1_covers) (nL := 3) (ret := (some .boolean)) (by decide) rfl (Nat.le_of_ble_eq_true rfl) ?_
  intro p e s m below meth c ls hF hP hK hS hA hl
  obtain ⟨hx, hb, hr, hml, hown, hts, hlocks⟩ := hF
  have hown : s.vm.findClass RX1 = some m.cls := hown
  have hl : lv_has ls 3 [(0, .ref h0), (1, .int i1), (2, .int i2)] := hl
  refine lv_aload_n hx hb dX1_covers_0 rfl (lv_at hl 0 rfl) ?_
  refine va_get (D := D) (ci := 1) (v := .ref h4) (C := RX1) (T := TX1) (N := 9) hx hb hts (fun w h => List.mem_cons_of_mem _ (List.mem_append_right _ (h))) hown hK.1 hP 0 rfl rfl 4 (by decide) (hts (.fieldLink RX1 25 "SenseNet$Net" "coverSets" "[I") (List.mem_of_getElem? (i := 1) rfl)) (fun _ h9 => h9) rfl dX1_covers_1 ?_
  refine lv_iload_n hx hb dX1_covers_4 rfl (lv_at hl 2 rfl) ?_
  refine kq_R (va_runSN (As := [.ref h4, .int i2]) (rest := []) ⟨hx, hb, hml, hown, hts⟩ (c_X3_at l D cI h4 30 cv i2 (by decide) _) ⟨va_cnB 2 hts gX1_covers_X3_at_n44 rfl rfl rfl hK.2.2.2.2.1 (hts (.initialized RX3) (List.mem_of_getElem? (i := 3) rfl)) (by decide +kernel) ⟨Nat.le_of_ble_eq_true rfl, Nat.le_of_ble_eq_true rfl⟩, (hts (.static yX3_at) (List.mem_of_getElem? (i := 2) rfl)), trivial⟩ (kp_RS (hP.sub (ws' := [(h4, .inl (cI, 30, .inl cv))]) [3] rfl) hK) rfl rfl hl.1 rfl (lv_room (Nat.le_of_ble_eq_true rfl)) dX1_covers_5 ⟨Nat.zero_le _, Nat.zero_le _⟩) hP hS hA (fun r_5 H locs er_5 hP hS => ?_)
  subst er_5
  refine lv_iload_n hx hb dX1_covers_8 rfl (lv_at hl 1 rfl) ?_
  refine kq_R (va_runSN (As := [.int (kat 30 cv i2), .int i1]) (rest := []) ⟨hx, hb, hml, hown, hts⟩ (c_X3_holds l D cI (kat 30 cv i2) i1 _) ⟨va_cnB 2 hts gX1_covers_X3_holds_n40 rfl rfl rfl hK.2.2.2.1 (hts (.initialized RX3) (List.mem_of_getElem? (i := 3) rfl)) (by decide +kernel) ⟨Nat.le_of_ble_eq_true rfl, Nat.le_of_ble_eq_true rfl⟩, (hts (.static yX3_holds) (List.mem_of_getElem? (i := 5) rfl)), trivial⟩ (kp_RS (hP.sub (ws' := []) [] rfl) hK) rfl rfl hl.1 rfl (lv_room (Nat.le_of_ble_eq_true rfl)) dX1_covers_9 ⟨Nat.zero_le _, Nat.zero_le _⟩) hP hS hA (fun r_9 H locs er_9 hP hS => ?_)
  subst er_9
  exact ke_Z hx hb hr hlocks hS dX1_covers_12 ((khas (kat 30 cv i2) i1)) (rfl) (rfl)
set_option maxHeartbeats 4000000 in
set_option maxRecDepth 100000 in
theorem c_X1_coveredCount (l : Launch) (D : va_G) (cI : ClassId) (h0 h2 h3 h4 h5 h6 h7 h8 : Nat) (ad : Int32) (pr : Int32) (ps : Nat → Int32) (cs : Nat → Int32) (cv : Nat → Int32) (ms : Nat → Int32) (dp : Nat → Int32) (sx : Nat → Int32) (wk : Nat → Int32) (i1 : Int32) : kc_R l yX1_coveredCount wsX1_coveredCount 1 21 D cI [.ref h0, .int i1] [(h0, .inr (1, [.int ad, .int pr, .ref h2, .ref h3, .ref h4, .ref h5, .ref h6, .ref h7, .ref h8])), (h2, .inl (cI, 30, .inl ps)), (h3, .inl (cI, 30, .inl cs)), (h4, .inl (cI, 30, .inl cv)), (h5, .inl (cI, 30, .inl ms)), (h6, .inl (cI, 30, .inl dp)), (h7, .inl (cI, 900, .inl sx)), (h8, .inl (cI, 30, .inl wk))] (fun r => r = kat 30 ms i1) := by
  refine ks_R (cc := cX1_coveredCount) (nL := 2) (ret := (some .int)) (by decide) rfl (Nat.le_of_ble_eq_true rfl) ?_
  intro p e s m below meth c ls hF hP hK hS hA hl
  obtain ⟨hx, hb, hr, hml, hown, hts, hlocks⟩ := hF
  have hown : s.vm.findClass RX1 = some m.cls := hown
  have hl : lv_has ls 2 [(0, .ref h0), (1, .int i1)] := hl
  refine lv_aload_n hx hb dX1_coveredCount_0 rfl (lv_at hl 0 rfl) ?_
  refine va_get (D := D) (ci := 1) (v := .ref h5) (C := RX1) (T := TX1) (N := 9) hx hb hts (fun w h => List.mem_cons_of_mem _ (List.mem_append_right _ (h))) hown hK.1 hP 0 rfl rfl 5 (by decide) (hts (.fieldLink RX1 28 "SenseNet$Net" "masses" "[I") (List.mem_of_getElem? (i := 1) rfl)) (fun _ h9 => h9) rfl dX1_coveredCount_1 ?_
  refine lv_iload_n hx hb dX1_coveredCount_4 rfl (lv_at hl 1 rfl) ?_
  refine kq_R (va_runSN (As := [.ref h5, .int i1]) (rest := []) ⟨hx, hb, hml, hown, hts⟩ (c_X3_at l D cI h5 30 ms i1 (by decide) _) ⟨va_cnB 2 hts gX1_coveredCount_X3_at_n44 rfl rfl rfl hK.2.2.2.2.1 (hts (.initialized RX3) (List.mem_of_getElem? (i := 3) rfl)) (by decide +kernel) ⟨Nat.le_of_ble_eq_true rfl, Nat.le_of_ble_eq_true rfl⟩, (hts (.static yX3_at) (List.mem_of_getElem? (i := 2) rfl)), trivial⟩ (kp_RS (hP.sub (ws' := [(h5, .inl (cI, 30, .inl ms))]) [4] rfl) hK) rfl rfl hl.1 rfl (lv_room (Nat.le_of_ble_eq_true rfl)) dX1_coveredCount_5 ⟨Nat.zero_le _, Nat.zero_le _⟩) hP hS hA (fun r_5 H locs er_5 hP hS => ?_)
  subst er_5
  exact ke_R hx hb hr hlocks hS dX1_coveredCount_8 (rfl)
set_option maxHeartbeats 4000000 in
set_option maxRecDepth 100000 in
theorem c_X1_stepsToTop (l : Launch) (D : va_G) (cI : ClassId) (h0 h2 h3 h4 h5 h6 h7 h8 : Nat) (ad : Int32) (pr : Int32) (ps : Nat → Int32) (cs : Nat → Int32) (cv : Nat → Int32) (ms : Nat → Int32) (dp : Nat → Int32) (sx : Nat → Int32) (wk : Nat → Int32) (i1 : Int32) : kc_R l yX1_stepsToTop wsX1_stepsToTop 1 21 D cI [.ref h0, .int i1] [(h0, .inr (1, [.int ad, .int pr, .ref h2, .ref h3, .ref h4, .ref h5, .ref h6, .ref h7, .ref h8])), (h2, .inl (cI, 30, .inl ps)), (h3, .inl (cI, 30, .inl cs)), (h4, .inl (cI, 30, .inl cv)), (h5, .inl (cI, 30, .inl ms)), (h6, .inl (cI, 30, .inl dp)), (h7, .inl (cI, 900, .inl sx)), (h8, .inl (cI, 30, .inl wk))] (fun r => r = kat 30 dp i1) := by
  refine ks_R (cc := cX1_stepsToTop) (nL := 2) (ret := (some .int)) (by decide) rfl (Nat.le_of_ble_eq_true rfl) ?_
  intro p e s m below meth c ls hF hP hK hS hA hl
  obtain ⟨hx, hb, hr, hml, hown, hts, hlocks⟩ := hF
  have hown : s.vm.findClass RX1 = some m.cls := hown
  have hl : lv_has ls 2 [(0, .ref h0), (1, .int i1)] := hl
  refine lv_aload_n hx hb dX1_stepsToTop_0 rfl (lv_at hl 0 rfl) ?_
  refine va_get (D := D) (ci := 1) (v := .ref h6) (C := RX1) (T := TX1) (N := 9) hx hb hts (fun w h => List.mem_cons_of_mem _ (List.mem_append_right _ (h))) hown hK.1 hP 0 rfl rfl 6 (by decide) (hts (.fieldLink RX1 31 "SenseNet$Net" "depths" "[I") (List.mem_of_getElem? (i := 1) rfl)) (fun _ h9 => h9) rfl dX1_stepsToTop_1 ?_
  refine lv_iload_n hx hb dX1_stepsToTop_4 rfl (lv_at hl 1 rfl) ?_
  refine kq_R (va_runSN (As := [.ref h6, .int i1]) (rest := []) ⟨hx, hb, hml, hown, hts⟩ (c_X3_at l D cI h6 30 dp i1 (by decide) _) ⟨va_cnB 2 hts gX1_stepsToTop_X3_at_n44 rfl rfl rfl hK.2.2.2.2.1 (hts (.initialized RX3) (List.mem_of_getElem? (i := 3) rfl)) (by decide +kernel) ⟨Nat.le_of_ble_eq_true rfl, Nat.le_of_ble_eq_true rfl⟩, (hts (.static yX3_at) (List.mem_of_getElem? (i := 2) rfl)), trivial⟩ (kp_RS (hP.sub (ws' := [(h6, .inl (cI, 30, .inl dp))]) [5] rfl) hK) rfl rfl hl.1 rfl (lv_room (Nat.le_of_ble_eq_true rfl)) dX1_stepsToTop_5 ⟨Nat.zero_le _, Nat.zero_le _⟩) hP hS hA (fun r_5 H locs er_5 hP hS => ?_)
  subst er_5
  exact ke_R hx hb hr hlocks hS dX1_stepsToTop_8 (rfl)
set_option maxHeartbeats 4000000 in
set_option maxRecDepth 100000 in
theorem c_X1_parentCount (l : Launch) (D : va_G) (cI : ClassId) (h0 h2 h3 h4 h5 h6 h7 h8 : Nat) (ad : Int32) (pr : Int32) (ps : Nat → Int32) (cs : Nat → Int32) (cv : Nat → Int32) (ms : Nat → Int32) (dp : Nat → Int32) (sx : Nat → Int32) (wk : Nat → Int32) (i1 : Int32) : kc_R l yX1_parentCount wsX1_parentCount 1 21 D cI [.ref h0, .int i1] [(h0, .inr (1, [.int ad, .int pr, .ref h2, .ref h3, .ref h4, .ref h5, .ref h6, .ref h7, .ref h8])), (h2, .inl (cI, 30, .inl ps)), (h3, .inl (cI, 30, .inl cs)), (h4, .inl (cI, 30, .inl cv)), (h5, .inl (cI, 30, .inl ms)), (h6, .inl (cI, 30, .inl dp)), (h7, .inl (cI, 900, .inl sx)), (h8, .inl (cI, 30, .inl wk))] (fun r => r = kpop (kat 30 ps i1)) := by
  refine ks_R (cc := cX1_parentCount) (nL := 2) (ret := (some .int)) (by decide) rfl (Nat.le_of_ble_eq_true rfl) ?_
  intro p e s m below meth c ls hF hP hK hS hA hl
  obtain ⟨hx, hb, hr, hml, hown, hts, hlocks⟩ := hF
  have hown : s.vm.findClass RX1 = some m.cls := hown
  have hl : lv_has ls 2 [(0, .ref h0), (1, .int i1)] := hl
  refine lv_aload_n hx hb dX1_parentCount_0 rfl (lv_at hl 0 rfl) ?_
  refine va_get (D := D) (ci := 1) (v := .ref h2) (C := RX1) (T := TX1) (N := 9) hx hb hts (fun w h => List.mem_cons_of_mem _ (List.mem_append_right _ (h))) hown hK.1 hP 0 rfl rfl 2 (by decide) (hts (.fieldLink RX1 18 "SenseNet$Net" "parentSets" "[I") (List.mem_of_getElem? (i := 1) rfl)) (fun _ h9 => h9) rfl dX1_parentCount_1 ?_
  refine lv_iload_n hx hb dX1_parentCount_4 rfl (lv_at hl 1 rfl) ?_
  refine kq_R (va_runSN (As := [.ref h2, .int i1]) (rest := []) ⟨hx, hb, hml, hown, hts⟩ (c_X3_at l D cI h2 30 ps i1 (by decide) _) ⟨va_cnB 2 hts gX1_parentCount_X3_at_n44 rfl rfl rfl hK.2.2.2.2.1 (hts (.initialized RX3) (List.mem_of_getElem? (i := 3) rfl)) (by decide +kernel) ⟨Nat.le_of_ble_eq_true rfl, Nat.le_of_ble_eq_true rfl⟩, (hts (.static yX3_at) (List.mem_of_getElem? (i := 2) rfl)), trivial⟩ (kp_RS (hP.sub (ws' := [(h2, .inl (cI, 30, .inl ps))]) [1] rfl) hK) rfl rfl hl.1 rfl (lv_room (Nat.le_of_ble_eq_true rfl)) dX1_parentCount_5 ⟨Nat.zero_le _, Nat.zero_le _⟩) hP hS hA (fun r_5 H locs er_5 hP hS => ?_)
  subst er_5
  refine kq_R (va_runS (As := [.int (kat 30 ps i1)]) (rest := []) ⟨hx, hb, hml, hown, hts⟩ (c_J6_bitCount_0f7a4 l D cI (kat 30 ps i1) _) (va_cwS 1 hts gX1_parentCount_J6_bitCount_0f7a4 rfl rfl rfl (by decide +kernel) ⟨Nat.le_of_ble_eq_true rfl, Nat.le_of_ble_eq_true rfl⟩) (kp_RS (hP.sub (ws' := []) [] rfl) hK) rfl rfl hl.1 rfl (lv_room (Nat.le_of_ble_eq_true rfl)) dX1_parentCount_8 ⟨Nat.zero_le _, Nat.zero_le _⟩) hP hS hA (fun r_8 H locs er_8 hP hS => ?_)
  subst er_8
  exact ke_R hx hb hr hlocks hS dX1_parentCount_11 (rfl)
set_option maxHeartbeats 4000000 in
set_option maxRecDepth 100000 in
theorem c_X1_coveredSet (l : Launch) (D : va_G) (cI : ClassId) (h0 h2 h3 h4 h5 h6 h7 h8 : Nat) (ad : Int32) (pr : Int32) (ps : Nat → Int32) (cs : Nat → Int32) (cv : Nat → Int32) (ms : Nat → Int32) (dp : Nat → Int32) (sx : Nat → Int32) (wk : Nat → Int32) (i1 : Int32) : kc_R l yX1_coveredSet wsX1_coveredSet 2 41 D cI [.ref h0, .int i1] [(h0, .inr (1, [.int ad, .int pr, .ref h2, .ref h3, .ref h4, .ref h5, .ref h6, .ref h7, .ref h8])), (h2, .inl (cI, 30, .inl ps)), (h3, .inl (cI, 30, .inl cs)), (h4, .inl (cI, 30, .inl cv)), (h5, .inl (cI, 30, .inl ms)), (h6, .inl (cI, 30, .inl dp)), (h7, .inl (cI, 900, .inl sx)), (h8, .inl (cI, 30, .inl wk))] (fun r => r = kcvd cv i1 30) := by
  refine ks_R (cc := cX1_coveredSet) (nL := 4) (ret := (some .int)) (by decide) rfl (Nat.le_of_ble_eq_true rfl) ?_
  intro p e s m below meth c ls hF hP hK hS hA hl
  obtain ⟨hx, hb, hr, hml, hown, hts, hlocks⟩ := hF
  have hown : s.vm.findClass RX1 = some m.cls := hown
  have hl : lv_has ls 4 [(0, .ref h0), (1, .int i1)] := hl
  refine lv_iconst (v := 0) hx hb dX1_coveredSet_0 (by decide) ?_
  refine lv_istore_n (lv' := [(2, .int 0), (0, .ref h0), (1, .int i1)]) hx hb dX1_coveredSet_1 rfl hl (by decide) rfl (fun ls hl => ?_)
  refine lv_iconst (v := 0) hx hb dX1_coveredSet_2 (by decide) ?_
  refine lv_istore_n (lv' := [(3, .int 0), (2, .int 0), (0, .ref h0), (1, .int i1)]) hx hb dX1_coveredSet_3 rfl hl (by decide) rfl (fun ls hl => ?_)
  refine kl_for (head := 4) (N := 30) (fun (j : Nat) (H : Heap) (locs : List Loc) (ls : Array Slot) => ∃ (z : Int32), (z = kcvd cv i1 j) ∧ va_P D vwCl [(h0, .inr (1, [.int ad, .int pr, .ref h2, .ref h3, .ref h4, .ref h5, .ref h6, .ref h7, .ref h8])), (h2, .inl (cI, 30, .inl ps)), (h3, .inl (cI, 30, .inl cs)), (h4, .inl (cI, 30, .inl cv)), (h5, .inl (cI, 30, .inl ms)), (h6, .inl (cI, 30, .inl dp)), (h7, .inl (cI, 900, .inl sx)), (h8, .inl (cI, 30, .inl wk))] H ∧ va_S (va_A [] s.heap.size) s.heap H locs ∧ lv_has ls 4 [(0, .ref h0), (1, .int i1), (2, .int z), (3, .int (nI j))]) 0 (Nat.zero_le _) ?_ ?_ ⟨0, (rfl), hP, hS, (lv_sub hl [2, 3, 1, 0] rfl)⟩
  · skip
    intro j hj H locs ls hJ ih4
    obtain ⟨z, hI, hP, hS, hl⟩ := hJ
    refine lv_iload_n hx hb dX1_coveredSet_4 rfl (lv_at hl 3 rfl) ?_
    refine lv_bipush (v := 30) hx hb dX1_coveredSet_5 (by decide) ?_
    refine lv_icmp_ge (tgt := 38) hx hb dX1_coveredSet_7 (by decide) (fun hc => absurd hc (nI_ge (b := 30) hj (by decide))) (fun _ => ?_)
    refine lv_aload_n hx hb dX1_coveredSet_10 rfl (lv_at hl 0 rfl) ?_
    refine va_get (D := D) (ci := 1) (v := .ref h4) (C := RX1) (T := TX1) (N := 9) hx hb hts (fun w h => List.mem_cons_of_mem _ (List.mem_append_right _ (h))) hown hK.1 hP 0 rfl rfl 4 (by decide) (hts (.fieldLink RX1 25 "SenseNet$Net" "coverSets" "[I") (List.mem_of_getElem? (i := 1) rfl)) (fun _ h9 => h9) rfl dX1_coveredSet_11 ?_
    refine lv_iload_n hx hb dX1_coveredSet_14 rfl (lv_at hl 3 rfl) ?_
    refine kq_R (va_runSN (As := [.ref h4, .int (nI j)]) (rest := []) ⟨hx, hb, hml, hown, hts⟩ (c_X3_at l D cI h4 30 cv (nI j) (by decide) _) ⟨va_cnB 2 hts gX1_coveredSet_X3_at_n44 rfl rfl rfl hK.2.2.2.2.1 (hts (.initialized RX3) (List.mem_of_getElem? (i := 3) rfl)) (by decide +kernel) ⟨Nat.le_of_ble_eq_true rfl, Nat.le_of_ble_eq_true rfl⟩, (hts (.static yX3_at) (List.mem_of_getElem? (i := 2) rfl)), trivial⟩ (kp_RS (hP.sub (ws' := [(h4, .inl (cI, 30, .inl cv))]) [3] rfl) hK) rfl rfl hl.1 rfl (lv_room (Nat.le_of_ble_eq_true rfl)) dX1_coveredSet_15 ⟨Nat.zero_le _, Nat.zero_le _⟩) hP hS hA (fun r_15 H locs er_15 hP hS => ?_)
    subst er_15
    refine lv_iload_n hx hb dX1_coveredSet_18 rfl (lv_at hl 1 rfl) ?_
    refine kq_R (va_runSN (As := [.int (kat 30 cv (nI j)), .int i1]) (rest := []) ⟨hx, hb, hml, hown, hts⟩ (c_X3_holds l D cI (kat 30 cv (nI j)) i1 _) ⟨va_cnB 2 hts gX1_coveredSet_X3_holds_n40 rfl rfl rfl hK.2.2.2.1 (hts (.initialized RX3) (List.mem_of_getElem? (i := 3) rfl)) (by decide +kernel) ⟨Nat.le_of_ble_eq_true rfl, Nat.le_of_ble_eq_true rfl⟩, (hts (.static yX3_holds) (List.mem_of_getElem? (i := 5) rfl)), trivial⟩ (kp_RS (hP.sub (ws' := []) [] rfl) hK) rfl rfl hl.1 rfl (lv_room (Nat.le_of_ble_eq_true rfl)) dX1_coveredSet_19 ⟨Nat.zero_le _, Nat.zero_le _⟩) hP hS hA (fun r_19 H locs er_19 hP hS => ?_)
    subst er_19
    refine lv_if_eq (tgt := 32) hx hb dX1_coveredSet_22 (by decide) (fun c_22 => ?_) (fun c_22 => ?_)
    · skip
      refine lv_iinc (v := nI (j + 1)) (lv' := [(3, .int (nI (j + 1))), (0, .ref h0), (1, .int i1), (2, .int z)]) hx hb dX1_coveredSet_32 hl (k := 3) rfl (nI_1 _) (by decide) rfl (fun ls hl => ?_)
      refine lv_goto (tgt := 4) hx hb dX1_coveredSet_35 (by decide) ?_
      exact ih4 _ _ _ ⟨z, (hI.trans (if_pos c_22).symm), hP, hS, (lv_sub hl [1, 2, 3, 0] rfl)⟩
    · skip
      refine lv_iload_n hx hb dX1_coveredSet_25 rfl (lv_at hl 2 rfl) ?_
      refine lv_iload_n hx hb dX1_coveredSet_26 rfl (lv_at hl 3 rfl) ?_
      refine kq_R (va_runSN (As := [.int (nI j)]) (rest := [.int z]) ⟨hx, hb, hml, hown, hts⟩ (c_X3_bit l D cI (nI j) _) ⟨va_cnB 1 hts gX1_coveredSet_X3_bit_n54 rfl rfl rfl hK.2.2.2.2.2.1 (hts (.initialized RX3) (List.mem_of_getElem? (i := 3) rfl)) (by decide +kernel) ⟨Nat.le_of_ble_eq_true rfl, Nat.le_of_ble_eq_true rfl⟩, (hts (.static yX3_bit) (List.mem_of_getElem? (i := 8) rfl)), trivial⟩ (kp_RS (hP.sub (ws' := []) [] rfl) hK) rfl rfl hl.1 rfl (lv_room (Nat.le_of_ble_eq_true rfl)) dX1_coveredSet_27 ⟨Nat.zero_le _, Nat.zero_le _⟩) hP hS hA (fun r_27 H locs er_27 hP hS => ?_)
      subst er_27
      refine lv_ior hx hb dX1_coveredSet_30 ?_
      refine lv_istore_n (lv' := [(2, .int (z ||| (kbit (nI j)))), (0, .ref h0), (1, .int i1), (3, .int (nI j))]) hx hb dX1_coveredSet_31 rfl hl (by decide) rfl (fun ls hl => ?_)
      refine lv_iinc (v := nI (j + 1)) (lv' := [(3, .int (nI (j + 1))), (2, .int (z ||| (kbit (nI j)))), (0, .ref h0), (1, .int i1)]) hx hb dX1_coveredSet_32 hl (k := 3) rfl (nI_1 _) (by decide) rfl (fun ls hl => ?_)
      refine lv_goto (tgt := 4) hx hb dX1_coveredSet_35 (by decide) ?_
      exact ih4 _ _ _ ⟨(z ||| (kbit (nI j))), (by rw [hI]; exact (if_neg c_22).symm), hP, hS, (lv_sub hl [2, 3, 1, 0] rfl)⟩
  · skip
    intro H locs ls hJ
    obtain ⟨z, hI, hP, hS, hl⟩ := hJ
    refine lv_iload_n hx hb dX1_coveredSet_4 rfl (lv_at hl 3 rfl) ?_
    refine lv_bipush (v := 30) hx hb dX1_coveredSet_5 (by decide) ?_
    refine lv_icmp_ge (tgt := 38) hx hb dX1_coveredSet_7 (by decide) (fun _ => ?_) (fun hc => absurd (nI_le (a := 30) (b := 30) (Nat.le_refl _) (by decide)) hc)
    refine lv_iload_n hx hb dX1_coveredSet_38 rfl (lv_at hl 2 rfl) ?_
    exact ke_R hx hb hr hlocks hS dX1_coveredSet_39 (hI)
set_option maxHeartbeats 4000000 in
set_option maxRecDepth 100000 in
theorem c_X1_parentsWithout (l : Launch) (D : va_G) (cI : ClassId) (h0 h2 h3 h4 h5 h6 h7 h8 : Nat) (ad : Int32) (pr : Int32) (ps : Nat → Int32) (cs : Nat → Int32) (cv : Nat → Int32) (ms : Nat → Int32) (dp : Nat → Int32) (sx : Nat → Int32) (wk : Nat → Int32) (i1 : Int32) (i2 : Int32) : kc_R l yX1_parentsWithout wsX1_parentsWithout 1 21 D cI [.ref h0, .int i1, .int i2] [(h0, .inr (1, [.int ad, .int pr, .ref h2, .ref h3, .ref h4, .ref h5, .ref h6, .ref h7, .ref h8])), (h2, .inl (cI, 30, .inl ps)), (h3, .inl (cI, 30, .inl cs)), (h4, .inl (cI, 30, .inl cv)), (h5, .inl (cI, 30, .inl ms)), (h6, .inl (cI, 30, .inl dp)), (h7, .inl (cI, 900, .inl sx)), (h8, .inl (cI, 30, .inl wk))] (fun r => r = kpw ps i1 i2) := by
  refine ks_R (cc := cX1_parentsWithout) (nL := 3) (ret := (some .int)) (by decide) rfl (Nat.le_of_ble_eq_true rfl) ?_
  intro p e s m below meth c ls hF hP hK hS hA hl
  obtain ⟨hx, hb, hr, hml, hown, hts, hlocks⟩ := hF
  have hown : s.vm.findClass RX1 = some m.cls := hown
  have hl : lv_has ls 3 [(0, .ref h0), (1, .int i1), (2, .int i2)] := hl
  refine lv_aload_n hx hb dX1_parentsWithout_0 rfl (lv_at hl 0 rfl) ?_
  refine va_get (D := D) (ci := 1) (v := .ref h2) (C := RX1) (T := TX1) (N := 9) hx hb hts (fun w h => List.mem_cons_of_mem _ (List.mem_append_right _ (h))) hown hK.1 hP 0 rfl rfl 2 (by decide) (hts (.fieldLink RX1 18 "SenseNet$Net" "parentSets" "[I") (List.mem_of_getElem? (i := 1) rfl)) (fun _ h9 => h9) rfl dX1_parentsWithout_1 ?_
  refine lv_iload_n hx hb dX1_parentsWithout_4 rfl (lv_at hl 1 rfl) ?_
  refine kq_R (va_runSN (As := [.ref h2, .int i1]) (rest := []) ⟨hx, hb, hml, hown, hts⟩ (c_X3_at l D cI h2 30 ps i1 (by decide) _) ⟨va_cnB 2 hts gX1_parentsWithout_X3_at_n44 rfl rfl rfl hK.2.2.2.2.1 (hts (.initialized RX3) (List.mem_of_getElem? (i := 3) rfl)) (by decide +kernel) ⟨Nat.le_of_ble_eq_true rfl, Nat.le_of_ble_eq_true rfl⟩, (hts (.static yX3_at) (List.mem_of_getElem? (i := 2) rfl)), trivial⟩ (kp_RS (hP.sub (ws' := [(h2, .inl (cI, 30, .inl ps))]) [1] rfl) hK) rfl rfl hl.1 rfl (lv_room (Nat.le_of_ble_eq_true rfl)) dX1_parentsWithout_5 ⟨Nat.zero_le _, Nat.zero_le _⟩) hP hS hA (fun r_5 H locs er_5 hP hS => ?_)
  subst er_5
  refine lv_aload_n hx hb dX1_parentsWithout_8 rfl (lv_at hl 0 rfl) ?_
  refine va_get (D := D) (ci := 1) (v := .ref h2) (C := RX1) (T := TX1) (N := 9) hx hb hts (fun w h => List.mem_cons_of_mem _ (List.mem_append_right _ (h))) hown hK.1 hP 0 rfl rfl 2 (by decide) (hts (.fieldLink RX1 18 "SenseNet$Net" "parentSets" "[I") (List.mem_of_getElem? (i := 1) rfl)) (fun _ h9 => h9) rfl dX1_parentsWithout_9 ?_
  refine lv_iload_n hx hb dX1_parentsWithout_12 rfl (lv_at hl 2 rfl) ?_
  refine kq_R (va_runSN (As := [.ref h2, .int i2]) (rest := [.int (kat 30 ps i1)]) ⟨hx, hb, hml, hown, hts⟩ (c_X3_at l D cI h2 30 ps i2 (by decide) _) ⟨va_cnB 2 hts gX1_parentsWithout_X3_at_n44 rfl rfl rfl hK.2.2.2.2.1 (hts (.initialized RX3) (List.mem_of_getElem? (i := 3) rfl)) (by decide +kernel) ⟨Nat.le_of_ble_eq_true rfl, Nat.le_of_ble_eq_true rfl⟩, (hts (.static yX3_at) (List.mem_of_getElem? (i := 2) rfl)), trivial⟩ (kp_RS (hP.sub (ws' := [(h2, .inl (cI, 30, .inl ps))]) [1] rfl) hK) rfl rfl hl.1 rfl (lv_room (Nat.le_of_ble_eq_true rfl)) dX1_parentsWithout_13 ⟨Nat.zero_le _, Nat.zero_le _⟩) hP hS hA (fun r_13 H locs er_13 hP hS => ?_)
  subst er_13
  refine lv_ior hx hb dX1_parentsWithout_16 ?_
  refine lv_iload_n hx hb dX1_parentsWithout_17 rfl (lv_at hl 2 rfl) ?_
  refine kq_R (va_runSN (As := [.int i2]) (rest := [.int ((kat 30 ps i1) ||| (kat 30 ps i2))]) ⟨hx, hb, hml, hown, hts⟩ (c_X3_bit l D cI i2 _) ⟨va_cnB 1 hts gX1_parentsWithout_X3_bit_n54 rfl rfl rfl hK.2.2.2.2.2.1 (hts (.initialized RX3) (List.mem_of_getElem? (i := 3) rfl)) (by decide +kernel) ⟨Nat.le_of_ble_eq_true rfl, Nat.le_of_ble_eq_true rfl⟩, (hts (.static yX3_bit) (List.mem_of_getElem? (i := 5) rfl)), trivial⟩ (kp_RS (hP.sub (ws' := []) [] rfl) hK) rfl rfl hl.1 rfl (lv_room (Nat.le_of_ble_eq_true rfl)) dX1_parentsWithout_18 ⟨Nat.zero_le _, Nat.zero_le _⟩) hP hS hA (fun r_18 H locs er_18 hP hS => ?_)
  subst er_18
  refine lv_iconst (v := (-1)) hx hb dX1_parentsWithout_21 (by decide) ?_
  refine lv_ixor hx hb dX1_parentsWithout_22 ?_
  refine lv_iand hx hb dX1_parentsWithout_23 ?_
  exact ke_R hx hb hr hlocks hS dX1_parentsWithout_24 (rfl)
set_option maxHeartbeats 4000000 in
set_option maxRecDepth 100000 in
theorem c_X1_parentsOfAll (l : Launch) (D : va_G) (cI : ClassId) (h0 h2 h3 h4 h5 h6 h7 h8 : Nat) (ad : Int32) (pr : Int32) (ps : Nat → Int32) (cs : Nat → Int32) (cv : Nat → Int32) (ms : Nat → Int32) (dp : Nat → Int32) (sx : Nat → Int32) (wk : Nat → Int32) (i1 : Int32) : kc_R l yX1_parentsOfAll wsX1_parentsOfAll 2 41 D cI [.ref h0, .int i1] [(h0, .inr (1, [.int ad, .int pr, .ref h2, .ref h3, .ref h4, .ref h5, .ref h6, .ref h7, .ref h8])), (h2, .inl (cI, 30, .inl ps)), (h3, .inl (cI, 30, .inl cs)), (h4, .inl (cI, 30, .inl cv)), (h5, .inl (cI, 30, .inl ms)), (h6, .inl (cI, 30, .inl dp)), (h7, .inl (cI, 900, .inl sx)), (h8, .inl (cI, 30, .inl wk))] (fun r => r = kpoa ps i1 30) := by
  refine ks_R (cc := cX1_parentsOfAll) (nL := 4) (ret := (some .int)) (by decide) rfl (Nat.le_of_ble_eq_true rfl) ?_
  intro p e s m below meth c ls hF hP hK hS hA hl
  obtain ⟨hx, hb, hr, hml, hown, hts, hlocks⟩ := hF
  have hown : s.vm.findClass RX1 = some m.cls := hown
  have hl : lv_has ls 4 [(0, .ref h0), (1, .int i1)] := hl
  refine lv_iconst (v := 0) hx hb dX1_parentsOfAll_0 (by decide) ?_
  refine lv_istore_n (lv' := [(2, .int 0), (0, .ref h0), (1, .int i1)]) hx hb dX1_parentsOfAll_1 rfl hl (by decide) rfl (fun ls hl => ?_)
  refine lv_iconst (v := 0) hx hb dX1_parentsOfAll_2 (by decide) ?_
  refine lv_istore_n (lv' := [(3, .int 0), (2, .int 0), (0, .ref h0), (1, .int i1)]) hx hb dX1_parentsOfAll_3 rfl hl (by decide) rfl (fun ls hl => ?_)
  refine kl_for (head := 4) (N := 30) (fun (j : Nat) (H : Heap) (locs : List Loc) (ls : Array Slot) => ∃ (y : Int32), (y = kpoa ps i1 j) ∧ va_P D vwCl [(h0, .inr (1, [.int ad, .int pr, .ref h2, .ref h3, .ref h4, .ref h5, .ref h6, .ref h7, .ref h8])), (h2, .inl (cI, 30, .inl ps)), (h3, .inl (cI, 30, .inl cs)), (h4, .inl (cI, 30, .inl cv)), (h5, .inl (cI, 30, .inl ms)), (h6, .inl (cI, 30, .inl dp)), (h7, .inl (cI, 900, .inl sx)), (h8, .inl (cI, 30, .inl wk))] H ∧ va_S (va_A [] s.heap.size) s.heap H locs ∧ lv_has ls 4 [(0, .ref h0), (1, .int i1), (2, .int y), (3, .int (nI j))]) 0 (Nat.zero_le _) ?_ ?_ ⟨0, (rfl), hP, hS, (lv_sub hl [2, 3, 1, 0] rfl)⟩
  · skip
    intro j hj H locs ls hJ ih4
    obtain ⟨y, hI, hP, hS, hl⟩ := hJ
    refine lv_iload_n hx hb dX1_parentsOfAll_4 rfl (lv_at hl 3 rfl) ?_
    refine lv_bipush (v := 30) hx hb dX1_parentsOfAll_5 (by decide) ?_
    refine lv_icmp_ge (tgt := 35) hx hb dX1_parentsOfAll_7 (by decide) (fun hc => absurd hc (nI_ge (b := 30) hj (by decide))) (fun _ => ?_)
    refine lv_iload_n hx hb dX1_parentsOfAll_10 rfl (lv_at hl 1 rfl) ?_
    refine lv_iload_n hx hb dX1_parentsOfAll_11 rfl (lv_at hl 3 rfl) ?_
    refine kq_R (va_runSN (As := [.int i1, .int (nI j)]) (rest := []) ⟨hx, hb, hml, hown, hts⟩ (c_X3_holds l D cI i1 (nI j) _) ⟨va_cnB 2 hts gX1_parentsOfAll_X3_holds_n40 rfl rfl rfl hK.2.2.2.1 (hts (.initialized RX3) (List.mem_of_getElem? (i := 3) rfl)) (by decide +kernel) ⟨Nat.le_of_ble_eq_true rfl, Nat.le_of_ble_eq_true rfl⟩, (hts (.static yX3_holds) (List.mem_of_getElem? (i := 2) rfl)), trivial⟩ (kp_RS (hP.sub (ws' := []) [] rfl) hK) rfl rfl hl.1 rfl (lv_room (Nat.le_of_ble_eq_true rfl)) dX1_parentsOfAll_12 ⟨Nat.zero_le _, Nat.zero_le _⟩) hP hS hA (fun r_12 H locs er_12 hP hS => ?_)
    subst er_12
    refine lv_if_eq (tgt := 29) hx hb dX1_parentsOfAll_15 (by decide) (fun c_15 => ?_) (fun c_15 => ?_)
    · skip
      refine lv_iinc (v := nI (j + 1)) (lv' := [(3, .int (nI (j + 1))), (0, .ref h0), (1, .int i1), (2, .int y)]) hx hb dX1_parentsOfAll_29 hl (k := 3) rfl (nI_1 _) (by decide) rfl (fun ls hl => ?_)
      refine lv_goto (tgt := 4) hx hb dX1_parentsOfAll_32 (by decide) ?_
      exact ih4 _ _ _ ⟨y, (hI.trans (if_pos c_15).symm), hP, hS, (lv_sub hl [1, 2, 3, 0] rfl)⟩
    · skip
      refine lv_iload_n hx hb dX1_parentsOfAll_18 rfl (lv_at hl 2 rfl) ?_
      refine lv_aload_n hx hb dX1_parentsOfAll_19 rfl (lv_at hl 0 rfl) ?_
      refine va_get (D := D) (ci := 1) (v := .ref h2) (C := RX1) (T := TX1) (N := 9) hx hb hts (fun w h => List.mem_cons_of_mem _ (List.mem_append_right _ (h))) hown hK.1 hP 0 rfl rfl 2 (by decide) (hts (.fieldLink RX1 18 "SenseNet$Net" "parentSets" "[I") (List.mem_of_getElem? (i := 1) rfl)) (fun _ h9 => h9) rfl dX1_parentsOfAll_20 ?_
      refine lv_iload_n hx hb dX1_parentsOfAll_23 rfl (lv_at hl 3 rfl) ?_
      refine kq_R (va_runSN (As := [.ref h2, .int (nI j)]) (rest := [.int y]) ⟨hx, hb, hml, hown, hts⟩ (c_X3_at l D cI h2 30 ps (nI j) (by decide) _) ⟨va_cnB 2 hts gX1_parentsOfAll_X3_at_n44 rfl rfl rfl hK.2.2.2.2.1 (hts (.initialized RX3) (List.mem_of_getElem? (i := 3) rfl)) (by decide +kernel) ⟨Nat.le_of_ble_eq_true rfl, Nat.le_of_ble_eq_true rfl⟩, (hts (.static yX3_at) (List.mem_of_getElem? (i := 8) rfl)), trivial⟩ (kp_RS (hP.sub (ws' := [(h2, .inl (cI, 30, .inl ps))]) [1] rfl) hK) rfl rfl hl.1 rfl (lv_room (Nat.le_of_ble_eq_true rfl)) dX1_parentsOfAll_24 ⟨Nat.zero_le _, Nat.zero_le _⟩) hP hS hA (fun r_24 H locs er_24 hP hS => ?_)
      subst er_24
      refine lv_ior hx hb dX1_parentsOfAll_27 ?_
      refine lv_istore_n (lv' := [(2, .int (y ||| (kat 30 ps (nI j)))), (0, .ref h0), (1, .int i1), (3, .int (nI j))]) hx hb dX1_parentsOfAll_28 rfl hl (by decide) rfl (fun ls hl => ?_)
      refine lv_iinc (v := nI (j + 1)) (lv' := [(3, .int (nI (j + 1))), (2, .int (y ||| (kat 30 ps (nI j)))), (0, .ref h0), (1, .int i1)]) hx hb dX1_parentsOfAll_29 hl (k := 3) rfl (nI_1 _) (by decide) rfl (fun ls hl => ?_)
      refine lv_goto (tgt := 4) hx hb dX1_parentsOfAll_32 (by decide) ?_
      exact ih4 _ _ _ ⟨(y ||| (kat 30 ps (nI j))), (by rw [hI]; exact (if_neg c_15).symm), hP, hS, (lv_sub hl [2, 3, 1, 0] rfl)⟩
  · skip
    intro H locs ls hJ
    obtain ⟨y, hI, hP, hS, hl⟩ := hJ
    refine lv_iload_n hx hb dX1_parentsOfAll_4 rfl (lv_at hl 3 rfl) ?_
    refine lv_bipush (v := 30) hx hb dX1_parentsOfAll_5 (by decide) ?_
    refine lv_icmp_ge (tgt := 35) hx hb dX1_parentsOfAll_7 (by decide) (fun _ => ?_) (fun hc => absurd (nI_le (a := 30) (b := 30) (Nat.le_refl _) (by decide)) hc)
    refine lv_iload_n hx hb dX1_parentsOfAll_35 rfl (lv_at hl 2 rfl) ?_
    exact ke_R hx hb hr hlocks hS dX1_parentsOfAll_36 (hI)
set_option maxHeartbeats 4000000 in
set_option maxRecDepth 100000 in
theorem c_X1_hasTop (l : Launch) (D : va_G) (cI : ClassId) (h0 h2 h3 h4 h5 h6 h7 h8 : Nat) (ad : Int32) (pr : Int32) (ps : Nat → Int32) (cs : Nat → Int32) (cv : Nat → Int32) (ms : Nat → Int32) (dp : Nat → Int32) (sx : Nat → Int32) (wk : Nat → Int32) (i1 : Int32) : kc_R l yX1_hasTop wsX1_hasTop 2 41 D cI [.ref h0, .int i1] [(h0, .inr (1, [.int ad, .int pr, .ref h2, .ref h3, .ref h4, .ref h5, .ref h6, .ref h7, .ref h8])), (h2, .inl (cI, 30, .inl ps)), (h3, .inl (cI, 30, .inl cs)), (h4, .inl (cI, 30, .inl cv)), (h5, .inl (cI, 30, .inl ms)), (h6, .inl (cI, 30, .inl dp)), (h7, .inl (cI, 900, .inl sx)), (h8, .inl (cI, 30, .inl wk))] (fun r => r = nB (ktop ps i1 30)) := by
  refine ks_R (cc := cX1_hasTop) (nL := 3) (ret := (some .boolean)) (by decide) rfl (Nat.le_of_ble_eq_true rfl) ?_
  intro p e s m below meth c ls hF hP hK hS hA hl
  obtain ⟨hx, hb, hr, hml, hown, hts, hlocks⟩ := hF
  have hown : s.vm.findClass RX1 = some m.cls := hown
  have hl : lv_has ls 3 [(0, .ref h0), (1, .int i1)] := hl
  refine lv_iconst (v := 0) hx hb dX1_hasTop_0 (by decide) ?_
  refine lv_istore_n (lv' := [(2, .int 0), (0, .ref h0), (1, .int i1)]) hx hb dX1_hasTop_1 rfl hl (by decide) rfl (fun ls hl => ?_)
  refine kl_for (head := 2) (N := 30) (fun (j : Nat) (H : Heap) (locs : List Loc) (ls : Array Slot) => (ktop ps i1 j = false) ∧ va_P D vwCl [(h0, .inr (1, [.int ad, .int pr, .ref h2, .ref h3, .ref h4, .ref h5, .ref h6, .ref h7, .ref h8])), (h2, .inl (cI, 30, .inl ps)), (h3, .inl (cI, 30, .inl cs)), (h4, .inl (cI, 30, .inl cv)), (h5, .inl (cI, 30, .inl ms)), (h6, .inl (cI, 30, .inl dp)), (h7, .inl (cI, 900, .inl sx)), (h8, .inl (cI, 30, .inl wk))] H ∧ va_S (va_A [] s.heap.size) s.heap H locs ∧ lv_has ls 3 [(0, .ref h0), (1, .int i1), (2, .int (nI j))]) 0 (Nat.zero_le _) ?_ ?_ ⟨(rfl), hP, hS, (lv_sub hl [1, 2, 0] rfl)⟩
  · skip
    intro j hj H locs ls hJ ih2
    obtain ⟨hI, hP, hS, hl⟩ := hJ
    refine lv_iload_n hx hb dX1_hasTop_2 rfl (lv_at hl 2 rfl) ?_
    refine lv_bipush (v := 30) hx hb dX1_hasTop_3 (by decide) ?_
    refine lv_icmp_ge (tgt := 35) hx hb dX1_hasTop_5 (by decide) (fun hc => absurd hc (nI_ge (b := 30) hj (by decide))) (fun _ => ?_)
    refine lv_iload_n hx hb dX1_hasTop_8 rfl (lv_at hl 1 rfl) ?_
    refine lv_iload_n hx hb dX1_hasTop_9 rfl (lv_at hl 2 rfl) ?_
    refine kq_R (va_runSN (As := [.int i1, .int (nI j)]) (rest := []) ⟨hx, hb, hml, hown, hts⟩ (c_X3_holds l D cI i1 (nI j) _) ⟨va_cnB 2 hts gX1_hasTop_X3_holds_n40 rfl rfl rfl hK.2.2.2.1 (hts (.initialized RX3) (List.mem_of_getElem? (i := 3) rfl)) (by decide +kernel) ⟨Nat.le_of_ble_eq_true rfl, Nat.le_of_ble_eq_true rfl⟩, (hts (.static yX3_holds) (List.mem_of_getElem? (i := 2) rfl)), trivial⟩ (kp_RS (hP.sub (ws' := []) [] rfl) hK) rfl rfl hl.1 rfl (lv_room (Nat.le_of_ble_eq_true rfl)) dX1_hasTop_10 ⟨Nat.zero_le _, Nat.zero_le _⟩) hP hS hA (fun r_10 H locs er_10 hP hS => ?_)
    subst er_10
    refine lv_if_eq (tgt := 29) hx hb dX1_hasTop_13 (by decide) (fun c_13 => ?_) (fun c_13 => ?_)
    · skip
      refine lv_iinc (v := nI (j + 1)) (lv' := [(2, .int (nI (j + 1))), (0, .ref h0), (1, .int i1)]) hx hb dX1_hasTop_29 hl (k := 2) rfl (nI_1 _) (by decide) rfl (fun ls hl => ?_)
      refine lv_goto (tgt := 2) hx hb dX1_hasTop_32 (by decide) ?_
      exact ih2 _ _ _ ⟨(by simp only [ktop, hI, nB_0.mp c_13, Bool.false_and, Bool.or_false, Bool.false_or]), hP, hS, (lv_sub hl [1, 2, 0] rfl)⟩
    · skip
      refine lv_aload_n hx hb dX1_hasTop_16 rfl (lv_at hl 0 rfl) ?_
      refine va_get (D := D) (ci := 1) (v := .ref h2) (C := RX1) (T := TX1) (N := 9) hx hb hts (fun w h => List.mem_cons_of_mem _ (List.mem_append_right _ (h))) hown hK.1 hP 0 rfl rfl 2 (by decide) (hts (.fieldLink RX1 18 "SenseNet$Net" "parentSets" "[I") (List.mem_of_getElem? (i := 1) rfl)) (fun _ h9 => h9) rfl dX1_hasTop_17 ?_
      refine lv_iload_n hx hb dX1_hasTop_20 rfl (lv_at hl 2 rfl) ?_
      refine kq_R (va_runSN (As := [.ref h2, .int (nI j)]) (rest := []) ⟨hx, hb, hml, hown, hts⟩ (c_X3_at l D cI h2 30 ps (nI j) (by decide) _) ⟨va_cnB 2 hts gX1_hasTop_X3_at_n44 rfl rfl rfl hK.2.2.2.2.1 (hts (.initialized RX3) (List.mem_of_getElem? (i := 3) rfl)) (by decide +kernel) ⟨Nat.le_of_ble_eq_true rfl, Nat.le_of_ble_eq_true rfl⟩, (hts (.static yX3_at) (List.mem_of_getElem? (i := 8) rfl)), trivial⟩ (kp_RS (hP.sub (ws' := [(h2, .inl (cI, 30, .inl ps))]) [1] rfl) hK) rfl rfl hl.1 rfl (lv_room (Nat.le_of_ble_eq_true rfl)) dX1_hasTop_21 ⟨Nat.zero_le _, Nat.zero_le _⟩) hP hS hA (fun r_21 H locs er_21 hP hS => ?_)
      subst er_21
      refine lv_if_ne (tgt := 29) hx hb dX1_hasTop_24 (by decide) (fun c_24 => ?_) (fun c_24 => ?_)
      · skip
        refine lv_iinc (v := nI (j + 1)) (lv' := [(2, .int (nI (j + 1))), (0, .ref h0), (1, .int i1)]) hx hb dX1_hasTop_29 hl (k := 2) rfl (nI_1 _) (by decide) rfl (fun ls hl => ?_)
        refine lv_goto (tgt := 2) hx hb dX1_hasTop_32 (by decide) ?_
        exact ih2 _ _ _ ⟨(by simp only [ktop, hI, decide_eq_false c_24, Bool.and_false, Bool.or_false]), hP, hS, (lv_sub hl [1, 2, 0] rfl)⟩
      · skip
        refine lv_iconst (v := 1) hx hb dX1_hasTop_27 (by decide) ?_
        exact ke_Z hx hb hr hlocks hS dX1_hasTop_28 (true) (rfl) (congrArg nB (ktop_of (n := 30) hj (nB_n0.mp c_13) c_24).symm)
  · skip
    intro H locs ls hJ
    obtain ⟨hI, hP, hS, hl⟩ := hJ
    refine lv_iload_n hx hb dX1_hasTop_2 rfl (lv_at hl 2 rfl) ?_
    refine lv_bipush (v := 30) hx hb dX1_hasTop_3 (by decide) ?_
    refine lv_icmp_ge (tgt := 35) hx hb dX1_hasTop_5 (by decide) (fun _ => ?_) (fun hc => absurd (nI_le (a := 30) (b := 30) (Nat.le_refl _) (by decide)) hc)
    refine lv_iconst (v := 0) hx hb dX1_hasTop_35 (by decide) ?_
    exact ke_Z hx hb hr hlocks hS dX1_hasTop_36 (false) (rfl) (congrArg nB hI.symm)
set_option maxHeartbeats 4000000 in
set_option maxRecDepth 100000 in
theorem c_X1_countOfAll (l : Launch) (D : va_G) (cI : ClassId) (h0 h2 h3 h4 h5 h6 h7 h8 : Nat) (ad : Int32) (pr : Int32) (ps : Nat → Int32) (cs : Nat → Int32) (cv : Nat → Int32) (ms : Nat → Int32) (dp : Nat → Int32) (sx : Nat → Int32) (wk : Nat → Int32) (i1 : Int32) : kc_R l yX1_countOfAll wsX1_countOfAll 2 41 D cI [.ref h0, .int i1] [(h0, .inr (1, [.int ad, .int pr, .ref h2, .ref h3, .ref h4, .ref h5, .ref h6, .ref h7, .ref h8])), (h2, .inl (cI, 30, .inl ps)), (h3, .inl (cI, 30, .inl cs)), (h4, .inl (cI, 30, .inl cv)), (h5, .inl (cI, 30, .inl ms)), (h6, .inl (cI, 30, .inl dp)), (h7, .inl (cI, 900, .inl sx)), (h8, .inl (cI, 30, .inl wk))] (fun r => r = kcoa cs i1 30) := by
  refine ks_R (cc := cX1_countOfAll) (nL := 4) (ret := (some .int)) (by decide) rfl (Nat.le_of_ble_eq_true rfl) ?_
  intro p e s m below meth c ls hF hP hK hS hA hl
  obtain ⟨hx, hb, hr, hml, hown, hts, hlocks⟩ := hF
  have hown : s.vm.findClass RX1 = some m.cls := hown
  have hl : lv_has ls 4 [(0, .ref h0), (1, .int i1)] := hl
  refine lv_iconst (v := 0) hx hb dX1_countOfAll_0 (by decide) ?_
  refine lv_istore_n (lv' := [(2, .int 0), (0, .ref h0), (1, .int i1)]) hx hb dX1_countOfAll_1 rfl hl (by decide) rfl (fun ls hl => ?_)
  refine lv_iconst (v := 0) hx hb dX1_countOfAll_2 (by decide) ?_
  refine lv_istore_n (lv' := [(3, .int 0), (2, .int 0), (0, .ref h0), (1, .int i1)]) hx hb dX1_countOfAll_3 rfl hl (by decide) rfl (fun ls hl => ?_)
  refine kl_for (head := 4) (N := 30) (fun (j : Nat) (H : Heap) (locs : List Loc) (ls : Array Slot) => ∃ (y : Int32), (y = kcoa cs i1 j) ∧ va_P D vwCl [(h0, .inr (1, [.int ad, .int pr, .ref h2, .ref h3, .ref h4, .ref h5, .ref h6, .ref h7, .ref h8])), (h2, .inl (cI, 30, .inl ps)), (h3, .inl (cI, 30, .inl cs)), (h4, .inl (cI, 30, .inl cv)), (h5, .inl (cI, 30, .inl ms)), (h6, .inl (cI, 30, .inl dp)), (h7, .inl (cI, 900, .inl sx)), (h8, .inl (cI, 30, .inl wk))] H ∧ va_S (va_A [] s.heap.size) s.heap H locs ∧ lv_has ls 4 [(0, .ref h0), (1, .int i1), (2, .int y), (3, .int (nI j))]) 0 (Nat.zero_le _) ?_ ?_ ⟨0, (rfl), hP, hS, (lv_sub hl [2, 3, 1, 0] rfl)⟩
  · skip
    intro j hj H locs ls hJ ih4
    obtain ⟨y, hI, hP, hS, hl⟩ := hJ
    refine lv_iload_n hx hb dX1_countOfAll_4 rfl (lv_at hl 3 rfl) ?_
    refine lv_bipush (v := 30) hx hb dX1_countOfAll_5 (by decide) ?_
    refine lv_icmp_ge (tgt := 35) hx hb dX1_countOfAll_7 (by decide) (fun hc => absurd hc (nI_ge (b := 30) hj (by decide))) (fun _ => ?_)
    refine lv_iload_n hx hb dX1_countOfAll_10 rfl (lv_at hl 1 rfl) ?_
    refine lv_iload_n hx hb dX1_countOfAll_11 rfl (lv_at hl 3 rfl) ?_
    refine kq_R (va_runSN (As := [.int i1, .int (nI j)]) (rest := []) ⟨hx, hb, hml, hown, hts⟩ (c_X3_holds l D cI i1 (nI j) _) ⟨va_cnB 2 hts gX1_countOfAll_X3_holds_n40 rfl rfl rfl hK.2.2.2.1 (hts (.initialized RX3) (List.mem_of_getElem? (i := 3) rfl)) (by decide +kernel) ⟨Nat.le_of_ble_eq_true rfl, Nat.le_of_ble_eq_true rfl⟩, (hts (.static yX3_holds) (List.mem_of_getElem? (i := 2) rfl)), trivial⟩ (kp_RS (hP.sub (ws' := []) [] rfl) hK) rfl rfl hl.1 rfl (lv_room (Nat.le_of_ble_eq_true rfl)) dX1_countOfAll_12 ⟨Nat.zero_le _, Nat.zero_le _⟩) hP hS hA (fun r_12 H locs er_12 hP hS => ?_)
    subst er_12
    refine lv_if_eq (tgt := 29) hx hb dX1_countOfAll_15 (by decide) (fun c_15 => ?_) (fun c_15 => ?_)
    · skip
      refine lv_iinc (v := nI (j + 1)) (lv' := [(3, .int (nI (j + 1))), (0, .ref h0), (1, .int i1), (2, .int y)]) hx hb dX1_countOfAll_29 hl (k := 3) rfl (nI_1 _) (by decide) rfl (fun ls hl => ?_)
      refine lv_goto (tgt := 4) hx hb dX1_countOfAll_32 (by decide) ?_
      exact ih4 _ _ _ ⟨y, (hI.trans (if_pos c_15).symm), hP, hS, (lv_sub hl [1, 2, 3, 0] rfl)⟩
    · skip
      refine lv_iload_n hx hb dX1_countOfAll_18 rfl (lv_at hl 2 rfl) ?_
      refine lv_aload_n hx hb dX1_countOfAll_19 rfl (lv_at hl 0 rfl) ?_
      refine va_get (D := D) (ci := 1) (v := .ref h3) (C := RX1) (T := TX1) (N := 9) hx hb hts (fun w h => List.mem_cons_of_mem _ (List.mem_append_right _ (h))) hown hK.1 hP 0 rfl rfl 3 (by decide) (hts (.fieldLink RX1 22 "SenseNet$Net" "counts" "[I") (List.mem_of_getElem? (i := 1) rfl)) (fun _ h9 => h9) rfl dX1_countOfAll_20 ?_
      refine lv_iload_n hx hb dX1_countOfAll_23 rfl (lv_at hl 3 rfl) ?_
      refine kq_R (va_runSN (As := [.ref h3, .int (nI j)]) (rest := [.int y]) ⟨hx, hb, hml, hown, hts⟩ (c_X3_at l D cI h3 30 cs (nI j) (by decide) _) ⟨va_cnB 2 hts gX1_countOfAll_X3_at_n44 rfl rfl rfl hK.2.2.2.2.1 (hts (.initialized RX3) (List.mem_of_getElem? (i := 3) rfl)) (by decide +kernel) ⟨Nat.le_of_ble_eq_true rfl, Nat.le_of_ble_eq_true rfl⟩, (hts (.static yX3_at) (List.mem_of_getElem? (i := 8) rfl)), trivial⟩ (kp_RS (hP.sub (ws' := [(h3, .inl (cI, 30, .inl cs))]) [2] rfl) hK) rfl rfl hl.1 rfl (lv_room (Nat.le_of_ble_eq_true rfl)) dX1_countOfAll_24 ⟨Nat.zero_le _, Nat.zero_le _⟩) hP hS hA (fun r_24 H locs er_24 hP hS => ?_)
      subst er_24
      refine lv_iadd hx hb dX1_countOfAll_27 ?_
      refine lv_istore_n (lv' := [(2, .int (y + (kat 30 cs (nI j)))), (0, .ref h0), (1, .int i1), (3, .int (nI j))]) hx hb dX1_countOfAll_28 rfl hl (by decide) rfl (fun ls hl => ?_)
      refine lv_iinc (v := nI (j + 1)) (lv' := [(3, .int (nI (j + 1))), (2, .int (y + (kat 30 cs (nI j)))), (0, .ref h0), (1, .int i1)]) hx hb dX1_countOfAll_29 hl (k := 3) rfl (nI_1 _) (by decide) rfl (fun ls hl => ?_)
      refine lv_goto (tgt := 4) hx hb dX1_countOfAll_32 (by decide) ?_
      exact ih4 _ _ _ ⟨(y + (kat 30 cs (nI j))), (by rw [hI]; exact (if_neg c_15).symm), hP, hS, (lv_sub hl [2, 3, 1, 0] rfl)⟩
  · skip
    intro H locs ls hJ
    obtain ⟨y, hI, hP, hS, hl⟩ := hJ
    refine lv_iload_n hx hb dX1_countOfAll_4 rfl (lv_at hl 3 rfl) ?_
    refine lv_bipush (v := 30) hx hb dX1_countOfAll_5 (by decide) ?_
    refine lv_icmp_ge (tgt := 35) hx hb dX1_countOfAll_7 (by decide) (fun _ => ?_) (fun hc => absurd (nI_le (a := 30) (b := 30) (Nat.le_refl _) (by decide)) hc)
    refine lv_iload_n hx hb dX1_countOfAll_35 rfl (lv_at hl 2 rfl) ?_
    exact ke_R hx hb hr hlocks hS dX1_countOfAll_36 (hI)
set_option maxHeartbeats 4000000 in
set_option maxRecDepth 100000 in
theorem c_X1_saysMore (l : Launch) (D : va_G) (cI : ClassId) (h0 h2 h3 h4 h5 h6 h7 h8 : Nat) (ad : Int32) (pr : Int32) (ps : Nat → Int32) (cs : Nat → Int32) (cv : Nat → Int32) (ms : Nat → Int32) (dp : Nat → Int32) (sx : Nat → Int32) (wk : Nat → Int32) (i1 : Int32) (i2 : Int32) : kc_R l yX1_saysMore wsX1_saysMore 1 21 D cI [.ref h0, .int i1, .int i2] [(h0, .inr (1, [.int ad, .int pr, .ref h2, .ref h3, .ref h4, .ref h5, .ref h6, .ref h7, .ref h8])), (h2, .inl (cI, 30, .inl ps)), (h3, .inl (cI, 30, .inl cs)), (h4, .inl (cI, 30, .inl cv)), (h5, .inl (cI, 30, .inl ms)), (h6, .inl (cI, 30, .inl dp)), (h7, .inl (cI, 900, .inl sx)), (h8, .inl (cI, 30, .inl wk))] (fun r => r = nB (ksay ms dp i1 i2)) := by
  refine ks_R (cc := cX1_saysMore) (nL := 5) (ret := (some .boolean)) (by decide) rfl (Nat.le_of_ble_eq_true rfl) ?_
  intro p e s m below meth c ls hF hP hK hS hA hl
  obtain ⟨hx, hb, hr, hml, hown, hts, hlocks⟩ := hF
  have hown : s.vm.findClass RX1 = some m.cls := hown
  have hl : lv_has ls 5 [(0, .ref h0), (1, .int i1), (2, .int i2)] := hl
  refine lv_aload_n hx hb dX1_saysMore_0 rfl (lv_at hl 0 rfl) ?_
  refine va_get (D := D) (ci := 1) (v := .ref h5) (C := RX1) (T := TX1) (N := 9) hx hb hts (fun w h => List.mem_cons_of_mem _ (List.mem_append_right _ (h))) hown hK.1 hP 0 rfl rfl 5 (by decide) (hts (.fieldLink RX1 28 "SenseNet$Net" "masses" "[I") (List.mem_of_getElem? (i := 1) rfl)) (fun _ h9 => h9) rfl dX1_saysMore_1 ?_
  refine lv_iload_n hx hb dX1_saysMore_4 rfl (lv_at hl 1 rfl) ?_
  refine kq_R (va_runSN (As := [.ref h5, .int i1]) (rest := []) ⟨hx, hb, hml, hown, hts⟩ (c_X3_at l D cI h5 30 ms i1 (by decide) _) ⟨va_cnB 2 hts gX1_saysMore_X3_at_n44 rfl rfl rfl hK.2.2.2.2.1 (hts (.initialized RX3) (List.mem_of_getElem? (i := 4) rfl)) (by decide +kernel) ⟨Nat.le_of_ble_eq_true rfl, Nat.le_of_ble_eq_true rfl⟩, (hts (.static yX3_at) (List.mem_of_getElem? (i := 3) rfl)), trivial⟩ (kp_RS (hP.sub (ws' := [(h5, .inl (cI, 30, .inl ms))]) [4] rfl) hK) rfl rfl hl.1 rfl (lv_room (Nat.le_of_ble_eq_true rfl)) dX1_saysMore_5 ⟨Nat.zero_le _, Nat.zero_le _⟩) hP hS hA (fun r_5 H locs er_5 hP hS => ?_)
  subst er_5
  refine lv_istore_n (lv' := [(3, .int (kat 30 ms i1)), (0, .ref h0), (1, .int i1), (2, .int i2)]) hx hb dX1_saysMore_8 rfl hl (by decide) rfl (fun ls hl => ?_)
  refine lv_aload_n hx hb dX1_saysMore_9 rfl (lv_at hl 1 rfl) ?_
  refine va_get (D := D) (ci := 1) (v := .ref h5) (C := RX1) (T := TX1) (N := 9) hx hb hts (fun w h => List.mem_cons_of_mem _ (List.mem_append_right _ (h))) hown hK.1 hP 0 rfl rfl 5 (by decide) (hts (.fieldLink RX1 28 "SenseNet$Net" "masses" "[I") (List.mem_of_getElem? (i := 1) rfl)) (fun _ h9 => h9) rfl dX1_saysMore_10 ?_
  refine lv_iload_n hx hb dX1_saysMore_13 rfl (lv_at hl 3 rfl) ?_
  refine kq_R (va_runSN (As := [.ref h5, .int i2]) (rest := []) ⟨hx, hb, hml, hown, hts⟩ (c_X3_at l D cI h5 30 ms i2 (by decide) _) ⟨va_cnB 2 hts gX1_saysMore_X3_at_n44 rfl rfl rfl hK.2.2.2.2.1 (hts (.initialized RX3) (List.mem_of_getElem? (i := 4) rfl)) (by decide +kernel) ⟨Nat.le_of_ble_eq_true rfl, Nat.le_of_ble_eq_true rfl⟩, (hts (.static yX3_at) (List.mem_of_getElem? (i := 3) rfl)), trivial⟩ (kp_RS (hP.sub (ws' := [(h5, .inl (cI, 30, .inl ms))]) [4] rfl) hK) rfl rfl hl.1 rfl (lv_room (Nat.le_of_ble_eq_true rfl)) dX1_saysMore_14 ⟨Nat.zero_le _, Nat.zero_le _⟩) hP hS hA (fun r_14 H locs er_14 hP hS => ?_)
  subst er_14
  refine lv_istore (lv' := [(4, .int (kat 30 ms i2)), (3, .int (kat 30 ms i1)), (0, .ref h0), (1, .int i1), (2, .int i2)]) hx hb dX1_saysMore_17 hl (by decide) rfl (fun ls hl => ?_)
  refine lv_iload_n hx hb dX1_saysMore_19 rfl (lv_at hl 1 rfl) ?_
  refine lv_iload hx hb dX1_saysMore_20 (lv_at hl 0 rfl) ?_
  refine lv_icmp_lt (tgt := 50) hx hb dX1_saysMore_22 (by decide) (fun c_22 => ?_) (fun c_22 => ?_)
  · skip
    refine lv_iconst (v := 1) hx hb dX1_saysMore_50 (by decide) ?_
    refine lv_goto (tgt := 55) hx hb dX1_saysMore_51 (by decide) ?_
    exact ke_Z hx hb hr hlocks hS dX1_saysMore_55 (ksay ms dp i1 i2) (by unfold ksay nB; simp [*]) (rfl)
  · skip
    refine lv_iload_n hx hb dX1_saysMore_25 rfl (lv_at hl 1 rfl) ?_
    refine lv_iload hx hb dX1_saysMore_26 (lv_at hl 0 rfl) ?_
    refine lv_icmp_ne (tgt := 54) hx hb dX1_saysMore_28 (by decide) (fun c_28 => ?_) (fun c_28 => ?_)
    · skip
      refine lv_iconst (v := 0) hx hb dX1_saysMore_54 (by decide) ?_
      exact ke_Z hx hb hr hlocks hS dX1_saysMore_55 (ksay ms dp i1 i2) (by unfold ksay nB; simp [*]) (rfl)
    · skip
      refine lv_aload_n hx hb dX1_saysMore_31 rfl (lv_at hl 2 rfl) ?_
      refine va_get (D := D) (ci := 1) (v := .ref h6) (C := RX1) (T := TX1) (N := 9) hx hb hts (fun w h => List.mem_cons_of_mem _ (List.mem_append_right _ (h))) hown hK.1 hP 0 rfl rfl 6 (by decide) (hts (.fieldLink RX1 31 "SenseNet$Net" "depths" "[I") (List.mem_of_getElem? (i := 2) rfl)) (fun _ h9 => h9) rfl dX1_saysMore_32 ?_
      refine lv_iload_n hx hb dX1_saysMore_35 rfl (lv_at hl 3 rfl) ?_
      refine kq_R (va_runSN (As := [.ref h6, .int i1]) (rest := []) ⟨hx, hb, hml, hown, hts⟩ (c_X3_at l D cI h6 30 dp i1 (by decide) _) ⟨va_cnB 2 hts gX1_saysMore_X3_at_n44 rfl rfl rfl hK.2.2.2.2.1 (hts (.initialized RX3) (List.mem_of_getElem? (i := 4) rfl)) (by decide +kernel) ⟨Nat.le_of_ble_eq_true rfl, Nat.le_of_ble_eq_true rfl⟩, (hts (.static yX3_at) (List.mem_of_getElem? (i := 3) rfl)), trivial⟩ (kp_RS (hP.sub (ws' := [(h6, .inl (cI, 30, .inl dp))]) [5] rfl) hK) rfl rfl hl.1 rfl (lv_room (Nat.le_of_ble_eq_true rfl)) dX1_saysMore_36 ⟨Nat.zero_le _, Nat.zero_le _⟩) hP hS hA (fun r_36 H locs er_36 hP hS => ?_)
      subst er_36
      refine lv_aload_n hx hb dX1_saysMore_39 rfl (lv_at hl 2 rfl) ?_
      refine va_get (D := D) (ci := 1) (v := .ref h6) (C := RX1) (T := TX1) (N := 9) hx hb hts (fun w h => List.mem_cons_of_mem _ (List.mem_append_right _ (h))) hown hK.1 hP 0 rfl rfl 6 (by decide) (hts (.fieldLink RX1 31 "SenseNet$Net" "depths" "[I") (List.mem_of_getElem? (i := 2) rfl)) (fun _ h9 => h9) rfl dX1_saysMore_40 ?_
      refine lv_iload_n hx hb dX1_saysMore_43 rfl (lv_at hl 4 rfl) ?_
      refine kq_R (va_runSN (As := [.ref h6, .int i2]) (rest := [.int (kat 30 dp i1)]) ⟨hx, hb, hml, hown, hts⟩ (c_X3_at l D cI h6 30 dp i2 (by decide) _) ⟨va_cnB 2 hts gX1_saysMore_X3_at_n44 rfl rfl rfl hK.2.2.2.2.1 (hts (.initialized RX3) (List.mem_of_getElem? (i := 4) rfl)) (by decide +kernel) ⟨Nat.le_of_ble_eq_true rfl, Nat.le_of_ble_eq_true rfl⟩, (hts (.static yX3_at) (List.mem_of_getElem? (i := 3) rfl)), trivial⟩ (kp_RS (hP.sub (ws' := [(h6, .inl (cI, 30, .inl dp))]) [5] rfl) hK) rfl rfl hl.1 rfl (lv_room (Nat.le_of_ble_eq_true rfl)) dX1_saysMore_44 ⟨Nat.zero_le _, Nat.zero_le _⟩) hP hS hA (fun r_44 H locs er_44 hP hS => ?_)
      subst er_44
      refine lv_icmp_le (tgt := 54) hx hb dX1_saysMore_47 (by decide) (fun c_47 => ?_) (fun c_47 => ?_)
      · skip
        refine lv_iconst (v := 0) hx hb dX1_saysMore_54 (by decide) ?_
        exact ke_Z hx hb hr hlocks hS dX1_saysMore_55 (ksay ms dp i1 i2) (by unfold ksay nB; simp [*]) (rfl)
      · skip
        refine lv_iconst (v := 1) hx hb dX1_saysMore_50 (by decide) ?_
        refine lv_goto (tgt := 55) hx hb dX1_saysMore_51 (by decide) ?_
        exact ke_Z hx hb hr hlocks hS dX1_saysMore_55 (ksay ms dp i1 i2) (by unfold ksay nB; simp [*]) (rfl)
set_option maxHeartbeats 4000000 in
set_option maxRecDepth 100000 in
theorem c_X1_tellingCover (l : Launch) (D : va_G) (cI : ClassId) (h0 h2 h3 h4 h5 h6 h7 h8 : Nat) (ad : Int32) (pr : Int32) (ps : Nat → Int32) (cs : Nat → Int32) (cv : Nat → Int32) (ms : Nat → Int32) (dp : Nat → Int32) (sx : Nat → Int32) (wk : Nat → Int32) (i1 : Int32) (i2 : Int32) : kc_R l yX1_tellingCover wsX1_tellingCover 2 45 D cI [.ref h0, .int i1, .int i2] [(h0, .inr (1, [.int ad, .int pr, .ref h2, .ref h3, .ref h4, .ref h5, .ref h6, .ref h7, .ref h8])), (h2, .inl (cI, 30, .inl ps)), (h3, .inl (cI, 30, .inl cs)), (h4, .inl (cI, 30, .inl cv)), (h5, .inl (cI, 30, .inl ms)), (h6, .inl (cI, 30, .inl dp)), (h7, .inl (cI, 900, .inl sx)), (h8, .inl (cI, 30, .inl wk))] (fun r => r = ktel ms dp (kat 30 cv i1 &&& kat 30 cv i2) 30) := by
  refine ks_R (cc := cX1_tellingCover) (nL := 6) (ret := (some .int)) (by decide) rfl (Nat.le_of_ble_eq_true rfl) ?_
  intro p e s m below meth c ls hF hP hK hS hA hl
  obtain ⟨hx, hb, hr, hml, hown, hts, hlocks⟩ := hF
  have hown : s.vm.findClass RX1 = some m.cls := hown
  have hl : lv_has ls 6 [(0, .ref h0), (1, .int i1), (2, .int i2)] := hl
  refine lv_aload_n hx hb dX1_tellingCover_0 rfl (lv_at hl 0 rfl) ?_
  refine va_get (D := D) (ci := 1) (v := .ref h4) (C := RX1) (T := TX1) (N := 9) hx hb hts (fun w h => List.mem_cons_of_mem _ (List.mem_append_right _ (h))) hown hK.1 hP 0 rfl rfl 4 (by decide) (hts (.fieldLink RX1 25 "SenseNet$Net" "coverSets" "[I") (List.mem_of_getElem? (i := 1) rfl)) (fun _ h9 => h9) rfl dX1_tellingCover_1 ?_
  refine lv_iload_n hx hb dX1_tellingCover_4 rfl (lv_at hl 1 rfl) ?_
  refine kq_R (va_runSN (As := [.ref h4, .int i1]) (rest := []) ⟨hx, hb, hml, hown, hts⟩ (c_X3_at l D cI h4 30 cv i1 (by decide) _) ⟨va_cnB 2 hts gX1_tellingCover_X3_at_n44 rfl rfl rfl hK.2.2.2.2.1 (hts (.initialized RX3) (List.mem_of_getElem? (i := 3) rfl)) (by decide +kernel) ⟨Nat.le_of_ble_eq_true rfl, Nat.le_of_ble_eq_true rfl⟩, (hts (.static yX3_at) (List.mem_of_getElem? (i := 2) rfl)), trivial⟩ (kp_RS (hP.sub (ws' := [(h4, .inl (cI, 30, .inl cv))]) [3] rfl) hK) rfl rfl hl.1 rfl (lv_room (Nat.le_of_ble_eq_true rfl)) dX1_tellingCover_5 ⟨Nat.zero_le _, Nat.zero_le _⟩) hP hS hA (fun r_5 H locs er_5 hP hS => ?_)
  subst er_5
  refine lv_aload_n hx hb dX1_tellingCover_8 rfl (lv_at hl 0 rfl) ?_
  refine va_get (D := D) (ci := 1) (v := .ref h4) (C := RX1) (T := TX1) (N := 9) hx hb hts (fun w h => List.mem_cons_of_mem _ (List.mem_append_right _ (h))) hown hK.1 hP 0 rfl rfl 4 (by decide) (hts (.fieldLink RX1 25 "SenseNet$Net" "coverSets" "[I") (List.mem_of_getElem? (i := 1) rfl)) (fun _ h9 => h9) rfl dX1_tellingCover_9 ?_
  refine lv_iload_n hx hb dX1_tellingCover_12 rfl (lv_at hl 2 rfl) ?_
  refine kq_R (va_runSN (As := [.ref h4, .int i2]) (rest := [.int (kat 30 cv i1)]) ⟨hx, hb, hml, hown, hts⟩ (c_X3_at l D cI h4 30 cv i2 (by decide) _) ⟨va_cnB 2 hts gX1_tellingCover_X3_at_n44 rfl rfl rfl hK.2.2.2.2.1 (hts (.initialized RX3) (List.mem_of_getElem? (i := 3) rfl)) (by decide +kernel) ⟨Nat.le_of_ble_eq_true rfl, Nat.le_of_ble_eq_true rfl⟩, (hts (.static yX3_at) (List.mem_of_getElem? (i := 2) rfl)), trivial⟩ (kp_RS (hP.sub (ws' := [(h4, .inl (cI, 30, .inl cv))]) [3] rfl) hK) rfl rfl hl.1 rfl (lv_room (Nat.le_of_ble_eq_true rfl)) dX1_tellingCover_13 ⟨Nat.zero_le _, Nat.zero_le _⟩) hP hS hA (fun r_13 H locs er_13 hP hS => ?_)
  subst er_13
  refine lv_iand hx hb dX1_tellingCover_16 ?_
  refine lv_istore_n (lv' := [(3, .int ((kat 30 cv i1) &&& (kat 30 cv i2))), (0, .ref h0), (1, .int i1), (2, .int i2)]) hx hb dX1_tellingCover_17 rfl hl (by decide) rfl (fun ls hl => ?_)
  refine lv_iconst (v := (-1)) hx hb dX1_tellingCover_18 (by decide) ?_
  refine lv_istore (lv' := [(4, .int (-1)), (3, .int ((kat 30 cv i1) &&& (kat 30 cv i2))), (0, .ref h0), (1, .int i1), (2, .int i2)]) hx hb dX1_tellingCover_19 hl (by decide) rfl (fun ls hl => ?_)
  refine lv_iconst (v := 0) hx hb dX1_tellingCover_21 (by decide) ?_
  refine lv_istore (lv' := [(5, .int 0), (4, .int (-1)), (3, .int ((kat 30 cv i1) &&& (kat 30 cv i2))), (0, .ref h0), (1, .int i1), (2, .int i2)]) hx hb dX1_tellingCover_22 hl (by decide) rfl (fun ls hl => ?_)
  refine kl_for (head := 24) (N := 30) (fun (j : Nat) (H : Heap) (locs : List Loc) (ls : Array Slot) => ∃ (y : Int32), (y = ktel ms dp (kat 30 cv i1 &&& kat 30 cv i2) j) ∧ va_P D vwCl [(h0, .inr (1, [.int ad, .int pr, .ref h2, .ref h3, .ref h4, .ref h5, .ref h6, .ref h7, .ref h8])), (h2, .inl (cI, 30, .inl ps)), (h3, .inl (cI, 30, .inl cs)), (h4, .inl (cI, 30, .inl cv)), (h5, .inl (cI, 30, .inl ms)), (h6, .inl (cI, 30, .inl dp)), (h7, .inl (cI, 900, .inl sx)), (h8, .inl (cI, 30, .inl wk))] H ∧ va_S (va_A [] s.heap.size) s.heap H locs ∧ lv_has ls 6 [(0, .ref h0), (1, .int i1), (2, .int i2), (3, .int ((kat 30 cv i1) &&& (kat 30 cv i2))), (4, .int y), (5, .int (nI j))]) 0 (Nat.zero_le _) ?_ ?_ ⟨(-1), (rfl), hP, hS, (lv_sub hl [3, 4, 5, 2, 1, 0] rfl)⟩
  · skip
    intro j hj H locs ls hJ ih24
    obtain ⟨y, hI, hP, hS, hl⟩ := hJ
    refine lv_iload hx hb dX1_tellingCover_24 (lv_at hl 5 rfl) ?_
    refine lv_bipush (v := 30) hx hb dX1_tellingCover_26 (by decide) ?_
    refine lv_icmp_ge (tgt := 67) hx hb dX1_tellingCover_28 (by decide) (fun hc => absurd hc (nI_ge (b := 30) hj (by decide))) (fun _ => ?_)
    refine lv_iload_n hx hb dX1_tellingCover_31 rfl (lv_at hl 3 rfl) ?_
    refine lv_iload hx hb dX1_tellingCover_32 (lv_at hl 5 rfl) ?_
    refine kq_R (va_runSN (As := [.int ((kat 30 cv i1) &&& (kat 30 cv i2)), .int (nI j)]) (rest := []) ⟨hx, hb, hml, hown, hts⟩ (c_X3_holds l D cI ((kat 30 cv i1) &&& (kat 30 cv i2)) (nI j) _) ⟨va_cnB 2 hts gX1_tellingCover_X3_holds_n40 rfl rfl rfl hK.2.2.2.1 (hts (.initialized RX3) (List.mem_of_getElem? (i := 3) rfl)) (by decide +kernel) ⟨Nat.le_of_ble_eq_true rfl, Nat.le_of_ble_eq_true rfl⟩, (hts (.static yX3_holds) (List.mem_of_getElem? (i := 5) rfl)), trivial⟩ (kp_RS (hP.sub (ws' := []) [] rfl) hK) rfl rfl hl.1 rfl (lv_room (Nat.le_of_ble_eq_true rfl)) dX1_tellingCover_34 ⟨Nat.zero_le _, Nat.zero_le _⟩) hP hS hA (fun r_34 H locs er_34 hP hS => ?_)
    subst er_34
    refine lv_if_eq (tgt := 61) hx hb dX1_tellingCover_37 (by decide) (fun c_37 => ?_) (fun c_37 => ?_)
    · skip
      refine lv_iinc (v := nI (j + 1)) (lv' := [(5, .int (nI (j + 1))), (0, .ref h0), (1, .int i1), (2, .int i2), (3, .int ((kat 30 cv i1) &&& (kat 30 cv i2))), (4, .int y)]) hx hb dX1_tellingCover_61 hl (k := 5) rfl (nI_1 _) (by decide) rfl (fun ls hl => ?_)
      refine lv_goto (tgt := 24) hx hb dX1_tellingCover_64 (by decide) ?_
      exact ih24 _ _ _ ⟨y, (by subst hI; simp only [ktel, *, if_true, if_false, not_true_eq_false, not_false_eq_true, true_and, false_and, true_or, false_or, reduceIte]), hP, hS, (lv_sub hl [1, 2, 3, 4, 5, 0] rfl)⟩
    · skip
      refine lv_iload hx hb dX1_tellingCover_40 (lv_at hl 4 rfl) ?_
      refine lv_iconst (v := (-1)) hx hb dX1_tellingCover_42 (by decide) ?_
      refine lv_icmp_eq (tgt := 57) hx hb dX1_tellingCover_43 (by decide) (fun c_43 => ?_) (fun c_43 => ?_)
      · skip
        refine lv_iload hx hb dX1_tellingCover_57 (lv_at hl 5 rfl) ?_
        refine lv_istore (lv' := [(4, .int (nI j)), (0, .ref h0), (1, .int i1), (2, .int i2), (3, .int ((kat 30 cv i1) &&& (kat 30 cv i2))), (5, .int (nI j))]) hx hb dX1_tellingCover_59 hl (by decide) rfl (fun ls hl => ?_)
        refine lv_iinc (v := nI (j + 1)) (lv' := [(5, .int (nI (j + 1))), (4, .int (nI j)), (0, .ref h0), (1, .int i1), (2, .int i2), (3, .int ((kat 30 cv i1) &&& (kat 30 cv i2)))]) hx hb dX1_tellingCover_61 hl (k := 5) rfl (nI_1 _) (by decide) rfl (fun ls hl => ?_)
        refine lv_goto (tgt := 24) hx hb dX1_tellingCover_64 (by decide) ?_
        exact ih24 _ _ _ ⟨(nI j), (by subst hI; simp only [ktel, *, if_true, if_false, not_true_eq_false, not_false_eq_true, true_and, false_and, true_or, false_or, reduceIte]), hP, hS, (lv_sub hl [2, 3, 4, 5, 1, 0] rfl)⟩
      · skip
        refine lv_aload_n hx hb dX1_tellingCover_46 rfl (lv_at hl 0 rfl) ?_
        refine lv_iload hx hb dX1_tellingCover_47 (lv_at hl 5 rfl) ?_
        refine lv_iload hx hb dX1_tellingCover_49 (lv_at hl 4 rfl) ?_
        refine kq_R (va_runV (As := [.int (nI j), .int y]) (rest := []) ⟨hx, hb, hml, hown, hts⟩ (c_X1_saysMore l D cI h0 h2 h3 h4 h5 h6 h7 h8 ad pr ps cs cv ms dp sx wk (nI j) y _) (cwV 2 hts gX1_tellingCover_X1_saysMore rfl rfl rfl (by decide +kernel) ⟨Nat.le_of_ble_eq_true rfl, Nat.le_of_ble_eq_true rfl⟩) (kp_RV (hP.sub (ws' := [(h0, .inr (1, [.int ad, .int pr, .ref h2, .ref h3, .ref h4, .ref h5, .ref h6, .ref h7, .ref h8])), (h2, .inl (cI, 30, .inl ps)), (h3, .inl (cI, 30, .inl cs)), (h4, .inl (cI, 30, .inl cv)), (h5, .inl (cI, 30, .inl ms)), (h6, .inl (cI, 30, .inl dp)), (h7, .inl (cI, 900, .inl sx)), (h8, .inl (cI, 30, .inl wk))]) [0, 1, 2, 3, 4, 5, 6, 7] rfl) hK 0 1 rfl rfl) rfl rfl hl.1 rfl (lv_room (Nat.le_of_ble_eq_true rfl)) dX1_tellingCover_51 ⟨Nat.zero_le _, Nat.zero_le _⟩) hP hS hA (fun r_51 H locs er_51 hP hS => ?_)
        subst er_51
        refine lv_if_eq (tgt := 61) hx hb dX1_tellingCover_54 (by decide) (fun c_54 => ?_) (fun c_54 => ?_)
        · skip
          refine lv_iinc (v := nI (j + 1)) (lv' := [(5, .int (nI (j + 1))), (0, .ref h0), (1, .int i1), (2, .int i2), (3, .int ((kat 30 cv i1) &&& (kat 30 cv i2))), (4, .int y)]) hx hb dX1_tellingCover_61 hl (k := 5) rfl (nI_1 _) (by decide) rfl (fun ls hl => ?_)
          refine lv_goto (tgt := 24) hx hb dX1_tellingCover_64 (by decide) ?_
          exact ih24 _ _ _ ⟨y, (by subst hI; simp only [ktel, *, if_true, if_false, not_true_eq_false, not_false_eq_true, true_and, false_and, true_or, false_or, reduceIte]), hP, hS, (lv_sub hl [1, 2, 3, 4, 5, 0] rfl)⟩
        · skip
          refine lv_iload hx hb dX1_tellingCover_57 (lv_at hl 5 rfl) ?_
          refine lv_istore (lv' := [(4, .int (nI j)), (0, .ref h0), (1, .int i1), (2, .int i2), (3, .int ((kat 30 cv i1) &&& (kat 30 cv i2))), (5, .int (nI j))]) hx hb dX1_tellingCover_59 hl (by decide) rfl (fun ls hl => ?_)
          refine lv_iinc (v := nI (j + 1)) (lv' := [(5, .int (nI (j + 1))), (4, .int (nI j)), (0, .ref h0), (1, .int i1), (2, .int i2), (3, .int ((kat 30 cv i1) &&& (kat 30 cv i2)))]) hx hb dX1_tellingCover_61 hl (k := 5) rfl (nI_1 _) (by decide) rfl (fun ls hl => ?_)
          refine lv_goto (tgt := 24) hx hb dX1_tellingCover_64 (by decide) ?_
          exact ih24 _ _ _ ⟨(nI j), (by subst hI; simp only [ktel, *, if_true, if_false, not_true_eq_false, not_false_eq_true, true_and, false_and, true_or, false_or, reduceIte]), hP, hS, (lv_sub hl [2, 3, 4, 5, 1, 0] rfl)⟩
  · skip
    intro H locs ls hJ
    obtain ⟨y, hI, hP, hS, hl⟩ := hJ
    refine lv_iload hx hb dX1_tellingCover_24 (lv_at hl 5 rfl) ?_
    refine lv_bipush (v := 30) hx hb dX1_tellingCover_26 (by decide) ?_
    refine lv_icmp_ge (tgt := 67) hx hb dX1_tellingCover_28 (by decide) (fun _ => ?_) (fun hc => absurd (nI_le (a := 30) (b := 30) (Nat.le_refl _) (by decide)) hc)
    refine lv_iload hx hb dX1_tellingCover_67 (lv_at hl 4 rfl) ?_
    exact ke_R hx hb hr hlocks hS dX1_tellingCover_69 (hI)
set_option maxHeartbeats 4000000 in
set_option maxRecDepth 100000 in
theorem c_X1_stepsBetween (l : Launch) (D : va_G) (cI : ClassId) (h0 h2 h3 h4 h5 h6 h7 h8 : Nat) (ad : Int32) (pr : Int32) (ps : Nat → Int32) (cs : Nat → Int32) (cv : Nat → Int32) (ms : Nat → Int32) (dp : Nat → Int32) (sx : Nat → Int32) (wk : Nat → Int32) (i1 : Int32) (i2 : Int32) : kc_R l yX1_stepsBetween wsX1_stepsBetween 2 41 D cI [.ref h0, .int i1, .int i2] [(h0, .inr (1, [.int ad, .int pr, .ref h2, .ref h3, .ref h4, .ref h5, .ref h6, .ref h7, .ref h8])), (h2, .inl (cI, 30, .inl ps)), (h3, .inl (cI, 30, .inl cs)), (h4, .inl (cI, 30, .inl cv)), (h5, .inl (cI, 30, .inl ms)), (h6, .inl (cI, 30, .inl dp)), (h7, .inl (cI, 900, .inl sx)), (h8, .inl (cI, 30, .inl wk))] (fun r => r = ksbt sx i1 i2 (kat 30 cv i1 &&& kat 30 cv i2) 30) := by
  refine ks_R (cc := cX1_stepsBetween) (nL := 7) (ret := (some .int)) (by decide) rfl (Nat.le_of_ble_eq_true rfl) ?_
  intro p e s m below meth c ls hF hP hK hS hA hl
  obtain ⟨hx, hb, hr, hml, hown, hts, hlocks⟩ := hF
  have hown : s.vm.findClass RX1 = some m.cls := hown
  have hl : lv_has ls 7 [(0, .ref h0), (1, .int i1), (2, .int i2)] := hl
  refine lv_aload_n hx hb dX1_stepsBetween_0 rfl (lv_at hl 0 rfl) ?_
  refine va_get (D := D) (ci := 1) (v := .ref h4) (C := RX1) (T := TX1) (N := 9) hx hb hts (fun w h => List.mem_cons_of_mem _ (List.mem_append_right _ (h))) hown hK.1 hP 0 rfl rfl 4 (by decide) (hts (.fieldLink RX1 25 "SenseNet$Net" "coverSets" "[I") (List.mem_of_getElem? (i := 1) rfl)) (fun _ h9 => h9) rfl dX1_stepsBetween_1 ?_
  refine lv_iload_n hx hb dX1_stepsBetween_4 rfl (lv_at hl 1 rfl) ?_
  refine kq_R (va_runSN (As := [.ref h4, .int i1]) (rest := []) ⟨hx, hb, hml, hown, hts⟩ (c_X3_at l D cI h4 30 cv i1 (by decide) _) ⟨va_cnB 2 hts gX1_stepsBetween_X3_at_n44 rfl rfl rfl hK.2.2.2.2.1 (hts (.initialized RX3) (List.mem_of_getElem? (i := 8) rfl)) (by decide +kernel) ⟨Nat.le_of_ble_eq_true rfl, Nat.le_of_ble_eq_true rfl⟩, (hts (.static yX3_at) (List.mem_of_getElem? (i := 7) rfl)), trivial⟩ (kp_RS (hP.sub (ws' := [(h4, .inl (cI, 30, .inl cv))]) [3] rfl) hK) rfl rfl hl.1 rfl (lv_room (Nat.le_of_ble_eq_true rfl)) dX1_stepsBetween_5 ⟨Nat.zero_le _, Nat.zero_le _⟩) hP hS hA (fun r_5 H locs er_5 hP hS => ?_)
  subst er_5
  refine lv_aload_n hx hb dX1_stepsBetween_8 rfl (lv_at hl 0 rfl) ?_
  refine va_get (D := D) (ci := 1) (v := .ref h4) (C := RX1) (T := TX1) (N := 9) hx hb hts (fun w h => List.mem_cons_of_mem _ (List.mem_append_right _ (h))) hown hK.1 hP 0 rfl rfl 4 (by decide) (hts (.fieldLink RX1 25 "SenseNet$Net" "coverSets" "[I") (List.mem_of_getElem? (i := 1) rfl)) (fun _ h9 => h9) rfl dX1_stepsBetween_9 ?_
  refine lv_iload_n hx hb dX1_stepsBetween_12 rfl (lv_at hl 2 rfl) ?_
  refine kq_R (va_runSN (As := [.ref h4, .int i2]) (rest := [.int (kat 30 cv i1)]) ⟨hx, hb, hml, hown, hts⟩ (c_X3_at l D cI h4 30 cv i2 (by decide) _) ⟨va_cnB 2 hts gX1_stepsBetween_X3_at_n44 rfl rfl rfl hK.2.2.2.2.1 (hts (.initialized RX3) (List.mem_of_getElem? (i := 8) rfl)) (by decide +kernel) ⟨Nat.le_of_ble_eq_true rfl, Nat.le_of_ble_eq_true rfl⟩, (hts (.static yX3_at) (List.mem_of_getElem? (i := 7) rfl)), trivial⟩ (kp_RS (hP.sub (ws' := [(h4, .inl (cI, 30, .inl cv))]) [3] rfl) hK) rfl rfl hl.1 rfl (lv_room (Nat.le_of_ble_eq_true rfl)) dX1_stepsBetween_13 ⟨Nat.zero_le _, Nat.zero_le _⟩) hP hS hA (fun r_13 H locs er_13 hP hS => ?_)
  subst er_13
  refine lv_iand hx hb dX1_stepsBetween_16 ?_
  refine lv_istore_n (lv' := [(3, .int ((kat 30 cv i1) &&& (kat 30 cv i2))), (0, .ref h0), (1, .int i1), (2, .int i2)]) hx hb dX1_stepsBetween_17 rfl hl (by decide) rfl (fun ls hl => ?_)
  refine lv_iconst (v := (-1)) hx hb dX1_stepsBetween_18 (by decide) ?_
  refine lv_istore (lv' := [(4, .int (-1)), (3, .int ((kat 30 cv i1) &&& (kat 30 cv i2))), (0, .ref h0), (1, .int i1), (2, .int i2)]) hx hb dX1_stepsBetween_19 hl (by decide) rfl (fun ls hl => ?_)
  refine lv_iconst (v := 0) hx hb dX1_stepsBetween_21 (by decide) ?_
  refine lv_istore (lv' := [(5, .int 0), (4, .int (-1)), (3, .int ((kat 30 cv i1) &&& (kat 30 cv i2))), (0, .ref h0), (1, .int i1), (2, .int i2)]) hx hb dX1_stepsBetween_22 hl (by decide) rfl (fun ls hl => ?_)
  refine kl_for (head := 24) (N := 30) (fun (j : Nat) (H : Heap) (locs : List Loc) (ls : Array Slot) => ∃ (y : Int32), (y = ksbt sx i1 i2 (kat 30 cv i1 &&& kat 30 cv i2) j) ∧ va_P D vwCl [(h0, .inr (1, [.int ad, .int pr, .ref h2, .ref h3, .ref h4, .ref h5, .ref h6, .ref h7, .ref h8])), (h2, .inl (cI, 30, .inl ps)), (h3, .inl (cI, 30, .inl cs)), (h4, .inl (cI, 30, .inl cv)), (h5, .inl (cI, 30, .inl ms)), (h6, .inl (cI, 30, .inl dp)), (h7, .inl (cI, 900, .inl sx)), (h8, .inl (cI, 30, .inl wk))] H ∧ va_S (va_A [] s.heap.size) s.heap H locs ∧ lv_has ls 7 [(0, .ref h0), (1, .int i1), (2, .int i2), (3, .int ((kat 30 cv i1) &&& (kat 30 cv i2))), (4, .int y), (5, .int (nI j))]) 0 (Nat.zero_le _) ?_ ?_ ⟨(-1), (rfl), hP, hS, (lv_sub hl [3, 4, 5, 2, 1, 0] rfl)⟩
  · skip
    intro j hj H locs ls hJ ih24
    obtain ⟨y, hI, hP, hS, hl⟩ := hJ
    refine lv_iload hx hb dX1_stepsBetween_24 (lv_at hl 5 rfl) ?_
    refine lv_bipush (v := 30) hx hb dX1_stepsBetween_26 (by decide) ?_
    refine lv_icmp_ge (tgt := 97) hx hb dX1_stepsBetween_28 (by decide) (fun hc => absurd hc (nI_ge (b := 30) hj (by decide))) (fun _ => ?_)
    refine lv_iload_n hx hb dX1_stepsBetween_31 rfl (lv_at hl 3 rfl) ?_
    refine lv_iload hx hb dX1_stepsBetween_32 (lv_at hl 5 rfl) ?_
    refine kq_R (va_runSN (As := [.int ((kat 30 cv i1) &&& (kat 30 cv i2)), .int (nI j)]) (rest := []) ⟨hx, hb, hml, hown, hts⟩ (c_X3_holds l D cI ((kat 30 cv i1) &&& (kat 30 cv i2)) (nI j) _) ⟨va_cnB 2 hts gX1_stepsBetween_X3_holds_n40 rfl rfl rfl hK.2.2.2.1 (hts (.initialized RX3) (List.mem_of_getElem? (i := 8) rfl)) (by decide +kernel) ⟨Nat.le_of_ble_eq_true rfl, Nat.le_of_ble_eq_true rfl⟩, (hts (.static yX3_holds) (List.mem_of_getElem? (i := 10) rfl)), trivial⟩ (kp_RS (hP.sub (ws' := []) [] rfl) hK) rfl rfl hl.1 rfl (lv_room (Nat.le_of_ble_eq_true rfl)) dX1_stepsBetween_34 ⟨Nat.zero_le _, Nat.zero_le _⟩) hP hS hA (fun r_34 H locs er_34 hP hS => ?_)
    subst er_34
    refine lv_if_eq (tgt := 91) hx hb dX1_stepsBetween_37 (by decide) (fun c_37 => ?_) (fun c_37 => ?_)
    · skip
      refine lv_iinc (v := nI (j + 1)) (lv' := [(5, .int (nI (j + 1))), (0, .ref h0), (1, .int i1), (2, .int i2), (3, .int ((kat 30 cv i1) &&& (kat 30 cv i2))), (4, .int y)]) hx hb dX1_stepsBetween_91 hl (k := 5) rfl (nI_1 _) (by decide) rfl (fun ls hl => ?_)
      refine lv_goto (tgt := 24) hx hb dX1_stepsBetween_94 (by decide) ?_
      exact ih24 _ _ _ ⟨y, (by subst hI; simp only [ksbt, *, if_true, if_false, not_true_eq_false, not_false_eq_true, reduceIte]), hP, hS, (lv_sub hl [1, 2, 3, 4, 5, 0] rfl)⟩
    · skip
      refine lv_aload_n hx hb dX1_stepsBetween_40 rfl (lv_at hl 0 rfl) ?_
      refine va_get (D := D) (ci := 1) (v := .ref h7) (C := RX1) (T := TX1) (N := 9) hx hb hts (fun w h => List.mem_cons_of_mem _ (List.mem_append_right _ (h))) hown hK.1 hP 0 rfl rfl 7 (by decide) (hts (.fieldLink RX1 34 "SenseNet$Net" "steps" "[I") (List.mem_of_getElem? (i := 2) rfl)) (fun _ h9 => h9) rfl dX1_stepsBetween_41 ?_
      refine lv_iload_n hx hb dX1_stepsBetween_44 rfl (lv_at hl 1 rfl) ?_
      refine lv_bipush (v := 30) hx hb dX1_stepsBetween_45 (by decide) ?_
      refine lv_imul hx hb dX1_stepsBetween_47 ?_
      refine lv_iload hx hb dX1_stepsBetween_48 (lv_at hl 5 rfl) ?_
      refine lv_iadd hx hb dX1_stepsBetween_50 ?_
      refine kq_R (va_runSN (As := [.ref h7, .int ((i1 * 30) + (nI j))]) (rest := []) ⟨hx, hb, hml, hown, hts⟩ (c_X3_at l D cI h7 900 sx ((i1 * 30) + (nI j)) (by decide) _) ⟨va_cnB 2 hts gX1_stepsBetween_X3_at_n44 rfl rfl rfl hK.2.2.2.2.1 (hts (.initialized RX3) (List.mem_of_getElem? (i := 8) rfl)) (by decide +kernel) ⟨Nat.le_of_ble_eq_true rfl, Nat.le_of_ble_eq_true rfl⟩, (hts (.static yX3_at) (List.mem_of_getElem? (i := 7) rfl)), trivial⟩ (kp_RS (hP.sub (ws' := [(h7, .inl (cI, 900, .inl sx))]) [6] rfl) hK) rfl rfl hl.1 rfl (lv_room (Nat.le_of_ble_eq_true rfl)) dX1_stepsBetween_51 ⟨Nat.zero_le _, Nat.zero_le _⟩) hP hS hA (fun r_51 H locs er_51 hP hS => ?_)
      subst er_51
      refine lv_aload_n hx hb dX1_stepsBetween_54 rfl (lv_at hl 0 rfl) ?_
      refine va_get (D := D) (ci := 1) (v := .ref h7) (C := RX1) (T := TX1) (N := 9) hx hb hts (fun w h => List.mem_cons_of_mem _ (List.mem_append_right _ (h))) hown hK.1 hP 0 rfl rfl 7 (by decide) (hts (.fieldLink RX1 34 "SenseNet$Net" "steps" "[I") (List.mem_of_getElem? (i := 2) rfl)) (fun _ h9 => h9) rfl dX1_stepsBetween_55 ?_
      refine lv_iload_n hx hb dX1_stepsBetween_58 rfl (lv_at hl 2 rfl) ?_
      refine lv_bipush (v := 30) hx hb dX1_stepsBetween_59 (by decide) ?_
      refine lv_imul hx hb dX1_stepsBetween_61 ?_
      refine lv_iload hx hb dX1_stepsBetween_62 (lv_at hl 5 rfl) ?_
      refine lv_iadd hx hb dX1_stepsBetween_64 ?_
      refine kq_R (va_runSN (As := [.ref h7, .int ((i2 * 30) + (nI j))]) (rest := [.int (kat 900 sx ((i1 * 30) + (nI j)))]) ⟨hx, hb, hml, hown, hts⟩ (c_X3_at l D cI h7 900 sx ((i2 * 30) + (nI j)) (by decide) _) ⟨va_cnB 2 hts gX1_stepsBetween_X3_at_n44 rfl rfl rfl hK.2.2.2.2.1 (hts (.initialized RX3) (List.mem_of_getElem? (i := 8) rfl)) (by decide +kernel) ⟨Nat.le_of_ble_eq_true rfl, Nat.le_of_ble_eq_true rfl⟩, (hts (.static yX3_at) (List.mem_of_getElem? (i := 7) rfl)), trivial⟩ (kp_RS (hP.sub (ws' := [(h7, .inl (cI, 900, .inl sx))]) [6] rfl) hK) rfl rfl hl.1 rfl (lv_room (Nat.le_of_ble_eq_true rfl)) dX1_stepsBetween_65 ⟨Nat.zero_le _, Nat.zero_le _⟩) hP hS hA (fun r_65 H locs er_65 hP hS => ?_)
      subst er_65
      refine lv_iadd hx hb dX1_stepsBetween_68 ?_
      refine lv_istore (lv' := [(6, .int ((kat 900 sx ((i1 * 30) + (nI j))) + (kat 900 sx ((i2 * 30) + (nI j))))), (0, .ref h0), (1, .int i1), (2, .int i2), (3, .int ((kat 30 cv i1) &&& (kat 30 cv i2))), (4, .int y), (5, .int (nI j))]) hx hb dX1_stepsBetween_69 hl (by decide) rfl (fun ls hl => ?_)
      refine lv_iload hx hb dX1_stepsBetween_71 (lv_at hl 5 rfl) ?_
      refine lv_iconst (v := (-1)) hx hb dX1_stepsBetween_73 (by decide) ?_
      refine lv_icmp_ne (tgt := 82) hx hb dX1_stepsBetween_74 (by decide) (fun c_74 => ?_) (fun c_74 => ?_)
      · skip
        refine lv_iload hx hb dX1_stepsBetween_82 (lv_at hl 5 rfl) ?_
        refine lv_iload hx hb dX1_stepsBetween_84 (lv_at hl 0 rfl) ?_
        refine va_mmin hx hb (hml.trans hl.1.symm) hown (hts (.methodLink RX1 107 Lib.Math.min.name) (List.mem_of_getElem? (i := 3) rfl)) (hts (.static Lib.Math.min.name) (List.mem_of_getElem? (i := 4) rfl)) (hts (.initialized "java/lang/Math") (List.mem_of_getElem? (i := 5) rfl)) (hts (.code Lib.Math.min.name Lib.Math.min.code 2 (some .int)) (List.mem_of_getElem? (i := 6) rfl)) (Nat.le_of_ble_eq_true rfl) (Nat.le_of_ble_eq_true rfl) (Nat.zero_le _) (Nat.zero_le _) dX1_stepsBetween_86 ?_
        refine lv_istore (lv' := [(4, .int (if ((kat 900 sx ((i1 * 30) + (nI j))) + (kat 900 sx ((i2 * 30) + (nI j)))) < y then ((kat 900 sx ((i1 * 30) + (nI j))) + (kat 900 sx ((i2 * 30) + (nI j)))) else y)), (6, .int ((kat 900 sx ((i1 * 30) + (nI j))) + (kat 900 sx ((i2 * 30) + (nI j))))), (0, .ref h0), (1, .int i1), (2, .int i2), (3, .int ((kat 30 cv i1) &&& (kat 30 cv i2))), (5, .int (nI j))]) hx hb dX1_stepsBetween_89 hl (by decide) rfl (fun ls hl => ?_)
        refine lv_iinc (v := nI (j + 1)) (lv' := [(5, .int (nI (j + 1))), (4, .int (if ((kat 900 sx ((i1 * 30) + (nI j))) + (kat 900 sx ((i2 * 30) + (nI j)))) < y then ((kat 900 sx ((i1 * 30) + (nI j))) + (kat 900 sx ((i2 * 30) + (nI j)))) else y)), (6, .int ((kat 900 sx ((i1 * 30) + (nI j))) + (kat 900 sx ((i2 * 30) + (nI j))))), (0, .ref h0), (1, .int i1), (2, .int i2), (3, .int ((kat 30 cv i1) &&& (kat 30 cv i2)))]) hx hb dX1_stepsBetween_91 hl (k := 6) rfl (nI_1 _) (by decide) rfl (fun ls hl => ?_)
        refine lv_goto (tgt := 24) hx hb dX1_stepsBetween_94 (by decide) ?_
        exact ih24 _ _ _ ⟨(if ((kat 900 sx ((i1 * 30) + (nI j))) + (kat 900 sx ((i2 * 30) + (nI j)))) < y then ((kat 900 sx ((i1 * 30) + (nI j))) + (kat 900 sx ((i2 * 30) + (nI j)))) else y), (by subst hI; simp only [ksbt, *, if_true, if_false, not_true_eq_false, not_false_eq_true, reduceIte]), hP, hS, (lv_sub hl [3, 4, 5, 6, 1, 0] rfl)⟩
      · skip
        refine lv_iload hx hb dX1_stepsBetween_77 (lv_at hl 0 rfl) ?_
        refine lv_goto (tgt := 89) hx hb dX1_stepsBetween_79 (by decide) ?_
        refine lv_istore (lv' := [(4, .int ((kat 900 sx ((i1 * 30) + (nI j))) + (kat 900 sx ((i2 * 30) + (nI j))))), (6, .int ((kat 900 sx ((i1 * 30) + (nI j))) + (kat 900 sx ((i2 * 30) + (nI j))))), (0, .ref h0), (1, .int i1), (2, .int i2), (3, .int ((kat 30 cv i1) &&& (kat 30 cv i2))), (5, .int (nI j))]) hx hb dX1_stepsBetween_89 hl (by decide) rfl (fun ls hl => ?_)
        refine lv_iinc (v := nI (j + 1)) (lv' := [(5, .int (nI (j + 1))), (4, .int ((kat 900 sx ((i1 * 30) + (nI j))) + (kat 900 sx ((i2 * 30) + (nI j))))), (6, .int ((kat 900 sx ((i1 * 30) + (nI j))) + (kat 900 sx ((i2 * 30) + (nI j))))), (0, .ref h0), (1, .int i1), (2, .int i2), (3, .int ((kat 30 cv i1) &&& (kat 30 cv i2)))]) hx hb dX1_stepsBetween_91 hl (k := 6) rfl (nI_1 _) (by decide) rfl (fun ls hl => ?_)
        refine lv_goto (tgt := 24) hx hb dX1_stepsBetween_94 (by decide) ?_
        exact ih24 _ _ _ ⟨((kat 900 sx ((i1 * 30) + (nI j))) + (kat 900 sx ((i2 * 30) + (nI j)))), (by subst hI; simp only [ksbt, *, if_true, if_false, not_true_eq_false, not_false_eq_true, reduceIte]), hP, hS, (lv_sub hl [3, 4, 5, 6, 1, 0] rfl)⟩
  · skip
    intro H locs ls hJ
    obtain ⟨y, hI, hP, hS, hl⟩ := hJ
    refine lv_iload hx hb dX1_stepsBetween_24 (lv_at hl 5 rfl) ?_
    refine lv_bipush (v := 30) hx hb dX1_stepsBetween_26 (by decide) ?_
    refine lv_icmp_ge (tgt := 97) hx hb dX1_stepsBetween_28 (by decide) (fun _ => ?_) (fun hc => absurd (nI_le (a := 30) (b := 30) (Nat.le_refl _) (by decide)) hc)
    refine lv_iload hx hb dX1_stepsBetween_97 (lv_at hl 4 rfl) ?_
    exact ke_R hx hb hr hlocks hS dX1_stepsBetween_99 (hI)
set_option maxHeartbeats 4000000 in
set_option maxRecDepth 100000 in
theorem c_X1_quotient (l : Launch) (D : va_G) (cI : ClassId) (i1 : Int32) (i2 : Int32) : kc_R l yX1_quotient wsX1_quotient 0 0 D cI [.int i1, .int i2] [] (fun r => r = kquo i1 i2) := by
  refine ks_R (cc := cX1_quotient) (nL := 2) (ret := (some .int)) (by decide) rfl (Nat.le_of_ble_eq_true rfl) ?_
  intro p e s m below meth c ls hF hP hK hS hA hl
  obtain ⟨hx, hb, hr, hml, hown, hts, hlocks⟩ := hF
  have hown : s.vm.findClass RX1 = some m.cls := hown
  have hl : lv_has ls 2 [(0, .int i1), (1, .int i2)] := hl
  refine lv_iload_n hx hb dX1_quotient_0 rfl (lv_at hl 1 rfl) ?_
  refine lv_if_le (tgt := 10) hx hb dX1_quotient_1 (by decide) (fun c_1 => ?_) (fun c_1 => ?_)
  · skip
    refine lv_iconst (v := 0) hx hb dX1_quotient_10 (by decide) ?_
    exact ke_R hx hb hr hlocks hS dX1_quotient_11 (by unfold kquo; first | rw [if_pos c_1] | rw [if_neg c_1])
  · skip
    refine lv_iload_n hx hb dX1_quotient_4 rfl (lv_at hl 0 rfl) ?_
    refine lv_iload_n hx hb dX1_quotient_5 rfl (lv_at hl 1 rfl) ?_
    refine lv_idiv hx hb dX1_quotient_6 (fun h => c_1 (by rw [h]; exact Int32.le_refl 0)) ?_
    refine lv_goto (tgt := 11) hx hb dX1_quotient_7 (by decide) ?_
    exact ke_R hx hb hr hlocks hS dX1_quotient_11 (by unfold kquo; first | rw [if_pos c_1] | rw [if_neg c_1])
set_option maxHeartbeats 4000000 in
set_option maxRecDepth 100000 in
theorem c_X1_alike (l : Launch) (D : va_G) (cI : ClassId) (h0 h2 h3 h4 h5 h6 h7 h8 : Nat) (ad : Int32) (pr : Int32) (ps : Nat → Int32) (cs : Nat → Int32) (cv : Nat → Int32) (ms : Nat → Int32) (dp : Nat → Int32) (sx : Nat → Int32) (wk : Nat → Int32) (i1 : Int32) (i2 : Int32) (i3 : Int32) : kc_R l yX1_alike wsX1_alike 3 70 D cI [.ref h0, .int i1, .int i2, .int i3] [(h0, .inr (1, [.int ad, .int pr, .ref h2, .ref h3, .ref h4, .ref h5, .ref h6, .ref h7, .ref h8])), (h2, .inl (cI, 30, .inl ps)), (h3, .inl (cI, 30, .inl cs)), (h4, .inl (cI, 30, .inl cv)), (h5, .inl (cI, 30, .inl ms)), (h6, .inl (cI, 30, .inl dp)), (h7, .inl (cI, 900, .inl sx)), (h8, .inl (cI, 30, .inl wk))] (fun r => r = kali pr cs cv ms dp sx i1 i2 i3) := by
  refine ks_R (cc := cX1_alike) (nL := 6) (ret := (some .int)) (by decide) rfl (Nat.le_of_ble_eq_true rfl) ?_
  intro p e s m below meth c ls hF hP hK hS hA hl
  obtain ⟨hx, hb, hr, hml, hown, hts, hlocks⟩ := hF
  have hown : s.vm.findClass RX1 = some m.cls := hown
  have hl : lv_has ls 6 [(0, .ref h0), (1, .int i1), (2, .int i2), (3, .int i3)] := hl
  refine lv_aload_n hx hb dX1_alike_0 rfl (lv_at hl 0 rfl) ?_
  refine lv_iload_n hx hb dX1_alike_1 rfl (lv_at hl 1 rfl) ?_
  refine lv_iload_n hx hb dX1_alike_2 rfl (lv_at hl 2 rfl) ?_
  refine kq_R (va_runV (As := [.int i1, .int i2]) (rest := []) ⟨hx, hb, hml, hown, hts⟩ (c_X1_tellingCover l D cI h0 h2 h3 h4 h5 h6 h7 h8 ad pr ps cs cv ms dp sx wk i1 i2 _) (cwV 2 hts gX1_alike_X1_tellingCover rfl rfl rfl (by decide +kernel) ⟨Nat.le_of_ble_eq_true rfl, Nat.le_of_ble_eq_true rfl⟩) (kp_RV (hP.sub (ws' := [(h0, .inr (1, [.int ad, .int pr, .ref h2, .ref h3, .ref h4, .ref h5, .ref h6, .ref h7, .ref h8])), (h2, .inl (cI, 30, .inl ps)), (h3, .inl (cI, 30, .inl cs)), (h4, .inl (cI, 30, .inl cv)), (h5, .inl (cI, 30, .inl ms)), (h6, .inl (cI, 30, .inl dp)), (h7, .inl (cI, 900, .inl sx)), (h8, .inl (cI, 30, .inl wk))]) [0, 1, 2, 3, 4, 5, 6, 7] rfl) hK 0 1 rfl rfl) rfl rfl hl.1 rfl (lv_room (Nat.le_of_ble_eq_true rfl)) dX1_alike_3 ⟨Nat.zero_le _, Nat.zero_le _⟩) hP hS hA (fun r_3 H locs er_3 hP hS => ?_)
  subst er_3
  refine lv_istore (lv' := [(4, .int (ktel ms dp (kat 30 cv i1 &&& kat 30 cv i2) 30)), (0, .ref h0), (1, .int i1), (2, .int i2), (3, .int i3)]) hx hb dX1_alike_6 hl (by decide) rfl (fun ls hl => ?_)
  refine lv_iload hx hb dX1_alike_8 (lv_at hl 0 rfl) ?_
  refine lv_iconst (v := (-1)) hx hb dX1_alike_10 (by decide) ?_
  refine lv_icmp_ne (tgt := 16) hx hb dX1_alike_11 (by decide) (fun c_11 => ?_) (fun c_11 => ?_)
  · skip
    refine lv_iload_n hx hb dX1_alike_16 rfl (lv_at hl 4 rfl) ?_
    refine lv_if_ne (tgt := 35) hx hb dX1_alike_17 (by decide) (fun c_17 => ?_) (fun c_17 => ?_)
    · skip
      refine lv_iload_n hx hb dX1_alike_35 rfl (lv_at hl 4 rfl) ?_
      refine lv_iconst (v := 1) hx hb dX1_alike_36 (by decide) ?_
      refine lv_icmp_ne (tgt := 90) hx hb dX1_alike_37 (by decide) (fun c_37 => ?_) (fun c_37 => ?_)
      · skip
        refine lv_aload_n hx hb dX1_alike_90 rfl (lv_at hl 1 rfl) ?_
        refine lv_aload_n hx hb dX1_alike_91 rfl (lv_at hl 1 rfl) ?_
        refine va_get (D := D) (ci := 1) (v := .int pr) (C := RX1) (T := TX1) (N := 9) hx hb hts (fun w h => List.mem_cons_of_mem _ (List.mem_append_right _ (h))) hown hK.1 hP 0 rfl rfl 1 (by decide) (hts (.fieldLink RX1 15 "SenseNet$Net" "present" "I") (List.mem_of_getElem? (i := 6) rfl)) (fun _ h9 => h9) rfl dX1_alike_92 ?_
        refine kq_R (va_runV (As := [.int pr]) (rest := []) ⟨hx, hb, hml, hown, hts⟩ (c_X1_countOfAll l D cI h0 h2 h3 h4 h5 h6 h7 h8 ad pr ps cs cv ms dp sx wk pr _) (cwV 1 hts gX1_alike_X1_countOfAll rfl rfl rfl (by decide +kernel) ⟨Nat.le_of_ble_eq_true rfl, Nat.le_of_ble_eq_true rfl⟩) (kp_RV (hP.sub (ws' := [(h0, .inr (1, [.int ad, .int pr, .ref h2, .ref h3, .ref h4, .ref h5, .ref h6, .ref h7, .ref h8])), (h2, .inl (cI, 30, .inl ps)), (h3, .inl (cI, 30, .inl cs)), (h4, .inl (cI, 30, .inl cv)), (h5, .inl (cI, 30, .inl ms)), (h6, .inl (cI, 30, .inl dp)), (h7, .inl (cI, 900, .inl sx)), (h8, .inl (cI, 30, .inl wk))]) [0, 1, 2, 3, 4, 5, 6, 7] rfl) hK 0 1 rfl rfl) rfl rfl hl.1 rfl (lv_room (Nat.le_of_ble_eq_true rfl)) dX1_alike_95 ⟨Nat.zero_le _, Nat.zero_le _⟩) hP hS hA (fun r_95 H locs er_95 hP hS => ?_)
        subst er_95
        refine lv_istore (lv' := [(5, .int (kcoa cs pr 30)), (4, .int (ktel ms dp (kat 30 cv i1 &&& kat 30 cv i2) 30)), (0, .ref h0), (1, .int i1), (2, .int i2), (3, .int i3)]) hx hb dX1_alike_98 hl (by decide) rfl (fun ls hl => ?_)
        refine lv_sipush (v := 10000) hx hb dX1_alike_100 (by decide) ?_
        refine lv_iload hx hb dX1_alike_103 (lv_at hl 0 rfl) ?_
        refine lv_aload_n hx hb dX1_alike_105 rfl (lv_at hl 2 rfl) ?_
        refine va_get (D := D) (ci := 1) (v := .ref h5) (C := RX1) (T := TX1) (N := 9) hx hb hts (fun w h => List.mem_cons_of_mem _ (List.mem_append_right _ (h))) hown hK.1 hP 0 rfl rfl 5 (by decide) (hts (.fieldLink RX1 28 "SenseNet$Net" "masses" "[I") (List.mem_of_getElem? (i := 7) rfl)) (fun _ h9 => h9) rfl dX1_alike_106 ?_
        refine lv_iload hx hb dX1_alike_109 (lv_at hl 1 rfl) ?_
        refine kq_R (va_runSN (As := [.ref h5, .int (ktel ms dp (kat 30 cv i1 &&& kat 30 cv i2) 30)]) (rest := [.int (kcoa cs pr 30), .int 10000]) ⟨hx, hb, hml, hown, hts⟩ (c_X3_at l D cI h5 30 ms (ktel ms dp (kat 30 cv i1 &&& kat 30 cv i2) 30) (by decide) _) ⟨va_cnB 2 hts gX1_alike_X3_at_n44 rfl rfl rfl hK.2.2.2.2.1 (hts (.initialized RX3) (List.mem_of_getElem? (i := 15) rfl)) (by decide +kernel) ⟨Nat.le_of_ble_eq_true rfl, Nat.le_of_ble_eq_true rfl⟩, (hts (.static yX3_at) (List.mem_of_getElem? (i := 14) rfl)), trivial⟩ (kp_RS (hP.sub (ws' := [(h5, .inl (cI, 30, .inl ms))]) [4] rfl) hK) rfl rfl hl.1 rfl (lv_room (Nat.le_of_ble_eq_true rfl)) dX1_alike_111 ⟨Nat.zero_le _, Nat.zero_le _⟩) hP hS hA (fun r_111 H locs er_111 hP hS => ?_)
        subst er_111
        refine lv_isub hx hb dX1_alike_114 ?_
        refine lv_imul hx hb dX1_alike_115 ?_
        refine lv_iload hx hb dX1_alike_116 (lv_at hl 0 rfl) ?_
        refine kq_R (va_runS (As := [.int (10000 * ((kcoa cs pr 30) - (kat 30 ms (ktel ms dp (kat 30 cv i1 &&& kat 30 cv i2) 30)))), .int (kcoa cs pr 30)]) (rest := []) ⟨hx, hb, hml, hown, hts⟩ (c_X1_quotient l D cI (10000 * ((kcoa cs pr 30) - (kat 30 ms (ktel ms dp (kat 30 cv i1 &&& kat 30 cv i2) 30)))) (kcoa cs pr 30) _) (va_cwS 2 hts gX1_alike_X1_quotient rfl rfl rfl (by decide +kernel) ⟨Nat.le_of_ble_eq_true rfl, Nat.le_of_ble_eq_true rfl⟩) (kp_RS (hP.sub (ws' := []) [] rfl) hK) rfl rfl hl.1 rfl (lv_room (Nat.le_of_ble_eq_true rfl)) dX1_alike_118 ⟨Nat.zero_le _, Nat.zero_le _⟩) hP hS hA (fun r_118 H locs er_118 hP hS => ?_)
        subst er_118
        exact ke_R hx hb hr hlocks hS dX1_alike_121 (by unfold kali; rw [if_neg c_11, if_neg c_17, if_neg c_37])
      · skip
        refine lv_aload_n hx hb dX1_alike_40 rfl (lv_at hl 1 rfl) ?_
        refine va_get (D := D) (ci := 1) (v := .ref h6) (C := RX1) (T := TX1) (N := 9) hx hb hts (fun w h => List.mem_cons_of_mem _ (List.mem_append_right _ (h))) hown hK.1 hP 0 rfl rfl 6 (by decide) (hts (.fieldLink RX1 31 "SenseNet$Net" "depths" "[I") (List.mem_of_getElem? (i := 1) rfl)) (fun _ h9 => h9) rfl dX1_alike_41 ?_
        refine lv_iload_n hx hb dX1_alike_44 rfl (lv_at hl 2 rfl) ?_
        refine kq_R (va_runSN (As := [.ref h6, .int i1]) (rest := []) ⟨hx, hb, hml, hown, hts⟩ (c_X3_at l D cI h6 30 dp i1 (by decide) _) ⟨va_cnB 2 hts gX1_alike_X3_at_n44 rfl rfl rfl hK.2.2.2.2.1 (hts (.initialized RX3) (List.mem_of_getElem? (i := 15) rfl)) (by decide +kernel) ⟨Nat.le_of_ble_eq_true rfl, Nat.le_of_ble_eq_true rfl⟩, (hts (.static yX3_at) (List.mem_of_getElem? (i := 14) rfl)), trivial⟩ (kp_RS (hP.sub (ws' := [(h6, .inl (cI, 30, .inl dp))]) [5] rfl) hK) rfl rfl hl.1 rfl (lv_room (Nat.le_of_ble_eq_true rfl)) dX1_alike_45 ⟨Nat.zero_le _, Nat.zero_le _⟩) hP hS hA (fun r_45 H locs er_45 hP hS => ?_)
        subst er_45
        refine lv_iconst (v := 1) hx hb dX1_alike_48 (by decide) ?_
        refine lv_iadd hx hb dX1_alike_49 ?_
        refine lv_aload_n hx hb dX1_alike_50 rfl (lv_at hl 1 rfl) ?_
        refine va_get (D := D) (ci := 1) (v := .ref h6) (C := RX1) (T := TX1) (N := 9) hx hb hts (fun w h => List.mem_cons_of_mem _ (List.mem_append_right _ (h))) hown hK.1 hP 0 rfl rfl 6 (by decide) (hts (.fieldLink RX1 31 "SenseNet$Net" "depths" "[I") (List.mem_of_getElem? (i := 1) rfl)) (fun _ h9 => h9) rfl dX1_alike_51 ?_
        refine lv_iload_n hx hb dX1_alike_54 rfl (lv_at hl 3 rfl) ?_
        refine kq_R (va_runSN (As := [.ref h6, .int i2]) (rest := [.int ((kat 30 dp i1) + 1)]) ⟨hx, hb, hml, hown, hts⟩ (c_X3_at l D cI h6 30 dp i2 (by decide) _) ⟨va_cnB 2 hts gX1_alike_X3_at_n44 rfl rfl rfl hK.2.2.2.2.1 (hts (.initialized RX3) (List.mem_of_getElem? (i := 15) rfl)) (by decide +kernel) ⟨Nat.le_of_ble_eq_true rfl, Nat.le_of_ble_eq_true rfl⟩, (hts (.static yX3_at) (List.mem_of_getElem? (i := 14) rfl)), trivial⟩ (kp_RS (hP.sub (ws' := [(h6, .inl (cI, 30, .inl dp))]) [5] rfl) hK) rfl rfl hl.1 rfl (lv_room (Nat.le_of_ble_eq_true rfl)) dX1_alike_55 ⟨Nat.zero_le _, Nat.zero_le _⟩) hP hS hA (fun r_55 H locs er_55 hP hS => ?_)
        subst er_55
        refine lv_iadd hx hb dX1_alike_58 ?_
        refine lv_iconst (v := 1) hx hb dX1_alike_59 (by decide) ?_
        refine lv_iadd hx hb dX1_alike_60 ?_
        refine lv_istore (lv' := [(5, .int ((((kat 30 dp i1) + 1) + (kat 30 dp i2)) + 1)), (4, .int (ktel ms dp (kat 30 cv i1 &&& kat 30 cv i2) 30)), (0, .ref h0), (1, .int i1), (2, .int i2), (3, .int i3)]) hx hb dX1_alike_61 hl (by decide) rfl (fun ls hl => ?_)
        refine lv_sipush (v := 10000) hx hb dX1_alike_63 (by decide) ?_
        refine lv_sipush (v := 20000) hx hb dX1_alike_66 (by decide) ?_
        refine lv_aload_n hx hb dX1_alike_69 rfl (lv_at hl 2 rfl) ?_
        refine va_get (D := D) (ci := 1) (v := .ref h6) (C := RX1) (T := TX1) (N := 9) hx hb hts (fun w h => List.mem_cons_of_mem _ (List.mem_append_right _ (h))) hown hK.1 hP 0 rfl rfl 6 (by decide) (hts (.fieldLink RX1 31 "SenseNet$Net" "depths" "[I") (List.mem_of_getElem? (i := 1) rfl)) (fun _ h9 => h9) rfl dX1_alike_70 ?_
        refine lv_iload hx hb dX1_alike_73 (lv_at hl 1 rfl) ?_
        refine kq_R (va_runSN (As := [.ref h6, .int (ktel ms dp (kat 30 cv i1 &&& kat 30 cv i2) 30)]) (rest := [.int 20000, .int 10000]) ⟨hx, hb, hml, hown, hts⟩ (c_X3_at l D cI h6 30 dp (ktel ms dp (kat 30 cv i1 &&& kat 30 cv i2) 30) (by decide) _) ⟨va_cnB 2 hts gX1_alike_X3_at_n44 rfl rfl rfl hK.2.2.2.2.1 (hts (.initialized RX3) (List.mem_of_getElem? (i := 15) rfl)) (by decide +kernel) ⟨Nat.le_of_ble_eq_true rfl, Nat.le_of_ble_eq_true rfl⟩, (hts (.static yX3_at) (List.mem_of_getElem? (i := 14) rfl)), trivial⟩ (kp_RS (hP.sub (ws' := [(h6, .inl (cI, 30, .inl dp))]) [5] rfl) hK) rfl rfl hl.1 rfl (lv_room (Nat.le_of_ble_eq_true rfl)) dX1_alike_75 ⟨Nat.zero_le _, Nat.zero_le _⟩) hP hS hA (fun r_75 H locs er_75 hP hS => ?_)
        subst er_75
        refine lv_iconst (v := 1) hx hb dX1_alike_78 (by decide) ?_
        refine lv_iadd hx hb dX1_alike_79 ?_
        refine lv_imul hx hb dX1_alike_80 ?_
        refine lv_iload hx hb dX1_alike_81 (lv_at hl 0 rfl) ?_
        refine kq_R (va_runS (As := [.int (20000 * ((kat 30 dp (ktel ms dp (kat 30 cv i1 &&& kat 30 cv i2) 30)) + 1)), .int ((((kat 30 dp i1) + 1) + (kat 30 dp i2)) + 1)]) (rest := [.int 10000]) ⟨hx, hb, hml, hown, hts⟩ (c_X1_quotient l D cI (20000 * ((kat 30 dp (ktel ms dp (kat 30 cv i1 &&& kat 30 cv i2) 30)) + 1)) ((((kat 30 dp i1) + 1) + (kat 30 dp i2)) + 1) _) (va_cwS 2 hts gX1_alike_X1_quotient rfl rfl rfl (by decide +kernel) ⟨Nat.le_of_ble_eq_true rfl, Nat.le_of_ble_eq_true rfl⟩) (kp_RS (hP.sub (ws' := []) [] rfl) hK) rfl rfl hl.1 rfl (lv_room (Nat.le_of_ble_eq_true rfl)) dX1_alike_83 ⟨Nat.zero_le _, Nat.zero_le _⟩) hP hS hA (fun r_83 H locs er_83 hP hS => ?_)
        subst er_83
        refine va_mmin hx hb (hml.trans hl.1.symm) hown (hts (.methodLink RX1 107 Lib.Math.min.name) (List.mem_of_getElem? (i := 2) rfl)) (hts (.static Lib.Math.min.name) (List.mem_of_getElem? (i := 3) rfl)) (hts (.initialized "java/lang/Math") (List.mem_of_getElem? (i := 4) rfl)) (hts (.code Lib.Math.min.name Lib.Math.min.code 2 (some .int)) (List.mem_of_getElem? (i := 5) rfl)) (Nat.le_of_ble_eq_true rfl) (Nat.le_of_ble_eq_true rfl) (Nat.zero_le _) (Nat.zero_le _) dX1_alike_86 ?_
        exact ke_R hx hb hr hlocks hS dX1_alike_89 (by unfold kali; rw [if_neg c_11, if_neg c_17, if_pos c_37]; rfl)
    · skip
      refine lv_sipush (v := 10000) hx hb dX1_alike_20 (by decide) ?_
      refine lv_iconst (v := 1) hx hb dX1_alike_23 (by decide) ?_
      refine lv_aload_n hx hb dX1_alike_24 rfl (lv_at hl 1 rfl) ?_
      refine lv_iload_n hx hb dX1_alike_25 rfl (lv_at hl 2 rfl) ?_
      refine lv_iload_n hx hb dX1_alike_26 rfl (lv_at hl 3 rfl) ?_
      refine kq_R (va_runV (As := [.int i1, .int i2]) (rest := [.int 1, .int 10000]) ⟨hx, hb, hml, hown, hts⟩ (c_X1_stepsBetween l D cI h0 h2 h3 h4 h5 h6 h7 h8 ad pr ps cs cv ms dp sx wk i1 i2 _) (cwV 2 hts gX1_alike_X1_stepsBetween rfl rfl rfl (by decide +kernel) ⟨Nat.le_of_ble_eq_true rfl, Nat.le_of_ble_eq_true rfl⟩) (kp_RV (hP.sub (ws' := [(h0, .inr (1, [.int ad, .int pr, .ref h2, .ref h3, .ref h4, .ref h5, .ref h6, .ref h7, .ref h8])), (h2, .inl (cI, 30, .inl ps)), (h3, .inl (cI, 30, .inl cs)), (h4, .inl (cI, 30, .inl cv)), (h5, .inl (cI, 30, .inl ms)), (h6, .inl (cI, 30, .inl dp)), (h7, .inl (cI, 900, .inl sx)), (h8, .inl (cI, 30, .inl wk))]) [0, 1, 2, 3, 4, 5, 6, 7] rfl) hK 0 1 rfl rfl) rfl rfl hl.1 rfl (lv_room (Nat.le_of_ble_eq_true rfl)) dX1_alike_27 ⟨Nat.zero_le _, Nat.zero_le _⟩) hP hS hA (fun r_27 H locs er_27 hP hS => ?_)
      subst er_27
      refine lv_iadd hx hb dX1_alike_30 ?_
      refine kq_R (va_runS (As := [.int 10000, .int (1 + (ksbt sx i1 i2 (kat 30 cv i1 &&& kat 30 cv i2) 30))]) (rest := []) ⟨hx, hb, hml, hown, hts⟩ (c_X1_quotient l D cI 10000 (1 + (ksbt sx i1 i2 (kat 30 cv i1 &&& kat 30 cv i2) 30)) _) (va_cwS 2 hts gX1_alike_X1_quotient rfl rfl rfl (by decide +kernel) ⟨Nat.le_of_ble_eq_true rfl, Nat.le_of_ble_eq_true rfl⟩) (kp_RS (hP.sub (ws' := []) [] rfl) hK) rfl rfl hl.1 rfl (lv_room (Nat.le_of_ble_eq_true rfl)) dX1_alike_31 ⟨Nat.zero_le _, Nat.zero_le _⟩) hP hS hA (fun r_31 H locs er_31 hP hS => ?_)
      subst er_31
      exact ke_R hx hb hr hlocks hS dX1_alike_34 (by unfold kali; rw [if_neg c_11, if_pos c_17])
  · skip
    refine lv_iconst (v := 0) hx hb dX1_alike_14 (by decide) ?_
    exact ke_R hx hb hr hlocks hS dX1_alike_15 (by unfold kali; rw [if_pos c_11])
set_option maxHeartbeats 4000000 in
set_option maxRecDepth 100000 in
theorem c_X1_canLose (l : Launch) (D : va_G) (cI : ClassId) (h0 h2 h3 h4 h5 h6 h7 h8 : Nat) (ad : Int32) (pr : Int32) (ps : Nat → Int32) (cs : Nat → Int32) (cv : Nat → Int32) (ms : Nat → Int32) (dp : Nat → Int32) (sx : Nat → Int32) (wk : Nat → Int32) (i1 : Int32) : kc_R l yX1_canLose wsX1_canLose 3 63 D cI [.ref h0, .int i1] [(h0, .inr (1, [.int ad, .int pr, .ref h2, .ref h3, .ref h4, .ref h5, .ref h6, .ref h7, .ref h8])), (h2, .inl (cI, 30, .inl ps)), (h3, .inl (cI, 30, .inl cs)), (h4, .inl (cI, 30, .inl cv)), (h5, .inl (cI, 30, .inl ms)), (h6, .inl (cI, 30, .inl dp)), (h7, .inl (cI, 900, .inl sx)), (h8, .inl (cI, 30, .inl wk))] (fun r => r = nB (kcan ps i1 30)) := by
  refine ks_R (cc := cX1_canLose) (nL := 3) (ret := (some .boolean)) (by decide) rfl (Nat.le_of_ble_eq_true rfl) ?_
  intro p e s m below meth c ls hF hP hK hS hA hl
  obtain ⟨hx, hb, hr, hml, hown, hts, hlocks⟩ := hF
  have hown : s.vm.findClass RX1 = some m.cls := hown
  have hl : lv_has ls 3 [(0, .ref h0), (1, .int i1)] := hl
  refine lv_iconst (v := 0) hx hb dX1_canLose_0 (by decide) ?_
  refine lv_istore_n (lv' := [(2, .int 0), (0, .ref h0), (1, .int i1)]) hx hb dX1_canLose_1 rfl hl (by decide) rfl (fun ls hl => ?_)
  refine kl_for (head := 2) (N := 30) (fun (j : Nat) (H : Heap) (locs : List Loc) (ls : Array Slot) => (kcan ps i1 j = true) ∧ va_P D vwCl [(h0, .inr (1, [.int ad, .int pr, .ref h2, .ref h3, .ref h4, .ref h5, .ref h6, .ref h7, .ref h8])), (h2, .inl (cI, 30, .inl ps)), (h3, .inl (cI, 30, .inl cs)), (h4, .inl (cI, 30, .inl cv)), (h5, .inl (cI, 30, .inl ms)), (h6, .inl (cI, 30, .inl dp)), (h7, .inl (cI, 900, .inl sx)), (h8, .inl (cI, 30, .inl wk))] H ∧ va_S (va_A [] s.heap.size) s.heap H locs ∧ lv_has ls 3 [(0, .ref h0), (1, .int i1), (2, .int (nI j))]) 0 (Nat.zero_le _) ?_ ?_ ⟨(rfl), hP, hS, (lv_sub hl [1, 2, 0] rfl)⟩
  · skip
    intro j hj H locs ls hJ ih2
    obtain ⟨hI, hP, hS, hl⟩ := hJ
    refine lv_iload_n hx hb dX1_canLose_2 rfl (lv_at hl 2 rfl) ?_
    refine lv_bipush (v := 30) hx hb dX1_canLose_3 (by decide) ?_
    refine lv_icmp_ge (tgt := 38) hx hb dX1_canLose_5 (by decide) (fun hc => absurd hc (nI_ge (b := 30) hj (by decide))) (fun _ => ?_)
    refine lv_aload_n hx hb dX1_canLose_8 rfl (lv_at hl 0 rfl) ?_
    refine lv_iload_n hx hb dX1_canLose_9 rfl (lv_at hl 2 rfl) ?_
    refine lv_iload_n hx hb dX1_canLose_10 rfl (lv_at hl 1 rfl) ?_
    refine kq_R (va_runV (As := [.int (nI j), .int i1]) (rest := []) ⟨hx, hb, hml, hown, hts⟩ (c_X1_isParent l D cI h0 h2 h3 h4 h5 h6 h7 h8 ad pr ps cs cv ms dp sx wk (nI j) i1 _) (cwV 2 hts gX1_canLose_X1_isParent rfl rfl rfl (by decide +kernel) ⟨Nat.le_of_ble_eq_true rfl, Nat.le_of_ble_eq_true rfl⟩) (kp_RV (hP.sub (ws' := [(h0, .inr (1, [.int ad, .int pr, .ref h2, .ref h3, .ref h4, .ref h5, .ref h6, .ref h7, .ref h8])), (h2, .inl (cI, 30, .inl ps)), (h3, .inl (cI, 30, .inl cs)), (h4, .inl (cI, 30, .inl cv)), (h5, .inl (cI, 30, .inl ms)), (h6, .inl (cI, 30, .inl dp)), (h7, .inl (cI, 900, .inl sx)), (h8, .inl (cI, 30, .inl wk))]) [0, 1, 2, 3, 4, 5, 6, 7] rfl) hK 0 1 rfl rfl) rfl rfl hl.1 rfl (lv_room (Nat.le_of_ble_eq_true rfl)) dX1_canLose_11 ⟨Nat.zero_le _, Nat.zero_le _⟩) hP hS hA (fun r_11 H locs er_11 hP hS => ?_)
    subst er_11
    refine lv_if_eq (tgt := 32) hx hb dX1_canLose_14 (by decide) (fun c_14 => ?_) (fun c_14 => ?_)
    · skip
      refine lv_iinc (v := nI (j + 1)) (lv' := [(2, .int (nI (j + 1))), (0, .ref h0), (1, .int i1)]) hx hb dX1_canLose_32 hl (k := 2) rfl (nI_1 _) (by decide) rfl (fun ls hl => ?_)
      refine lv_goto (tgt := 2) hx hb dX1_canLose_35 (by decide) ?_
      exact ih2 _ _ _ ⟨(by simp only [kcan, hI, nB_0.mp c_14, Bool.false_and, Bool.not_false, Bool.and_true]), hP, hS, (lv_sub hl [1, 2, 0] rfl)⟩
    · skip
      refine lv_aload_n hx hb dX1_canLose_17 rfl (lv_at hl 0 rfl) ?_
      refine lv_iload_n hx hb dX1_canLose_18 rfl (lv_at hl 2 rfl) ?_
      refine lv_iload_n hx hb dX1_canLose_19 rfl (lv_at hl 1 rfl) ?_
      refine kq_R (va_runV (As := [.int (nI j), .int i1]) (rest := []) ⟨hx, hb, hml, hown, hts⟩ (c_X1_parentsWithout l D cI h0 h2 h3 h4 h5 h6 h7 h8 ad pr ps cs cv ms dp sx wk (nI j) i1 _) (cwV 2 hts gX1_canLose_X1_parentsWithout rfl rfl rfl (by decide +kernel) ⟨Nat.le_of_ble_eq_true rfl, Nat.le_of_ble_eq_true rfl⟩) (kp_RV (hP.sub (ws' := [(h0, .inr (1, [.int ad, .int pr, .ref h2, .ref h3, .ref h4, .ref h5, .ref h6, .ref h7, .ref h8])), (h2, .inl (cI, 30, .inl ps)), (h3, .inl (cI, 30, .inl cs)), (h4, .inl (cI, 30, .inl cv)), (h5, .inl (cI, 30, .inl ms)), (h6, .inl (cI, 30, .inl dp)), (h7, .inl (cI, 900, .inl sx)), (h8, .inl (cI, 30, .inl wk))]) [0, 1, 2, 3, 4, 5, 6, 7] rfl) hK 0 1 rfl rfl) rfl rfl hl.1 rfl (lv_room (Nat.le_of_ble_eq_true rfl)) dX1_canLose_20 ⟨Nat.zero_le _, Nat.zero_le _⟩) hP hS hA (fun r_20 H locs er_20 hP hS => ?_)
      subst er_20
      refine kq_R (va_runS (As := [.int (kpw ps (nI j) i1)]) (rest := []) ⟨hx, hb, hml, hown, hts⟩ (c_J6_bitCount_0f7a4 l D cI (kpw ps (nI j) i1) _) (va_cwS 1 hts gX1_canLose_J6_bitCount_0f7a4 rfl rfl rfl (by decide +kernel) ⟨Nat.le_of_ble_eq_true rfl, Nat.le_of_ble_eq_true rfl⟩) (kp_RS (hP.sub (ws' := []) [] rfl) hK) rfl rfl hl.1 rfl (lv_room (Nat.le_of_ble_eq_true rfl)) dX1_canLose_23 ⟨Nat.zero_le _, Nat.zero_le _⟩) hP hS hA (fun r_23 H locs er_23 hP hS => ?_)
      subst er_23
      refine lv_iconst (v := 4) hx hb dX1_canLose_26 (by decide) ?_
      refine lv_icmp_le (tgt := 32) hx hb dX1_canLose_27 (by decide) (fun c_27 => ?_) (fun c_27 => ?_)
      · skip
        refine lv_iinc (v := nI (j + 1)) (lv' := [(2, .int (nI (j + 1))), (0, .ref h0), (1, .int i1)]) hx hb dX1_canLose_32 hl (k := 2) rfl (nI_1 _) (by decide) rfl (fun ls hl => ?_)
        refine lv_goto (tgt := 2) hx hb dX1_canLose_35 (by decide) ?_
        exact ih2 _ _ _ ⟨(by simp only [kcan, hI, decide_eq_true c_27, Bool.not_true, Bool.and_false, Bool.not_false, Bool.and_true]), hP, hS, (lv_sub hl [1, 2, 0] rfl)⟩
      · skip
        refine lv_iconst (v := 0) hx hb dX1_canLose_30 (by decide) ?_
        exact ke_Z hx hb hr hlocks hS dX1_canLose_31 (false) (rfl) (congrArg nB (kcan_of (n := 30) hj (nB_n0.mp c_14) c_27).symm)
  · skip
    intro H locs ls hJ
    obtain ⟨hI, hP, hS, hl⟩ := hJ
    refine lv_iload_n hx hb dX1_canLose_2 rfl (lv_at hl 2 rfl) ?_
    refine lv_bipush (v := 30) hx hb dX1_canLose_3 (by decide) ?_
    refine lv_icmp_ge (tgt := 38) hx hb dX1_canLose_5 (by decide) (fun _ => ?_) (fun hc => absurd (nI_le (a := 30) (b := 30) (Nat.le_refl _) (by decide)) hc)
    refine lv_iconst (v := 1) hx hb dX1_canLose_38 (by decide) ?_
    exact ke_Z hx hb hr hlocks hS dX1_canLose_39 (true) (rfl) (congrArg nB hI.symm)
