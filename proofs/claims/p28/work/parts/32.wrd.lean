set_option maxHeartbeats 4000000 in
set_option maxRecDepth 100000 in
theorem c_X2_exists (l : Launch) (D : va_G) (cI : ClassId) (w0 w2 w3 w4 w5 : Nat) (kn : Int32) (pl : Int32) (gv : Nat → Int32) (sz : Nat → Int32) (lk : Nat → Int32) (se : Nat → Int32) (i1 : Int32) : kc_R l yX2_exists wsX2_exists 0 0 D cI [.ref w0, .int i1] [(w0, .inr (2, [.int kn, .int pl, .ref w2, .ref w3, .ref w4, .ref w5])), (w2, .inl (cI, 50, .inl gv)), (w3, .inl (cI, 10, .inl sz)), (w4, .inl (cI, 10, .inl lk)), (w5, .inl (cI, 6, .inl se))] (fun r => r = nB (kwex kn i1)) := by
  refine ks_R (cc := cX2_exists) (nL := 2) (ret := (some .boolean)) (by decide) rfl (Nat.le_of_ble_eq_true rfl) ?_
  intro p e s m below meth c ls hF hP hK hS hA hl
  obtain ⟨hx, hb, hr, hml, hown, hts, hlocks⟩ := hF
  have hown : s.vm.findClass RX2 = some m.cls := hown
  have hl : lv_has ls 2 [(0, .ref w0), (1, .int i1)] := hl
  refine lv_iload_n hx hb dX2_exists_0 rfl (lv_at hl 1 rfl) ?_
  refine lv_if_lt (tgt := 16) hx hb dX2_exists_1 (by decide) (fun c_1 => ?_) (fun c_1 => ?_)
  · skip
    refine lv_iconst (v := 0) hx hb dX2_exists_16 (by decide) ?_
    exact ke_Z hx hb hr hlocks hS dX2_exists_17 (kwex kn i1) (by unfold kwex nB; simp [*]) (rfl)
  · skip
    refine lv_iload_n hx hb dX2_exists_4 rfl (lv_at hl 1 rfl) ?_
    refine lv_aload_n hx hb dX2_exists_5 rfl (lv_at hl 0 rfl) ?_
    refine va_get (D := D) (ci := 2) (v := .int kn) (C := RX2) (T := TX2) (N := 6) hx hb hts (fun w h => List.mem_cons_of_mem _ (List.mem_append_right _ (h))) hown hK.1 hP 0 rfl rfl 0 (by decide) (hts (.fieldLink RX2 9 "SenseNet$Words" "known" "I") (List.mem_of_getElem? (i := 1) rfl)) (fun _ h9 => h9) rfl dX2_exists_6 ?_
    refine lv_icmp_ge (tgt := 16) hx hb dX2_exists_9 (by decide) (fun c_9 => ?_) (fun c_9 => ?_)
    · skip
      refine lv_iconst (v := 0) hx hb dX2_exists_16 (by decide) ?_
      exact ke_Z hx hb hr hlocks hS dX2_exists_17 (kwex kn i1) (by unfold kwex nB; simp [*]) (rfl)
    · skip
      refine lv_iconst (v := 1) hx hb dX2_exists_12 (by decide) ?_
      refine lv_goto (tgt := 17) hx hb dX2_exists_13 (by decide) ?_
      exact ke_Z hx hb hr hlocks hS dX2_exists_17 (kwex kn i1) (by unfold kwex nB; simp [*]) (rfl)
set_option maxHeartbeats 4000000 in
set_option maxRecDepth 100000 in
theorem c_X2_size (l : Launch) (D : va_G) (cI : ClassId) (w0 w2 w3 w4 w5 : Nat) (kn : Int32) (pl : Int32) (gv : Nat → Int32) (sz : Nat → Int32) (lk : Nat → Int32) (se : Nat → Int32) (i1 : Int32) : kc_R l yX2_size wsX2_size 1 21 D cI [.ref w0, .int i1] [(w0, .inr (2, [.int kn, .int pl, .ref w2, .ref w3, .ref w4, .ref w5])), (w2, .inl (cI, 50, .inl gv)), (w3, .inl (cI, 10, .inl sz)), (w4, .inl (cI, 10, .inl lk)), (w5, .inl (cI, 6, .inl se))] (fun r => r = kat 10 sz i1) := by
  refine ks_R (cc := cX2_size) (nL := 2) (ret := (some .int)) (by decide) rfl (Nat.le_of_ble_eq_true rfl) ?_
  intro p e s m below meth c ls hF hP hK hS hA hl
  obtain ⟨hx, hb, hr, hml, hown, hts, hlocks⟩ := hF
  have hown : s.vm.findClass RX2 = some m.cls := hown
  have hl : lv_has ls 2 [(0, .ref w0), (1, .int i1)] := hl
  refine lv_aload_n hx hb dX2_size_0 rfl (lv_at hl 0 rfl) ?_
  refine va_get (D := D) (ci := 2) (v := .ref w3) (C := RX2) (T := TX2) (N := 6) hx hb hts (fun w h => List.mem_cons_of_mem _ (List.mem_append_right _ (h))) hown hK.1 hP 0 rfl rfl 3 (by decide) (hts (.fieldLink RX2 22 "SenseNet$Words" "sizes" "[I") (List.mem_of_getElem? (i := 1) rfl)) (fun _ h9 => h9) rfl dX2_size_1 ?_
  refine lv_iload_n hx hb dX2_size_4 rfl (lv_at hl 1 rfl) ?_
  refine kq_R (va_runSN (As := [.ref w3, .int i1]) (rest := []) ⟨hx, hb, hml, hown, hts⟩ (c_X3_at l D cI w3 10 sz i1 (by decide) _) ⟨va_cnB 2 hts gX2_size_X3_at_n31 rfl rfl rfl hK.2.2.2.2.2.2.2.1 (hts (.initialized RX3) (List.mem_of_getElem? (i := 3) rfl)) (by decide +kernel) ⟨Nat.le_of_ble_eq_true rfl, Nat.le_of_ble_eq_true rfl⟩, (hts (.static yX3_at) (List.mem_of_getElem? (i := 2) rfl)), trivial⟩ (kp_RS (hP.sub (ws' := [(w3, .inl (cI, 10, .inl sz))]) [2] rfl) hK) rfl rfl hl.1 rfl (lv_room (Nat.le_of_ble_eq_true rfl)) dX2_size_5 ⟨Nat.zero_le _, Nat.zero_le _⟩) hP hS hA (fun r_5 H locs er_5 hP hS => ?_)
  subst er_5
  exact ke_R hx hb hr hlocks hS dX2_size_8 (rfl)
set_option maxHeartbeats 4000000 in
set_option maxRecDepth 100000 in
theorem c_X2_wordAt (l : Launch) (D : va_G) (cI : ClassId) (w0 w2 w3 w4 w5 : Nat) (kn : Int32) (pl : Int32) (gv : Nat → Int32) (sz : Nat → Int32) (lk : Nat → Int32) (se : Nat → Int32) (i1 : Int32) : kc_R l yX2_wordAt wsX2_wordAt 1 21 D cI [.ref w0, .int i1] [(w0, .inr (2, [.int kn, .int pl, .ref w2, .ref w3, .ref w4, .ref w5])), (w2, .inl (cI, 50, .inl gv)), (w3, .inl (cI, 10, .inl sz)), (w4, .inl (cI, 10, .inl lk)), (w5, .inl (cI, 6, .inl se))] (fun r => r = kat 6 se i1) := by
  refine ks_R (cc := cX2_wordAt) (nL := 2) (ret := (some .int)) (by decide) rfl (Nat.le_of_ble_eq_true rfl) ?_
  intro p e s m below meth c ls hF hP hK hS hA hl
  obtain ⟨hx, hb, hr, hml, hown, hts, hlocks⟩ := hF
  have hown : s.vm.findClass RX2 = some m.cls := hown
  have hl : lv_has ls 2 [(0, .ref w0), (1, .int i1)] := hl
  refine lv_aload_n hx hb dX2_wordAt_0 rfl (lv_at hl 0 rfl) ?_
  refine va_get (D := D) (ci := 2) (v := .ref w5) (C := RX2) (T := TX2) (N := 6) hx hb hts (fun w h => List.mem_cons_of_mem _ (List.mem_append_right _ (h))) hown hK.1 hP 0 rfl rfl 5 (by decide) (hts (.fieldLink RX2 28 "SenseNet$Words" "sentence" "[I") (List.mem_of_getElem? (i := 1) rfl)) (fun _ h9 => h9) rfl dX2_wordAt_1 ?_
  refine lv_iload_n hx hb dX2_wordAt_4 rfl (lv_at hl 1 rfl) ?_
  refine kq_R (va_runSN (As := [.ref w5, .int i1]) (rest := []) ⟨hx, hb, hml, hown, hts⟩ (c_X3_at l D cI w5 6 se i1 (by decide) _) ⟨va_cnB 2 hts gX2_wordAt_X3_at_n31 rfl rfl rfl hK.2.2.2.2.2.2.2.1 (hts (.initialized RX3) (List.mem_of_getElem? (i := 3) rfl)) (by decide +kernel) ⟨Nat.le_of_ble_eq_true rfl, Nat.le_of_ble_eq_true rfl⟩, (hts (.static yX3_at) (List.mem_of_getElem? (i := 2) rfl)), trivial⟩ (kp_RS (hP.sub (ws' := [(w5, .inl (cI, 6, .inl se))]) [4] rfl) hK) rfl rfl hl.1 rfl (lv_room (Nat.le_of_ble_eq_true rfl)) dX2_wordAt_5 ⟨Nat.zero_le _, Nat.zero_le _⟩) hP hS hA (fun r_5 H locs er_5 hP hS => ?_)
  subst er_5
  exact ke_R hx hb hr hlocks hS dX2_wordAt_8 (rfl)
set_option maxHeartbeats 4000000 in
set_option maxRecDepth 100000 in
theorem c_X2_rankOf (l : Launch) (D : va_G) (cI : ClassId) (w0 w2 w3 w4 w5 : Nat) (kn : Int32) (pl : Int32) (gv : Nat → Int32) (sz : Nat → Int32) (lk : Nat → Int32) (se : Nat → Int32) (i1 : Int32) (i2 : Int32) : kc_R l yX2_rankOf wsX2_rankOf 1 21 D cI [.ref w0, .int i1, .int i2] [(w0, .inr (2, [.int kn, .int pl, .ref w2, .ref w3, .ref w4, .ref w5])), (w2, .inl (cI, 50, .inl gv)), (w3, .inl (cI, 10, .inl sz)), (w4, .inl (cI, 10, .inl lk)), (w5, .inl (cI, 6, .inl se))] (fun r => r = krk sz gv i1 i2) := by
  refine ks_R (cc := cX2_rankOf) (nL := 5) (ret := (some .int)) (by decide) rfl (Nat.le_of_ble_eq_true rfl) ?_
  intro p e s m below meth c ls hF hP hK hS hA hl
  obtain ⟨hx, hb, hr, hml, hown, hts, hlocks⟩ := hF
  have hown : s.vm.findClass RX2 = some m.cls := hown
  have hl : lv_has ls 5 [(0, .ref w0), (1, .int i1), (2, .int i2)] := hl
  refine lv_aload_n hx hb dX2_rankOf_0 rfl (lv_at hl 0 rfl) ?_
  refine va_get (D := D) (ci := 2) (v := .ref w3) (C := RX2) (T := TX2) (N := 6) hx hb hts (fun w h => List.mem_cons_of_mem _ (List.mem_append_right _ (h))) hown hK.1 hP 0 rfl rfl 3 (by decide) (hts (.fieldLink RX2 22 "SenseNet$Words" "sizes" "[I") (List.mem_of_getElem? (i := 1) rfl)) (fun _ h9 => h9) rfl dX2_rankOf_1 ?_
  refine lv_iload_n hx hb dX2_rankOf_4 rfl (lv_at hl 1 rfl) ?_
  refine kq_R (va_runSN (As := [.ref w3, .int i1]) (rest := []) ⟨hx, hb, hml, hown, hts⟩ (c_X3_at l D cI w3 10 sz i1 (by decide) _) ⟨va_cnB 2 hts gX2_rankOf_X3_at_n31 rfl rfl rfl hK.2.2.2.2.2.2.2.1 (hts (.initialized RX3) (List.mem_of_getElem? (i := 4) rfl)) (by decide +kernel) ⟨Nat.le_of_ble_eq_true rfl, Nat.le_of_ble_eq_true rfl⟩, (hts (.static yX3_at) (List.mem_of_getElem? (i := 3) rfl)), trivial⟩ (kp_RS (hP.sub (ws' := [(w3, .inl (cI, 10, .inl sz))]) [2] rfl) hK) rfl rfl hl.1 rfl (lv_room (Nat.le_of_ble_eq_true rfl)) dX2_rankOf_5 ⟨Nat.zero_le _, Nat.zero_le _⟩) hP hS hA (fun r_5 H locs er_5 hP hS => ?_)
  subst er_5
  refine lv_istore_n (lv' := [(3, .int (kat 10 sz i1)), (0, .ref w0), (1, .int i1), (2, .int i2)]) hx hb dX2_rankOf_8 rfl hl (by decide) rfl (fun ls hl => ?_)
  refine lv_iconst (v := 0) hx hb dX2_rankOf_9 (by decide) ?_
  refine lv_istore (lv' := [(4, .int 0), (3, .int (kat 10 sz i1)), (0, .ref w0), (1, .int i1), (2, .int i2)]) hx hb dX2_rankOf_10 hl (by decide) rfl (fun ls hl => ?_)
  refine kl_for (head := 12) (N := (kat 10 sz i1).toNatClampNeg) (fun (j : Nat) (H : Heap) (locs : List Loc) (ls : Array Slot) => (krnk gv i1 i2 j = -1) ∧ va_P D vwCl [(w0, .inr (2, [.int kn, .int pl, .ref w2, .ref w3, .ref w4, .ref w5])), (w2, .inl (cI, 50, .inl gv)), (w3, .inl (cI, 10, .inl sz)), (w4, .inl (cI, 10, .inl lk)), (w5, .inl (cI, 6, .inl se))] H ∧ va_S (va_A [] s.heap.size) s.heap H locs ∧ lv_has ls 5 [(0, .ref w0), (1, .int i1), (2, .int i2), (3, .int (kat 10 sz i1)), (4, .int (nI j))]) 0 (Nat.zero_le _) ?_ ?_ ⟨(rfl), hP, hS, (lv_sub hl [2, 3, 4, 1, 0] rfl)⟩
  · skip
    intro j hj H locs ls hJ ih12
    obtain ⟨hI, hP, hS, hl⟩ := hJ
    refine lv_iload hx hb dX2_rankOf_12 (lv_at hl 4 rfl) ?_
    refine lv_iload_n hx hb dX2_rankOf_14 rfl (lv_at hl 3 rfl) ?_
    refine lv_icmp_ge (tgt := 44) hx hb dX2_rankOf_15 (by decide) (fun hc => absurd hc (kb_lt hj)) (fun _ => ?_)
    refine lv_aload_n hx hb dX2_rankOf_18 rfl (lv_at hl 0 rfl) ?_
    refine va_get (D := D) (ci := 2) (v := .ref w2) (C := RX2) (T := TX2) (N := 6) hx hb hts (fun w h => List.mem_cons_of_mem _ (List.mem_append_right _ (h))) hown hK.1 hP 0 rfl rfl 2 (by decide) (hts (.fieldLink RX2 18 "SenseNet$Words" "given" "[I") (List.mem_of_getElem? (i := 2) rfl)) (fun _ h9 => h9) rfl dX2_rankOf_19 ?_
    refine lv_iload_n hx hb dX2_rankOf_22 rfl (lv_at hl 1 rfl) ?_
    refine lv_iconst (v := 5) hx hb dX2_rankOf_23 (by decide) ?_
    refine lv_imul hx hb dX2_rankOf_24 ?_
    refine lv_iload hx hb dX2_rankOf_25 (lv_at hl 4 rfl) ?_
    refine lv_iadd hx hb dX2_rankOf_27 ?_
    refine kq_R (va_runSN (As := [.ref w2, .int ((i1 * 5) + (nI j))]) (rest := []) ⟨hx, hb, hml, hown, hts⟩ (c_X3_at l D cI w2 50 gv ((i1 * 5) + (nI j)) (by decide) _) ⟨va_cnB 2 hts gX2_rankOf_X3_at_n31 rfl rfl rfl hK.2.2.2.2.2.2.2.1 (hts (.initialized RX3) (List.mem_of_getElem? (i := 4) rfl)) (by decide +kernel) ⟨Nat.le_of_ble_eq_true rfl, Nat.le_of_ble_eq_true rfl⟩, (hts (.static yX3_at) (List.mem_of_getElem? (i := 3) rfl)), trivial⟩ (kp_RS (hP.sub (ws' := [(w2, .inl (cI, 50, .inl gv))]) [1] rfl) hK) rfl rfl hl.1 rfl (lv_room (Nat.le_of_ble_eq_true rfl)) dX2_rankOf_28 ⟨Nat.zero_le _, Nat.zero_le _⟩) hP hS hA (fun r_28 H locs er_28 hP hS => ?_)
    subst er_28
    refine lv_iload_n hx hb dX2_rankOf_31 rfl (lv_at hl 2 rfl) ?_
    refine lv_icmp_ne (tgt := 38) hx hb dX2_rankOf_32 (by decide) (fun c_32 => ?_) (fun c_32 => ?_)
    · skip
      refine lv_iinc (v := nI (j + 1)) (lv' := [(4, .int (nI (j + 1))), (0, .ref w0), (1, .int i1), (2, .int i2), (3, .int (kat 10 sz i1))]) hx hb dX2_rankOf_38 hl (k := 4) rfl (nI_1 _) (by decide) rfl (fun ls hl => ?_)
      refine lv_goto (tgt := 12) hx hb dX2_rankOf_41 (by decide) ?_
      exact ih12 _ _ _ ⟨(krnk_s hI c_32), hP, hS, (lv_sub hl [1, 2, 3, 4, 0] rfl)⟩
    · skip
      refine lv_iload hx hb dX2_rankOf_35 (lv_at hl 4 rfl) ?_
      exact ke_R hx hb hr hlocks hS dX2_rankOf_37 (krnk_of (kb_sm _) hj hI c_32)
  · skip
    intro H locs ls hJ
    obtain ⟨hI, hP, hS, hl⟩ := hJ
    refine lv_iload hx hb dX2_rankOf_12 (lv_at hl 4 rfl) ?_
    refine lv_iload_n hx hb dX2_rankOf_14 rfl (lv_at hl 3 rfl) ?_
    refine lv_icmp_ge (tgt := 44) hx hb dX2_rankOf_15 (by decide) (fun _ => ?_) (fun hc => absurd (kb_ge _) hc)
    refine lv_iconst (v := (-1)) hx hb dX2_rankOf_44 (by decide) ?_
    exact ke_R hx hb hr hlocks hS dX2_rankOf_45 (hI.symm)
set_option maxHeartbeats 4000000 in
set_option maxRecDepth 100000 in
theorem c_X2_has (l : Launch) (D : va_G) (cI : ClassId) (w0 w2 w3 w4 w5 : Nat) (kn : Int32) (pl : Int32) (gv : Nat → Int32) (sz : Nat → Int32) (lk : Nat → Int32) (se : Nat → Int32) (i1 : Int32) (i2 : Int32) : kc_R l yX2_has wsX2_has 2 45 D cI [.ref w0, .int i1, .int i2] [(w0, .inr (2, [.int kn, .int pl, .ref w2, .ref w3, .ref w4, .ref w5])), (w2, .inl (cI, 50, .inl gv)), (w3, .inl (cI, 10, .inl sz)), (w4, .inl (cI, 10, .inl lk)), (w5, .inl (cI, 6, .inl se))] (fun r => r = nB (khsw sz gv i1 i2)) := by
  refine ks_R (cc := cX2_has) (nL := 3) (ret := (some .boolean)) (by decide) rfl (Nat.le_of_ble_eq_true rfl) ?_
  intro p e s m below meth c ls hF hP hK hS hA hl
  obtain ⟨hx, hb, hr, hml, hown, hts, hlocks⟩ := hF
  have hown : s.vm.findClass RX2 = some m.cls := hown
  have hl : lv_has ls 3 [(0, .ref w0), (1, .int i1), (2, .int i2)] := hl
  refine lv_aload_n hx hb dX2_has_0 rfl (lv_at hl 0 rfl) ?_
  refine lv_iload_n hx hb dX2_has_1 rfl (lv_at hl 1 rfl) ?_
  refine lv_iload_n hx hb dX2_has_2 rfl (lv_at hl 2 rfl) ?_
  refine kq_R (va_runV (As := [.int i1, .int i2]) (rest := []) ⟨hx, hb, hml, hown, hts⟩ (c_X2_rankOf l D cI w0 w2 w3 w4 w5 kn pl gv sz lk se i1 i2 _) (cwV 2 hts gX2_has_X2_rankOf rfl rfl rfl (by decide +kernel) ⟨Nat.le_of_ble_eq_true rfl, Nat.le_of_ble_eq_true rfl⟩) (kp_RV (hP.sub (ws' := [(w0, .inr (2, [.int kn, .int pl, .ref w2, .ref w3, .ref w4, .ref w5])), (w2, .inl (cI, 50, .inl gv)), (w3, .inl (cI, 10, .inl sz)), (w4, .inl (cI, 10, .inl lk)), (w5, .inl (cI, 6, .inl se))]) [0, 1, 2, 3, 4] rfl) hK 0 2 rfl rfl) rfl rfl hl.1 rfl (lv_room (Nat.le_of_ble_eq_true rfl)) dX2_has_3 ⟨Nat.zero_le _, Nat.zero_le _⟩) hP hS hA (fun r_3 H locs er_3 hP hS => ?_)
  subst er_3
  refine lv_iconst (v := (-1)) hx hb dX2_has_6 (by decide) ?_
  refine lv_icmp_eq (tgt := 14) hx hb dX2_has_7 (by decide) (fun c_7 => ?_) (fun c_7 => ?_)
  · skip
    refine lv_iconst (v := 0) hx hb dX2_has_14 (by decide) ?_
    exact ke_Z hx hb hr hlocks hS dX2_has_15 (khsw sz gv i1 i2) (by unfold khsw nB; simp [*]) (rfl)
  · skip
    refine lv_iconst (v := 1) hx hb dX2_has_10 (by decide) ?_
    refine lv_goto (tgt := 15) hx hb dX2_has_11 (by decide) ?_
    exact ke_Z hx hb hr hlocks hS dX2_has_15 (khsw sz gv i1 i2) (by unfold khsw nB; simp [*]) (rfl)
set_option maxHeartbeats 4000000 in
set_option maxRecDepth 100000 in
theorem c_X2_anyHas (l : Launch) (D : va_G) (cI : ClassId) (w0 w2 w3 w4 w5 : Nat) (kn : Int32) (pl : Int32) (gv : Nat → Int32) (sz : Nat → Int32) (lk : Nat → Int32) (se : Nat → Int32) (i1 : Int32) : kc_R l yX2_anyHas wsX2_anyHas 3 67 D cI [.ref w0, .int i1] [(w0, .inr (2, [.int kn, .int pl, .ref w2, .ref w3, .ref w4, .ref w5])), (w2, .inl (cI, 50, .inl gv)), (w3, .inl (cI, 10, .inl sz)), (w4, .inl (cI, 10, .inl lk)), (w5, .inl (cI, 6, .inl se))] (fun r => r = nB (kany sz gv i1 kn.toNatClampNeg)) := by
  refine ks_R (cc := cX2_anyHas) (nL := 3) (ret := (some .boolean)) (by decide) rfl (Nat.le_of_ble_eq_true rfl) ?_
  intro p e s m below meth c ls hF hP hK hS hA hl
  obtain ⟨hx, hb, hr, hml, hown, hts, hlocks⟩ := hF
  have hown : s.vm.findClass RX2 = some m.cls := hown
  have hl : lv_has ls 3 [(0, .ref w0), (1, .int i1)] := hl
  refine lv_iconst (v := 0) hx hb dX2_anyHas_0 (by decide) ?_
  refine lv_istore_n (lv' := [(2, .int 0), (0, .ref w0), (1, .int i1)]) hx hb dX2_anyHas_1 rfl hl (by decide) rfl (fun ls hl => ?_)
  refine kl_for (head := 2) (N := kn.toNatClampNeg) (fun (j : Nat) (H : Heap) (locs : List Loc) (ls : Array Slot) => (kany sz gv i1 j = false) ∧ va_P D vwCl [(w0, .inr (2, [.int kn, .int pl, .ref w2, .ref w3, .ref w4, .ref w5])), (w2, .inl (cI, 50, .inl gv)), (w3, .inl (cI, 10, .inl sz)), (w4, .inl (cI, 10, .inl lk)), (w5, .inl (cI, 6, .inl se))] H ∧ va_S (va_A [] s.heap.size) s.heap H locs ∧ lv_has ls 3 [(0, .ref w0), (1, .int i1), (2, .int (nI j))]) 0 (Nat.zero_le _) ?_ ?_ ⟨(rfl), hP, hS, (lv_sub hl [1, 2, 0] rfl)⟩
  · skip
    intro j hj H locs ls hJ ih2
    obtain ⟨hI, hP, hS, hl⟩ := hJ
    refine lv_iload_n hx hb dX2_anyHas_2 rfl (lv_at hl 2 rfl) ?_
    refine lv_aload_n hx hb dX2_anyHas_3 rfl (lv_at hl 0 rfl) ?_
    refine va_get (D := D) (ci := 2) (v := .int kn) (C := RX2) (T := TX2) (N := 6) hx hb hts (fun w h => List.mem_cons_of_mem _ (List.mem_append_right _ (h))) hown hK.1 hP 0 rfl rfl 0 (by decide) (hts (.fieldLink RX2 9 "SenseNet$Words" "known" "I") (List.mem_of_getElem? (i := 1) rfl)) (fun _ h9 => h9) rfl dX2_anyHas_4 ?_
    refine lv_icmp_ge (tgt := 27) hx hb dX2_anyHas_7 (by decide) (fun hc => absurd hc (kb_lt hj)) (fun _ => ?_)
    refine lv_aload_n hx hb dX2_anyHas_10 rfl (lv_at hl 0 rfl) ?_
    refine lv_iload_n hx hb dX2_anyHas_11 rfl (lv_at hl 2 rfl) ?_
    refine lv_iload_n hx hb dX2_anyHas_12 rfl (lv_at hl 1 rfl) ?_
    refine kq_R (va_runV (As := [.int (nI j), .int i1]) (rest := []) ⟨hx, hb, hml, hown, hts⟩ (c_X2_has l D cI w0 w2 w3 w4 w5 kn pl gv sz lk se (nI j) i1 _) (cwV 2 hts gX2_anyHas_X2_has rfl rfl rfl (by decide +kernel) ⟨Nat.le_of_ble_eq_true rfl, Nat.le_of_ble_eq_true rfl⟩) (kp_RV (hP.sub (ws' := [(w0, .inr (2, [.int kn, .int pl, .ref w2, .ref w3, .ref w4, .ref w5])), (w2, .inl (cI, 50, .inl gv)), (w3, .inl (cI, 10, .inl sz)), (w4, .inl (cI, 10, .inl lk)), (w5, .inl (cI, 6, .inl se))]) [0, 1, 2, 3, 4] rfl) hK 0 2 rfl rfl) rfl rfl hl.1 rfl (lv_room (Nat.le_of_ble_eq_true rfl)) dX2_anyHas_13 ⟨Nat.zero_le _, Nat.zero_le _⟩) hP hS hA (fun r_13 H locs er_13 hP hS => ?_)
    subst er_13
    refine lv_if_eq (tgt := 21) hx hb dX2_anyHas_16 (by decide) (fun c_16 => ?_) (fun c_16 => ?_)
    · skip
      refine lv_iinc (v := nI (j + 1)) (lv' := [(2, .int (nI (j + 1))), (0, .ref w0), (1, .int i1)]) hx hb dX2_anyHas_21 hl (k := 2) rfl (nI_1 _) (by decide) rfl (fun ls hl => ?_)
      refine lv_goto (tgt := 2) hx hb dX2_anyHas_24 (by decide) ?_
      exact ih2 _ _ _ ⟨(by simp only [kany, hI, nB_0.mp c_16, Bool.or_false]), hP, hS, (lv_sub hl [1, 2, 0] rfl)⟩
    · skip
      refine lv_iconst (v := 1) hx hb dX2_anyHas_19 (by decide) ?_
      exact ke_Z hx hb hr hlocks hS dX2_anyHas_20 (true) (rfl) (congrArg nB (kany_of hj (nB_n0.mp c_16)).symm)
  · skip
    intro H locs ls hJ
    obtain ⟨hI, hP, hS, hl⟩ := hJ
    refine lv_iload_n hx hb dX2_anyHas_2 rfl (lv_at hl 2 rfl) ?_
    refine lv_aload_n hx hb dX2_anyHas_3 rfl (lv_at hl 0 rfl) ?_
    refine va_get (D := D) (ci := 2) (v := .int kn) (C := RX2) (T := TX2) (N := 6) hx hb hts (fun w h => List.mem_cons_of_mem _ (List.mem_append_right _ (h))) hown hK.1 hP 0 rfl rfl 0 (by decide) (hts (.fieldLink RX2 9 "SenseNet$Words" "known" "I") (List.mem_of_getElem? (i := 1) rfl)) (fun _ h9 => h9) rfl dX2_anyHas_4 ?_
    refine lv_icmp_ge (tgt := 27) hx hb dX2_anyHas_7 (by decide) (fun _ => ?_) (fun hc => absurd (kb_ge _) hc)
    refine lv_iconst (v := 0) hx hb dX2_anyHas_27 (by decide) ?_
    exact ke_Z hx hb hr hlocks hS dX2_anyHas_28 (false) (rfl) (congrArg nB hI.symm)
set_option maxHeartbeats 4000000 in
set_option maxRecDepth 100000 in
theorem c_X2_isSaid (l : Launch) (D : va_G) (cI : ClassId) (w0 w2 w3 w4 w5 : Nat) (kn : Int32) (pl : Int32) (gv : Nat → Int32) (sz : Nat → Int32) (lk : Nat → Int32) (se : Nat → Int32) (i1 : Int32) : kc_R l yX2_isSaid wsX2_isSaid 1 21 D cI [.ref w0, .int i1] [(w0, .inr (2, [.int kn, .int pl, .ref w2, .ref w3, .ref w4, .ref w5])), (w2, .inl (cI, 50, .inl gv)), (w3, .inl (cI, 10, .inl sz)), (w4, .inl (cI, 10, .inl lk)), (w5, .inl (cI, 6, .inl se))] (fun r => r = nB (ksai se i1 pl.toNatClampNeg)) := by
  refine ks_R (cc := cX2_isSaid) (nL := 3) (ret := (some .boolean)) (by decide) rfl (Nat.le_of_ble_eq_true rfl) ?_
  intro p e s m below meth c ls hF hP hK hS hA hl
  obtain ⟨hx, hb, hr, hml, hown, hts, hlocks⟩ := hF
  have hown : s.vm.findClass RX2 = some m.cls := hown
  have hl : lv_has ls 3 [(0, .ref w0), (1, .int i1)] := hl
  refine lv_iconst (v := 0) hx hb dX2_isSaid_0 (by decide) ?_
  refine lv_istore_n (lv' := [(2, .int 0), (0, .ref w0), (1, .int i1)]) hx hb dX2_isSaid_1 rfl hl (by decide) rfl (fun ls hl => ?_)
  refine kl_for (head := 2) (N := pl.toNatClampNeg) (fun (j : Nat) (H : Heap) (locs : List Loc) (ls : Array Slot) => (ksai se i1 j = false) ∧ va_P D vwCl [(w0, .inr (2, [.int kn, .int pl, .ref w2, .ref w3, .ref w4, .ref w5])), (w2, .inl (cI, 50, .inl gv)), (w3, .inl (cI, 10, .inl sz)), (w4, .inl (cI, 10, .inl lk)), (w5, .inl (cI, 6, .inl se))] H ∧ va_S (va_A [] s.heap.size) s.heap H locs ∧ lv_has ls 3 [(0, .ref w0), (1, .int i1), (2, .int (nI j))]) 0 (Nat.zero_le _) ?_ ?_ ⟨(rfl), hP, hS, (lv_sub hl [1, 2, 0] rfl)⟩
  · skip
    intro j hj H locs ls hJ ih2
    obtain ⟨hI, hP, hS, hl⟩ := hJ
    refine lv_iload_n hx hb dX2_isSaid_2 rfl (lv_at hl 2 rfl) ?_
    refine lv_aload_n hx hb dX2_isSaid_3 rfl (lv_at hl 0 rfl) ?_
    refine va_get (D := D) (ci := 2) (v := .int pl) (C := RX2) (T := TX2) (N := 6) hx hb hts (fun w h => List.mem_cons_of_mem _ (List.mem_append_right _ (h))) hown hK.1 hP 0 rfl rfl 1 (by decide) (hts (.fieldLink RX2 15 "SenseNet$Words" "places" "I") (List.mem_of_getElem? (i := 1) rfl)) (fun _ h9 => h9) rfl dX2_isSaid_4 ?_
    refine lv_icmp_ge (tgt := 30) hx hb dX2_isSaid_7 (by decide) (fun hc => absurd hc (kb_lt hj)) (fun _ => ?_)
    refine lv_aload_n hx hb dX2_isSaid_10 rfl (lv_at hl 0 rfl) ?_
    refine va_get (D := D) (ci := 2) (v := .ref w5) (C := RX2) (T := TX2) (N := 6) hx hb hts (fun w h => List.mem_cons_of_mem _ (List.mem_append_right _ (h))) hown hK.1 hP 0 rfl rfl 5 (by decide) (hts (.fieldLink RX2 28 "SenseNet$Words" "sentence" "[I") (List.mem_of_getElem? (i := 2) rfl)) (fun _ h9 => h9) rfl dX2_isSaid_11 ?_
    refine lv_iload_n hx hb dX2_isSaid_14 rfl (lv_at hl 2 rfl) ?_
    refine kq_R (va_runSN (As := [.ref w5, .int (nI j)]) (rest := []) ⟨hx, hb, hml, hown, hts⟩ (c_X3_at l D cI w5 6 se (nI j) (by decide) _) ⟨va_cnB 2 hts gX2_isSaid_X3_at_n31 rfl rfl rfl hK.2.2.2.2.2.2.2.1 (hts (.initialized RX3) (List.mem_of_getElem? (i := 4) rfl)) (by decide +kernel) ⟨Nat.le_of_ble_eq_true rfl, Nat.le_of_ble_eq_true rfl⟩, (hts (.static yX3_at) (List.mem_of_getElem? (i := 3) rfl)), trivial⟩ (kp_RS (hP.sub (ws' := [(w5, .inl (cI, 6, .inl se))]) [4] rfl) hK) rfl rfl hl.1 rfl (lv_room (Nat.le_of_ble_eq_true rfl)) dX2_isSaid_15 ⟨Nat.zero_le _, Nat.zero_le _⟩) hP hS hA (fun r_15 H locs er_15 hP hS => ?_)
    subst er_15
    refine lv_iload_n hx hb dX2_isSaid_18 rfl (lv_at hl 1 rfl) ?_
    refine lv_icmp_ne (tgt := 24) hx hb dX2_isSaid_19 (by decide) (fun c_19 => ?_) (fun c_19 => ?_)
    · skip
      refine lv_iinc (v := nI (j + 1)) (lv' := [(2, .int (nI (j + 1))), (0, .ref w0), (1, .int i1)]) hx hb dX2_isSaid_24 hl (k := 2) rfl (nI_1 _) (by decide) rfl (fun ls hl => ?_)
      refine lv_goto (tgt := 2) hx hb dX2_isSaid_27 (by decide) ?_
      exact ih2 _ _ _ ⟨(by simp only [ksai, hI, decide_eq_false c_19, Bool.or_false]), hP, hS, (lv_sub hl [1, 2, 0] rfl)⟩
    · skip
      refine lv_iconst (v := 1) hx hb dX2_isSaid_22 (by decide) ?_
      exact ke_Z hx hb hr hlocks hS dX2_isSaid_23 (true) (rfl) (congrArg nB (ksai_of hj c_19).symm)
  · skip
    intro H locs ls hJ
    obtain ⟨hI, hP, hS, hl⟩ := hJ
    refine lv_iload_n hx hb dX2_isSaid_2 rfl (lv_at hl 2 rfl) ?_
    refine lv_aload_n hx hb dX2_isSaid_3 rfl (lv_at hl 0 rfl) ?_
    refine va_get (D := D) (ci := 2) (v := .int pl) (C := RX2) (T := TX2) (N := 6) hx hb hts (fun w h => List.mem_cons_of_mem _ (List.mem_append_right _ (h))) hown hK.1 hP 0 rfl rfl 1 (by decide) (hts (.fieldLink RX2 15 "SenseNet$Words" "places" "I") (List.mem_of_getElem? (i := 1) rfl)) (fun _ h9 => h9) rfl dX2_isSaid_4 ?_
    refine lv_icmp_ge (tgt := 30) hx hb dX2_isSaid_7 (by decide) (fun _ => ?_) (fun hc => absurd (kb_ge _) hc)
    refine lv_iconst (v := 0) hx hb dX2_isSaid_30 (by decide) ?_
    exact ke_Z hx hb hr hlocks hS dX2_isSaid_31 (false) (rfl) (congrArg nB hI.symm)
set_option maxHeartbeats 4000000 in
set_option maxRecDepth 100000 in
theorem c_X2_optionCount (l : Launch) (D : va_G) (cI : ClassId) (w0 w2 w3 w4 w5 : Nat) (kn : Int32) (pl : Int32) (gv : Nat → Int32) (sz : Nat → Int32) (lk : Nat → Int32) (se : Nat → Int32) (i1 : Int32) : kc_R l yX2_optionCount wsX2_optionCount 1 21 D cI [.ref w0, .int i1] [(w0, .inr (2, [.int kn, .int pl, .ref w2, .ref w3, .ref w4, .ref w5])), (w2, .inl (cI, 50, .inl gv)), (w3, .inl (cI, 10, .inl sz)), (w4, .inl (cI, 10, .inl lk)), (w5, .inl (cI, 6, .inl se))] (fun r => r = kopc sz lk i1) := by
  refine ks_R (cc := cX2_optionCount) (nL := 2) (ret := (some .int)) (by decide) rfl (Nat.le_of_ble_eq_true rfl) ?_
  intro p e s m below meth c ls hF hP hK hS hA hl
  obtain ⟨hx, hb, hr, hml, hown, hts, hlocks⟩ := hF
  have hown : s.vm.findClass RX2 = some m.cls := hown
  have hl : lv_has ls 2 [(0, .ref w0), (1, .int i1)] := hl
  refine lv_aload_n hx hb dX2_optionCount_0 rfl (lv_at hl 0 rfl) ?_
  refine va_get (D := D) (ci := 2) (v := .ref w4) (C := RX2) (T := TX2) (N := 6) hx hb hts (fun w h => List.mem_cons_of_mem _ (List.mem_append_right _ (h))) hown hK.1 hP 0 rfl rfl 4 (by decide) (hts (.fieldLink RX2 25 "SenseNet$Words" "locks" "[I") (List.mem_of_getElem? (i := 1) rfl)) (fun _ h9 => h9) rfl dX2_optionCount_1 ?_
  refine lv_iload_n hx hb dX2_optionCount_4 rfl (lv_at hl 1 rfl) ?_
  refine kq_R (va_runSN (As := [.ref w4, .int i1]) (rest := []) ⟨hx, hb, hml, hown, hts⟩ (c_X3_at l D cI w4 10 lk i1 (by decide) _) ⟨va_cnB 2 hts gX2_optionCount_X3_at_n31 rfl rfl rfl hK.2.2.2.2.2.2.2.1 (hts (.initialized RX3) (List.mem_of_getElem? (i := 4) rfl)) (by decide +kernel) ⟨Nat.le_of_ble_eq_true rfl, Nat.le_of_ble_eq_true rfl⟩, (hts (.static yX3_at) (List.mem_of_getElem? (i := 3) rfl)), trivial⟩ (kp_RS (hP.sub (ws' := [(w4, .inl (cI, 10, .inl lk))]) [3] rfl) hK) rfl rfl hl.1 rfl (lv_room (Nat.le_of_ble_eq_true rfl)) dX2_optionCount_5 ⟨Nat.zero_le _, Nat.zero_le _⟩) hP hS hA (fun r_5 H locs er_5 hP hS => ?_)
  subst er_5
  refine lv_iconst (v := (-1)) hx hb dX2_optionCount_8 (by decide) ?_
  refine lv_icmp_ne (tgt := 23) hx hb dX2_optionCount_9 (by decide) (fun c_9 => ?_) (fun c_9 => ?_)
  · skip
    refine lv_iconst (v := 1) hx hb dX2_optionCount_23 (by decide) ?_
    exact ke_R hx hb hr hlocks hS dX2_optionCount_24 ((if_pos c_9).symm)
  · skip
    refine lv_aload_n hx hb dX2_optionCount_12 rfl (lv_at hl 0 rfl) ?_
    refine va_get (D := D) (ci := 2) (v := .ref w3) (C := RX2) (T := TX2) (N := 6) hx hb hts (fun w h => List.mem_cons_of_mem _ (List.mem_append_right _ (h))) hown hK.1 hP 0 rfl rfl 3 (by decide) (hts (.fieldLink RX2 22 "SenseNet$Words" "sizes" "[I") (List.mem_of_getElem? (i := 2) rfl)) (fun _ h9 => h9) rfl dX2_optionCount_13 ?_
    refine lv_iload_n hx hb dX2_optionCount_16 rfl (lv_at hl 1 rfl) ?_
    refine kq_R (va_runSN (As := [.ref w3, .int i1]) (rest := []) ⟨hx, hb, hml, hown, hts⟩ (c_X3_at l D cI w3 10 sz i1 (by decide) _) ⟨va_cnB 2 hts gX2_optionCount_X3_at_n31 rfl rfl rfl hK.2.2.2.2.2.2.2.1 (hts (.initialized RX3) (List.mem_of_getElem? (i := 4) rfl)) (by decide +kernel) ⟨Nat.le_of_ble_eq_true rfl, Nat.le_of_ble_eq_true rfl⟩, (hts (.static yX3_at) (List.mem_of_getElem? (i := 3) rfl)), trivial⟩ (kp_RS (hP.sub (ws' := [(w3, .inl (cI, 10, .inl sz))]) [2] rfl) hK) rfl rfl hl.1 rfl (lv_room (Nat.le_of_ble_eq_true rfl)) dX2_optionCount_17 ⟨Nat.zero_le _, Nat.zero_le _⟩) hP hS hA (fun r_17 H locs er_17 hP hS => ?_)
    subst er_17
    refine lv_goto (tgt := 24) hx hb dX2_optionCount_20 (by decide) ?_
    exact ke_R hx hb hr hlocks hS dX2_optionCount_24 ((if_neg (Classical.not_not.mpr c_9)).symm)
set_option maxHeartbeats 4000000 in
set_option maxRecDepth 100000 in
theorem c_X2_option (l : Launch) (D : va_G) (cI : ClassId) (w0 w2 w3 w4 w5 : Nat) (kn : Int32) (pl : Int32) (gv : Nat → Int32) (sz : Nat → Int32) (lk : Nat → Int32) (se : Nat → Int32) (i1 : Int32) (i2 : Int32) : kc_R l yX2_option wsX2_option 1 21 D cI [.ref w0, .int i1, .int i2] [(w0, .inr (2, [.int kn, .int pl, .ref w2, .ref w3, .ref w4, .ref w5])), (w2, .inl (cI, 50, .inl gv)), (w3, .inl (cI, 10, .inl sz)), (w4, .inl (cI, 10, .inl lk)), (w5, .inl (cI, 6, .inl se))] (fun r => r = kopt gv lk i1 i2) := by
  refine ks_R (cc := cX2_option) (nL := 4) (ret := (some .int)) (by decide) rfl (Nat.le_of_ble_eq_true rfl) ?_
  intro p e s m below meth c ls hF hP hK hS hA hl
  obtain ⟨hx, hb, hr, hml, hown, hts, hlocks⟩ := hF
  have hown : s.vm.findClass RX2 = some m.cls := hown
  have hl : lv_has ls 4 [(0, .ref w0), (1, .int i1), (2, .int i2)] := hl
  refine lv_aload_n hx hb dX2_option_0 rfl (lv_at hl 0 rfl) ?_
  refine va_get (D := D) (ci := 2) (v := .ref w4) (C := RX2) (T := TX2) (N := 6) hx hb hts (fun w h => List.mem_cons_of_mem _ (List.mem_append_right _ (h))) hown hK.1 hP 0 rfl rfl 4 (by decide) (hts (.fieldLink RX2 25 "SenseNet$Words" "locks" "[I") (List.mem_of_getElem? (i := 1) rfl)) (fun _ h9 => h9) rfl dX2_option_1 ?_
  refine lv_iload_n hx hb dX2_option_4 rfl (lv_at hl 1 rfl) ?_
  refine kq_R (va_runSN (As := [.ref w4, .int i1]) (rest := []) ⟨hx, hb, hml, hown, hts⟩ (c_X3_at l D cI w4 10 lk i1 (by decide) _) ⟨va_cnB 2 hts gX2_option_X3_at_n31 rfl rfl rfl hK.2.2.2.2.2.2.2.1 (hts (.initialized RX3) (List.mem_of_getElem? (i := 4) rfl)) (by decide +kernel) ⟨Nat.le_of_ble_eq_true rfl, Nat.le_of_ble_eq_true rfl⟩, (hts (.static yX3_at) (List.mem_of_getElem? (i := 3) rfl)), trivial⟩ (kp_RS (hP.sub (ws' := [(w4, .inl (cI, 10, .inl lk))]) [3] rfl) hK) rfl rfl hl.1 rfl (lv_room (Nat.le_of_ble_eq_true rfl)) dX2_option_5 ⟨Nat.zero_le _, Nat.zero_le _⟩) hP hS hA (fun r_5 H locs er_5 hP hS => ?_)
  subst er_5
  refine lv_istore_n (lv' := [(3, .int (kat 10 lk i1)), (0, .ref w0), (1, .int i1), (2, .int i2)]) hx hb dX2_option_8 rfl hl (by decide) rfl (fun ls hl => ?_)
  refine lv_iload_n hx hb dX2_option_9 rfl (lv_at hl 0 rfl) ?_
  refine lv_iconst (v := (-1)) hx hb dX2_option_10 (by decide) ?_
  refine lv_icmp_ne (tgt := 29) hx hb dX2_option_11 (by decide) (fun c_11 => ?_) (fun c_11 => ?_)
  · skip
    refine lv_iload_n hx hb dX2_option_29 rfl (lv_at hl 0 rfl) ?_
    exact ke_R hx hb hr hlocks hS dX2_option_30 ((if_pos c_11).symm)
  · skip
    refine lv_aload_n hx hb dX2_option_14 rfl (lv_at hl 1 rfl) ?_
    refine va_get (D := D) (ci := 2) (v := .ref w2) (C := RX2) (T := TX2) (N := 6) hx hb hts (fun w h => List.mem_cons_of_mem _ (List.mem_append_right _ (h))) hown hK.1 hP 0 rfl rfl 2 (by decide) (hts (.fieldLink RX2 18 "SenseNet$Words" "given" "[I") (List.mem_of_getElem? (i := 2) rfl)) (fun _ h9 => h9) rfl dX2_option_15 ?_
    refine lv_iload_n hx hb dX2_option_18 rfl (lv_at hl 2 rfl) ?_
    refine lv_iconst (v := 5) hx hb dX2_option_19 (by decide) ?_
    refine lv_imul hx hb dX2_option_20 ?_
    refine lv_iload_n hx hb dX2_option_21 rfl (lv_at hl 3 rfl) ?_
    refine lv_iadd hx hb dX2_option_22 ?_
    refine kq_R (va_runSN (As := [.ref w2, .int ((i1 * 5) + i2)]) (rest := []) ⟨hx, hb, hml, hown, hts⟩ (c_X3_at l D cI w2 50 gv ((i1 * 5) + i2) (by decide) _) ⟨va_cnB 2 hts gX2_option_X3_at_n31 rfl rfl rfl hK.2.2.2.2.2.2.2.1 (hts (.initialized RX3) (List.mem_of_getElem? (i := 4) rfl)) (by decide +kernel) ⟨Nat.le_of_ble_eq_true rfl, Nat.le_of_ble_eq_true rfl⟩, (hts (.static yX3_at) (List.mem_of_getElem? (i := 3) rfl)), trivial⟩ (kp_RS (hP.sub (ws' := [(w2, .inl (cI, 50, .inl gv))]) [1] rfl) hK) rfl rfl hl.1 rfl (lv_room (Nat.le_of_ble_eq_true rfl)) dX2_option_23 ⟨Nat.zero_le _, Nat.zero_le _⟩) hP hS hA (fun r_23 H locs er_23 hP hS => ?_)
    subst er_23
    refine lv_goto (tgt := 30) hx hb dX2_option_26 (by decide) ?_
    exact ke_R hx hb hr hlocks hS dX2_option_30 ((if_neg (Classical.not_not.mpr c_11)).symm)
set_option maxHeartbeats 4000000 in
set_option maxRecDepth 100000 in
theorem c_X2_addOne (l : Launch) (D : va_G) (cI : ClassId) (w0 w2 w3 w4 w5 : Nat) (kn : Int32) (pl : Int32) (gv : Nat → Int32) (sz : Nat → Int32) (lk : Nat → Int32) (se : Nat → Int32) : kc_W l yX2_addOne wsX2_addOne 1 22 D cI [.ref w0] [(w0, .inr (2, [.int kn, .int pl, .ref w2, .ref w3, .ref w4, .ref w5])), (w2, .inl (cI, 50, .inl gv)), (w3, .inl (cI, 10, .inl sz)), (w4, .inl (cI, 10, .inl lk)), (w5, .inl (cI, 6, .inl se))] (fun (r : Int32) (u : Unit) => r = kn) (fun u => [(w0, .inr (2, [.int (kn + 1), .int pl, .ref w2, .ref w3, .ref w4, .ref w5])), (w2, .inl (cI, 50, .inl gv)), (w3, .inl (cI, 10, .inl (kput 10 sz kn 0))), (w4, .inl (cI, 10, .inl (kput 10 lk kn (-1)))), (w5, .inl (cI, 6, .inl se))]) := by
  refine ks_W (cc := cX2_addOne) (nL := 2) (ret := (some .int)) (by decide) rfl (Nat.le_of_ble_eq_true rfl) ?_
  intro p e s m below meth c ls hF hP hK hS hA hD hl
  obtain ⟨hx, hb, hr, hml, hown, hts, hlocks⟩ := hF
  have hown : s.vm.findClass RX2 = some m.cls := hown
  have hl : lv_has ls 2 [(0, .ref w0)] := hl
  refine lv_aload_n hx hb dX2_addOne_0 rfl (lv_at hl 0 rfl) ?_
  refine va_get (D := D) (ci := 2) (v := .int kn) (C := RX2) (T := TX2) (N := 6) hx hb hts (fun w h => List.mem_cons_of_mem _ (List.mem_append_right _ (h))) hown hK.1 hP 0 rfl rfl 0 (by decide) (hts (.fieldLink RX2 9 "SenseNet$Words" "known" "I") (List.mem_of_getElem? (i := 1) rfl)) (fun _ h9 => h9) rfl dX2_addOne_1 ?_
  refine lv_istore_n (lv' := [(1, .int kn), (0, .ref w0)]) hx hb dX2_addOne_4 rfl hl (by decide) rfl (fun ls hl => ?_)
  refine lv_aload_n hx hb dX2_addOne_5 rfl (lv_at hl 1 rfl) ?_
  refine lv_dup hx hb dX2_addOne_6 rfl ?_
  refine va_get (D := D) (ci := 2) (v := .int kn) (C := RX2) (T := TX2) (N := 6) hx hb hts (fun w h => List.mem_cons_of_mem _ (List.mem_append_right _ (h))) hown hK.1 hP 0 rfl rfl 0 (by decide) (hts (.fieldLink RX2 9 "SenseNet$Words" "known" "I") (List.mem_of_getElem? (i := 1) rfl)) (fun _ h9 => h9) rfl dX2_addOne_7 ?_
  refine lv_iconst (v := 1) hx hb dX2_addOne_10 (by decide) ?_
  refine lv_iadd hx hb dX2_addOne_11 ?_
  refine va_put (D := D) (ci := 2) (v := .int (kn + 1)) (ty := .int) (C := RX2) (T := TX2) (N := 6) hx hb hts (fun w h => List.mem_cons_of_mem _ (List.mem_append_right _ (h))) tyX2 tyX2_ok nmX2 hown hK.1 hP hD hS 0 rfl rfl 0 (by decide) (hts (.fieldLink RX2 9 "SenseNet$Words" "known" "I") (List.mem_of_getElem? (i := 1) rfl)) (fun _ h9 => h9) rfl (by decide +kernel) rfl rfl (Nat.le_of_ble_eq_true rfl) dX2_addOne_12 (fun H locs hP hD hS => ?_)
  have hP : va_P D vwCl [(w0, .inr (2, [.int (kn + 1), .int pl, .ref w2, .ref w3, .ref w4, .ref w5])), (w2, .inl (cI, 50, .inl gv)), (w3, .inl (cI, 10, .inl sz)), (w4, .inl (cI, 10, .inl lk)), (w5, .inl (cI, 6, .inl se))] H := hP
  have hD := (show va_D _ [(w0, .inr (2, [.int (kn + 1), .int pl, .ref w2, .ref w3, .ref w4, .ref w5])), (w2, .inl (cI, 50, .inl gv)), (w3, .inl (cI, 10, .inl sz)), (w4, .inl (cI, 10, .inl lk)), (w5, .inl (cI, 6, .inl se))] from hD)
  refine lv_aload_n hx hb dX2_addOne_15 rfl (lv_at hl 1 rfl) ?_
  refine va_get (D := D) (ci := 2) (v := .ref w3) (C := RX2) (T := TX2) (N := 6) hx hb hts (fun w h => List.mem_cons_of_mem _ (List.mem_append_right _ (h))) hown hK.1 hP 0 rfl rfl 3 (by decide) (hts (.fieldLink RX2 22 "SenseNet$Words" "sizes" "[I") (List.mem_of_getElem? (i := 2) rfl)) (fun _ h9 => h9) rfl dX2_addOne_16 ?_
  refine lv_iload_n hx hb dX2_addOne_19 rfl (lv_at hl 0 rfl) ?_
  refine lv_iconst (v := 0) hx hb dX2_addOne_20 (by decide) ?_
  refine kq_V (wr := [(w0, .inr (2, [.int (kn + 1), .int pl, .ref w2, .ref w3, .ref w4, .ref w5])), (w2, .inl (cI, 50, .inl gv)), (w4, .inl (cI, 10, .inl lk)), (w5, .inl (cI, 6, .inl se))]) (va_runSN (As := [.ref w3, .int kn, .int 0]) (rest := []) ⟨hx, hb, hml, hown, hts⟩ (c_X3_put l D cI w3 10 sz kn 0 (by decide) _) ⟨va_cnB 3 hts gX2_addOne_X3_put_n43 rfl rfl rfl hK.2.2.2.2.2.2.2.2 (hts (.initialized RX3) (List.mem_of_getElem? (i := 5) rfl)) (by decide +kernel) ⟨Nat.le_of_ble_eq_true rfl, Nat.le_of_ble_eq_true rfl⟩, (hts (.static yX3_put) (List.mem_of_getElem? (i := 4) rfl)), trivial⟩ (kp_WS (hP.sub (ws' := [(w3, .inl (cI, 10, .inl sz))]) [2] rfl) (hD.sub (ws' := [(w3, .inl (cI, 10, .inl sz))]) [2] (by decide) rfl) hK) rfl rfl hl.1 rfl (lv_room (Nat.le_of_ble_eq_true rfl)) dX2_addOne_21 ⟨Nat.zero_le _, Nat.zero_le _⟩) hP hD hS hA [2] [0, 1, 3, 4] rfl rfl (by decide) (by decide) (fun _u H locs er_21 hP hD hS => ?_)
  have hP := hP.sub (ws' := [(w0, .inr (2, [.int (kn + 1), .int pl, .ref w2, .ref w3, .ref w4, .ref w5])), (w2, .inl (cI, 50, .inl gv)), (w3, .inl (cI, 10, .inl (kput 10 sz kn 0))), (w4, .inl (cI, 10, .inl lk)), (w5, .inl (cI, 6, .inl se))]) [0, 1, 4, 2, 3] rfl
  have hD := hD.sub (ws' := [(w0, .inr (2, [.int (kn + 1), .int pl, .ref w2, .ref w3, .ref w4, .ref w5])), (w2, .inl (cI, 50, .inl gv)), (w3, .inl (cI, 10, .inl (kput 10 sz kn 0))), (w4, .inl (cI, 10, .inl lk)), (w5, .inl (cI, 6, .inl se))]) [0, 1, 4, 2, 3] (by decide) rfl
  refine lv_aload_n hx hb dX2_addOne_24 rfl (lv_at hl 1 rfl) ?_
  refine va_get (D := D) (ci := 2) (v := .ref w4) (C := RX2) (T := TX2) (N := 6) hx hb hts (fun w h => List.mem_cons_of_mem _ (List.mem_append_right _ (h))) hown hK.1 hP 0 rfl rfl 4 (by decide) (hts (.fieldLink RX2 25 "SenseNet$Words" "locks" "[I") (List.mem_of_getElem? (i := 3) rfl)) (fun _ h9 => h9) rfl dX2_addOne_25 ?_
  refine lv_iload_n hx hb dX2_addOne_28 rfl (lv_at hl 0 rfl) ?_
  refine lv_iconst (v := (-1)) hx hb dX2_addOne_29 (by decide) ?_
  refine kq_V (wr := [(w0, .inr (2, [.int (kn + 1), .int pl, .ref w2, .ref w3, .ref w4, .ref w5])), (w2, .inl (cI, 50, .inl gv)), (w3, .inl (cI, 10, .inl (kput 10 sz kn 0))), (w5, .inl (cI, 6, .inl se))]) (va_runSN (As := [.ref w4, .int kn, .int (-1)]) (rest := []) ⟨hx, hb, hml, hown, hts⟩ (c_X3_put l D cI w4 10 lk kn (-1) (by decide) _) ⟨va_cnB 3 hts gX2_addOne_X3_put_n43 rfl rfl rfl hK.2.2.2.2.2.2.2.2 (hts (.initialized RX3) (List.mem_of_getElem? (i := 5) rfl)) (by decide +kernel) ⟨Nat.le_of_ble_eq_true rfl, Nat.le_of_ble_eq_true rfl⟩, (hts (.static yX3_put) (List.mem_of_getElem? (i := 4) rfl)), trivial⟩ (kp_WS (hP.sub (ws' := [(w4, .inl (cI, 10, .inl lk))]) [3] rfl) (hD.sub (ws' := [(w4, .inl (cI, 10, .inl lk))]) [3] (by decide) rfl) hK) rfl rfl hl.1 rfl (lv_room (Nat.le_of_ble_eq_true rfl)) dX2_addOne_30 ⟨Nat.zero_le _, Nat.zero_le _⟩) hP hD hS hA [3] [0, 1, 2, 4] rfl rfl (by decide) (by decide) (fun _u H locs er_30 hP hD hS => ?_)
  have hP := hP.sub (ws' := [(w0, .inr (2, [.int (kn + 1), .int pl, .ref w2, .ref w3, .ref w4, .ref w5])), (w2, .inl (cI, 50, .inl gv)), (w3, .inl (cI, 10, .inl (kput 10 sz kn 0))), (w4, .inl (cI, 10, .inl (kput 10 lk kn (-1)))), (w5, .inl (cI, 6, .inl se))]) [0, 1, 2, 4, 3] rfl
  have hD := hD.sub (ws' := [(w0, .inr (2, [.int (kn + 1), .int pl, .ref w2, .ref w3, .ref w4, .ref w5])), (w2, .inl (cI, 50, .inl gv)), (w3, .inl (cI, 10, .inl (kput 10 sz kn 0))), (w4, .inl (cI, 10, .inl (kput 10 lk kn (-1)))), (w5, .inl (cI, 6, .inl se))]) [0, 1, 2, 4, 3] (by decide) rfl
  refine lv_iload_n hx hb dX2_addOne_33 rfl (lv_at hl 0 rfl) ?_
  exact ke_W hx hb hr hlocks (()) hP hD hS dX2_addOne_34 (rfl)
set_option maxHeartbeats 4000000 in
set_option maxRecDepth 100000 in
theorem c_X2_append (l : Launch) (D : va_G) (cI : ClassId) (w0 w2 w3 w4 w5 : Nat) (kn : Int32) (pl : Int32) (gv : Nat → Int32) (sz : Nat → Int32) (lk : Nat → Int32) (se : Nat → Int32) (i1 : Int32) (i2 : Int32) : kc_W l yX2_append wsX2_append 1 22 D cI [.ref w0, .int i1, .int i2] [(w0, .inr (2, [.int kn, .int pl, .ref w2, .ref w3, .ref w4, .ref w5])), (w2, .inl (cI, 50, .inl gv)), (w3, .inl (cI, 10, .inl sz)), (w4, .inl (cI, 10, .inl lk)), (w5, .inl (cI, 6, .inl se))] (fun (r : Int32) (u : Unit) => r = kat 10 sz i1 + 1) (fun u => [(w0, .inr (2, [.int kn, .int pl, .ref w2, .ref w3, .ref w4, .ref w5])), (w2, .inl (cI, 50, .inl (kput 50 gv (i1 * 5 + kat 10 sz i1) i2))), (w3, .inl (cI, 10, .inl (kput 10 sz i1 (kat 10 sz i1 + 1)))), (w4, .inl (cI, 10, .inl lk)), (w5, .inl (cI, 6, .inl se))]) := by
  refine ks_W (cc := cX2_append) (nL := 4) (ret := (some .int)) (by decide) rfl (Nat.le_of_ble_eq_true rfl) ?_
  intro p e s m below meth c ls hF hP hK hS hA hD hl
  obtain ⟨hx, hb, hr, hml, hown, hts, hlocks⟩ := hF
  have hown : s.vm.findClass RX2 = some m.cls := hown
  have hl : lv_has ls 4 [(0, .ref w0), (1, .int i1), (2, .int i2)] := hl
  refine lv_aload_n hx hb dX2_append_0 rfl (lv_at hl 0 rfl) ?_
  refine va_get (D := D) (ci := 2) (v := .ref w3) (C := RX2) (T := TX2) (N := 6) hx hb hts (fun w h => List.mem_cons_of_mem _ (List.mem_append_right _ (h))) hown hK.1 hP 0 rfl rfl 3 (by decide) (hts (.fieldLink RX2 22 "SenseNet$Words" "sizes" "[I") (List.mem_of_getElem? (i := 1) rfl)) (fun _ h9 => h9) rfl dX2_append_1 ?_
  refine lv_iload_n hx hb dX2_append_4 rfl (lv_at hl 1 rfl) ?_
  refine kq_R (va_runSN (As := [.ref w3, .int i1]) (rest := []) ⟨hx, hb, hml, hown, hts⟩ (c_X3_at l D cI w3 10 sz i1 (by decide) _) ⟨va_cnB 2 hts gX2_append_X3_at_n31 rfl rfl rfl hK.2.2.2.2.2.2.2.1 (hts (.initialized RX3) (List.mem_of_getElem? (i := 4) rfl)) (by decide +kernel) ⟨Nat.le_of_ble_eq_true rfl, Nat.le_of_ble_eq_true rfl⟩, (hts (.static yX3_at) (List.mem_of_getElem? (i := 3) rfl)), trivial⟩ (kp_RS (hP.sub (ws' := [(w3, .inl (cI, 10, .inl sz))]) [2] rfl) hK) rfl rfl hl.1 rfl (lv_room (Nat.le_of_ble_eq_true rfl)) dX2_append_5 ⟨Nat.zero_le _, Nat.zero_le _⟩) hP hS hA (fun r_5 H locs er_5 hP hS => ?_)
  subst er_5
  refine lv_istore_n (lv' := [(3, .int (kat 10 sz i1)), (0, .ref w0), (1, .int i1), (2, .int i2)]) hx hb dX2_append_8 rfl hl (by decide) rfl (fun ls hl => ?_)
  refine lv_aload_n hx hb dX2_append_9 rfl (lv_at hl 1 rfl) ?_
  refine va_get (D := D) (ci := 2) (v := .ref w2) (C := RX2) (T := TX2) (N := 6) hx hb hts (fun w h => List.mem_cons_of_mem _ (List.mem_append_right _ (h))) hown hK.1 hP 0 rfl rfl 2 (by decide) (hts (.fieldLink RX2 18 "SenseNet$Words" "given" "[I") (List.mem_of_getElem? (i := 2) rfl)) (fun _ h9 => h9) rfl dX2_append_10 ?_
  refine lv_iload_n hx hb dX2_append_13 rfl (lv_at hl 2 rfl) ?_
  refine lv_iconst (v := 5) hx hb dX2_append_14 (by decide) ?_
  refine lv_imul hx hb dX2_append_15 ?_
  refine lv_iload_n hx hb dX2_append_16 rfl (lv_at hl 0 rfl) ?_
  refine lv_iadd hx hb dX2_append_17 ?_
  refine lv_iload_n hx hb dX2_append_18 rfl (lv_at hl 3 rfl) ?_
  refine kq_V (wr := [(w0, .inr (2, [.int kn, .int pl, .ref w2, .ref w3, .ref w4, .ref w5])), (w3, .inl (cI, 10, .inl sz)), (w4, .inl (cI, 10, .inl lk)), (w5, .inl (cI, 6, .inl se))]) (va_runSN (As := [.ref w2, .int ((i1 * 5) + (kat 10 sz i1)), .int i2]) (rest := []) ⟨hx, hb, hml, hown, hts⟩ (c_X3_put l D cI w2 50 gv ((i1 * 5) + (kat 10 sz i1)) i2 (by decide) _) ⟨va_cnB 3 hts gX2_append_X3_put_n43 rfl rfl rfl hK.2.2.2.2.2.2.2.2 (hts (.initialized RX3) (List.mem_of_getElem? (i := 4) rfl)) (by decide +kernel) ⟨Nat.le_of_ble_eq_true rfl, Nat.le_of_ble_eq_true rfl⟩, (hts (.static yX3_put) (List.mem_of_getElem? (i := 6) rfl)), trivial⟩ (kp_WS (hP.sub (ws' := [(w2, .inl (cI, 50, .inl gv))]) [1] rfl) (hD.sub (ws' := [(w2, .inl (cI, 50, .inl gv))]) [1] (by decide) rfl) hK) rfl rfl hl.1 rfl (lv_room (Nat.le_of_ble_eq_true rfl)) dX2_append_19 ⟨Nat.zero_le _, Nat.zero_le _⟩) hP hD hS hA [1] [0, 2, 3, 4] rfl rfl (by decide) (by decide) (fun _u H locs er_19 hP hD hS => ?_)
  have hP := hP.sub (ws' := [(w0, .inr (2, [.int kn, .int pl, .ref w2, .ref w3, .ref w4, .ref w5])), (w2, .inl (cI, 50, .inl (kput 50 gv ((i1 * 5) + (kat 10 sz i1)) i2))), (w3, .inl (cI, 10, .inl sz)), (w4, .inl (cI, 10, .inl lk)), (w5, .inl (cI, 6, .inl se))]) [0, 4, 1, 2, 3] rfl
  have hD := hD.sub (ws' := [(w0, .inr (2, [.int kn, .int pl, .ref w2, .ref w3, .ref w4, .ref w5])), (w2, .inl (cI, 50, .inl (kput 50 gv ((i1 * 5) + (kat 10 sz i1)) i2))), (w3, .inl (cI, 10, .inl sz)), (w4, .inl (cI, 10, .inl lk)), (w5, .inl (cI, 6, .inl se))]) [0, 4, 1, 2, 3] (by decide) rfl
  refine lv_aload_n hx hb dX2_append_22 rfl (lv_at hl 1 rfl) ?_
  refine va_get (D := D) (ci := 2) (v := .ref w3) (C := RX2) (T := TX2) (N := 6) hx hb hts (fun w h => List.mem_cons_of_mem _ (List.mem_append_right _ (h))) hown hK.1 hP 0 rfl rfl 3 (by decide) (hts (.fieldLink RX2 22 "SenseNet$Words" "sizes" "[I") (List.mem_of_getElem? (i := 1) rfl)) (fun _ h9 => h9) rfl dX2_append_23 ?_
  refine lv_iload_n hx hb dX2_append_26 rfl (lv_at hl 2 rfl) ?_
  refine lv_iload_n hx hb dX2_append_27 rfl (lv_at hl 0 rfl) ?_
  refine lv_iconst (v := 1) hx hb dX2_append_28 (by decide) ?_
  refine lv_iadd hx hb dX2_append_29 ?_
  refine kq_V (wr := [(w0, .inr (2, [.int kn, .int pl, .ref w2, .ref w3, .ref w4, .ref w5])), (w2, .inl (cI, 50, .inl (kput 50 gv ((i1 * 5) + (kat 10 sz i1)) i2))), (w4, .inl (cI, 10, .inl lk)), (w5, .inl (cI, 6, .inl se))]) (va_runSN (As := [.ref w3, .int i1, .int ((kat 10 sz i1) + 1)]) (rest := []) ⟨hx, hb, hml, hown, hts⟩ (c_X3_put l D cI w3 10 sz i1 ((kat 10 sz i1) + 1) (by decide) _) ⟨va_cnB 3 hts gX2_append_X3_put_n43 rfl rfl rfl hK.2.2.2.2.2.2.2.2 (hts (.initialized RX3) (List.mem_of_getElem? (i := 4) rfl)) (by decide +kernel) ⟨Nat.le_of_ble_eq_true rfl, Nat.le_of_ble_eq_true rfl⟩, (hts (.static yX3_put) (List.mem_of_getElem? (i := 6) rfl)), trivial⟩ (kp_WS (hP.sub (ws' := [(w3, .inl (cI, 10, .inl sz))]) [2] rfl) (hD.sub (ws' := [(w3, .inl (cI, 10, .inl sz))]) [2] (by decide) rfl) hK) rfl rfl hl.1 rfl (lv_room (Nat.le_of_ble_eq_true rfl)) dX2_append_30 ⟨Nat.zero_le _, Nat.zero_le _⟩) hP hD hS hA [2] [0, 1, 3, 4] rfl rfl (by decide) (by decide) (fun _u H locs er_30 hP hD hS => ?_)
  have hP := hP.sub (ws' := [(w0, .inr (2, [.int kn, .int pl, .ref w2, .ref w3, .ref w4, .ref w5])), (w2, .inl (cI, 50, .inl (kput 50 gv ((i1 * 5) + (kat 10 sz i1)) i2))), (w3, .inl (cI, 10, .inl (kput 10 sz i1 ((kat 10 sz i1) + 1)))), (w4, .inl (cI, 10, .inl lk)), (w5, .inl (cI, 6, .inl se))]) [0, 1, 4, 2, 3] rfl
  have hD := hD.sub (ws' := [(w0, .inr (2, [.int kn, .int pl, .ref w2, .ref w3, .ref w4, .ref w5])), (w2, .inl (cI, 50, .inl (kput 50 gv ((i1 * 5) + (kat 10 sz i1)) i2))), (w3, .inl (cI, 10, .inl (kput 10 sz i1 ((kat 10 sz i1) + 1)))), (w4, .inl (cI, 10, .inl lk)), (w5, .inl (cI, 6, .inl se))]) [0, 1, 4, 2, 3] (by decide) rfl
  refine lv_iload_n hx hb dX2_append_33 rfl (lv_at hl 0 rfl) ?_
  refine lv_iconst (v := 1) hx hb dX2_append_34 (by decide) ?_
  refine lv_iadd hx hb dX2_append_35 ?_
  exact ke_W hx hb hr hlocks (()) hP hD hS dX2_append_36 (rfl)
set_option maxHeartbeats 4000000 in
set_option maxRecDepth 100000 in
theorem c_X2_drop (l : Launch) (D : va_G) (cI : ClassId) (w0 w2 w3 w4 w5 : Nat) (kn : Int32) (pl : Int32) (gv : Nat → Int32) (sz : Nat → Int32) (lk : Nat → Int32) (se : Nat → Int32) (i1 : Int32) (i2 : Int32) : kc_W l yX2_drop wsX2_drop 2 45 D cI [.ref w0, .int i1, .int i2] [(w0, .inr (2, [.int kn, .int pl, .ref w2, .ref w3, .ref w4, .ref w5])), (w2, .inl (cI, 50, .inl gv)), (w3, .inl (cI, 10, .inl sz)), (w4, .inl (cI, 10, .inl lk)), (w5, .inl (cI, 6, .inl se))] (fun (r : Int32) (u : Unit) => r = kat 10 sz i1 - 1) (fun u => [(w0, .inr (2, [.int kn, .int pl, .ref w2, .ref w3, .ref w4, .ref w5])), (w2, .inl (cI, 50, .inl (kdr sz gv i1 i2))), (w3, .inl (cI, 10, .inl (kput 10 sz i1 (kat 10 sz i1 - 1)))), (w4, .inl (cI, 10, .inl (klck lk i1 i2))), (w5, .inl (cI, 6, .inl se))]) := by
  refine ks_W (cc := cX2_drop) (nL := 6) (ret := (some .int)) (by decide) rfl (Nat.le_of_ble_eq_true rfl) ?_
  intro p e s m below meth c ls hF hP hK hS hA hD hl
  obtain ⟨hx, hb, hr, hml, hown, hts, hlocks⟩ := hF
  have hown : s.vm.findClass RX2 = some m.cls := hown
  have hl : lv_has ls 6 [(0, .ref w0), (1, .int i1), (2, .int i2)] := hl
  refine lv_aload_n hx hb dX2_drop_0 rfl (lv_at hl 0 rfl) ?_
  refine va_get (D := D) (ci := 2) (v := .ref w3) (C := RX2) (T := TX2) (N := 6) hx hb hts (fun w h => List.mem_cons_of_mem _ (List.mem_append_right _ (h))) hown hK.1 hP 0 rfl rfl 3 (by decide) (hts (.fieldLink RX2 22 "SenseNet$Words" "sizes" "[I") (List.mem_of_getElem? (i := 1) rfl)) (fun _ h9 => h9) rfl dX2_drop_1 ?_
  refine lv_iload_n hx hb dX2_drop_4 rfl (lv_at hl 1 rfl) ?_
  refine kq_R (va_runSN (As := [.ref w3, .int i1]) (rest := []) ⟨hx, hb, hml, hown, hts⟩ (c_X3_at l D cI w3 10 sz i1 (by decide) _) ⟨va_cnB 2 hts gX2_drop_X3_at_n31 rfl rfl rfl hK.2.2.2.2.2.2.2.1 (hts (.initialized RX3) (List.mem_of_getElem? (i := 5) rfl)) (by decide +kernel) ⟨Nat.le_of_ble_eq_true rfl, Nat.le_of_ble_eq_true rfl⟩, (hts (.static yX3_at) (List.mem_of_getElem? (i := 4) rfl)), trivial⟩ (kp_RS (hP.sub (ws' := [(w3, .inl (cI, 10, .inl sz))]) [2] rfl) hK) rfl rfl hl.1 rfl (lv_room (Nat.le_of_ble_eq_true rfl)) dX2_drop_5 ⟨Nat.zero_le _, Nat.zero_le _⟩) hP hS hA (fun r_5 H locs er_5 hP hS => ?_)
  subst er_5
  refine lv_iconst (v := 1) hx hb dX2_drop_8 (by decide) ?_
  refine lv_isub hx hb dX2_drop_9 ?_
  refine lv_istore_n (lv' := [(3, .int ((kat 10 sz i1) - 1)), (0, .ref w0), (1, .int i1), (2, .int i2)]) hx hb dX2_drop_10 rfl hl (by decide) rfl (fun ls hl => ?_)
  refine lv_iload_n hx hb dX2_drop_11 rfl (lv_at hl 2 rfl) ?_
  refine lv_iconst (v := 5) hx hb dX2_drop_12 (by decide) ?_
  refine lv_imul hx hb dX2_drop_13 ?_
  refine lv_istore (lv' := [(4, .int (i1 * 5)), (3, .int ((kat 10 sz i1) - 1)), (0, .ref w0), (1, .int i1), (2, .int i2)]) hx hb dX2_drop_14 hl (by decide) rfl (fun ls hl => ?_)
  refine lv_aload_n hx hb dX2_drop_16 rfl (lv_at hl 2 rfl) ?_
  refine lv_iload_n hx hb dX2_drop_17 rfl (lv_at hl 3 rfl) ?_
  refine lv_iload_n hx hb dX2_drop_18 rfl (lv_at hl 4 rfl) ?_
  refine kq_R (va_runV (As := [.int i1, .int i2]) (rest := []) ⟨hx, hb, hml, hown, hts⟩ (c_X2_rankOf l D cI w0 w2 w3 w4 w5 kn pl gv sz lk se i1 i2 _) (cwV 2 hts gX2_drop_X2_rankOf rfl rfl rfl (by decide +kernel) ⟨Nat.le_of_ble_eq_true rfl, Nat.le_of_ble_eq_true rfl⟩) (kp_RV (hP.sub (ws' := [(w0, .inr (2, [.int kn, .int pl, .ref w2, .ref w3, .ref w4, .ref w5])), (w2, .inl (cI, 50, .inl gv)), (w3, .inl (cI, 10, .inl sz)), (w4, .inl (cI, 10, .inl lk)), (w5, .inl (cI, 6, .inl se))]) [0, 1, 2, 3, 4] rfl) hK 0 2 rfl rfl) rfl rfl hl.1 rfl (lv_room (Nat.le_of_ble_eq_true rfl)) dX2_drop_19 ⟨Nat.zero_le _, Nat.zero_le _⟩) hP hS hA (fun r_19 H locs er_19 hP hS => ?_)
  subst er_19
  refine lv_istore (lv' := [(5, .int (krk sz gv i1 i2)), (4, .int (i1 * 5)), (3, .int ((kat 10 sz i1) - 1)), (0, .ref w0), (1, .int i1), (2, .int i2)]) hx hb dX2_drop_22 hl (by decide) rfl (fun ls hl => ?_)
  refine kl_while (head := 24) (fun (x : Nat) (H : Heap) (locs : List Loc) (ls : Array Slot) => ∃ (y : Int32), ∃ (g : Nat → Int32), (kdro (i1 * 5) (kat 10 sz i1 - 1) x y g = kdr sz gv i1 i2 ∧ ((kat 10 sz i1 - 1).toInt - y.toInt).toNat ≤ x) ∧ va_P D vwCl [(w0, .inr (2, [.int kn, .int pl, .ref w2, .ref w3, .ref w4, .ref w5])), (w2, .inl (cI, 50, .inl g)), (w3, .inl (cI, 10, .inl sz)), (w4, .inl (cI, 10, .inl lk)), (w5, .inl (cI, 6, .inl se))] H ∧ va_D (va_A [(w0, .inr (2, [.int kn, .int pl, .ref w2, .ref w3, .ref w4, .ref w5])), (w2, .inl (cI, 50, .inl gv)), (w3, .inl (cI, 10, .inl sz)), (w4, .inl (cI, 10, .inl lk)), (w5, .inl (cI, 6, .inl se))] s.heap.size) [(w0, .inr (2, [.int kn, .int pl, .ref w2, .ref w3, .ref w4, .ref w5])), (w2, .inl (cI, 50, .inl g)), (w3, .inl (cI, 10, .inl sz)), (w4, .inl (cI, 10, .inl lk)), (w5, .inl (cI, 6, .inl se))] ∧ va_S (va_A [(w0, .inr (2, [.int kn, .int pl, .ref w2, .ref w3, .ref w4, .ref w5])), (w2, .inl (cI, 50, .inl gv)), (w3, .inl (cI, 10, .inl sz)), (w4, .inl (cI, 10, .inl lk)), (w5, .inl (cI, 6, .inl se))] s.heap.size) s.heap H locs ∧ lv_has ls 6 [(0, .ref w0), (1, .int i1), (2, .int i2), (3, .int ((kat 10 sz i1) - 1)), (4, .int (i1 * 5)), (5, .int y)]) (fun x => x) ?_ (((kat 10 sz i1 - 1).toInt - (krk sz gv i1 i2).toInt).toNat) ⟨(krk sz gv i1 i2), gv, (⟨rfl, Nat.le_refl _⟩), hP, hD, hS, (lv_sub hl [3, 4, 5, 2, 1, 0] rfl)⟩
  · skip
    intro x H locs ls hJ ih24
    obtain ⟨y, g, hI, hP, hD, hS, hl⟩ := hJ
    refine kl_cut (pc := 67) (fun (H : Heap) (locs : List Loc) (ls : Array Slot) (st : List Value) => ∃ (g2 : Nat → Int32), (kdr sz gv i1 i2 = g2) ∧ st = [] ∧ va_P D vwCl [(w0, .inr (2, [.int kn, .int pl, .ref w2, .ref w3, .ref w4, .ref w5])), (w2, .inl (cI, 50, .inl g2)), (w3, .inl (cI, 10, .inl sz)), (w4, .inl (cI, 10, .inl lk)), (w5, .inl (cI, 6, .inl se))] H ∧ va_D (va_A [(w0, .inr (2, [.int kn, .int pl, .ref w2, .ref w3, .ref w4, .ref w5])), (w2, .inl (cI, 50, .inl gv)), (w3, .inl (cI, 10, .inl sz)), (w4, .inl (cI, 10, .inl lk)), (w5, .inl (cI, 6, .inl se))] s.heap.size) [(w0, .inr (2, [.int kn, .int pl, .ref w2, .ref w3, .ref w4, .ref w5])), (w2, .inl (cI, 50, .inl g2)), (w3, .inl (cI, 10, .inl sz)), (w4, .inl (cI, 10, .inl lk)), (w5, .inl (cI, 6, .inl se))] ∧ va_S (va_A [(w0, .inr (2, [.int kn, .int pl, .ref w2, .ref w3, .ref w4, .ref w5])), (w2, .inl (cI, 50, .inl gv)), (w3, .inl (cI, 10, .inl sz)), (w4, .inl (cI, 10, .inl lk)), (w5, .inl (cI, 6, .inl se))] s.heap.size) s.heap H locs ∧ lv_has ls 6 [(0, .ref w0), (1, .int i1), (2, .int i2), (3, .int ((kat 10 sz i1) - 1)), (4, .int (i1 * 5))]) ?_ (fun jn67 => ?_)
    · skip
      intro H locs ls st hJ
      obtain ⟨g2, hI67, rfl, hP, hD, hS, hl⟩ := hJ
      refine lv_aload_n hx hb dX2_drop_67 rfl (lv_at hl 0 rfl) ?_
      refine va_get (D := D) (ci := 2) (v := .ref w3) (C := RX2) (T := TX2) (N := 6) hx hb hts (fun w h => List.mem_cons_of_mem _ (List.mem_append_right _ (h))) hown hK.1 hP 0 rfl rfl 3 (by decide) (hts (.fieldLink RX2 22 "SenseNet$Words" "sizes" "[I") (List.mem_of_getElem? (i := 1) rfl)) (fun _ h9 => h9) rfl dX2_drop_68 ?_
      refine lv_iload_n hx hb dX2_drop_71 rfl (lv_at hl 1 rfl) ?_
      refine lv_iload_n hx hb dX2_drop_72 rfl (lv_at hl 3 rfl) ?_
      refine kq_V (wr := [(w0, .inr (2, [.int kn, .int pl, .ref w2, .ref w3, .ref w4, .ref w5])), (w2, .inl (cI, 50, .inl g2)), (w4, .inl (cI, 10, .inl lk)), (w5, .inl (cI, 6, .inl se))]) (va_runSN (As := [.ref w3, .int i1, .int ((kat 10 sz i1) - 1)]) (rest := []) ⟨hx, hb, hml, hown, hts⟩ (c_X3_put l D cI w3 10 sz i1 ((kat 10 sz i1) - 1) (by decide) _) ⟨va_cnB 3 hts gX2_drop_X3_put_n43 rfl rfl rfl hK.2.2.2.2.2.2.2.2 (hts (.initialized RX3) (List.mem_of_getElem? (i := 5) rfl)) (by decide +kernel) ⟨Nat.le_of_ble_eq_true rfl, Nat.le_of_ble_eq_true rfl⟩, (hts (.static yX3_put) (List.mem_of_getElem? (i := 12) rfl)), trivial⟩ (kp_WS (hP.sub (ws' := [(w3, .inl (cI, 10, .inl sz))]) [2] rfl) (hD.sub (ws' := [(w3, .inl (cI, 10, .inl sz))]) [2] (by decide) rfl) hK) rfl rfl hl.1 rfl (lv_room (Nat.le_of_ble_eq_true rfl)) dX2_drop_73 ⟨Nat.zero_le _, Nat.zero_le _⟩) hP hD hS hA [2] [0, 1, 3, 4] rfl rfl (by decide) (by decide) (fun _u H locs er_73 hP hD hS => ?_)
      have hP := hP.sub (ws' := [(w0, .inr (2, [.int kn, .int pl, .ref w2, .ref w3, .ref w4, .ref w5])), (w2, .inl (cI, 50, .inl g2)), (w3, .inl (cI, 10, .inl (kput 10 sz i1 ((kat 10 sz i1) - 1)))), (w4, .inl (cI, 10, .inl lk)), (w5, .inl (cI, 6, .inl se))]) [0, 1, 4, 2, 3] rfl
      have hD := hD.sub (ws' := [(w0, .inr (2, [.int kn, .int pl, .ref w2, .ref w3, .ref w4, .ref w5])), (w2, .inl (cI, 50, .inl g2)), (w3, .inl (cI, 10, .inl (kput 10 sz i1 ((kat 10 sz i1) - 1)))), (w4, .inl (cI, 10, .inl lk)), (w5, .inl (cI, 6, .inl se))]) [0, 1, 4, 2, 3] (by decide) rfl
      refine lv_aload_n hx hb dX2_drop_76 rfl (lv_at hl 0 rfl) ?_
      refine va_get (D := D) (ci := 2) (v := .ref w4) (C := RX2) (T := TX2) (N := 6) hx hb hts (fun w h => List.mem_cons_of_mem _ (List.mem_append_right _ (h))) hown hK.1 hP 0 rfl rfl 4 (by decide) (hts (.fieldLink RX2 25 "SenseNet$Words" "locks" "[I") (List.mem_of_getElem? (i := 3) rfl)) (fun _ h9 => h9) rfl dX2_drop_77 ?_
      refine lv_iload_n hx hb dX2_drop_80 rfl (lv_at hl 1 rfl) ?_
      refine kq_R (va_runSN (As := [.ref w4, .int i1]) (rest := []) ⟨hx, hb, hml, hown, hts⟩ (c_X3_at l D cI w4 10 lk i1 (by decide) _) ⟨va_cnB 2 hts gX2_drop_X3_at_n31 rfl rfl rfl hK.2.2.2.2.2.2.2.1 (hts (.initialized RX3) (List.mem_of_getElem? (i := 5) rfl)) (by decide +kernel) ⟨Nat.le_of_ble_eq_true rfl, Nat.le_of_ble_eq_true rfl⟩, (hts (.static yX3_at) (List.mem_of_getElem? (i := 4) rfl)), trivial⟩ (kp_RS (hP.sub (ws' := [(w4, .inl (cI, 10, .inl lk))]) [3] rfl) hK) rfl rfl hl.1 rfl (lv_room (Nat.le_of_ble_eq_true rfl)) dX2_drop_81 ⟨Nat.zero_le _, Nat.zero_le _⟩) hP hS hA (fun r_81 H locs er_81 hP hS => ?_)
      subst er_81
      refine lv_iload_n hx hb dX2_drop_84 rfl (lv_at hl 2 rfl) ?_
      refine lv_icmp_ne (tgt := 97) hx hb dX2_drop_85 (by decide) (fun c_85 => ?_) (fun c_85 => ?_)
      · skip
        refine lv_iload_n hx hb dX2_drop_97 rfl (lv_at hl 3 rfl) ?_
        exact ke_W hx hb hr hlocks (()) (by (rw [hI67]; first | rw [klck, if_pos c_85] | rw [klck, if_neg (Classical.not_not.mpr c_85)]); exact hP) (by (rw [hI67]; first | rw [klck, if_pos c_85] | rw [klck, if_neg (Classical.not_not.mpr c_85)]); exact hD) hS dX2_drop_98 (rfl)
      · skip
        refine lv_aload_n hx hb dX2_drop_88 rfl (lv_at hl 0 rfl) ?_
        refine va_get (D := D) (ci := 2) (v := .ref w4) (C := RX2) (T := TX2) (N := 6) hx hb hts (fun w h => List.mem_cons_of_mem _ (List.mem_append_right _ (h))) hown hK.1 hP 0 rfl rfl 4 (by decide) (hts (.fieldLink RX2 25 "SenseNet$Words" "locks" "[I") (List.mem_of_getElem? (i := 3) rfl)) (fun _ h9 => h9) rfl dX2_drop_89 ?_
        refine lv_iload_n hx hb dX2_drop_92 rfl (lv_at hl 1 rfl) ?_
        refine lv_iconst (v := (-1)) hx hb dX2_drop_93 (by decide) ?_
        refine kq_V (wr := [(w0, .inr (2, [.int kn, .int pl, .ref w2, .ref w3, .ref w4, .ref w5])), (w2, .inl (cI, 50, .inl g2)), (w3, .inl (cI, 10, .inl (kput 10 sz i1 ((kat 10 sz i1) - 1)))), (w5, .inl (cI, 6, .inl se))]) (va_runSN (As := [.ref w4, .int i1, .int (-1)]) (rest := []) ⟨hx, hb, hml, hown, hts⟩ (c_X3_put l D cI w4 10 lk i1 (-1) (by decide) _) ⟨va_cnB 3 hts gX2_drop_X3_put_n43 rfl rfl rfl hK.2.2.2.2.2.2.2.2 (hts (.initialized RX3) (List.mem_of_getElem? (i := 5) rfl)) (by decide +kernel) ⟨Nat.le_of_ble_eq_true rfl, Nat.le_of_ble_eq_true rfl⟩, (hts (.static yX3_put) (List.mem_of_getElem? (i := 12) rfl)), trivial⟩ (kp_WS (hP.sub (ws' := [(w4, .inl (cI, 10, .inl lk))]) [3] rfl) (hD.sub (ws' := [(w4, .inl (cI, 10, .inl lk))]) [3] (by decide) rfl) hK) rfl rfl hl.1 rfl (lv_room (Nat.le_of_ble_eq_true rfl)) dX2_drop_94 ⟨Nat.zero_le _, Nat.zero_le _⟩) hP hD hS hA [3] [0, 1, 2, 4] rfl rfl (by decide) (by decide) (fun _u H locs er_94 hP hD hS => ?_)
        have hP := hP.sub (ws' := [(w0, .inr (2, [.int kn, .int pl, .ref w2, .ref w3, .ref w4, .ref w5])), (w2, .inl (cI, 50, .inl g2)), (w3, .inl (cI, 10, .inl (kput 10 sz i1 ((kat 10 sz i1) - 1)))), (w4, .inl (cI, 10, .inl (kput 10 lk i1 (-1)))), (w5, .inl (cI, 6, .inl se))]) [0, 1, 2, 4, 3] rfl
        have hD := hD.sub (ws' := [(w0, .inr (2, [.int kn, .int pl, .ref w2, .ref w3, .ref w4, .ref w5])), (w2, .inl (cI, 50, .inl g2)), (w3, .inl (cI, 10, .inl (kput 10 sz i1 ((kat 10 sz i1) - 1)))), (w4, .inl (cI, 10, .inl (kput 10 lk i1 (-1)))), (w5, .inl (cI, 6, .inl se))]) [0, 1, 2, 4, 3] (by decide) rfl
        refine lv_iload_n hx hb dX2_drop_97 rfl (lv_at hl 3 rfl) ?_
        exact ke_W hx hb hr hlocks (()) (by (rw [hI67]; first | rw [klck, if_pos c_85] | rw [klck, if_neg (Classical.not_not.mpr c_85)]); exact hP) (by (rw [hI67]; first | rw [klck, if_pos c_85] | rw [klck, if_neg (Classical.not_not.mpr c_85)]); exact hD) hS dX2_drop_98 (rfl)
    refine lv_iload hx hb dX2_drop_24 (lv_at hl 5 rfl) ?_
    refine lv_if_lt (tgt := 67) hx hb dX2_drop_26 (by decide) (fun c_26 => ?_) (fun c_26 => ?_)
    · skip
      exact jn67 _ _ _ _ ⟨g, (hI.1.symm.trans (kdro_x (Or.inl c_26) _)), rfl, hP, hD, hS, (lv_sub hl [0, 1, 2, 3, 4] rfl)⟩
    · skip
      refine lv_iload hx hb dX2_drop_29 (lv_at hl 5 rfl) ?_
      refine lv_iload_n hx hb dX2_drop_31 rfl (lv_at hl 3 rfl) ?_
      refine lv_icmp_ge (tgt := 67) hx hb dX2_drop_32 (by decide) (fun c_32 => ?_) (fun c_32 => ?_)
      · skip
        exact jn67 _ _ _ _ ⟨g, (hI.1.symm.trans (kdro_x (Or.inr c_32) _)), rfl, hP, hD, hS, (lv_sub hl [0, 1, 2, 3, 4] rfl)⟩
      · skip
        refine lv_aload_n hx hb dX2_drop_35 rfl (lv_at hl 0 rfl) ?_
        refine va_get (D := D) (ci := 2) (v := .ref w2) (C := RX2) (T := TX2) (N := 6) hx hb hts (fun w h => List.mem_cons_of_mem _ (List.mem_append_right _ (h))) hown hK.1 hP 0 rfl rfl 2 (by decide) (hts (.fieldLink RX2 18 "SenseNet$Words" "given" "[I") (List.mem_of_getElem? (i := 2) rfl)) (fun _ h9 => h9) rfl dX2_drop_36 ?_
        refine lv_iload hx hb dX2_drop_39 (lv_at hl 4 rfl) ?_
        refine lv_iload hx hb dX2_drop_41 (lv_at hl 5 rfl) ?_
        refine lv_iadd hx hb dX2_drop_43 ?_
        refine lv_aload_n hx hb dX2_drop_44 rfl (lv_at hl 0 rfl) ?_
        refine va_get (D := D) (ci := 2) (v := .ref w2) (C := RX2) (T := TX2) (N := 6) hx hb hts (fun w h => List.mem_cons_of_mem _ (List.mem_append_right _ (h))) hown hK.1 hP 0 rfl rfl 2 (by decide) (hts (.fieldLink RX2 18 "SenseNet$Words" "given" "[I") (List.mem_of_getElem? (i := 2) rfl)) (fun _ h9 => h9) rfl dX2_drop_45 ?_
        refine lv_iload hx hb dX2_drop_48 (lv_at hl 4 rfl) ?_
        refine lv_iload hx hb dX2_drop_50 (lv_at hl 5 rfl) ?_
        refine lv_iadd hx hb dX2_drop_52 ?_
        refine lv_iconst (v := 1) hx hb dX2_drop_53 (by decide) ?_
        refine lv_iadd hx hb dX2_drop_54 ?_
        refine kq_R (va_runSN (As := [.ref w2, .int (((i1 * 5) + y) + 1)]) (rest := [.int ((i1 * 5) + y), .ref w2]) ⟨hx, hb, hml, hown, hts⟩ (c_X3_at l D cI w2 50 g (((i1 * 5) + y) + 1) (by decide) _) ⟨va_cnB 2 hts gX2_drop_X3_at_n31 rfl rfl rfl hK.2.2.2.2.2.2.2.1 (hts (.initialized RX3) (List.mem_of_getElem? (i := 5) rfl)) (by decide +kernel) ⟨Nat.le_of_ble_eq_true rfl, Nat.le_of_ble_eq_true rfl⟩, (hts (.static yX3_at) (List.mem_of_getElem? (i := 4) rfl)), trivial⟩ (kp_RS (hP.sub (ws' := [(w2, .inl (cI, 50, .inl g))]) [1] rfl) hK) rfl rfl hl.1 rfl (lv_room (Nat.le_of_ble_eq_true rfl)) dX2_drop_55 ⟨Nat.zero_le _, Nat.zero_le _⟩) hP hS hA (fun r_55 H locs er_55 hP hS => ?_)
        subst er_55
        refine kq_V (wr := [(w0, .inr (2, [.int kn, .int pl, .ref w2, .ref w3, .ref w4, .ref w5])), (w3, .inl (cI, 10, .inl sz)), (w4, .inl (cI, 10, .inl lk)), (w5, .inl (cI, 6, .inl se))]) (va_runSN (As := [.ref w2, .int ((i1 * 5) + y), .int (kat 50 g (((i1 * 5) + y) + 1))]) (rest := []) ⟨hx, hb, hml, hown, hts⟩ (c_X3_put l D cI w2 50 g ((i1 * 5) + y) (kat 50 g (((i1 * 5) + y) + 1)) (by decide) _) ⟨va_cnB 3 hts gX2_drop_X3_put_n43 rfl rfl rfl hK.2.2.2.2.2.2.2.2 (hts (.initialized RX3) (List.mem_of_getElem? (i := 5) rfl)) (by decide +kernel) ⟨Nat.le_of_ble_eq_true rfl, Nat.le_of_ble_eq_true rfl⟩, (hts (.static yX3_put) (List.mem_of_getElem? (i := 12) rfl)), trivial⟩ (kp_WS (hP.sub (ws' := [(w2, .inl (cI, 50, .inl g))]) [1] rfl) (hD.sub (ws' := [(w2, .inl (cI, 50, .inl g))]) [1] (by decide) rfl) hK) rfl rfl hl.1 rfl (lv_room (Nat.le_of_ble_eq_true rfl)) dX2_drop_58 ⟨Nat.zero_le _, Nat.zero_le _⟩) hP hD hS hA [1] [0, 2, 3, 4] rfl rfl (by decide) (by decide) (fun _u H locs er_58 hP hD hS => ?_)
        have hP := hP.sub (ws' := [(w0, .inr (2, [.int kn, .int pl, .ref w2, .ref w3, .ref w4, .ref w5])), (w2, .inl (cI, 50, .inl (kput 50 g ((i1 * 5) + y) (kat 50 g (((i1 * 5) + y) + 1))))), (w3, .inl (cI, 10, .inl sz)), (w4, .inl (cI, 10, .inl lk)), (w5, .inl (cI, 6, .inl se))]) [0, 4, 1, 2, 3] rfl
        have hD := hD.sub (ws' := [(w0, .inr (2, [.int kn, .int pl, .ref w2, .ref w3, .ref w4, .ref w5])), (w2, .inl (cI, 50, .inl (kput 50 g ((i1 * 5) + y) (kat 50 g (((i1 * 5) + y) + 1))))), (w3, .inl (cI, 10, .inl sz)), (w4, .inl (cI, 10, .inl lk)), (w5, .inl (cI, 6, .inl se))]) [0, 4, 1, 2, 3] (by decide) rfl
        refine lv_iinc (v := y + 1) (lv' := [(5, .int (y + 1)), (0, .ref w0), (1, .int i1), (2, .int i2), (3, .int ((kat 10 sz i1) - 1)), (4, .int (i1 * 5))]) hx hb dX2_drop_61 hl (k := 5) rfl (rfl) (by decide) rfl (fun ls hl => ?_)
        refine lv_goto (tgt := 24) hx hb dX2_drop_64 (by decide) ?_
        obtain ⟨n1, hn1, hn2, hn3⟩ := kdro_s hI.1 hI.2 c_26 c_32
        exact ih24 (n1) _ _ _ (by omega) ⟨(y + 1), (kput 50 g ((i1 * 5) + y) (kat 50 g (((i1 * 5) + y) + 1))), (⟨hn2, hn3⟩), hP, hD, hS, (lv_sub hl [1, 2, 3, 4, 5, 0] rfl)⟩
set_option maxHeartbeats 4000000 in
set_option maxRecDepth 100000 in
theorem c_X2_relock (l : Launch) (D : va_G) (cI : ClassId) (w0 w2 w3 w4 w5 : Nat) (kn : Int32) (pl : Int32) (gv : Nat → Int32) (sz : Nat → Int32) (lk : Nat → Int32) (se : Nat → Int32) (i1 : Int32) (i2 : Int32) : kc_W l yX2_relock wsX2_relock 1 22 D cI [.ref w0, .int i1, .int i2] [(w0, .inr (2, [.int kn, .int pl, .ref w2, .ref w3, .ref w4, .ref w5])), (w2, .inl (cI, 50, .inl gv)), (w3, .inl (cI, 10, .inl sz)), (w4, .inl (cI, 10, .inl lk)), (w5, .inl (cI, 6, .inl se))] (fun (r : Int32) (u : Unit) => r = kat 10 lk i1) (fun u => [(w0, .inr (2, [.int kn, .int pl, .ref w2, .ref w3, .ref w4, .ref w5])), (w2, .inl (cI, 50, .inl gv)), (w3, .inl (cI, 10, .inl sz)), (w4, .inl (cI, 10, .inl (kput 10 lk i1 i2))), (w5, .inl (cI, 6, .inl se))]) := by
  refine ks_W (cc := cX2_relock) (nL := 4) (ret := (some .int)) (by decide) rfl (Nat.le_of_ble_eq_true rfl) ?_
  intro p e s m below meth c ls hF hP hK hS hA hD hl
  obtain ⟨hx, hb, hr, hml, hown, hts, hlocks⟩ := hF
  have hown : s.vm.findClass RX2 = some m.cls := hown
  have hl : lv_has ls 4 [(0, .ref w0), (1, .int i1), (2, .int i2)] := hl
  refine lv_aload_n hx hb dX2_relock_0 rfl (lv_at hl 0 rfl) ?_
  refine va_get (D := D) (ci := 2) (v := .ref w4) (C := RX2) (T := TX2) (N := 6) hx hb hts (fun w h => List.mem_cons_of_mem _ (List.mem_append_right _ (h))) hown hK.1 hP 0 rfl rfl 4 (by decide) (hts (.fieldLink RX2 25 "SenseNet$Words" "locks" "[I") (List.mem_of_getElem? (i := 1) rfl)) (fun _ h9 => h9) rfl dX2_relock_1 ?_
  refine lv_iload_n hx hb dX2_relock_4 rfl (lv_at hl 1 rfl) ?_
  refine kq_R (va_runSN (As := [.ref w4, .int i1]) (rest := []) ⟨hx, hb, hml, hown, hts⟩ (c_X3_at l D cI w4 10 lk i1 (by decide) _) ⟨va_cnB 2 hts gX2_relock_X3_at_n31 rfl rfl rfl hK.2.2.2.2.2.2.2.1 (hts (.initialized RX3) (List.mem_of_getElem? (i := 3) rfl)) (by decide +kernel) ⟨Nat.le_of_ble_eq_true rfl, Nat.le_of_ble_eq_true rfl⟩, (hts (.static yX3_at) (List.mem_of_getElem? (i := 2) rfl)), trivial⟩ (kp_RS (hP.sub (ws' := [(w4, .inl (cI, 10, .inl lk))]) [3] rfl) hK) rfl rfl hl.1 rfl (lv_room (Nat.le_of_ble_eq_true rfl)) dX2_relock_5 ⟨Nat.zero_le _, Nat.zero_le _⟩) hP hS hA (fun r_5 H locs er_5 hP hS => ?_)
  subst er_5
  refine lv_istore_n (lv' := [(3, .int (kat 10 lk i1)), (0, .ref w0), (1, .int i1), (2, .int i2)]) hx hb dX2_relock_8 rfl hl (by decide) rfl (fun ls hl => ?_)
  refine lv_aload_n hx hb dX2_relock_9 rfl (lv_at hl 1 rfl) ?_
  refine va_get (D := D) (ci := 2) (v := .ref w4) (C := RX2) (T := TX2) (N := 6) hx hb hts (fun w h => List.mem_cons_of_mem _ (List.mem_append_right _ (h))) hown hK.1 hP 0 rfl rfl 4 (by decide) (hts (.fieldLink RX2 25 "SenseNet$Words" "locks" "[I") (List.mem_of_getElem? (i := 1) rfl)) (fun _ h9 => h9) rfl dX2_relock_10 ?_
  refine lv_iload_n hx hb dX2_relock_13 rfl (lv_at hl 2 rfl) ?_
  refine lv_iload_n hx hb dX2_relock_14 rfl (lv_at hl 3 rfl) ?_
  refine kq_V (wr := [(w0, .inr (2, [.int kn, .int pl, .ref w2, .ref w3, .ref w4, .ref w5])), (w2, .inl (cI, 50, .inl gv)), (w3, .inl (cI, 10, .inl sz)), (w5, .inl (cI, 6, .inl se))]) (va_runSN (As := [.ref w4, .int i1, .int i2]) (rest := []) ⟨hx, hb, hml, hown, hts⟩ (c_X3_put l D cI w4 10 lk i1 i2 (by decide) _) ⟨va_cnB 3 hts gX2_relock_X3_put_n43 rfl rfl rfl hK.2.2.2.2.2.2.2.2 (hts (.initialized RX3) (List.mem_of_getElem? (i := 3) rfl)) (by decide +kernel) ⟨Nat.le_of_ble_eq_true rfl, Nat.le_of_ble_eq_true rfl⟩, (hts (.static yX3_put) (List.mem_of_getElem? (i := 5) rfl)), trivial⟩ (kp_WS (hP.sub (ws' := [(w4, .inl (cI, 10, .inl lk))]) [3] rfl) (hD.sub (ws' := [(w4, .inl (cI, 10, .inl lk))]) [3] (by decide) rfl) hK) rfl rfl hl.1 rfl (lv_room (Nat.le_of_ble_eq_true rfl)) dX2_relock_15 ⟨Nat.zero_le _, Nat.zero_le _⟩) hP hD hS hA [3] [0, 1, 2, 4] rfl rfl (by decide) (by decide) (fun _u H locs er_15 hP hD hS => ?_)
  have hP := hP.sub (ws' := [(w0, .inr (2, [.int kn, .int pl, .ref w2, .ref w3, .ref w4, .ref w5])), (w2, .inl (cI, 50, .inl gv)), (w3, .inl (cI, 10, .inl sz)), (w4, .inl (cI, 10, .inl (kput 10 lk i1 i2))), (w5, .inl (cI, 6, .inl se))]) [0, 1, 2, 4, 3] rfl
  have hD := hD.sub (ws' := [(w0, .inr (2, [.int kn, .int pl, .ref w2, .ref w3, .ref w4, .ref w5])), (w2, .inl (cI, 50, .inl gv)), (w3, .inl (cI, 10, .inl sz)), (w4, .inl (cI, 10, .inl (kput 10 lk i1 i2))), (w5, .inl (cI, 6, .inl se))]) [0, 1, 2, 4, 3] (by decide) rfl
  refine lv_iload_n hx hb dX2_relock_18 rfl (lv_at hl 0 rfl) ?_
  exact ke_W hx hb hr hlocks (()) hP hD hS dX2_relock_19 (rfl)
set_option maxHeartbeats 4000000 in
set_option maxRecDepth 100000 in
theorem c_X2_putBehind (l : Launch) (D : va_G) (cI : ClassId) (w0 w2 w3 w4 w5 : Nat) (kn : Int32) (pl : Int32) (gv : Nat → Int32) (sz : Nat → Int32) (lk : Nat → Int32) (se : Nat → Int32) (i1 : Int32) : kc_W l yX2_putBehind wsX2_putBehind 1 22 D cI [.ref w0, .int i1] [(w0, .inr (2, [.int kn, .int pl, .ref w2, .ref w3, .ref w4, .ref w5])), (w2, .inl (cI, 50, .inl gv)), (w3, .inl (cI, 10, .inl sz)), (w4, .inl (cI, 10, .inl lk)), (w5, .inl (cI, 6, .inl se))] (fun (r : Int32) (u : Unit) => r = pl + 1) (fun u => [(w0, .inr (2, [.int kn, .int (pl + 1), .ref w2, .ref w3, .ref w4, .ref w5])), (w2, .inl (cI, 50, .inl gv)), (w3, .inl (cI, 10, .inl sz)), (w4, .inl (cI, 10, .inl lk)), (w5, .inl (cI, 6, .inl (kput 6 se pl i1)))]) := by
  refine ks_W (cc := cX2_putBehind) (nL := 2) (ret := (some .int)) (by decide) rfl (Nat.le_of_ble_eq_true rfl) ?_
  intro p e s m below meth c ls hF hP hK hS hA hD hl
  obtain ⟨hx, hb, hr, hml, hown, hts, hlocks⟩ := hF
  have hown : s.vm.findClass RX2 = some m.cls := hown
  have hl : lv_has ls 2 [(0, .ref w0), (1, .int i1)] := hl
  refine lv_aload_n hx hb dX2_putBehind_0 rfl (lv_at hl 0 rfl) ?_
  refine va_get (D := D) (ci := 2) (v := .ref w5) (C := RX2) (T := TX2) (N := 6) hx hb hts (fun w h => List.mem_cons_of_mem _ (List.mem_append_right _ (h))) hown hK.1 hP 0 rfl rfl 5 (by decide) (hts (.fieldLink RX2 28 "SenseNet$Words" "sentence" "[I") (List.mem_of_getElem? (i := 1) rfl)) (fun _ h9 => h9) rfl dX2_putBehind_1 ?_
  refine lv_aload_n hx hb dX2_putBehind_4 rfl (lv_at hl 0 rfl) ?_
  refine va_get (D := D) (ci := 2) (v := .int pl) (C := RX2) (T := TX2) (N := 6) hx hb hts (fun w h => List.mem_cons_of_mem _ (List.mem_append_right _ (h))) hown hK.1 hP 0 rfl rfl 1 (by decide) (hts (.fieldLink RX2 15 "SenseNet$Words" "places" "I") (List.mem_of_getElem? (i := 2) rfl)) (fun _ h9 => h9) rfl dX2_putBehind_5 ?_
  refine lv_iload_n hx hb dX2_putBehind_8 rfl (lv_at hl 1 rfl) ?_
  refine kq_V (wr := [(w0, .inr (2, [.int kn, .int pl, .ref w2, .ref w3, .ref w4, .ref w5])), (w2, .inl (cI, 50, .inl gv)), (w3, .inl (cI, 10, .inl sz)), (w4, .inl (cI, 10, .inl lk))]) (va_runSN (As := [.ref w5, .int pl, .int i1]) (rest := []) ⟨hx, hb, hml, hown, hts⟩ (c_X3_put l D cI w5 6 se pl i1 (by decide) _) ⟨va_cnB 3 hts gX2_putBehind_X3_put_n43 rfl rfl rfl hK.2.2.2.2.2.2.2.2 (hts (.initialized RX3) (List.mem_of_getElem? (i := 4) rfl)) (by decide +kernel) ⟨Nat.le_of_ble_eq_true rfl, Nat.le_of_ble_eq_true rfl⟩, (hts (.static yX3_put) (List.mem_of_getElem? (i := 3) rfl)), trivial⟩ (kp_WS (hP.sub (ws' := [(w5, .inl (cI, 6, .inl se))]) [4] rfl) (hD.sub (ws' := [(w5, .inl (cI, 6, .inl se))]) [4] (by decide) rfl) hK) rfl rfl hl.1 rfl (lv_room (Nat.le_of_ble_eq_true rfl)) dX2_putBehind_9 ⟨Nat.zero_le _, Nat.zero_le _⟩) hP hD hS hA [4] [0, 1, 2, 3] rfl rfl (by decide) (by decide) (fun _u H locs er_9 hP hD hS => ?_)
  have hP := hP.sub (ws' := [(w0, .inr (2, [.int kn, .int pl, .ref w2, .ref w3, .ref w4, .ref w5])), (w2, .inl (cI, 50, .inl gv)), (w3, .inl (cI, 10, .inl sz)), (w4, .inl (cI, 10, .inl lk)), (w5, .inl (cI, 6, .inl (kput 6 se pl i1)))]) [0, 1, 2, 3, 4] rfl
  have hD := hD.sub (ws' := [(w0, .inr (2, [.int kn, .int pl, .ref w2, .ref w3, .ref w4, .ref w5])), (w2, .inl (cI, 50, .inl gv)), (w3, .inl (cI, 10, .inl sz)), (w4, .inl (cI, 10, .inl lk)), (w5, .inl (cI, 6, .inl (kput 6 se pl i1)))]) [0, 1, 2, 3, 4] (by decide) rfl
  refine lv_aload_n hx hb dX2_putBehind_12 rfl (lv_at hl 0 rfl) ?_
  refine lv_dup hx hb dX2_putBehind_13 rfl ?_
  refine va_get (D := D) (ci := 2) (v := .int pl) (C := RX2) (T := TX2) (N := 6) hx hb hts (fun w h => List.mem_cons_of_mem _ (List.mem_append_right _ (h))) hown hK.1 hP 0 rfl rfl 1 (by decide) (hts (.fieldLink RX2 15 "SenseNet$Words" "places" "I") (List.mem_of_getElem? (i := 2) rfl)) (fun _ h9 => h9) rfl dX2_putBehind_14 ?_
  refine lv_iconst (v := 1) hx hb dX2_putBehind_17 (by decide) ?_
  refine lv_iadd hx hb dX2_putBehind_18 ?_
  refine va_put (D := D) (ci := 2) (v := .int (pl + 1)) (ty := .int) (C := RX2) (T := TX2) (N := 6) hx hb hts (fun w h => List.mem_cons_of_mem _ (List.mem_append_right _ (h))) tyX2 tyX2_ok nmX2 hown hK.1 hP hD hS 0 rfl rfl 1 (by decide) (hts (.fieldLink RX2 15 "SenseNet$Words" "places" "I") (List.mem_of_getElem? (i := 2) rfl)) (fun _ h9 => h9) rfl (by decide +kernel) rfl rfl (Nat.le_of_ble_eq_true rfl) dX2_putBehind_19 (fun H locs hP hD hS => ?_)
  have hP : va_P D vwCl [(w0, .inr (2, [.int kn, .int (pl + 1), .ref w2, .ref w3, .ref w4, .ref w5])), (w2, .inl (cI, 50, .inl gv)), (w3, .inl (cI, 10, .inl sz)), (w4, .inl (cI, 10, .inl lk)), (w5, .inl (cI, 6, .inl (kput 6 se pl i1)))] H := hP
  have hD := (show va_D _ [(w0, .inr (2, [.int kn, .int (pl + 1), .ref w2, .ref w3, .ref w4, .ref w5])), (w2, .inl (cI, 50, .inl gv)), (w3, .inl (cI, 10, .inl sz)), (w4, .inl (cI, 10, .inl lk)), (w5, .inl (cI, 6, .inl (kput 6 se pl i1)))] from hD)
  refine lv_aload_n hx hb dX2_putBehind_22 rfl (lv_at hl 0 rfl) ?_
  refine va_get (D := D) (ci := 2) (v := .int (pl + 1)) (C := RX2) (T := TX2) (N := 6) hx hb hts (fun w h => List.mem_cons_of_mem _ (List.mem_append_right _ (h))) hown hK.1 hP 0 rfl rfl 1 (by decide) (hts (.fieldLink RX2 15 "SenseNet$Words" "places" "I") (List.mem_of_getElem? (i := 2) rfl)) (fun _ h9 => h9) rfl dX2_putBehind_23 ?_
  exact ke_W hx hb hr hlocks (()) hP hD hS dX2_putBehind_26 (rfl)
set_option maxHeartbeats 4000000 in
set_option maxRecDepth 100000 in
theorem c_X2_emptySentence (l : Launch) (D : va_G) (cI : ClassId) (w0 w2 w3 w4 w5 : Nat) (kn : Int32) (pl : Int32) (gv : Nat → Int32) (sz : Nat → Int32) (lk : Nat → Int32) (se : Nat → Int32) : kc_W l yX2_emptySentence wsX2_emptySentence 0 0 D cI [.ref w0] [(w0, .inr (2, [.int kn, .int pl, .ref w2, .ref w3, .ref w4, .ref w5])), (w2, .inl (cI, 50, .inl gv)), (w3, .inl (cI, 10, .inl sz)), (w4, .inl (cI, 10, .inl lk)), (w5, .inl (cI, 6, .inl se))] (fun (r : Int32) (u : Unit) => r = pl) (fun u => [(w0, .inr (2, [.int kn, .int 0, .ref w2, .ref w3, .ref w4, .ref w5])), (w2, .inl (cI, 50, .inl gv)), (w3, .inl (cI, 10, .inl sz)), (w4, .inl (cI, 10, .inl lk)), (w5, .inl (cI, 6, .inl se))]) := by
  refine ks_W (cc := cX2_emptySentence) (nL := 2) (ret := (some .int)) (by decide) rfl (Nat.le_of_ble_eq_true rfl) ?_
  intro p e s m below meth c ls hF hP hK hS hA hD hl
  obtain ⟨hx, hb, hr, hml, hown, hts, hlocks⟩ := hF
  have hown : s.vm.findClass RX2 = some m.cls := hown
  have hl : lv_has ls 2 [(0, .ref w0)] := hl
  refine lv_aload_n hx hb dX2_emptySentence_0 rfl (lv_at hl 0 rfl) ?_
  refine va_get (D := D) (ci := 2) (v := .int pl) (C := RX2) (T := TX2) (N := 6) hx hb hts (fun w h => List.mem_cons_of_mem _ (List.mem_append_right _ (h))) hown hK.1 hP 0 rfl rfl 1 (by decide) (hts (.fieldLink RX2 15 "SenseNet$Words" "places" "I") (List.mem_of_getElem? (i := 1) rfl)) (fun _ h9 => h9) rfl dX2_emptySentence_1 ?_
  refine lv_istore_n (lv' := [(1, .int pl), (0, .ref w0)]) hx hb dX2_emptySentence_4 rfl hl (by decide) rfl (fun ls hl => ?_)
  refine lv_aload_n hx hb dX2_emptySentence_5 rfl (lv_at hl 1 rfl) ?_
  refine lv_iconst (v := 0) hx hb dX2_emptySentence_6 (by decide) ?_
  refine va_put (D := D) (ci := 2) (v := .int 0) (ty := .int) (C := RX2) (T := TX2) (N := 6) hx hb hts (fun w h => List.mem_cons_of_mem _ (List.mem_append_right _ (h))) tyX2 tyX2_ok nmX2 hown hK.1 hP hD hS 0 rfl rfl 1 (by decide) (hts (.fieldLink RX2 15 "SenseNet$Words" "places" "I") (List.mem_of_getElem? (i := 1) rfl)) (fun _ h9 => h9) rfl (by decide +kernel) rfl rfl (Nat.le_of_ble_eq_true rfl) dX2_emptySentence_7 (fun H locs hP hD hS => ?_)
  have hP : va_P D vwCl [(w0, .inr (2, [.int kn, .int 0, .ref w2, .ref w3, .ref w4, .ref w5])), (w2, .inl (cI, 50, .inl gv)), (w3, .inl (cI, 10, .inl sz)), (w4, .inl (cI, 10, .inl lk)), (w5, .inl (cI, 6, .inl se))] H := hP
  have hD := (show va_D _ [(w0, .inr (2, [.int kn, .int 0, .ref w2, .ref w3, .ref w4, .ref w5])), (w2, .inl (cI, 50, .inl gv)), (w3, .inl (cI, 10, .inl sz)), (w4, .inl (cI, 10, .inl lk)), (w5, .inl (cI, 6, .inl se))] from hD)
  refine lv_iload_n hx hb dX2_emptySentence_10 rfl (lv_at hl 0 rfl) ?_
  exact ke_W hx hb hr hlocks (()) hP hD hS dX2_emptySentence_11 (rfl)
