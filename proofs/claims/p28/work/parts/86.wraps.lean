/-! p28: the law's calls that catch. -/
set_option maxHeartbeats 4000000 in
set_option maxRecDepth 100000 in
theorem cw_addSense (l : Launch) (D : va_G) (cI : ClassId) (a : Nat → Nat) (c : kCS) (x : kXS) (hfl : l.stackTraces = false) : kc_X l yL_addSense wsL_addSense 7 154 1 6 D cI [.ref (a 0)] (oW cI a c x) (fun (r : Int32) (_ : Unit) => r = (oAdd c).1) (fun _ => oW cI a (oAdd c).2 x) (fun _ => False) := by
  refine ks_T (cc := cL_addSense) (nL := 2) (ret := some .int) (hh := [(0, 4, 5, 14)]) (by decide) rfl (Nat.le_of_ble_eq_true rfl) ?_
  intro p e s m below meth cd ls hF hTab hP hK hX hZ hS hA hD hl
  obtain ⟨hx, hb, hr, hml, hown, hts, hlocks⟩ := hF
  have hown : s.vm.findClass RL = some m.cls := hown
  have hl : lv_has ls 2 [(0, .ref (a 0))] := hl
  refine lv_aload_n hx hb dL_addSense_0 rfl (lv_at hl 0 rfl) ?_
  refine kq_0 (vx_runV (As := []) (rest := []) ⟨hx, hb, hml, hown, hts⟩ (cP_addSense l D cI a c x hfl _) (cwV 0 hts gL_addSense_X3_addSense rfl rfl rfl (by decide +kernel) ⟨Nat.le_of_ble_eq_true rfl, Nat.le_of_ble_eq_true rfl⟩) (kp_0V hP hD hK hX hZ hS hA 0 3 rfl rfl) rfl rfl hl.1 rfl (lv_room (Nat.le_of_ble_eq_true rfl)) dL_addSense_1 ⟨Nat.le_of_ble_eq_true rfl, Nat.le_of_ble_eq_true rfl⟩) hP hD hS hA (fun E ce q9 H locs hE hP hS hcell hv hcl => ?_) (fun r u H locs er hP hD hS => ?_)
  · obtain ⟨hE, hc⟩ := hE
    have eo : (oAdd c) = (-99999, c) := oOr_f hc
    subst hE
    refine vx_catch (own := RL) (name := "java/lang/IllegalStateException") (E := "java/lang/IllegalStateException") hown [] ⟨0, 4, 5, 14⟩ [] hTab (fun z hz => absurd hz List.not_mem_nil) (by decide) (by decide) (hts (.classLink RL 14 "java/lang/IllegalStateException") (List.mem_of_getElem? (i := 1) rfl)) (va_Nw.use rfl hX.2.1) hcell hv hcl ?_
    refine lv_astore_n (lv' := [(1, .ref q9), (0, .ref (a 0))]) hx hb dL_addSense_5 rfl hl (by decide) rfl (fun ls hl => ?_)
    refine lv_ldc (v := -99999) hx hb hown (hts (.constant RL 16 (-99999)) (List.mem_of_getElem? (i := 2) rfl)) dL_addSense_6 ?_
    exact ke_X hx hb hr hlocks () (by rw [eo]; exact hP) (by rw [eo]; exact hD) hS (Nat.le_of_ble_eq_true rfl) (Nat.le_of_ble_eq_true rfl) dL_addSense_8 (by rw [eo])
  · exact ke_X hx hb hr hlocks () hP hD hS (Nat.le_of_ble_eq_true rfl) (Nat.le_of_ble_eq_true rfl) dL_addSense_4 er.2
set_option maxHeartbeats 4000000 in
set_option maxRecDepth 100000 in
theorem cw_link (l : Launch) (D : va_G) (cI : ClassId) (a : Nat → Nat) (c : kCS) (x : kXS) (i : Int32) (k : Int32) (hfl : l.stackTraces = false) : kc_X l yL_link wsL_link 8 157 3 18 D cI [.ref (a 0), .int i, .int k] (oW cI a c x) (fun (r : Int32) (_ : Unit) => r = (oLnk c i k).1) (fun _ => oW cI a (oLnk c i k).2 x) (fun _ => False) := by
  refine ks_T (cc := cL_link) (nL := 4) (ret := some .int) (hh := [(0, 6, 7, 21), (0, 6, 11, 14)]) (by decide) rfl (Nat.le_of_ble_eq_true rfl) ?_
  intro p e s m below meth cd ls hF hTab hP hK hX hZ hS hA hD hl
  obtain ⟨hx, hb, hr, hml, hown, hts, hlocks⟩ := hF
  have hown : s.vm.findClass RL = some m.cls := hown
  have hl : lv_has ls 4 [(0, .ref (a 0)), (1, .int i), (2, .int k)] := hl
  refine lv_aload_n hx hb dL_link_0 rfl (lv_at hl 0 rfl) ?_
  refine lv_iload_n hx hb dL_link_1 rfl (lv_at hl 1 rfl) ?_
  refine lv_iload_n hx hb dL_link_2 rfl (lv_at hl 2 rfl) ?_
  refine kq_0 (vx_runV (As := [.int i, .int k]) (rest := []) ⟨hx, hb, hml, hown, hts⟩ (cP_link l D cI a c x i k hfl _) (cwV 2 hts gL_link_X3_link rfl rfl rfl (by decide +kernel) ⟨Nat.le_of_ble_eq_true rfl, Nat.le_of_ble_eq_true rfl⟩) (kp_0V hP hD hK hX hZ hS hA 0 3 rfl rfl) rfl rfl hl.1 rfl (lv_room (Nat.le_of_ble_eq_true rfl)) dL_link_3 ⟨Nat.le_of_ble_eq_true rfl, Nat.le_of_ble_eq_true rfl⟩) hP hD hS hA (fun E ce q9 H locs hE hP hS hcell hv hcl => ?_) (fun r u H locs er hP hD hS => ?_)
  · obtain ⟨hE, hc⟩ := hE
    have eo : (oLnk c i k) = (-99999, c) := oOr_f hc
    rcases hE with rfl | rfl
    · skip
      refine vx_catch (own := RL) (name := "java/lang/IndexOutOfBoundsException") (E := "java/lang/IndexOutOfBoundsException") hown [] ⟨0, 6, 7, 21⟩ [⟨0, 6, 11, 14⟩] hTab (fun z hz => absurd hz List.not_mem_nil) (by decide) (by decide) (hts (.classLink RL 21 "java/lang/IndexOutOfBoundsException") (List.mem_of_getElem? (i := 1) rfl)) (va_Nw.use rfl hX.2.2.2.1) hcell hv hcl ?_
      refine lv_astore_n (lv' := [(3, .ref q9), (0, .ref (a 0)), (1, .int i), (2, .int k)]) hx hb dL_link_7 rfl hl (by decide) rfl (fun ls hl => ?_)
      refine lv_ldc (v := -99999) hx hb hown (hts (.constant RL 16 (-99999)) (List.mem_of_getElem? (i := 3) rfl)) dL_link_8 ?_
      exact ke_X hx hb hr hlocks () (by rw [eo]; exact hP) (by rw [eo]; exact hD) hS (Nat.le_of_ble_eq_true rfl) (Nat.le_of_ble_eq_true rfl) dL_link_10 (by rw [eo])
    · skip
      refine vx_catch (own := RL) (name := "java/lang/IllegalStateException") (E := "java/lang/IllegalStateException") hown [⟨0, 6, 7, 21⟩] ⟨0, 6, 11, 14⟩ [] hTab (fun z hz => by rw [List.mem_singleton.mp hz]; exact Or.inr ⟨by decide, _, (hts (.classLink RL 21 "java/lang/IndexOutOfBoundsException") (List.mem_of_getElem? (i := 1) rfl)), hX.2.2.2.2.1⟩) (by decide) (by decide) (hts (.classLink RL 14 "java/lang/IllegalStateException") (List.mem_of_getElem? (i := 2) rfl)) (va_Nw.use rfl hX.2.1) hcell hv hcl ?_
      refine lv_astore_n (lv' := [(3, .ref q9), (0, .ref (a 0)), (1, .int i), (2, .int k)]) hx hb dL_link_11 rfl hl (by decide) rfl (fun ls hl => ?_)
      refine lv_ldc (v := -99999) hx hb hown (hts (.constant RL 16 (-99999)) (List.mem_of_getElem? (i := 3) rfl)) dL_link_12 ?_
      exact ke_X hx hb hr hlocks () (by rw [eo]; exact hP) (by rw [eo]; exact hD) hS (Nat.le_of_ble_eq_true rfl) (Nat.le_of_ble_eq_true rfl) dL_link_14 (by rw [eo])
  · exact ke_X hx hb hr hlocks () hP hD hS (Nat.le_of_ble_eq_true rfl) (Nat.le_of_ble_eq_true rfl) dL_link_6 er.2
set_option maxHeartbeats 4000000 in
set_option maxRecDepth 100000 in
theorem cw_unlink (l : Launch) (D : va_G) (cI : ClassId) (a : Nat → Nat) (c : kCS) (x : kXS) (i : Int32) (k : Int32) (hfl : l.stackTraces = false) : kc_X l yL_unlink wsL_unlink 8 157 3 18 D cI [.ref (a 0), .int i, .int k] (oW cI a c x) (fun (r : Int32) (_ : Unit) => r = (oUnl c i k).1) (fun _ => oW cI a (oUnl c i k).2 x) (fun _ => False) := by
  refine ks_T (cc := cL_unlink) (nL := 4) (ret := some .int) (hh := [(0, 6, 7, 21), (0, 6, 11, 14)]) (by decide) rfl (Nat.le_of_ble_eq_true rfl) ?_
  intro p e s m below meth cd ls hF hTab hP hK hX hZ hS hA hD hl
  obtain ⟨hx, hb, hr, hml, hown, hts, hlocks⟩ := hF
  have hown : s.vm.findClass RL = some m.cls := hown
  have hl : lv_has ls 4 [(0, .ref (a 0)), (1, .int i), (2, .int k)] := hl
  refine lv_aload_n hx hb dL_unlink_0 rfl (lv_at hl 0 rfl) ?_
  refine lv_iload_n hx hb dL_unlink_1 rfl (lv_at hl 1 rfl) ?_
  refine lv_iload_n hx hb dL_unlink_2 rfl (lv_at hl 2 rfl) ?_
  refine kq_0 (vx_runV (As := [.int i, .int k]) (rest := []) ⟨hx, hb, hml, hown, hts⟩ (cP_unlink l D cI a c x i k hfl _) (cwV 2 hts gL_unlink_X3_unlink rfl rfl rfl (by decide +kernel) ⟨Nat.le_of_ble_eq_true rfl, Nat.le_of_ble_eq_true rfl⟩) (kp_0V hP hD hK hX hZ hS hA 0 3 rfl rfl) rfl rfl hl.1 rfl (lv_room (Nat.le_of_ble_eq_true rfl)) dL_unlink_3 ⟨Nat.le_of_ble_eq_true rfl, Nat.le_of_ble_eq_true rfl⟩) hP hD hS hA (fun E ce q9 H locs hE hP hS hcell hv hcl => ?_) (fun r u H locs er hP hD hS => ?_)
  · obtain ⟨hE, hc⟩ := hE
    have eo : (oUnl c i k) = (-99999, c) := oOr_f hc
    rcases hE with rfl | rfl
    · skip
      refine vx_catch (own := RL) (name := "java/lang/IndexOutOfBoundsException") (E := "java/lang/IndexOutOfBoundsException") hown [] ⟨0, 6, 7, 21⟩ [⟨0, 6, 11, 14⟩] hTab (fun z hz => absurd hz List.not_mem_nil) (by decide) (by decide) (hts (.classLink RL 21 "java/lang/IndexOutOfBoundsException") (List.mem_of_getElem? (i := 1) rfl)) (va_Nw.use rfl hX.2.2.2.1) hcell hv hcl ?_
      refine lv_astore_n (lv' := [(3, .ref q9), (0, .ref (a 0)), (1, .int i), (2, .int k)]) hx hb dL_unlink_7 rfl hl (by decide) rfl (fun ls hl => ?_)
      refine lv_ldc (v := -99999) hx hb hown (hts (.constant RL 16 (-99999)) (List.mem_of_getElem? (i := 3) rfl)) dL_unlink_8 ?_
      exact ke_X hx hb hr hlocks () (by rw [eo]; exact hP) (by rw [eo]; exact hD) hS (Nat.le_of_ble_eq_true rfl) (Nat.le_of_ble_eq_true rfl) dL_unlink_10 (by rw [eo])
    · skip
      refine vx_catch (own := RL) (name := "java/lang/IllegalStateException") (E := "java/lang/IllegalStateException") hown [⟨0, 6, 7, 21⟩] ⟨0, 6, 11, 14⟩ [] hTab (fun z hz => by rw [List.mem_singleton.mp hz]; exact Or.inr ⟨by decide, _, (hts (.classLink RL 21 "java/lang/IndexOutOfBoundsException") (List.mem_of_getElem? (i := 1) rfl)), hX.2.2.2.2.1⟩) (by decide) (by decide) (hts (.classLink RL 14 "java/lang/IllegalStateException") (List.mem_of_getElem? (i := 2) rfl)) (va_Nw.use rfl hX.2.1) hcell hv hcl ?_
      refine lv_astore_n (lv' := [(3, .ref q9), (0, .ref (a 0)), (1, .int i), (2, .int k)]) hx hb dL_unlink_11 rfl hl (by decide) rfl (fun ls hl => ?_)
      refine lv_ldc (v := -99999) hx hb hown (hts (.constant RL 16 (-99999)) (List.mem_of_getElem? (i := 3) rfl)) dL_unlink_12 ?_
      exact ke_X hx hb hr hlocks () (by rw [eo]; exact hP) (by rw [eo]; exact hD) hS (Nat.le_of_ble_eq_true rfl) (Nat.le_of_ble_eq_true rfl) dL_unlink_14 (by rw [eo])
  · exact ke_X hx hb hr hlocks () hP hD hS (Nat.le_of_ble_eq_true rfl) (Nat.le_of_ble_eq_true rfl) dL_unlink_6 er.2
set_option maxHeartbeats 4000000 in
set_option maxRecDepth 100000 in
theorem cw_remove (l : Launch) (D : va_G) (cI : ClassId) (a : Nat → Nat) (c : kCS) (x : kXS) (i : Int32) (hfl : l.stackTraces = false) : kc_X l yL_remove wsL_remove 8 157 2 12 D cI [.ref (a 0), .int i] (oW cI a c x) (fun (r : Int32) (_ : Unit) => r = (oRem c i).1) (fun _ => oW cI a (oRem c i).2 x) (fun _ => False) := by
  refine ks_T (cc := cL_remove) (nL := 3) (ret := some .int) (hh := [(0, 5, 6, 21), (0, 5, 10, 14)]) (by decide) rfl (Nat.le_of_ble_eq_true rfl) ?_
  intro p e s m below meth cd ls hF hTab hP hK hX hZ hS hA hD hl
  obtain ⟨hx, hb, hr, hml, hown, hts, hlocks⟩ := hF
  have hown : s.vm.findClass RL = some m.cls := hown
  have hl : lv_has ls 3 [(0, .ref (a 0)), (1, .int i)] := hl
  refine lv_aload_n hx hb dL_remove_0 rfl (lv_at hl 0 rfl) ?_
  refine lv_iload_n hx hb dL_remove_1 rfl (lv_at hl 1 rfl) ?_
  refine kq_0 (vx_runV (As := [.int i]) (rest := []) ⟨hx, hb, hml, hown, hts⟩ (cP_remove l D cI a c x i hfl _) (cwV 1 hts gL_remove_X3_remove rfl rfl rfl (by decide +kernel) ⟨Nat.le_of_ble_eq_true rfl, Nat.le_of_ble_eq_true rfl⟩) (kp_0V hP hD hK hX hZ hS hA 0 3 rfl rfl) rfl rfl hl.1 rfl (lv_room (Nat.le_of_ble_eq_true rfl)) dL_remove_2 ⟨Nat.le_of_ble_eq_true rfl, Nat.le_of_ble_eq_true rfl⟩) hP hD hS hA (fun E ce q9 H locs hE hP hS hcell hv hcl => ?_) (fun r u H locs er hP hD hS => ?_)
  · obtain ⟨hE, hc⟩ := hE
    have eo : (oRem c i) = (-99999, c) := oOr_f hc
    rcases hE with rfl | rfl
    · skip
      refine vx_catch (own := RL) (name := "java/lang/IndexOutOfBoundsException") (E := "java/lang/IndexOutOfBoundsException") hown [] ⟨0, 5, 6, 21⟩ [⟨0, 5, 10, 14⟩] hTab (fun z hz => absurd hz List.not_mem_nil) (by decide) (by decide) (hts (.classLink RL 21 "java/lang/IndexOutOfBoundsException") (List.mem_of_getElem? (i := 1) rfl)) (va_Nw.use rfl hX.2.2.2.1) hcell hv hcl ?_
      refine lv_astore_n (lv' := [(2, .ref q9), (0, .ref (a 0)), (1, .int i)]) hx hb dL_remove_6 rfl hl (by decide) rfl (fun ls hl => ?_)
      refine lv_ldc (v := -99999) hx hb hown (hts (.constant RL 16 (-99999)) (List.mem_of_getElem? (i := 3) rfl)) dL_remove_7 ?_
      exact ke_X hx hb hr hlocks () (by rw [eo]; exact hP) (by rw [eo]; exact hD) hS (Nat.le_of_ble_eq_true rfl) (Nat.le_of_ble_eq_true rfl) dL_remove_9 (by rw [eo])
    · skip
      refine vx_catch (own := RL) (name := "java/lang/IllegalStateException") (E := "java/lang/IllegalStateException") hown [⟨0, 5, 6, 21⟩] ⟨0, 5, 10, 14⟩ [] hTab (fun z hz => by rw [List.mem_singleton.mp hz]; exact Or.inr ⟨by decide, _, (hts (.classLink RL 21 "java/lang/IndexOutOfBoundsException") (List.mem_of_getElem? (i := 1) rfl)), hX.2.2.2.2.1⟩) (by decide) (by decide) (hts (.classLink RL 14 "java/lang/IllegalStateException") (List.mem_of_getElem? (i := 2) rfl)) (va_Nw.use rfl hX.2.1) hcell hv hcl ?_
      refine lv_astore_n (lv' := [(2, .ref q9), (0, .ref (a 0)), (1, .int i)]) hx hb dL_remove_10 rfl hl (by decide) rfl (fun ls hl => ?_)
      refine lv_ldc (v := -99999) hx hb hown (hts (.constant RL 16 (-99999)) (List.mem_of_getElem? (i := 3) rfl)) dL_remove_11 ?_
      exact ke_X hx hb hr hlocks () (by rw [eo]; exact hP) (by rw [eo]; exact hD) hS (Nat.le_of_ble_eq_true rfl) (Nat.le_of_ble_eq_true rfl) dL_remove_13 (by rw [eo])
  · exact ke_X hx hb hr hlocks () hP hD hS (Nat.le_of_ble_eq_true rfl) (Nat.le_of_ble_eq_true rfl) dL_remove_5 er.2
set_option maxHeartbeats 4000000 in
set_option maxRecDepth 100000 in
theorem cw_setCount (l : Launch) (D : va_G) (cI : ClassId) (a : Nat → Nat) (c : kCS) (x : kXS) (i : Int32) (k : Int32) (hfl : l.stackTraces = false) : kc_X l yL_setCount wsL_setCount 8 132 2 12 D cI [.ref (a 0), .int i, .int k] (oW cI a c x) (fun (r : Int32) (_ : Unit) => r = (oCnt c i k).1) (fun _ => oW cI a (oCnt c i k).2 x) (fun _ => False) := by
  refine ks_T (cc := cL_setCount) (nL := 4) (ret := some .int) (hh := [(0, 6, 7, 21), (0, 6, 11, 33)]) (by decide) rfl (Nat.le_of_ble_eq_true rfl) ?_
  intro p e s m below meth cd ls hF hTab hP hK hX hZ hS hA hD hl
  obtain ⟨hx, hb, hr, hml, hown, hts, hlocks⟩ := hF
  have hown : s.vm.findClass RL = some m.cls := hown
  have hl : lv_has ls 4 [(0, .ref (a 0)), (1, .int i), (2, .int k)] := hl
  refine lv_aload_n hx hb dL_setCount_0 rfl (lv_at hl 0 rfl) ?_
  refine lv_iload_n hx hb dL_setCount_1 rfl (lv_at hl 1 rfl) ?_
  refine lv_iload_n hx hb dL_setCount_2 rfl (lv_at hl 2 rfl) ?_
  refine kq_0 (vx_runV (As := [.int i, .int k]) (rest := []) ⟨hx, hb, hml, hown, hts⟩ (cP_setCount l D cI a c x i k hfl _) (cwV 2 hts gL_setCount_X3_setCount rfl rfl rfl (by decide +kernel) ⟨Nat.le_of_ble_eq_true rfl, Nat.le_of_ble_eq_true rfl⟩) (kp_0V hP hD hK hX hZ hS hA 0 3 rfl rfl) rfl rfl hl.1 rfl (lv_room (Nat.le_of_ble_eq_true rfl)) dL_setCount_3 ⟨Nat.le_of_ble_eq_true rfl, Nat.le_of_ble_eq_true rfl⟩) hP hD hS hA (fun E ce q9 H locs hE hP hS hcell hv hcl => ?_) (fun r u H locs er hP hD hS => ?_)
  · obtain ⟨hE, hc⟩ := hE
    have eo : (oCnt c i k) = (-99999, c) := oOr_f hc
    rcases hE with rfl | rfl
    · skip
      refine vx_catch (own := RL) (name := "java/lang/IndexOutOfBoundsException") (E := "java/lang/IndexOutOfBoundsException") hown [] ⟨0, 6, 7, 21⟩ [⟨0, 6, 11, 33⟩] hTab (fun z hz => absurd hz List.not_mem_nil) (by decide) (by decide) (hts (.classLink RL 21 "java/lang/IndexOutOfBoundsException") (List.mem_of_getElem? (i := 1) rfl)) (va_Nw.use rfl hX.2.2.2.1) hcell hv hcl ?_
      refine lv_astore_n (lv' := [(3, .ref q9), (0, .ref (a 0)), (1, .int i), (2, .int k)]) hx hb dL_setCount_7 rfl hl (by decide) rfl (fun ls hl => ?_)
      refine lv_ldc (v := -99999) hx hb hown (hts (.constant RL 16 (-99999)) (List.mem_of_getElem? (i := 3) rfl)) dL_setCount_8 ?_
      exact ke_X hx hb hr hlocks () (by rw [eo]; exact hP) (by rw [eo]; exact hD) hS (Nat.le_of_ble_eq_true rfl) (Nat.le_of_ble_eq_true rfl) dL_setCount_10 (by rw [eo])
    · skip
      refine vx_catch (own := RL) (name := "java/lang/IllegalArgumentException") (E := "java/lang/IllegalArgumentException") hown [⟨0, 6, 7, 21⟩] ⟨0, 6, 11, 33⟩ [] hTab (fun z hz => by rw [List.mem_singleton.mp hz]; exact Or.inr ⟨by decide, _, (hts (.classLink RL 21 "java/lang/IndexOutOfBoundsException") (List.mem_of_getElem? (i := 1) rfl)), hX.2.2.2.2.2⟩) (by decide) (by decide) (hts (.classLink RL 33 "java/lang/IllegalArgumentException") (List.mem_of_getElem? (i := 2) rfl)) (va_Nw.use rfl hX.2.2.1) hcell hv hcl ?_
      refine lv_astore_n (lv' := [(3, .ref q9), (0, .ref (a 0)), (1, .int i), (2, .int k)]) hx hb dL_setCount_11 rfl hl (by decide) rfl (fun ls hl => ?_)
      refine lv_ldc (v := -99999) hx hb hown (hts (.constant RL 16 (-99999)) (List.mem_of_getElem? (i := 3) rfl)) dL_setCount_12 ?_
      exact ke_X hx hb hr hlocks () (by rw [eo]; exact hP) (by rw [eo]; exact hD) hS (Nat.le_of_ble_eq_true rfl) (Nat.le_of_ble_eq_true rfl) dL_setCount_14 (by rw [eo])
  · exact ke_X hx hb hr hlocks () hP hD hS (Nat.le_of_ble_eq_true rfl) (Nat.le_of_ble_eq_true rfl) dL_setCount_6 er.2
set_option maxHeartbeats 4000000 in
set_option maxRecDepth 100000 in
theorem cw_addWord (l : Launch) (D : va_G) (cI : ClassId) (a : Nat → Nat) (c : kCS) (x : kXS) (hfl : l.stackTraces = false) : kc_X l yL_addWord wsL_addWord 7 104 1 6 D cI [.ref (a 0)] (oW cI a c x) (fun (r : Int32) (_ : Unit) => r = (oAdw c).1) (fun _ => oW cI a (oAdw c).2 x) (fun _ => False) := by
  refine ks_T (cc := cL_addWord) (nL := 2) (ret := some .int) (hh := [(0, 4, 5, 14)]) (by decide) rfl (Nat.le_of_ble_eq_true rfl) ?_
  intro p e s m below meth cd ls hF hTab hP hK hX hZ hS hA hD hl
  obtain ⟨hx, hb, hr, hml, hown, hts, hlocks⟩ := hF
  have hown : s.vm.findClass RL = some m.cls := hown
  have hl : lv_has ls 2 [(0, .ref (a 0))] := hl
  refine lv_aload_n hx hb dL_addWord_0 rfl (lv_at hl 0 rfl) ?_
  refine kq_0 (vx_runV (As := []) (rest := []) ⟨hx, hb, hml, hown, hts⟩ (cP_addWord l D cI a c x hfl _) (cwV 0 hts gL_addWord_X3_addWord rfl rfl rfl (by decide +kernel) ⟨Nat.le_of_ble_eq_true rfl, Nat.le_of_ble_eq_true rfl⟩) (kp_0V hP hD hK hX hZ hS hA 0 3 rfl rfl) rfl rfl hl.1 rfl (lv_room (Nat.le_of_ble_eq_true rfl)) dL_addWord_1 ⟨Nat.le_of_ble_eq_true rfl, Nat.le_of_ble_eq_true rfl⟩) hP hD hS hA (fun E ce q9 H locs hE hP hS hcell hv hcl => ?_) (fun r u H locs er hP hD hS => ?_)
  · obtain ⟨hE, hc⟩ := hE
    have eo : (oAdw c) = (-99999, c) := oOr_f hc
    subst hE
    refine vx_catch (own := RL) (name := "java/lang/IllegalStateException") (E := "java/lang/IllegalStateException") hown [] ⟨0, 4, 5, 14⟩ [] hTab (fun z hz => absurd hz List.not_mem_nil) (by decide) (by decide) (hts (.classLink RL 14 "java/lang/IllegalStateException") (List.mem_of_getElem? (i := 1) rfl)) (va_Nw.use rfl hX.2.1) hcell hv hcl ?_
    refine lv_astore_n (lv' := [(1, .ref q9), (0, .ref (a 0))]) hx hb dL_addWord_5 rfl hl (by decide) rfl (fun ls hl => ?_)
    refine lv_ldc (v := -99999) hx hb hown (hts (.constant RL 16 (-99999)) (List.mem_of_getElem? (i := 2) rfl)) dL_addWord_6 ?_
    exact ke_X hx hb hr hlocks () (by rw [eo]; exact hP) (by rw [eo]; exact hD) hS (Nat.le_of_ble_eq_true rfl) (Nat.le_of_ble_eq_true rfl) dL_addWord_8 (by rw [eo])
  · exact ke_X hx hb hr hlocks () hP hD hS (Nat.le_of_ble_eq_true rfl) (Nat.le_of_ble_eq_true rfl) dL_addWord_4 er.2
set_option maxHeartbeats 4000000 in
set_option maxRecDepth 100000 in
theorem cw_give (l : Launch) (D : va_G) (cI : ClassId) (a : Nat → Nat) (c : kCS) (x : kXS) (i : Int32) (k : Int32) (hfl : l.stackTraces = false) : kc_X l yL_give wsL_give 8 127 3 18 D cI [.ref (a 0), .int i, .int k] (oW cI a c x) (fun (r : Int32) (_ : Unit) => r = (oGiv c i k).1) (fun _ => oW cI a (oGiv c i k).2 x) (fun _ => False) := by
  refine ks_T (cc := cL_give) (nL := 4) (ret := some .int) (hh := [(0, 6, 7, 21), (0, 6, 11, 14)]) (by decide) rfl (Nat.le_of_ble_eq_true rfl) ?_
  intro p e s m below meth cd ls hF hTab hP hK hX hZ hS hA hD hl
  obtain ⟨hx, hb, hr, hml, hown, hts, hlocks⟩ := hF
  have hown : s.vm.findClass RL = some m.cls := hown
  have hl : lv_has ls 4 [(0, .ref (a 0)), (1, .int i), (2, .int k)] := hl
  refine lv_aload_n hx hb dL_give_0 rfl (lv_at hl 0 rfl) ?_
  refine lv_iload_n hx hb dL_give_1 rfl (lv_at hl 1 rfl) ?_
  refine lv_iload_n hx hb dL_give_2 rfl (lv_at hl 2 rfl) ?_
  refine kq_0 (vx_runV (As := [.int i, .int k]) (rest := []) ⟨hx, hb, hml, hown, hts⟩ (cP_give l D cI a c x i k hfl _) (cwV 2 hts gL_give_X3_give rfl rfl rfl (by decide +kernel) ⟨Nat.le_of_ble_eq_true rfl, Nat.le_of_ble_eq_true rfl⟩) (kp_0V hP hD hK hX hZ hS hA 0 3 rfl rfl) rfl rfl hl.1 rfl (lv_room (Nat.le_of_ble_eq_true rfl)) dL_give_3 ⟨Nat.le_of_ble_eq_true rfl, Nat.le_of_ble_eq_true rfl⟩) hP hD hS hA (fun E ce q9 H locs hE hP hS hcell hv hcl => ?_) (fun r u H locs er hP hD hS => ?_)
  · obtain ⟨hE, hc⟩ := hE
    have eo : (oGiv c i k) = (-99999, c) := oOr_f hc
    rcases hE with rfl | rfl
    · skip
      refine vx_catch (own := RL) (name := "java/lang/IndexOutOfBoundsException") (E := "java/lang/IndexOutOfBoundsException") hown [] ⟨0, 6, 7, 21⟩ [⟨0, 6, 11, 14⟩] hTab (fun z hz => absurd hz List.not_mem_nil) (by decide) (by decide) (hts (.classLink RL 21 "java/lang/IndexOutOfBoundsException") (List.mem_of_getElem? (i := 1) rfl)) (va_Nw.use rfl hX.2.2.2.1) hcell hv hcl ?_
      refine lv_astore_n (lv' := [(3, .ref q9), (0, .ref (a 0)), (1, .int i), (2, .int k)]) hx hb dL_give_7 rfl hl (by decide) rfl (fun ls hl => ?_)
      refine lv_ldc (v := -99999) hx hb hown (hts (.constant RL 16 (-99999)) (List.mem_of_getElem? (i := 3) rfl)) dL_give_8 ?_
      exact ke_X hx hb hr hlocks () (by rw [eo]; exact hP) (by rw [eo]; exact hD) hS (Nat.le_of_ble_eq_true rfl) (Nat.le_of_ble_eq_true rfl) dL_give_10 (by rw [eo])
    · skip
      refine vx_catch (own := RL) (name := "java/lang/IllegalStateException") (E := "java/lang/IllegalStateException") hown [⟨0, 6, 7, 21⟩] ⟨0, 6, 11, 14⟩ [] hTab (fun z hz => by rw [List.mem_singleton.mp hz]; exact Or.inr ⟨by decide, _, (hts (.classLink RL 21 "java/lang/IndexOutOfBoundsException") (List.mem_of_getElem? (i := 1) rfl)), hX.2.2.2.2.1⟩) (by decide) (by decide) (hts (.classLink RL 14 "java/lang/IllegalStateException") (List.mem_of_getElem? (i := 2) rfl)) (va_Nw.use rfl hX.2.1) hcell hv hcl ?_
      refine lv_astore_n (lv' := [(3, .ref q9), (0, .ref (a 0)), (1, .int i), (2, .int k)]) hx hb dL_give_11 rfl hl (by decide) rfl (fun ls hl => ?_)
      refine lv_ldc (v := -99999) hx hb hown (hts (.constant RL 16 (-99999)) (List.mem_of_getElem? (i := 3) rfl)) dL_give_12 ?_
      exact ke_X hx hb hr hlocks () (by rw [eo]; exact hP) (by rw [eo]; exact hD) hS (Nat.le_of_ble_eq_true rfl) (Nat.le_of_ble_eq_true rfl) dL_give_14 (by rw [eo])
  · exact ke_X hx hb hr hlocks () hP hD hS (Nat.le_of_ble_eq_true rfl) (Nat.le_of_ble_eq_true rfl) dL_give_6 er.2
set_option maxHeartbeats 4000000 in
set_option maxRecDepth 100000 in
theorem cw_take (l : Launch) (D : va_G) (cI : ClassId) (a : Nat → Nat) (c : kCS) (x : kXS) (i : Int32) (k : Int32) (hfl : l.stackTraces = false) : kc_X l yL_take wsL_take 8 127 3 18 D cI [.ref (a 0), .int i, .int k] (oW cI a c x) (fun (r : Int32) (_ : Unit) => r = (oTak c i k).1) (fun _ => oW cI a (oTak c i k).2 x) (fun _ => False) := by
  refine ks_T (cc := cL_take) (nL := 4) (ret := some .int) (hh := [(0, 6, 7, 21), (0, 6, 11, 14)]) (by decide) rfl (Nat.le_of_ble_eq_true rfl) ?_
  intro p e s m below meth cd ls hF hTab hP hK hX hZ hS hA hD hl
  obtain ⟨hx, hb, hr, hml, hown, hts, hlocks⟩ := hF
  have hown : s.vm.findClass RL = some m.cls := hown
  have hl : lv_has ls 4 [(0, .ref (a 0)), (1, .int i), (2, .int k)] := hl
  refine lv_aload_n hx hb dL_take_0 rfl (lv_at hl 0 rfl) ?_
  refine lv_iload_n hx hb dL_take_1 rfl (lv_at hl 1 rfl) ?_
  refine lv_iload_n hx hb dL_take_2 rfl (lv_at hl 2 rfl) ?_
  refine kq_0 (vx_runV (As := [.int i, .int k]) (rest := []) ⟨hx, hb, hml, hown, hts⟩ (cP_take l D cI a c x i k hfl _) (cwV 2 hts gL_take_X3_take rfl rfl rfl (by decide +kernel) ⟨Nat.le_of_ble_eq_true rfl, Nat.le_of_ble_eq_true rfl⟩) (kp_0V hP hD hK hX hZ hS hA 0 3 rfl rfl) rfl rfl hl.1 rfl (lv_room (Nat.le_of_ble_eq_true rfl)) dL_take_3 ⟨Nat.le_of_ble_eq_true rfl, Nat.le_of_ble_eq_true rfl⟩) hP hD hS hA (fun E ce q9 H locs hE hP hS hcell hv hcl => ?_) (fun r u H locs er hP hD hS => ?_)
  · obtain ⟨hE, hc⟩ := hE
    have eo : (oTak c i k) = (-99999, c) := oOr_f hc
    rcases hE with rfl | rfl
    · skip
      refine vx_catch (own := RL) (name := "java/lang/IndexOutOfBoundsException") (E := "java/lang/IndexOutOfBoundsException") hown [] ⟨0, 6, 7, 21⟩ [⟨0, 6, 11, 14⟩] hTab (fun z hz => absurd hz List.not_mem_nil) (by decide) (by decide) (hts (.classLink RL 21 "java/lang/IndexOutOfBoundsException") (List.mem_of_getElem? (i := 1) rfl)) (va_Nw.use rfl hX.2.2.2.1) hcell hv hcl ?_
      refine lv_astore_n (lv' := [(3, .ref q9), (0, .ref (a 0)), (1, .int i), (2, .int k)]) hx hb dL_take_7 rfl hl (by decide) rfl (fun ls hl => ?_)
      refine lv_ldc (v := -99999) hx hb hown (hts (.constant RL 16 (-99999)) (List.mem_of_getElem? (i := 3) rfl)) dL_take_8 ?_
      exact ke_X hx hb hr hlocks () (by rw [eo]; exact hP) (by rw [eo]; exact hD) hS (Nat.le_of_ble_eq_true rfl) (Nat.le_of_ble_eq_true rfl) dL_take_10 (by rw [eo])
    · skip
      refine vx_catch (own := RL) (name := "java/lang/IllegalStateException") (E := "java/lang/IllegalStateException") hown [⟨0, 6, 7, 21⟩] ⟨0, 6, 11, 14⟩ [] hTab (fun z hz => by rw [List.mem_singleton.mp hz]; exact Or.inr ⟨by decide, _, (hts (.classLink RL 21 "java/lang/IndexOutOfBoundsException") (List.mem_of_getElem? (i := 1) rfl)), hX.2.2.2.2.1⟩) (by decide) (by decide) (hts (.classLink RL 14 "java/lang/IllegalStateException") (List.mem_of_getElem? (i := 2) rfl)) (va_Nw.use rfl hX.2.1) hcell hv hcl ?_
      refine lv_astore_n (lv' := [(3, .ref q9), (0, .ref (a 0)), (1, .int i), (2, .int k)]) hx hb dL_take_11 rfl hl (by decide) rfl (fun ls hl => ?_)
      refine lv_ldc (v := -99999) hx hb hown (hts (.constant RL 16 (-99999)) (List.mem_of_getElem? (i := 3) rfl)) dL_take_12 ?_
      exact ke_X hx hb hr hlocks () (by rw [eo]; exact hP) (by rw [eo]; exact hD) hS (Nat.le_of_ble_eq_true rfl) (Nat.le_of_ble_eq_true rfl) dL_take_14 (by rw [eo])
  · exact ke_X hx hb hr hlocks () hP hD hS (Nat.le_of_ble_eq_true rfl) (Nat.le_of_ble_eq_true rfl) dL_take_6 er.2
set_option maxHeartbeats 4000000 in
set_option maxRecDepth 100000 in
theorem cw_lock (l : Launch) (D : va_G) (cI : ClassId) (a : Nat → Nat) (c : kCS) (x : kXS) (i : Int32) (k : Int32) (hfl : l.stackTraces = false) : kc_X l yL_lock wsL_lock 8 127 2 12 D cI [.ref (a 0), .int i, .int k] (oW cI a c x) (fun (r : Int32) (_ : Unit) => r = (oLoc c i k).1) (fun _ => oW cI a (oLoc c i k).2 x) (fun _ => False) := by
  refine ks_T (cc := cL_lock) (nL := 4) (ret := some .int) (hh := [(0, 6, 7, 21), (0, 6, 11, 14)]) (by decide) rfl (Nat.le_of_ble_eq_true rfl) ?_
  intro p e s m below meth cd ls hF hTab hP hK hX hZ hS hA hD hl
  obtain ⟨hx, hb, hr, hml, hown, hts, hlocks⟩ := hF
  have hown : s.vm.findClass RL = some m.cls := hown
  have hl : lv_has ls 4 [(0, .ref (a 0)), (1, .int i), (2, .int k)] := hl
  refine lv_aload_n hx hb dL_lock_0 rfl (lv_at hl 0 rfl) ?_
  refine lv_iload_n hx hb dL_lock_1 rfl (lv_at hl 1 rfl) ?_
  refine lv_iload_n hx hb dL_lock_2 rfl (lv_at hl 2 rfl) ?_
  refine kq_0 (vx_runV (As := [.int i, .int k]) (rest := []) ⟨hx, hb, hml, hown, hts⟩ (cP_lock l D cI a c x i k hfl _) (cwV 2 hts gL_lock_X3_lock rfl rfl rfl (by decide +kernel) ⟨Nat.le_of_ble_eq_true rfl, Nat.le_of_ble_eq_true rfl⟩) (kp_0V hP hD hK hX hZ hS hA 0 3 rfl rfl) rfl rfl hl.1 rfl (lv_room (Nat.le_of_ble_eq_true rfl)) dL_lock_3 ⟨Nat.le_of_ble_eq_true rfl, Nat.le_of_ble_eq_true rfl⟩) hP hD hS hA (fun E ce q9 H locs hE hP hS hcell hv hcl => ?_) (fun r u H locs er hP hD hS => ?_)
  · obtain ⟨hE, hc⟩ := hE
    have eo : (oLoc c i k) = (-99999, c) := oOr_f hc
    rcases hE with rfl | rfl
    · skip
      refine vx_catch (own := RL) (name := "java/lang/IndexOutOfBoundsException") (E := "java/lang/IndexOutOfBoundsException") hown [] ⟨0, 6, 7, 21⟩ [⟨0, 6, 11, 14⟩] hTab (fun z hz => absurd hz List.not_mem_nil) (by decide) (by decide) (hts (.classLink RL 21 "java/lang/IndexOutOfBoundsException") (List.mem_of_getElem? (i := 1) rfl)) (va_Nw.use rfl hX.2.2.2.1) hcell hv hcl ?_
      refine lv_astore_n (lv' := [(3, .ref q9), (0, .ref (a 0)), (1, .int i), (2, .int k)]) hx hb dL_lock_7 rfl hl (by decide) rfl (fun ls hl => ?_)
      refine lv_ldc (v := -99999) hx hb hown (hts (.constant RL 16 (-99999)) (List.mem_of_getElem? (i := 3) rfl)) dL_lock_8 ?_
      exact ke_X hx hb hr hlocks () (by rw [eo]; exact hP) (by rw [eo]; exact hD) hS (Nat.le_of_ble_eq_true rfl) (Nat.le_of_ble_eq_true rfl) dL_lock_10 (by rw [eo])
    · skip
      refine vx_catch (own := RL) (name := "java/lang/IllegalStateException") (E := "java/lang/IllegalStateException") hown [⟨0, 6, 7, 21⟩] ⟨0, 6, 11, 14⟩ [] hTab (fun z hz => by rw [List.mem_singleton.mp hz]; exact Or.inr ⟨by decide, _, (hts (.classLink RL 21 "java/lang/IndexOutOfBoundsException") (List.mem_of_getElem? (i := 1) rfl)), hX.2.2.2.2.1⟩) (by decide) (by decide) (hts (.classLink RL 14 "java/lang/IllegalStateException") (List.mem_of_getElem? (i := 2) rfl)) (va_Nw.use rfl hX.2.1) hcell hv hcl ?_
      refine lv_astore_n (lv' := [(3, .ref q9), (0, .ref (a 0)), (1, .int i), (2, .int k)]) hx hb dL_lock_11 rfl hl (by decide) rfl (fun ls hl => ?_)
      refine lv_ldc (v := -99999) hx hb hown (hts (.constant RL 16 (-99999)) (List.mem_of_getElem? (i := 3) rfl)) dL_lock_12 ?_
      exact ke_X hx hb hr hlocks () (by rw [eo]; exact hP) (by rw [eo]; exact hD) hS (Nat.le_of_ble_eq_true rfl) (Nat.le_of_ble_eq_true rfl) dL_lock_14 (by rw [eo])
  · exact ke_X hx hb hr hlocks () hP hD hS (Nat.le_of_ble_eq_true rfl) (Nat.le_of_ble_eq_true rfl) dL_lock_6 er.2
set_option maxHeartbeats 4000000 in
set_option maxRecDepth 100000 in
theorem cw_say (l : Launch) (D : va_G) (cI : ClassId) (a : Nat → Nat) (c : kCS) (x : kXS) (i : Int32) (hfl : l.stackTraces = false) : kc_X l yL_say wsL_say 8 126 2 12 D cI [.ref (a 0), .int i] (oW cI a c x) (fun (r : Int32) (_ : Unit) => r = (oSay c i).1) (fun _ => oW cI a (oSay c i).2 x) (fun _ => False) := by
  refine ks_T (cc := cL_say) (nL := 3) (ret := some .int) (hh := [(0, 5, 6, 21), (0, 5, 10, 14)]) (by decide) rfl (Nat.le_of_ble_eq_true rfl) ?_
  intro p e s m below meth cd ls hF hTab hP hK hX hZ hS hA hD hl
  obtain ⟨hx, hb, hr, hml, hown, hts, hlocks⟩ := hF
  have hown : s.vm.findClass RL = some m.cls := hown
  have hl : lv_has ls 3 [(0, .ref (a 0)), (1, .int i)] := hl
  refine lv_aload_n hx hb dL_say_0 rfl (lv_at hl 0 rfl) ?_
  refine lv_iload_n hx hb dL_say_1 rfl (lv_at hl 1 rfl) ?_
  refine kq_0 (vx_runV (As := [.int i]) (rest := []) ⟨hx, hb, hml, hown, hts⟩ (cP_say l D cI a c x i hfl _) (cwV 1 hts gL_say_X3_say rfl rfl rfl (by decide +kernel) ⟨Nat.le_of_ble_eq_true rfl, Nat.le_of_ble_eq_true rfl⟩) (kp_0V hP hD hK hX hZ hS hA 0 3 rfl rfl) rfl rfl hl.1 rfl (lv_room (Nat.le_of_ble_eq_true rfl)) dL_say_2 ⟨Nat.le_of_ble_eq_true rfl, Nat.le_of_ble_eq_true rfl⟩) hP hD hS hA (fun E ce q9 H locs hE hP hS hcell hv hcl => ?_) (fun r u H locs er hP hD hS => ?_)
  · obtain ⟨hE, hc⟩ := hE
    have eo : (oSay c i) = (-99999, c) := oOr_f hc
    rcases hE with rfl | rfl
    · skip
      refine vx_catch (own := RL) (name := "java/lang/IndexOutOfBoundsException") (E := "java/lang/IndexOutOfBoundsException") hown [] ⟨0, 5, 6, 21⟩ [⟨0, 5, 10, 14⟩] hTab (fun z hz => absurd hz List.not_mem_nil) (by decide) (by decide) (hts (.classLink RL 21 "java/lang/IndexOutOfBoundsException") (List.mem_of_getElem? (i := 1) rfl)) (va_Nw.use rfl hX.2.2.2.1) hcell hv hcl ?_
      refine lv_astore_n (lv' := [(2, .ref q9), (0, .ref (a 0)), (1, .int i)]) hx hb dL_say_6 rfl hl (by decide) rfl (fun ls hl => ?_)
      refine lv_ldc (v := -99999) hx hb hown (hts (.constant RL 16 (-99999)) (List.mem_of_getElem? (i := 3) rfl)) dL_say_7 ?_
      exact ke_X hx hb hr hlocks () (by rw [eo]; exact hP) (by rw [eo]; exact hD) hS (Nat.le_of_ble_eq_true rfl) (Nat.le_of_ble_eq_true rfl) dL_say_9 (by rw [eo])
    · skip
      refine vx_catch (own := RL) (name := "java/lang/IllegalStateException") (E := "java/lang/IllegalStateException") hown [⟨0, 5, 6, 21⟩] ⟨0, 5, 10, 14⟩ [] hTab (fun z hz => by rw [List.mem_singleton.mp hz]; exact Or.inr ⟨by decide, _, (hts (.classLink RL 21 "java/lang/IndexOutOfBoundsException") (List.mem_of_getElem? (i := 1) rfl)), hX.2.2.2.2.1⟩) (by decide) (by decide) (hts (.classLink RL 14 "java/lang/IllegalStateException") (List.mem_of_getElem? (i := 2) rfl)) (va_Nw.use rfl hX.2.1) hcell hv hcl ?_
      refine lv_astore_n (lv' := [(2, .ref q9), (0, .ref (a 0)), (1, .int i)]) hx hb dL_say_10 rfl hl (by decide) rfl (fun ls hl => ?_)
      refine lv_ldc (v := -99999) hx hb hown (hts (.constant RL 16 (-99999)) (List.mem_of_getElem? (i := 3) rfl)) dL_say_11 ?_
      exact ke_X hx hb hr hlocks () (by rw [eo]; exact hP) (by rw [eo]; exact hD) hS (Nat.le_of_ble_eq_true rfl) (Nat.le_of_ble_eq_true rfl) dL_say_13 (by rw [eo])
  · exact ke_X hx hb hr hlocks () hP hD hS (Nat.le_of_ble_eq_true rfl) (Nat.le_of_ble_eq_true rfl) dL_say_5 er.2
set_option maxHeartbeats 4000000 in
set_option maxRecDepth 100000 in
theorem cw_mass (l : Launch) (D : va_G) (cI : ClassId) (a : Nat → Nat) (c : kCS) (x : kXS) (i : Int32) (hfl : l.stackTraces = false) : kc_X l yL_mass wsL_mass 8 126 1 6 D cI [.ref (a 0), .int i] (oW cI a c x) (fun (r : Int32) (_ : Unit) => r = kfMas c i) (fun _ => oW cI a c x) (fun _ => False) := by
  refine ks_T (cc := cL_mass) (nL := 3) (ret := some .int) (hh := [(0, 5, 6, 21)]) (by decide) rfl (Nat.le_of_ble_eq_true rfl) ?_
  intro p e s m below meth cd ls hF hTab hP hK hX hZ hS hA hD hl
  obtain ⟨hx, hb, hr, hml, hown, hts, hlocks⟩ := hF
  have hown : s.vm.findClass RL = some m.cls := hown
  have hl : lv_has ls 3 [(0, .ref (a 0)), (1, .int i)] := hl
  refine lv_aload_n hx hb dL_mass_0 rfl (lv_at hl 0 rfl) ?_
  refine lv_iload_n hx hb dL_mass_1 rfl (lv_at hl 1 rfl) ?_
  refine kq_0 (vx_runV (As := [.int i]) (rest := []) ⟨hx, hb, hml, hown, hts⟩ (cP_mass l D cI a c x i hfl _) (cwV 1 hts gL_mass_X3_mass rfl rfl rfl (by decide +kernel) ⟨Nat.le_of_ble_eq_true rfl, Nat.le_of_ble_eq_true rfl⟩) (kp_0V hP hD hK hX hZ hS hA 0 3 rfl rfl) rfl rfl hl.1 rfl (lv_room (Nat.le_of_ble_eq_true rfl)) dL_mass_2 ⟨Nat.le_of_ble_eq_true rfl, Nat.le_of_ble_eq_true rfl⟩) hP hD hS hA (fun E ce q9 H locs hE hP hS hcell hv hcl => ?_) (fun r u H locs er hP hD hS => ?_)
  · obtain ⟨rfl, hc⟩ := hE
    refine vx_catch (own := RL) (name := "java/lang/IndexOutOfBoundsException") (E := "java/lang/IndexOutOfBoundsException") hown [] ⟨0, 5, 6, 21⟩ [] hTab (fun z hz => absurd hz List.not_mem_nil) (by decide) (by decide) (hts (.classLink RL 21 "java/lang/IndexOutOfBoundsException") (List.mem_of_getElem? (i := 1) rfl)) (va_Nw.use rfl hX.2.2.2.1) hcell hv hcl ?_
    refine lv_astore_n (lv' := [(2, .ref q9), (0, .ref (a 0)), (1, .int i)]) hx hb dL_mass_6 rfl hl (by decide) rfl (fun ls hl => ?_)
    refine lv_iconst (v := (-1)) hx hb dL_mass_7 (by decide) ?_
    exact ke_X hx hb hr hlocks () hP hD hS (Nat.le_of_ble_eq_true rfl) (Nat.le_of_ble_eq_true rfl) dL_mass_8 (by unfold kfMas; rw [if_neg (by rw [hc]; decide)])
  · exact ke_X hx hb hr hlocks () hP hD hS (Nat.le_of_ble_eq_true rfl) (Nat.le_of_ble_eq_true rfl) dL_mass_5 (by unfold kfMas; rw [if_pos er.1]; exact er.2)
set_option maxHeartbeats 4000000 in
set_option maxRecDepth 100000 in
theorem cw_chosen (l : Launch) (D : va_G) (cI : ClassId) (a : Nat → Nat) (c : kCS) (x : kXS) (i : Int32) (q : Int32) (hfl : l.stackTraces = false) : kc_X l yL_chosen wsL_chosen 12 289 1 6 D cI [.ref (a 0), .int i, .int q] (oW cI a c x) (fun (r : Int32) (_ : kXS) => r = kfCho c x i q) (fun u => oW cI a c u) (fun _ => False) := by
  refine ks_T (cc := cL_chosen) (nL := 4) (ret := some .int) (hh := [(0, 6, 7, 21), (0, 6, 10, 33)]) (by decide) rfl (Nat.le_of_ble_eq_true rfl) ?_
  intro p e s m below meth cd ls hF hTab hP hK hX hZ hS hA hD hl
  obtain ⟨hx, hb, hr, hml, hown, hts, hlocks⟩ := hF
  have hown : s.vm.findClass RL = some m.cls := hown
  have hl : lv_has ls 4 [(0, .ref (a 0)), (1, .int i), (2, .int q)] := hl
  refine lv_aload_n hx hb dL_chosen_0 rfl (lv_at hl 0 rfl) ?_
  refine lv_iload_n hx hb dL_chosen_1 rfl (lv_at hl 1 rfl) ?_
  refine lv_iload_n hx hb dL_chosen_2 rfl (lv_at hl 2 rfl) ?_
  refine kq_0 (vx_runV (As := [.int i, .int q]) (rest := []) ⟨hx, hb, hml, hown, hts⟩ (cP_chosen l D cI a c x i q hfl _) (cwV 2 hts gL_chosen_X3_chosen rfl rfl rfl (by decide +kernel) ⟨Nat.le_of_ble_eq_true rfl, Nat.le_of_ble_eq_true rfl⟩) (kp_0V hP hD hK hX hZ hS hA 0 3 rfl rfl) rfl rfl hl.1 rfl (lv_room (Nat.le_of_ble_eq_true rfl)) dL_chosen_3 ⟨Nat.le_of_ble_eq_true rfl, Nat.le_of_ble_eq_true rfl⟩) hP hD hS hA (fun E ce q9 H locs hE hP hS hcell hv hcl => ?_) (fun r u H locs er hP hD hS => ?_)
  · rcases hE with ⟨rfl, hc⟩ | ⟨rfl, hc⟩
    · skip
      refine vx_catch (own := RL) (name := "java/lang/IndexOutOfBoundsException") (E := "java/lang/IndexOutOfBoundsException") hown [] ⟨0, 6, 7, 21⟩ [⟨0, 6, 10, 33⟩] hTab (fun z hz => absurd hz List.not_mem_nil) (by decide) (by decide) (hts (.classLink RL 21 "java/lang/IndexOutOfBoundsException") (List.mem_of_getElem? (i := 1) rfl)) (va_Nw.use rfl hX.2.2.2.1) hcell hv hcl ?_
      refine lv_astore_n (lv' := [(3, .ref q9), (0, .ref (a 0)), (1, .int i), (2, .int q)]) hx hb dL_chosen_7 rfl hl (by decide) rfl (fun ls hl => ?_)
      refine lv_iconst (v := (-1)) hx hb dL_chosen_8 (by decide) ?_
      exact ke_X hx hb hr hlocks x hP hD hS (Nat.le_of_ble_eq_true rfl) (Nat.le_of_ble_eq_true rfl) dL_chosen_9 (by unfold kfCho; rw [hc]; rfl)
    · skip
      refine vx_catch (own := RL) (name := "java/lang/IllegalArgumentException") (E := "java/lang/IllegalArgumentException") hown [⟨0, 6, 7, 21⟩] ⟨0, 6, 10, 33⟩ [] hTab (fun z hz => by rw [List.mem_singleton.mp hz]; exact Or.inr ⟨by decide, _, (hts (.classLink RL 21 "java/lang/IndexOutOfBoundsException") (List.mem_of_getElem? (i := 1) rfl)), hX.2.2.2.2.2⟩) (by decide) (by decide) (hts (.classLink RL 33 "java/lang/IllegalArgumentException") (List.mem_of_getElem? (i := 2) rfl)) (va_Nw.use rfl hX.2.2.1) hcell hv hcl ?_
      refine lv_astore_n (lv' := [(3, .ref q9), (0, .ref (a 0)), (1, .int i), (2, .int q)]) hx hb dL_chosen_10 rfl hl (by decide) rfl (fun ls hl => ?_)
      refine lv_bipush (v := (-2)) hx hb dL_chosen_11 (by decide) ?_
      exact ke_X hx hb hr hlocks x hP hD hS (Nat.le_of_ble_eq_true rfl) (Nat.le_of_ble_eq_true rfl) dL_chosen_13 (by unfold kfCho; rw [hc]; rfl)
  · exact ke_X hx hb hr hlocks u hP hD hS (Nat.le_of_ble_eq_true rfl) (Nat.le_of_ble_eq_true rfl) dL_chosen_6 (by unfold kfCho; rw [if_pos er.1]; exact er.2)
