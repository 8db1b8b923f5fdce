/-! p28: areAlike. -/
set_option maxHeartbeats 4000000 in
set_option maxRecDepth 100000 in
theorem cw_areAlike (l : Launch) (D : va_G) (cI : ClassId) (a b : Nat → Nat) (c : kCS) (x y : kXS) (hfl : l.stackTraces = false) : kc_X l yL_areAlike wsL_areAlike 9 148 70 420 D cI [.ref (a 0), .ref (b 0)] (oW cI a c x ++ oW cI b c y) (fun (r : Int32) (_ : Unit) => r = 1) (fun _ => (oW cI a c x ++ oW cI b c y)) (fun _ => False) := by
  refine ks_X (cc := cL_areAlike) (nL := 4) (ret := (some .boolean)) (by decide) rfl (Nat.le_of_ble_eq_true rfl) ?_
  intro p e s m below meth cd ls hF ht hP hK hX hZ hS hA hD hl
  obtain ⟨hx, hb, hr, hml, hown, hts, hlocks⟩ := hF
  have hown : s.vm.findClass RL = some m.cls := hown
  have hS := kx_wk (ws := (oW cI a c x ++ oW cI b c y)) hS
  have hl : lv_has ls 4 [(0, .ref (a 0)), (1, .ref (b 0))] := hl
  refine lv_aload_n hx hb dL_areAlike_0 rfl (lv_at hl 0 rfl) ?_
  refine kq_R (va_runV (As := []) (rest := []) ⟨hx, hb, hml, hown, hts⟩ (cP_senses l D cI a c x _) (cwV 0 hts gL_areAlike_X3_senses rfl rfl rfl (by decide +kernel) ⟨Nat.le_of_ble_eq_true rfl, Nat.le_of_ble_eq_true rfl⟩) (kp_RV (kP_l hP) hK 0 3 rfl rfl) rfl rfl hl.1 rfl (lv_room (Nat.le_of_ble_eq_true rfl)) dL_areAlike_1 ⟨(show 0 + 0 ≤ 70 from by omega), (show 0 + 0 ≤ 420 from by omega)⟩) hP hS hA (fun r_1 H locs er_1 hP hS => ?_)
  have er_1 : r_1 = kPr c := er_1
  rw [er_1]
  refine lv_aload_n hx hb dL_areAlike_4 rfl (lv_at hl 1 rfl) ?_
  refine kq_R (va_runV (As := []) (rest := [.int (kPr c)]) ⟨hx, hb, hml, hown, hts⟩ (cP_senses l D cI b c y _) (cwV 0 hts gL_areAlike_X3_senses rfl rfl rfl (by decide +kernel) ⟨Nat.le_of_ble_eq_true rfl, Nat.le_of_ble_eq_true rfl⟩) (kp_RV (kP_r hP) hK 0 3 rfl rfl) rfl rfl hl.1 rfl (lv_room (Nat.le_of_ble_eq_true rfl)) dL_areAlike_5 ⟨(show 0 + 0 ≤ 70 from by omega), (show 0 + 0 ≤ 420 from by omega)⟩) hP hS hA (fun r_5 H locs er_5 hP hS => ?_)
  have er_5 : r_5 = kPr c := er_5
  rw [er_5]
  refine lv_icmp_ne (tgt := 26) hx hb dL_areAlike_8 (by decide) (fun hc => absurd (rfl) hc) (fun _ => ?_)
  refine lv_aload_n hx hb dL_areAlike_11 rfl (lv_at hl 0 rfl) ?_
  refine kq_R (va_runV (As := []) (rest := []) ⟨hx, hb, hml, hown, hts⟩ (cP_choices l D cI a c x _) (cwV 0 hts gL_areAlike_X3_choices rfl rfl rfl (by decide +kernel) ⟨Nat.le_of_ble_eq_true rfl, Nat.le_of_ble_eq_true rfl⟩) (kp_RV (kP_l hP) hK 0 3 rfl rfl) rfl rfl hl.1 rfl (lv_room (Nat.le_of_ble_eq_true rfl)) dL_areAlike_12 ⟨(show 0 + 0 ≤ 70 from by omega), (show 0 + 0 ≤ 420 from by omega)⟩) hP hS hA (fun r_12 H locs er_12 hP hS => ?_)
  have er_12 : r_12 = kups (kchs (kLk c) (kSz c) (kSe c)) (kPl c) 0 1 := er_12
  rw [er_12]
  refine lv_aload_n hx hb dL_areAlike_15 rfl (lv_at hl 1 rfl) ?_
  refine kq_R (va_runV (As := []) (rest := [.int (kups (kchs (kLk c) (kSz c) (kSe c)) (kPl c) 0 1)]) ⟨hx, hb, hml, hown, hts⟩ (cP_choices l D cI b c y _) (cwV 0 hts gL_areAlike_X3_choices rfl rfl rfl (by decide +kernel) ⟨Nat.le_of_ble_eq_true rfl, Nat.le_of_ble_eq_true rfl⟩) (kp_RV (kP_r hP) hK 0 3 rfl rfl) rfl rfl hl.1 rfl (lv_room (Nat.le_of_ble_eq_true rfl)) dL_areAlike_16 ⟨(show 0 + 0 ≤ 70 from by omega), (show 0 + 0 ≤ 420 from by omega)⟩) hP hS hA (fun r_16 H locs er_16 hP hS => ?_)
  have er_16 : r_16 = kups (kchs (kLk c) (kSz c) (kSe c)) (kPl c) 0 1 := er_16
  rw [er_16]
  refine lv_icmp_ne (tgt := 26) hx hb dL_areAlike_19 (by decide) (fun hc => absurd (rfl) hc) (fun _ => ?_)
  refine lv_iconst (v := 1) hx hb dL_areAlike_22 (by decide) ?_
  refine lv_goto (tgt := 27) hx hb dL_areAlike_23 (by decide) ?_
  refine lv_istore_n (lv' := [(2, .int 1), (0, .ref (a 0)), (1, .ref (b 0))]) hx hb dL_areAlike_27 rfl hl (by decide) rfl (fun ls hl => ?_)
  refine lv_iconst (v := 0) hx hb dL_areAlike_28 (by decide) ?_
  refine lv_istore_n (lv' := [(3, .int 0), (2, .int 1), (0, .ref (a 0)), (1, .ref (b 0))]) hx hb dL_areAlike_29 rfl hl (by decide) rfl (fun ls hl => ?_)
  refine kl_forc (head := 30) (N := 14) (kc := 5) (kn := 30) (c0 := 0) (s0 := 0) (fun (j : Nat) (H : Heap) (locs : List Loc) (ls : Array Slot) => va_P D vwCl (oW cI a c x ++ oW cI b c y) H ∧ va_D (va_A (oW cI a c x ++ oW cI b c y) s.heap.size) (oW cI a c x ++ oW cI b c y) ∧ va_S (va_A (oW cI a c x ++ oW cI b c y) s.heap.size) s.heap H locs ∧ lv_has ls 4 [(0, .ref (a 0)), (1, .ref (b 0)), (2, .int 1), (3, .int (nI j))]) ?_ ?_ ⟨hP, hD, hS, (lv_sub hl [2, 3, 1, 0] rfl)⟩
  · skip
    intro j hj H locs ls hJ ih30
    obtain ⟨hP, hD, hS, hl⟩ := hJ
    refine lv_iload_n hx hb dL_areAlike_30 rfl (lv_at hl 3 rfl) ?_
    refine lv_bipush (v := 14) hx hb dL_areAlike_31 (by decide) ?_
    refine lv_icmp_ge (tgt := 86) hx hb dL_areAlike_33 (by decide) (fun hc => absurd hc (nI_ge hj (by decide))) (fun _ => ?_)
    refine lv_iload_n hx hb dL_areAlike_36 rfl (lv_at hl 2 rfl) ?_
    refine lv_if_eq (tgt := 78) hx hb dL_areAlike_37 (by decide) (fun hc => absurd hc (by decide)) (fun _ => ?_)
    refine lv_aload_n hx hb dL_areAlike_40 rfl (lv_at hl 0 rfl) ?_
    refine lv_iload_n hx hb dL_areAlike_41 rfl (lv_at hl 3 rfl) ?_
    refine kq_O (px := fun _ => False) (vx_runSX (As := [.ref (a 0), .int (nI j)]) (rest := []) ⟨hx, hb, hml, hown, hts⟩ (cw_mass l D cI a c x (nI j) hfl _) (vx_cwSW 2 hts gL_areAlike_L_mass rfl rfl rfl (by decide +kernel) ⟨Nat.le_of_ble_eq_true rfl, Nat.le_of_ble_eq_true rfl⟩) (kp_OS hP hD hK hX hZ hS hA) rfl rfl hl.1 rfl (lv_room (Nat.le_of_ble_eq_true rfl)) dL_areAlike_42 ⟨(show (0) + 5 * j + 1 ≤ 70 from by omega), (show (0) + 30 * j + 6 ≤ 420 from by omega)⟩) hP hD hS hA (fun E ce q9 H locs hE hP hS hcell hv hcl => hE.elim) (fun r_42 _u H locs er_42 hP hD hS => ?_)
    have hP : va_P D vwCl (oW cI a c x ++ oW cI b c y) H := hP
    have hD : va_D _ (oW cI a c x ++ oW cI b c y) := hD
    have hP : va_P D vwCl (oW cI a c x ++ oW cI b c y) H := hP
    have hD : va_D _ (oW cI a c x ++ oW cI b c y) := hD
    have er_42 : r_42 = kfMas c (nI j) := er_42
    rw [er_42]
    refine lv_aload_n hx hb dL_areAlike_45 rfl (lv_at hl 1 rfl) ?_
    refine lv_iload_n hx hb dL_areAlike_46 rfl (lv_at hl 3 rfl) ?_
    have hP := kP_sw hP
    have hD := kD_sw hD
    refine kq_O (px := fun _ => False) (vx_runSX (As := [.ref (b 0), .int (nI j)]) (rest := [.int (kfMas c (nI j))]) ⟨hx, hb, hml, hown, hts⟩ (cw_mass l D cI b c y (nI j) hfl _) (vx_cwSW 2 hts gL_areAlike_L_mass rfl rfl rfl (by decide +kernel) ⟨Nat.le_of_ble_eq_true rfl, Nat.le_of_ble_eq_true rfl⟩) (kp_OS hP hD hK hX hZ hS hA) rfl rfl hl.1 rfl (lv_room (Nat.le_of_ble_eq_true rfl)) dL_areAlike_47 ⟨(show (0) + 5 * j + 1 + 1 ≤ 70 from by omega), (show (0) + 30 * j + 6 + 6 ≤ 420 from by omega)⟩) hP hD hS hA (fun E ce q9 H locs hE hP hS hcell hv hcl => hE.elim) (fun r_47 _u H locs er_47 hP hD hS => ?_)
    have hP : va_P D vwCl (oW cI b c y ++ oW cI a c x) H := hP
    have hD : va_D _ (oW cI b c y ++ oW cI a c x) := hD
    have hP := kP_sw hP
    have hD := kD_sw hD
    have hP : va_P D vwCl (oW cI a c x ++ oW cI b c y) H := hP
    have hD : va_D _ (oW cI a c x ++ oW cI b c y) := hD
    have er_47 : r_47 = kfMas c (nI j) := er_47
    rw [er_47]
    refine lv_icmp_ne (tgt := 78) hx hb dL_areAlike_50 (by decide) (fun hc => absurd (rfl) hc) (fun _ => ?_)
    refine lv_aload_n hx hb dL_areAlike_53 rfl (lv_at hl 0 rfl) ?_
    refine lv_iload_n hx hb dL_areAlike_54 rfl (lv_at hl 3 rfl) ?_
    refine kq_O (px := fun _ => False) (vx_runSX (As := [.ref (a 0), .int (nI j)]) (rest := []) ⟨hx, hb, hml, hown, hts⟩ (cw_mass l D cI a c x (nI j) hfl _) (vx_cwSW 2 hts gL_areAlike_L_mass rfl rfl rfl (by decide +kernel) ⟨Nat.le_of_ble_eq_true rfl, Nat.le_of_ble_eq_true rfl⟩) (kp_OS hP hD hK hX hZ hS hA) rfl rfl hl.1 rfl (lv_room (Nat.le_of_ble_eq_true rfl)) dL_areAlike_55 ⟨(show (0) + 5 * j + 1 + 1 + 1 ≤ 70 from by omega), (show (0) + 30 * j + 6 + 6 + 6 ≤ 420 from by omega)⟩) hP hD hS hA (fun E ce q9 H locs hE hP hS hcell hv hcl => hE.elim) (fun r_55 _u H locs er_55 hP hD hS => ?_)
    have hP : va_P D vwCl (oW cI a c x ++ oW cI b c y) H := hP
    have hD : va_D _ (oW cI a c x ++ oW cI b c y) := hD
    have hP : va_P D vwCl (oW cI a c x ++ oW cI b c y) H := hP
    have hD : va_D _ (oW cI a c x ++ oW cI b c y) := hD
    have er_55 : r_55 = kfMas c (nI j) := er_55
    rw [er_55]
    refine lv_if_lt (tgt := 74) hx hb dL_areAlike_58 (by decide) (fun c_58 => ?_) (fun c_58 => ?_)
    · skip
      refine lv_iconst (v := 1) hx hb dL_areAlike_74 (by decide) ?_
      refine lv_goto (tgt := 79) hx hb dL_areAlike_75 (by decide) ?_
      refine lv_istore_n (lv' := [(2, .int 1), (0, .ref (a 0)), (1, .ref (b 0)), (3, .int (nI j))]) hx hb dL_areAlike_79 rfl hl (by decide) rfl (fun ls hl => ?_)
      refine lv_iinc (v := nI (j + 1)) (lv' := [(3, .int (nI (j + 1))), (2, .int 1), (0, .ref (a 0)), (1, .ref (b 0))]) hx hb dL_areAlike_80 hl (k := 3) rfl (nI_1 _) (by decide) rfl (fun ls hl => ?_)
      refine lv_goto (tgt := 30) hx hb dL_areAlike_83 (by decide) ?_
      refine W.widen (k := (0) + 5 * (j + 1)) (n := (0) + 30 * (j + 1)) (by omega) (by omega) ?_
      exact ih30 _ _ _ ⟨hP, hD, hS, (lv_sub hl [2, 3, 1, 0] rfl)⟩
    · skip
      have h1 := kfMas_0 c_58
      refine lv_aload_n hx hb dL_areAlike_61 rfl (lv_at hl 0 rfl) ?_
      refine lv_iload_n hx hb dL_areAlike_62 rfl (lv_at hl 3 rfl) ?_
      refine kq_O (px := fun _ => False) (vx_runV (As := [.int (nI j)]) (rest := []) ⟨hx, hb, hml, hown, hts⟩ (cH_parents l D cI a c x (nI j) h1 hfl _) (cwV 1 hts gL_areAlike_X3_parents rfl rfl rfl (by decide +kernel) ⟨Nat.le_of_ble_eq_true rfl, Nat.le_of_ble_eq_true rfl⟩) (kp_OV hP hD hK hX hZ hS hA 0 3 rfl rfl) rfl rfl hl.1 rfl (lv_room (Nat.le_of_ble_eq_true rfl)) dL_areAlike_63 ⟨(show (0) + 5 * j + 1 + 1 + 1 + 1 ≤ 70 from by omega), (show (0) + 30 * j + 6 + 6 + 6 + 6 ≤ 420 from by omega)⟩) hP hD hS hA (fun E ce q9 H locs hE hP hS hcell hv hcl => hE.elim) (fun r_63 _u H locs er_63 hP hD hS => ?_)
      have hP : va_P D vwCl (oW cI a c x ++ oW cI b c y) H := hP
      have hD : va_D _ (oW cI a c x ++ oW cI b c y) := hD
      have hP : va_P D vwCl (oW cI a c x ++ oW cI b c y) H := hP
      have hD : va_D _ (oW cI a c x ++ oW cI b c y) := hD
      have er_63 : r_63 = kat 30 (kPa c) (nI j) := er_63
      rw [er_63]
      refine lv_aload_n hx hb dL_areAlike_66 rfl (lv_at hl 1 rfl) ?_
      refine lv_iload_n hx hb dL_areAlike_67 rfl (lv_at hl 3 rfl) ?_
      have hP := kP_sw hP
      have hD := kD_sw hD
      refine kq_O (px := fun _ => False) (vx_runV (As := [.int (nI j)]) (rest := [.int (kat 30 (kPa c) (nI j))]) ⟨hx, hb, hml, hown, hts⟩ (cH_parents l D cI b c y (nI j) h1 hfl _) (cwV 1 hts gL_areAlike_X3_parents rfl rfl rfl (by decide +kernel) ⟨Nat.le_of_ble_eq_true rfl, Nat.le_of_ble_eq_true rfl⟩) (kp_OV hP hD hK hX hZ hS hA 0 3 rfl rfl) rfl rfl hl.1 rfl (lv_room (Nat.le_of_ble_eq_true rfl)) dL_areAlike_68 ⟨(show (0) + 5 * j + 1 + 1 + 1 + 1 + 1 ≤ 70 from by omega), (show (0) + 30 * j + 6 + 6 + 6 + 6 + 6 ≤ 420 from by omega)⟩) hP hD hS hA (fun E ce q9 H locs hE hP hS hcell hv hcl => hE.elim) (fun r_68 _u H locs er_68 hP hD hS => ?_)
      have hP : va_P D vwCl (oW cI b c y ++ oW cI a c x) H := hP
      have hD : va_D _ (oW cI b c y ++ oW cI a c x) := hD
      have hP := kP_sw hP
      have hD := kD_sw hD
      have hP : va_P D vwCl (oW cI a c x ++ oW cI b c y) H := hP
      have hD : va_D _ (oW cI a c x ++ oW cI b c y) := hD
      have er_68 : r_68 = kat 30 (kPa c) (nI j) := er_68
      rw [er_68]
      refine lv_icmp_ne (tgt := 78) hx hb dL_areAlike_71 (by decide) (fun hc => absurd (rfl) hc) (fun _ => ?_)
      refine lv_iconst (v := 1) hx hb dL_areAlike_74 (by decide) ?_
      refine lv_goto (tgt := 79) hx hb dL_areAlike_75 (by decide) ?_
      refine lv_istore_n (lv' := [(2, .int 1), (0, .ref (a 0)), (1, .ref (b 0)), (3, .int (nI j))]) hx hb dL_areAlike_79 rfl hl (by decide) rfl (fun ls hl => ?_)
      refine lv_iinc (v := nI (j + 1)) (lv' := [(3, .int (nI (j + 1))), (2, .int 1), (0, .ref (a 0)), (1, .ref (b 0))]) hx hb dL_areAlike_80 hl (k := 3) rfl (nI_1 _) (by decide) rfl (fun ls hl => ?_)
      refine lv_goto (tgt := 30) hx hb dL_areAlike_83 (by decide) ?_
      refine W.widen (k := (0) + 5 * (j + 1)) (n := (0) + 30 * (j + 1)) (by omega) (by omega) ?_
      exact ih30 _ _ _ ⟨hP, hD, hS, (lv_sub hl [2, 3, 1, 0] rfl)⟩
  · skip
    intro H locs ls hJ
    obtain ⟨hP, hD, hS, hl⟩ := hJ
    refine lv_iload_n hx hb dL_areAlike_30 rfl (lv_at hl 3 rfl) ?_
    refine lv_bipush (v := 14) hx hb dL_areAlike_31 (by decide) ?_
    refine lv_icmp_ge (tgt := 86) hx hb dL_areAlike_33 (by decide) (fun _ => ?_) (fun hc => absurd (nI_le (Nat.le_refl 14) (by decide)) hc)
    refine lv_iload_n hx hb dL_areAlike_86 rfl (lv_at hl 2 rfl) ?_
    exact ke_XZ hx hb hr hlocks (()) hP hD hS (show (0) + 5 * 14 ≤ 70 from by omega) (show (0) + 30 * 14 ≤ 420 from by omega) dL_areAlike_87 true rfl (rfl)
