theorem kx_d0 {i : Int32} (hd : 7 ≤ i.toInt + ((0 : Nat) : Int)) : 6 < i := by
  rw [Int32.lt_iff_toInt_lt]; have : (6 : Int32).toInt = 6 := by decide
  omega
theorem kx_d1 {i : Int32} {d : Nat} (hd : 7 ≤ i.toInt + ((d + 1 : Nat) : Int)) (h : ¬ 6 < i) : 7 ≤ (i + 1).toInt + (d : Int) := by
  rw [Int32.lt_iff_toInt_lt] at h
  have h6 : (6 : Int32).toInt = 6 := by decide
  have h3 := i.le_toInt
  have e : (i + 1).toInt = i.toInt + 1 := by
    rw [Int32.toInt_add]
    show (i.toInt + 1).bmod (2 ^ 32) = i.toInt + 1
    rw [Int.bmod_eq_of_le (by omega) (by omega)]
  rw [e]; omega
set_option maxHeartbeats 4000000 in
set_option maxRecDepth 100000 in
theorem c_X0_seek (l : Launch) (D : va_G) (cI : ClassId) : ∀ (d : Nat) (o0 o2 o3 o4 o5 o6 o7 : Nat) (cp : Int32) (cb : Int32) (zs : Nat → Int32) (op : Nat → Int32) (al : Nat → Int32) (ho : Nat → Int32) (pk : Nat → Int32) (bp : Nat → Int32) (i1 : Int32) (i2 : Int32) (hd : 7 ≤ i1.toInt + ((d : Nat) : Int)), kc_V l yX0_seek wsX0_seek (d + 2) (45 + 25 * d) D cI [.ref o0, .int i1, .int i2] [(o0, .inr (0, [.int cp, .int cb, .ref o2, .ref o3, .ref o4, .ref o5, .ref o6, .ref o7])), (o2, .inl (cI, 6, .inl zs)), (o3, .inl (cI, 30, .inl op)), (o4, .inl (cI, 900, .inl al)), (o5, .inl (cI, 7, .inl ho)), (o6, .inl (cI, 6, .inl pk)), (o7, .inl (cI, 6, .inl bp))] (fun (u : Unit) => True) (fun u => [(o0, .inr (0, [.int cp, .int ((ksek al ho zs cp d i1 i2 (cb, pk, bp)).1), .ref o2, .ref o3, .ref o4, .ref o5, .ref o6, .ref o7])), (o2, .inl (cI, 6, .inl zs)), (o3, .inl (cI, 30, .inl op)), (o4, .inl (cI, 900, .inl al)), (o5, .inl (cI, 7, .inl ho)), (o6, .inl (cI, 6, .inl ((ksek al ho zs cp d i1 i2 (cb, pk, bp)).2.1))), (o7, .inl (cI, 6, .inl ((ksek al ho zs cp d i1 i2 (cb, pk, bp)).2.2)))]) := by
  intro d
  induction d with
  | zero =>
    intro o0 o2 o3 o4 o5 o6 o7 cp cb zs op al ho pk bp i1 i2 hd
    refine ks_V (cc := cX0_seek) (nL := 6) (ret := none) (by decide) rfl (Nat.le_of_ble_eq_true rfl) ?_
    intro p e s m below meth c ls hF hP hK hS hA hD hl
    obtain ⟨hx, hb, hr, hml, hown, hts, hlocks⟩ := hF
    have hown : s.vm.findClass RX0 = some m.cls := hown
    have hl : lv_has ls 6 [(0, .ref o0), (1, .int i1), (2, .int i2)] := hl
    refine lv_aload_n hx hb dX0_seek_0 rfl (lv_at hl 0 rfl) ?_
    refine lv_ifnull hx hb dX0_seek_1 ?_
    refine lv_iload_n hx hb dX0_seek_4 rfl (lv_at hl 1 rfl) ?_
    refine lv_bipush (v := 6) hx hb dX0_seek_5 (by decide) ?_
    refine lv_icmp_gt (tgt := 27) hx hb dX0_seek_7 (by decide) (fun _ => ?_) (fun hc => absurd (kx_d0 hd) hc)
    exact ke_V hx hb hr hlocks (()) hP hD hS dX0_seek_27 (trivial)
  | succ d ih =>
    intro o0 o2 o3 o4 o5 o6 o7 cp cb zs op al ho pk bp i1 i2 hd
    refine ks_V (cc := cX0_seek) (nL := 6) (ret := none) (by decide) rfl (Nat.le_of_ble_eq_true rfl) ?_
    intro p e s m below meth c ls hF hP hK hS hA hD hl
    obtain ⟨hx, hb, hr, hml, hown, hts, hlocks⟩ := hF
    have hown : s.vm.findClass RX0 = some m.cls := hown
    have hl : lv_has ls 6 [(0, .ref o0), (1, .int i1), (2, .int i2)] := hl
    refine lv_aload_n hx hb dX0_seek_0 rfl (lv_at hl 0 rfl) ?_
    refine lv_ifnull hx hb dX0_seek_1 ?_
    refine lv_iload_n hx hb dX0_seek_4 rfl (lv_at hl 1 rfl) ?_
    refine lv_bipush (v := 6) hx hb dX0_seek_5 (by decide) ?_
    refine lv_icmp_gt (tgt := 27) hx hb dX0_seek_7 (by decide) (fun c_7 => ?_) (fun c_7 => ?_)
    · skip
      exact ke_V hx hb hr hlocks (()) (by (first | rw [show ksek al ho zs cp (d + 1) i1 i2 (cb, pk, bp) = (cb, pk, bp) from if_pos c_7] | rw [show ksek al ho zs cp (d + 1) i1 i2 (cb, pk, bp) = (cb, pk, bp) from (if_neg c_7).trans (if_pos c_24)]); exact hP) (by (first | rw [show ksek al ho zs cp (d + 1) i1 i2 (cb, pk, bp) = (cb, pk, bp) from if_pos c_7] | rw [show ksek al ho zs cp (d + 1) i1 i2 (cb, pk, bp) = (cb, pk, bp) from (if_neg c_7).trans (if_pos c_24)]); exact hD) hS dX0_seek_27 (trivial)
    · skip
      refine lv_iload_n hx hb dX0_seek_10 rfl (lv_at hl 2 rfl) ?_
      refine lv_aload_n hx hb dX0_seek_11 rfl (lv_at hl 0 rfl) ?_
      refine va_get (D := D) (ci := 0) (v := .ref o5) (C := RX0) (T := TX0) (N := 8) hx hb hts (fun w h => List.mem_cons_of_mem _ (List.mem_append_right _ (h))) hown hK.1 hP 0 rfl rfl 5 (by decide) (hts (.fieldLink RX0 28 "SenseNet$Chooser" "hopes" "[I") (List.mem_of_getElem? (i := 1) rfl)) (fun _ h9 => h9) rfl dX0_seek_12 ?_
      refine lv_iload_n hx hb dX0_seek_15 rfl (lv_at hl 1 rfl) ?_
      refine kq_R (va_runSN (As := [.ref o5, .int i1]) (rest := [.int i2]) ⟨hx, hb, hml, hown, hts⟩ (c_X3_at l D cI o5 7 ho i1 (by decide) _) ⟨va_cnB 2 hts gX0_seek_X3_at_n58 rfl rfl rfl hK.2.2.1 (hts (.initialized RX3) (List.mem_of_getElem? (i := 7) rfl)) (by decide +kernel) ⟨by simp only [kr_m]; omega, by simp only [kr_m]; omega⟩, (hts (.static yX3_at) (List.mem_of_getElem? (i := 6) rfl)), trivial⟩ (kp_RS (hP.sub (ws' := [(o5, .inl (cI, 7, .inl ho))]) [4] rfl) hK) rfl rfl hl.1 rfl (lv_room (Nat.le_of_ble_eq_true rfl)) dX0_seek_16 ⟨Nat.zero_le _, Nat.zero_le _⟩) hP hS hA (fun r_16 H locs er_16 hP hS => ?_)
      subst er_16
      refine lv_iadd hx hb dX0_seek_19 ?_
      refine lv_aload_n hx hb dX0_seek_20 rfl (lv_at hl 0 rfl) ?_
      refine va_get (D := D) (ci := 0) (v := .int cb) (C := RX0) (T := TX0) (N := 8) hx hb hts (fun w h => List.mem_cons_of_mem _ (List.mem_append_right _ (h))) hown hK.1 hP 0 rfl rfl 1 (by decide) (hts (.fieldLink RX0 15 "SenseNet$Chooser" "best" "I") (List.mem_of_getElem? (i := 2) rfl)) (fun _ h9 => h9) rfl dX0_seek_21 ?_
      refine lv_icmp_gt (tgt := 28) hx hb dX0_seek_24 (by decide) (fun c_24 => ?_) (fun c_24 => ?_)
      · skip
        refine lv_iload_n hx hb dX0_seek_28 rfl (lv_at hl 1 rfl) ?_
        refine lv_aload_n hx hb dX0_seek_29 rfl (lv_at hl 0 rfl) ?_
        refine va_get (D := D) (ci := 0) (v := .int cp) (C := RX0) (T := TX0) (N := 8) hx hb hts (fun w h => List.mem_cons_of_mem _ (List.mem_append_right _ (h))) hown hK.1 hP 0 rfl rfl 0 (by decide) (hts (.fieldLink RX0 9 "SenseNet$Chooser" "places" "I") (List.mem_of_getElem? (i := 3) rfl)) (fun _ h9 => h9) rfl dX0_seek_30 ?_
        refine lv_icmp_lt (tgt := 42) hx hb dX0_seek_33 (by decide) (fun c_33 => ?_) (fun c_33 => ?_)
        · skip
          refine lv_iload_n hx hb dX0_seek_42 rfl (lv_at hl 1 rfl) ?_
          refine lv_iconst (v := 5) hx hb dX0_seek_43 (by decide) ?_
          refine lv_imul hx hb dX0_seek_44 ?_
          refine lv_istore_n (lv' := [(3, .int (i1 * 5)), (0, .ref o0), (1, .int i1), (2, .int i2)]) hx hb dX0_seek_45 rfl hl (by decide) rfl (fun ls hl => ?_)
          refine lv_iload_n hx hb dX0_seek_46 rfl (lv_at hl 0 rfl) ?_
          refine lv_aload_n hx hb dX0_seek_47 rfl (lv_at hl 1 rfl) ?_
          refine va_get (D := D) (ci := 0) (v := .ref o2) (C := RX0) (T := TX0) (N := 8) hx hb hts (fun w h => List.mem_cons_of_mem _ (List.mem_append_right _ (h))) hown hK.1 hP 0 rfl rfl 2 (by decide) (hts (.fieldLink RX0 18 "SenseNet$Chooser" "sizes" "[I") (List.mem_of_getElem? (i := 4) rfl)) (fun _ h9 => h9) rfl dX0_seek_48 ?_
          refine lv_iload_n hx hb dX0_seek_51 rfl (lv_at hl 2 rfl) ?_
          refine kq_R (va_runSN (As := [.ref o2, .int i1]) (rest := [.int (i1 * 5)]) ⟨hx, hb, hml, hown, hts⟩ (c_X3_at l D cI o2 6 zs i1 (by decide) _) ⟨va_cnB 2 hts gX0_seek_X3_at_n58 rfl rfl rfl hK.2.2.1 (hts (.initialized RX3) (List.mem_of_getElem? (i := 7) rfl)) (by decide +kernel) ⟨by simp only [kr_m]; omega, by simp only [kr_m]; omega⟩, (hts (.static yX3_at) (List.mem_of_getElem? (i := 6) rfl)), trivial⟩ (kp_RS (hP.sub (ws' := [(o2, .inl (cI, 6, .inl zs))]) [1] rfl) hK) rfl rfl hl.1 rfl (lv_room (Nat.le_of_ble_eq_true rfl)) dX0_seek_52 ⟨Nat.zero_le _, Nat.zero_le _⟩) hP hS hA (fun r_52 H locs er_52 hP hS => ?_)
          subst er_52
          refine lv_iadd hx hb dX0_seek_55 ?_
          refine lv_istore (lv' := [(4, .int ((i1 * 5) + (kat 6 zs i1))), (3, .int (i1 * 5)), (0, .ref o0), (1, .int i1), (2, .int i2)]) hx hb dX0_seek_56 hl (by decide) rfl (fun ls hl => ?_)
          refine lv_iload_n hx hb dX0_seek_58 rfl (lv_at hl 1 rfl) ?_
          refine lv_istore (lv' := [(5, .int (i1 * 5)), (4, .int ((i1 * 5) + (kat 6 zs i1))), (3, .int (i1 * 5)), (0, .ref o0), (1, .int i1), (2, .int i2)]) hx hb dX0_seek_59 hl (by decide) rfl (fun ls hl => ?_)
          refine kl_up (head := 61) (kse1 al i1 i2 (ksek al ho zs cp d)) (i1 * 5 + kat 6 zs i1) (fun (x : Int32) (sg : Int32 × (Nat → Int32) × (Nat → Int32)) (H : Heap) (locs : List Loc) (ls : Array Slot) => ∃ (b2 : Int32), ∃ (k2 : Nat → Int32), ∃ (g2 : Nat → Int32), (sg = (b2, k2, g2)) ∧ va_P D vwCl [(o0, .inr (0, [.int cp, .int b2, .ref o2, .ref o3, .ref o4, .ref o5, .ref o6, .ref o7])), (o2, .inl (cI, 6, .inl zs)), (o3, .inl (cI, 30, .inl op)), (o4, .inl (cI, 900, .inl al)), (o5, .inl (cI, 7, .inl ho)), (o6, .inl (cI, 6, .inl k2)), (o7, .inl (cI, 6, .inl g2))] H ∧ va_D (va_A [(o0, .inr (0, [.int cp, .int cb, .ref o2, .ref o3, .ref o4, .ref o5, .ref o6, .ref o7])), (o2, .inl (cI, 6, .inl zs)), (o3, .inl (cI, 30, .inl op)), (o4, .inl (cI, 900, .inl al)), (o5, .inl (cI, 7, .inl ho)), (o6, .inl (cI, 6, .inl pk)), (o7, .inl (cI, 6, .inl bp))] s.heap.size) [(o0, .inr (0, [.int cp, .int b2, .ref o2, .ref o3, .ref o4, .ref o5, .ref o6, .ref o7])), (o2, .inl (cI, 6, .inl zs)), (o3, .inl (cI, 30, .inl op)), (o4, .inl (cI, 900, .inl al)), (o5, .inl (cI, 7, .inl ho)), (o6, .inl (cI, 6, .inl k2)), (o7, .inl (cI, 6, .inl g2))] ∧ va_S (va_A [(o0, .inr (0, [.int cp, .int cb, .ref o2, .ref o3, .ref o4, .ref o5, .ref o6, .ref o7])), (o2, .inl (cI, 6, .inl zs)), (o3, .inl (cI, 30, .inl op)), (o4, .inl (cI, 900, .inl al)), (o5, .inl (cI, 7, .inl ho)), (o6, .inl (cI, 6, .inl pk)), (o7, .inl (cI, 6, .inl bp))] s.heap.size) s.heap H locs ∧ lv_has ls 6 [(0, .ref o0), (1, .int i1), (2, .int i2), (3, .int (i1 * 5)), (4, .int ((i1 * 5) + (kat 6 zs i1))), (5, .int x)]) ?_ (i1 * 5) (cb, pk, bp) ?_ ⟨cb, pk, bp, (rfl), hP, hD, hS, (lv_sub hl [3, 4, 5, 2, 1, 0] rfl)⟩
          · skip
            intro x sg H locs ls hJ hxb61 ih61
            obtain ⟨b2, k2, g2, hI, hP, hD, hS, hl⟩ := hJ
            refine lv_iload hx hb dX0_seek_61 (lv_at hl 5 rfl) ?_
            refine lv_iload hx hb dX0_seek_63 (lv_at hl 4 rfl) ?_
            refine lv_icmp_ge (tgt := 100) hx hb dX0_seek_65 (by decide) (fun hc => absurd hc (hxb61)) (fun _ => ?_)
            refine lv_aload_n hx hb dX0_seek_68 rfl (lv_at hl 0 rfl) ?_
            refine va_get (D := D) (ci := 0) (v := .ref o6) (C := RX0) (T := TX0) (N := 8) hx hb hts (fun w h => List.mem_cons_of_mem _ (List.mem_append_right _ (h))) hown hK.1 hP 0 rfl rfl 6 (by decide) (hts (.fieldLink RX0 31 "SenseNet$Chooser" "picks" "[I") (List.mem_of_getElem? (i := 5) rfl)) (fun _ h9 => h9) rfl dX0_seek_69 ?_
            refine lv_iload_n hx hb dX0_seek_72 rfl (lv_at hl 1 rfl) ?_
            refine lv_iload hx hb dX0_seek_73 (lv_at hl 5 rfl) ?_
            refine kq_V (wr := [(o0, .inr (0, [.int cp, .int b2, .ref o2, .ref o3, .ref o4, .ref o5, .ref o6, .ref o7])), (o2, .inl (cI, 6, .inl zs)), (o3, .inl (cI, 30, .inl op)), (o4, .inl (cI, 900, .inl al)), (o5, .inl (cI, 7, .inl ho)), (o7, .inl (cI, 6, .inl g2))]) (va_runSN (As := [.ref o6, .int i1, .int x]) (rest := []) ⟨hx, hb, hml, hown, hts⟩ (c_X3_put l D cI o6 6 k2 i1 x (by decide) _) ⟨va_cnB 3 hts gX0_seek_X3_put_n50 rfl rfl rfl hK.2.1 (hts (.initialized RX3) (List.mem_of_getElem? (i := 7) rfl)) (by decide +kernel) ⟨by simp only [kr_m]; omega, by simp only [kr_m]; omega⟩, (hts (.static yX3_put) (List.mem_of_getElem? (i := 15) rfl)), trivial⟩ (kp_WS (hP.sub (ws' := [(o6, .inl (cI, 6, .inl k2))]) [5] rfl) (hD.sub (ws' := [(o6, .inl (cI, 6, .inl k2))]) [5] (by decide) rfl) hK) rfl rfl hl.1 rfl (lv_room (Nat.le_of_ble_eq_true rfl)) dX0_seek_75 ⟨Nat.zero_le _, Nat.zero_le _⟩) hP hD hS hA [5] [0, 1, 2, 3, 4, 6] rfl rfl (by decide) (by decide) (fun _u H locs er_75 hP hD hS => ?_)
            have hP := hP.sub (ws' := [(o0, .inr (0, [.int cp, .int b2, .ref o2, .ref o3, .ref o4, .ref o5, .ref o6, .ref o7])), (o2, .inl (cI, 6, .inl zs)), (o3, .inl (cI, 30, .inl op)), (o4, .inl (cI, 900, .inl al)), (o5, .inl (cI, 7, .inl ho)), (o6, .inl (cI, 6, .inl (kput 6 k2 i1 x))), (o7, .inl (cI, 6, .inl g2))]) [0, 1, 2, 3, 4, 6, 5] rfl
            have hD := hD.sub (ws' := [(o0, .inr (0, [.int cp, .int b2, .ref o2, .ref o3, .ref o4, .ref o5, .ref o6, .ref o7])), (o2, .inl (cI, 6, .inl zs)), (o3, .inl (cI, 30, .inl op)), (o4, .inl (cI, 900, .inl al)), (o5, .inl (cI, 7, .inl ho)), (o6, .inl (cI, 6, .inl (kput 6 k2 i1 x))), (o7, .inl (cI, 6, .inl g2))]) [0, 1, 2, 3, 4, 6, 5] (by decide) rfl
            refine lv_aload_n hx hb dX0_seek_78 rfl (lv_at hl 0 rfl) ?_
            refine lv_iload_n hx hb dX0_seek_79 rfl (lv_at hl 1 rfl) ?_
            refine lv_iconst (v := 1) hx hb dX0_seek_80 (by decide) ?_
            refine lv_iadd hx hb dX0_seek_81 ?_
            refine lv_iload_n hx hb dX0_seek_82 rfl (lv_at hl 2 rfl) ?_
            refine lv_aload_n hx hb dX0_seek_83 rfl (lv_at hl 0 rfl) ?_
            refine lv_iload_n hx hb dX0_seek_84 rfl (lv_at hl 1 rfl) ?_
            refine lv_iload hx hb dX0_seek_85 (lv_at hl 5 rfl) ?_
            refine kq_R (va_runV (As := [.int i1, .int x]) (rest := [.int i2, .int (i1 + 1), .ref o0]) ⟨hx, hb, hml, hown, hts⟩ (c_X0_gain l D cI o0 o2 o3 o4 o5 o6 o7 cp b2 zs op al ho (kput 6 k2 i1 x) g2 i1 x _) (cwV 2 hts gX0_seek_X0_gain rfl rfl rfl (by decide +kernel) ⟨by simp only [kr_m]; omega, by simp only [kr_m]; omega⟩) (kp_RV (hP.sub (ws' := [(o0, .inr (0, [.int cp, .int b2, .ref o2, .ref o3, .ref o4, .ref o5, .ref o6, .ref o7])), (o2, .inl (cI, 6, .inl zs)), (o3, .inl (cI, 30, .inl op)), (o4, .inl (cI, 900, .inl al)), (o5, .inl (cI, 7, .inl ho)), (o6, .inl (cI, 6, .inl (kput 6 k2 i1 x))), (o7, .inl (cI, 6, .inl g2))]) [0, 1, 2, 3, 4, 5, 6] rfl) hK 0 0 rfl rfl) rfl rfl hl.1 rfl (lv_room (Nat.le_of_ble_eq_true rfl)) dX0_seek_87 ⟨Nat.zero_le _, Nat.zero_le _⟩) hP hS hA (fun r_87 H locs er_87 hP hS => ?_)
            subst er_87
            refine lv_iadd hx hb dX0_seek_90 ?_
            refine kq_V (wr := []) (va_runS (As := [.ref o0, .int (i1 + 1), .int (i2 + (kgain al (kput 6 k2 i1 x) i1 x))]) (rest := []) ⟨hx, hb, hml, hown, hts⟩ (ih o0 o2 o3 o4 o5 o6 o7 cp b2 zs op al ho (kput 6 k2 i1 x) g2 (i1 + 1) (i2 + (kgain al (kput 6 k2 i1 x) i1 x)) (kx_d1 hd c_7) _) (va_cwS 3 hts gX0_seek_X0_seek rfl rfl rfl (by decide +kernel) ⟨by simp only [kr_m]; omega, by simp only [kr_m]; omega⟩) (kp_WS (hP.sub (ws' := [(o0, .inr (0, [.int cp, .int b2, .ref o2, .ref o3, .ref o4, .ref o5, .ref o6, .ref o7])), (o2, .inl (cI, 6, .inl zs)), (o3, .inl (cI, 30, .inl op)), (o4, .inl (cI, 900, .inl al)), (o5, .inl (cI, 7, .inl ho)), (o6, .inl (cI, 6, .inl (kput 6 k2 i1 x))), (o7, .inl (cI, 6, .inl g2))]) [0, 1, 2, 3, 4, 5, 6] rfl) (hD.sub (ws' := [(o0, .inr (0, [.int cp, .int b2, .ref o2, .ref o3, .ref o4, .ref o5, .ref o6, .ref o7])), (o2, .inl (cI, 6, .inl zs)), (o3, .inl (cI, 30, .inl op)), (o4, .inl (cI, 900, .inl al)), (o5, .inl (cI, 7, .inl ho)), (o6, .inl (cI, 6, .inl (kput 6 k2 i1 x))), (o7, .inl (cI, 6, .inl g2))]) [0, 1, 2, 3, 4, 5, 6] (by decide) rfl) hK) rfl rfl hl.1 rfl (lv_room (Nat.le_of_ble_eq_true rfl)) dX0_seek_91 ⟨Nat.zero_le _, Nat.zero_le _⟩) hP hD hS hA [0, 1, 2, 3, 4, 5, 6] [] rfl rfl (by decide) (by decide) (fun _u H locs er_91 hP hD hS => ?_)
            have hP := hP.sub (ws' := [(o0, .inr (0, [.int cp, .int ((ksek al ho zs cp d (i1 + 1) (i2 + (kgain al (kput 6 k2 i1 x) i1 x)) (b2, (kput 6 k2 i1 x), g2)).1), .ref o2, .ref o3, .ref o4, .ref o5, .ref o6, .ref o7])), (o2, .inl (cI, 6, .inl zs)), (o3, .inl (cI, 30, .inl op)), (o4, .inl (cI, 900, .inl al)), (o5, .inl (cI, 7, .inl ho)), (o6, .inl (cI, 6, .inl ((ksek al ho zs cp d (i1 + 1) (i2 + (kgain al (kput 6 k2 i1 x) i1 x)) (b2, (kput 6 k2 i1 x), g2)).2.1))), (o7, .inl (cI, 6, .inl ((ksek al ho zs cp d (i1 + 1) (i2 + (kgain al (kput 6 k2 i1 x) i1 x)) (b2, (kput 6 k2 i1 x), g2)).2.2)))]) [0, 1, 2, 3, 4, 5, 6] rfl
            have hD := hD.sub (ws' := [(o0, .inr (0, [.int cp, .int ((ksek al ho zs cp d (i1 + 1) (i2 + (kgain al (kput 6 k2 i1 x) i1 x)) (b2, (kput 6 k2 i1 x), g2)).1), .ref o2, .ref o3, .ref o4, .ref o5, .ref o6, .ref o7])), (o2, .inl (cI, 6, .inl zs)), (o3, .inl (cI, 30, .inl op)), (o4, .inl (cI, 900, .inl al)), (o5, .inl (cI, 7, .inl ho)), (o6, .inl (cI, 6, .inl ((ksek al ho zs cp d (i1 + 1) (i2 + (kgain al (kput 6 k2 i1 x) i1 x)) (b2, (kput 6 k2 i1 x), g2)).2.1))), (o7, .inl (cI, 6, .inl ((ksek al ho zs cp d (i1 + 1) (i2 + (kgain al (kput 6 k2 i1 x) i1 x)) (b2, (kput 6 k2 i1 x), g2)).2.2)))]) [0, 1, 2, 3, 4, 5, 6] (by decide) rfl
            refine lv_iinc (v := x + 1) (lv' := [(5, .int (x + 1)), (0, .ref o0), (1, .int i1), (2, .int i2), (3, .int (i1 * 5)), (4, .int ((i1 * 5) + (kat 6 zs i1)))]) hx hb dX0_seek_94 hl (k := 5) rfl (rfl) (by decide) rfl (fun ls hl => ?_)
            refine lv_goto (tgt := 61) hx hb dX0_seek_97 (by decide) ?_
            exact ih61 _ _ _ ⟨((ksek al ho zs cp d (i1 + 1) (i2 + (kgain al (kput 6 k2 i1 x) i1 x)) (b2, (kput 6 k2 i1 x), g2)).1), ((ksek al ho zs cp d (i1 + 1) (i2 + (kgain al (kput 6 k2 i1 x) i1 x)) (b2, (kput 6 k2 i1 x), g2)).2.1), ((ksek al ho zs cp d (i1 + 1) (i2 + (kgain al (kput 6 k2 i1 x) i1 x)) (b2, (kput 6 k2 i1 x), g2)).2.2), (by rw [hI]; rfl), hP, hD, hS, (lv_sub hl [1, 2, 3, 4, 5, 0] rfl)⟩
          · skip
            intro x H locs ls hJ hxb61
            obtain ⟨b2, k2, g2, hI, hP, hD, hS, hl⟩ := hJ
            refine lv_iload hx hb dX0_seek_61 (lv_at hl 5 rfl) ?_
            refine lv_iload hx hb dX0_seek_63 (lv_at hl 4 rfl) ?_
            refine lv_icmp_ge (tgt := 100) hx hb dX0_seek_65 (by decide) (fun _ => ?_) (fun hc => absurd (hxb61) hc)
            exact ke_V hx hb hr hlocks (()) (by (rw [show ksek al ho zs cp (d + 1) i1 i2 (cb, pk, bp) = (b2, k2, g2) from (if_neg c_7).trans ((if_neg (Classical.not_not.mpr c_24)).trans ((if_neg (Classical.not_not.mpr c_33)).trans hI))]); exact hP) (by (rw [show ksek al ho zs cp (d + 1) i1 i2 (cb, pk, bp) = (b2, k2, g2) from (if_neg c_7).trans ((if_neg (Classical.not_not.mpr c_24)).trans ((if_neg (Classical.not_not.mpr c_33)).trans hI))]); exact hD) hS dX0_seek_100 (trivial)
        · skip
          refine lv_aload_n hx hb dX0_seek_36 rfl (lv_at hl 0 rfl) ?_
          refine lv_iload_n hx hb dX0_seek_37 rfl (lv_at hl 2 rfl) ?_
          refine kq_V (wr := []) (va_runV (As := [.int i2]) (rest := []) ⟨hx, hb, hml, hown, hts⟩ (c_X0_keep l D cI o0 o2 o3 o4 o5 o6 o7 cp cb zs op al ho pk bp i2 _) (cwV 1 hts gX0_seek_X0_keep rfl rfl rfl (by decide +kernel) ⟨by simp only [kr_m]; omega, by simp only [kr_m]; omega⟩) (kp_WV (hP.sub (ws' := [(o0, .inr (0, [.int cp, .int cb, .ref o2, .ref o3, .ref o4, .ref o5, .ref o6, .ref o7])), (o2, .inl (cI, 6, .inl zs)), (o3, .inl (cI, 30, .inl op)), (o4, .inl (cI, 900, .inl al)), (o5, .inl (cI, 7, .inl ho)), (o6, .inl (cI, 6, .inl pk)), (o7, .inl (cI, 6, .inl bp))]) [0, 1, 2, 3, 4, 5, 6] rfl) (hD.sub (ws' := [(o0, .inr (0, [.int cp, .int cb, .ref o2, .ref o3, .ref o4, .ref o5, .ref o6, .ref o7])), (o2, .inl (cI, 6, .inl zs)), (o3, .inl (cI, 30, .inl op)), (o4, .inl (cI, 900, .inl al)), (o5, .inl (cI, 7, .inl ho)), (o6, .inl (cI, 6, .inl pk)), (o7, .inl (cI, 6, .inl bp))]) [0, 1, 2, 3, 4, 5, 6] (by decide) rfl) hK 0 0 rfl rfl) rfl rfl hl.1 rfl (lv_room (Nat.le_of_ble_eq_true rfl)) dX0_seek_38 ⟨Nat.zero_le _, Nat.zero_le _⟩) hP hD hS hA [0, 1, 2, 3, 4, 5, 6] [] rfl rfl (by decide) (by decide) (fun _u H locs er_38 hP hD hS => ?_)
          have hP := hP.sub (ws' := [(o0, .inr (0, [.int cp, .int i2, .ref o2, .ref o3, .ref o4, .ref o5, .ref o6, .ref o7])), (o2, .inl (cI, 6, .inl zs)), (o3, .inl (cI, 30, .inl op)), (o4, .inl (cI, 900, .inl al)), (o5, .inl (cI, 7, .inl ho)), (o6, .inl (cI, 6, .inl pk)), (o7, .inl (cI, 6, .inl (kups (kkee pk) cp 0 bp)))]) [0, 1, 2, 3, 4, 5, 6] rfl
          have hD := hD.sub (ws' := [(o0, .inr (0, [.int cp, .int i2, .ref o2, .ref o3, .ref o4, .ref o5, .ref o6, .ref o7])), (o2, .inl (cI, 6, .inl zs)), (o3, .inl (cI, 30, .inl op)), (o4, .inl (cI, 900, .inl al)), (o5, .inl (cI, 7, .inl ho)), (o6, .inl (cI, 6, .inl pk)), (o7, .inl (cI, 6, .inl (kups (kkee pk) cp 0 bp)))]) [0, 1, 2, 3, 4, 5, 6] (by decide) rfl
          exact ke_V hx hb hr hlocks (()) (by (rw [show ksek al ho zs cp (d + 1) i1 i2 (cb, pk, bp) = (i2, pk, kups (kkee pk) cp 0 bp) from (if_neg c_7).trans ((if_neg (Classical.not_not.mpr c_24)).trans (if_pos c_33))]); exact hP) (by (rw [show ksek al ho zs cp (d + 1) i1 i2 (cb, pk, bp) = (i2, pk, kups (kkee pk) cp 0 bp) from (if_neg c_7).trans ((if_neg (Classical.not_not.mpr c_24)).trans (if_pos c_33))]); exact hD) hS dX0_seek_41 (trivial)
      · skip
        exact ke_V hx hb hr hlocks (()) (by (first | rw [show ksek al ho zs cp (d + 1) i1 i2 (cb, pk, bp) = (cb, pk, bp) from if_pos c_7] | rw [show ksek al ho zs cp (d + 1) i1 i2 (cb, pk, bp) = (cb, pk, bp) from (if_neg c_7).trans (if_pos c_24)]); exact hP) (by (first | rw [show ksek al ho zs cp (d + 1) i1 i2 (cb, pk, bp) = (cb, pk, bp) from if_pos c_7] | rw [show ksek al ho zs cp (d + 1) i1 i2 (cb, pk, bp) = (cb, pk, bp) from (if_neg c_7).trans (if_pos c_24)]); exact hD) hS dX0_seek_27 (trivial)
set_option maxHeartbeats 4000000 in
set_option maxRecDepth 100000 in
theorem c_X0_greatest (l : Launch) (D : va_G) (cI : ClassId) : ∀ (d : Nat) (o0 o2 o3 o4 o5 o6 o7 : Nat) (cp : Int32) (cb : Int32) (zs : Nat → Int32) (op : Nat → Int32) (al : Nat → Int32) (ho : Nat → Int32) (pk : Nat → Int32) (bp : Nat → Int32) (i1 : Int32) (i2 : Int32) (hd : 7 ≤ i1.toInt + ((d : Nat) : Int)), kc_W l yX0_greatest wsX0_greatest (d + 2) (45 + 26 * d) D cI [.ref o0, .int i1, .int i2] [(o0, .inr (0, [.int cp, .int cb, .ref o2, .ref o3, .ref o4, .ref o5, .ref o6, .ref o7])), (o2, .inl (cI, 6, .inl zs)), (o3, .inl (cI, 30, .inl op)), (o4, .inl (cI, 900, .inl al)), (o5, .inl (cI, 7, .inl ho)), (o6, .inl (cI, 6, .inl pk)), (o7, .inl (cI, 6, .inl bp))] (fun (r : Int32) (u : Unit) => r = (kgre al zs cp d i1 i2 pk).1) (fun u => [(o0, .inr (0, [.int cp, .int cb, .ref o2, .ref o3, .ref o4, .ref o5, .ref o6, .ref o7])), (o2, .inl (cI, 6, .inl zs)), (o3, .inl (cI, 30, .inl op)), (o4, .inl (cI, 900, .inl al)), (o5, .inl (cI, 7, .inl ho)), (o6, .inl (cI, 6, .inl ((kgre al zs cp d i1 i2 pk).2))), (o7, .inl (cI, 6, .inl bp))]) := by
  intro d
  induction d with
  | zero =>
    intro o0 o2 o3 o4 o5 o6 o7 cp cb zs op al ho pk bp i1 i2 hd
    refine ks_W (cc := cX0_greatest) (nL := 7) (ret := (some .int)) (by decide) rfl (Nat.le_of_ble_eq_true rfl) ?_
    intro p e s m below meth c ls hF hP hK hS hA hD hl
    obtain ⟨hx, hb, hr, hml, hown, hts, hlocks⟩ := hF
    have hown : s.vm.findClass RX0 = some m.cls := hown
    have hl : lv_has ls 7 [(0, .ref o0), (1, .int i1), (2, .int i2)] := hl
    refine lv_aload_n hx hb dX0_greatest_0 rfl (lv_at hl 0 rfl) ?_
    refine lv_ifnull hx hb dX0_greatest_1 ?_
    refine lv_iload_n hx hb dX0_greatest_4 rfl (lv_at hl 1 rfl) ?_
    refine lv_bipush (v := 6) hx hb dX0_greatest_5 (by decide) ?_
    refine lv_icmp_gt (tgt := 18) hx hb dX0_greatest_7 (by decide) (fun _ => ?_) (fun hc => absurd (kx_d0 hd) hc)
    refine lv_iload_n hx hb dX0_greatest_18 rfl (lv_at hl 2 rfl) ?_
    exact ke_W hx hb hr hlocks (()) hP hD hS dX0_greatest_19 (rfl)
  | succ d ih =>
    intro o0 o2 o3 o4 o5 o6 o7 cp cb zs op al ho pk bp i1 i2 hd
    refine ks_W (cc := cX0_greatest) (nL := 7) (ret := (some .int)) (by decide) rfl (Nat.le_of_ble_eq_true rfl) ?_
    intro p e s m below meth c ls hF hP hK hS hA hD hl
    obtain ⟨hx, hb, hr, hml, hown, hts, hlocks⟩ := hF
    have hown : s.vm.findClass RX0 = some m.cls := hown
    have hl : lv_has ls 7 [(0, .ref o0), (1, .int i1), (2, .int i2)] := hl
    refine lv_aload_n hx hb dX0_greatest_0 rfl (lv_at hl 0 rfl) ?_
    refine lv_ifnull hx hb dX0_greatest_1 ?_
    refine lv_iload_n hx hb dX0_greatest_4 rfl (lv_at hl 1 rfl) ?_
    refine lv_bipush (v := 6) hx hb dX0_greatest_5 (by decide) ?_
    refine lv_icmp_gt (tgt := 18) hx hb dX0_greatest_7 (by decide) (fun c_7 => ?_) (fun c_7 => ?_)
    · skip
      refine lv_iload_n hx hb dX0_greatest_18 rfl (lv_at hl 2 rfl) ?_
      exact ke_W hx hb hr hlocks (()) (by (first | rw [show kgre al zs cp (d + 1) i1 i2 pk = (i2, pk) from if_pos c_7] | rw [show kgre al zs cp (d + 1) i1 i2 pk = (i2, pk) from (if_neg c_7).trans (if_pos c_15)]); exact hP) (by (first | rw [show kgre al zs cp (d + 1) i1 i2 pk = (i2, pk) from if_pos c_7] | rw [show kgre al zs cp (d + 1) i1 i2 pk = (i2, pk) from (if_neg c_7).trans (if_pos c_15)]); exact hD) hS dX0_greatest_19 (by first | rw [show kgre al zs cp (d + 1) i1 i2 pk = (i2, pk) from if_pos c_7] | rw [show kgre al zs cp (d + 1) i1 i2 pk = (i2, pk) from (if_neg c_7).trans (if_pos c_15)])
    · skip
      refine lv_iload_n hx hb dX0_greatest_10 rfl (lv_at hl 1 rfl) ?_
      refine lv_aload_n hx hb dX0_greatest_11 rfl (lv_at hl 0 rfl) ?_
      refine va_get (D := D) (ci := 0) (v := .int cp) (C := RX0) (T := TX0) (N := 8) hx hb hts (fun w h => List.mem_cons_of_mem _ (List.mem_append_right _ (h))) hown hK.1 hP 0 rfl rfl 0 (by decide) (hts (.fieldLink RX0 9 "SenseNet$Chooser" "places" "I") (List.mem_of_getElem? (i := 1) rfl)) (fun _ h9 => h9) rfl dX0_greatest_12 ?_
      refine lv_icmp_lt (tgt := 20) hx hb dX0_greatest_15 (by decide) (fun c_15 => ?_) (fun c_15 => ?_)
      · skip
        refine lv_iconst (v := 0) hx hb dX0_greatest_20 (by decide) ?_
        refine lv_istore_n (lv' := [(3, .int 0), (0, .ref o0), (1, .int i1), (2, .int i2)]) hx hb dX0_greatest_21 rfl hl (by decide) rfl (fun ls hl => ?_)
        refine lv_iload_n hx hb dX0_greatest_22 rfl (lv_at hl 2 rfl) ?_
        refine lv_iconst (v := 5) hx hb dX0_greatest_23 (by decide) ?_
        refine lv_imul hx hb dX0_greatest_24 ?_
        refine lv_istore (lv' := [(4, .int (i1 * 5)), (3, .int 0), (0, .ref o0), (1, .int i1), (2, .int i2)]) hx hb dX0_greatest_25 hl (by decide) rfl (fun ls hl => ?_)
        refine lv_iload hx hb dX0_greatest_27 (lv_at hl 0 rfl) ?_
        refine lv_aload_n hx hb dX0_greatest_29 rfl (lv_at hl 2 rfl) ?_
        refine va_get (D := D) (ci := 0) (v := .ref o2) (C := RX0) (T := TX0) (N := 8) hx hb hts (fun w h => List.mem_cons_of_mem _ (List.mem_append_right _ (h))) hown hK.1 hP 0 rfl rfl 2 (by decide) (hts (.fieldLink RX0 18 "SenseNet$Chooser" "sizes" "[I") (List.mem_of_getElem? (i := 2) rfl)) (fun _ h9 => h9) rfl dX0_greatest_30 ?_
        refine lv_iload_n hx hb dX0_greatest_33 rfl (lv_at hl 3 rfl) ?_
        refine kq_R (va_runSN (As := [.ref o2, .int i1]) (rest := [.int (i1 * 5)]) ⟨hx, hb, hml, hown, hts⟩ (c_X3_at l D cI o2 6 zs i1 (by decide) _) ⟨va_cnB 2 hts gX0_greatest_X3_at_n58 rfl rfl rfl hK.2.2.1 (hts (.initialized RX3) (List.mem_of_getElem? (i := 9) rfl)) (by decide +kernel) ⟨by simp only [kr_m]; omega, by simp only [kr_m]; omega⟩, (hts (.static yX3_at) (List.mem_of_getElem? (i := 8) rfl)), trivial⟩ (kp_RS (hP.sub (ws' := [(o2, .inl (cI, 6, .inl zs))]) [1] rfl) hK) rfl rfl hl.1 rfl (lv_room (Nat.le_of_ble_eq_true rfl)) dX0_greatest_34 ⟨Nat.zero_le _, Nat.zero_le _⟩) hP hS hA (fun r_34 H locs er_34 hP hS => ?_)
        subst er_34
        refine lv_iadd hx hb dX0_greatest_37 ?_
        refine lv_istore (lv' := [(5, .int ((i1 * 5) + (kat 6 zs i1))), (4, .int (i1 * 5)), (3, .int 0), (0, .ref o0), (1, .int i1), (2, .int i2)]) hx hb dX0_greatest_38 hl (by decide) rfl (fun ls hl => ?_)
        refine lv_iload hx hb dX0_greatest_40 (lv_at hl 1 rfl) ?_
        refine lv_istore (lv' := [(6, .int (i1 * 5)), (5, .int ((i1 * 5) + (kat 6 zs i1))), (4, .int (i1 * 5)), (3, .int 0), (0, .ref o0), (1, .int i1), (2, .int i2)]) hx hb dX0_greatest_42 hl (by decide) rfl (fun ls hl => ?_)
        refine kl_up (head := 44) (kgr1 al i1 i2 (kgre al zs cp d)) (i1 * 5 + kat 6 zs i1) (fun (x : Int32) (sg : Int32 × (Nat → Int32)) (H : Heap) (locs : List Loc) (ls : Array Slot) => ∃ (y : Int32), ∃ (g : Nat → Int32), (sg = (y, g)) ∧ va_P D vwCl [(o0, .inr (0, [.int cp, .int cb, .ref o2, .ref o3, .ref o4, .ref o5, .ref o6, .ref o7])), (o2, .inl (cI, 6, .inl zs)), (o3, .inl (cI, 30, .inl op)), (o4, .inl (cI, 900, .inl al)), (o5, .inl (cI, 7, .inl ho)), (o6, .inl (cI, 6, .inl g)), (o7, .inl (cI, 6, .inl bp))] H ∧ va_D (va_A [(o0, .inr (0, [.int cp, .int cb, .ref o2, .ref o3, .ref o4, .ref o5, .ref o6, .ref o7])), (o2, .inl (cI, 6, .inl zs)), (o3, .inl (cI, 30, .inl op)), (o4, .inl (cI, 900, .inl al)), (o5, .inl (cI, 7, .inl ho)), (o6, .inl (cI, 6, .inl pk)), (o7, .inl (cI, 6, .inl bp))] s.heap.size) [(o0, .inr (0, [.int cp, .int cb, .ref o2, .ref o3, .ref o4, .ref o5, .ref o6, .ref o7])), (o2, .inl (cI, 6, .inl zs)), (o3, .inl (cI, 30, .inl op)), (o4, .inl (cI, 900, .inl al)), (o5, .inl (cI, 7, .inl ho)), (o6, .inl (cI, 6, .inl g)), (o7, .inl (cI, 6, .inl bp))] ∧ va_S (va_A [(o0, .inr (0, [.int cp, .int cb, .ref o2, .ref o3, .ref o4, .ref o5, .ref o6, .ref o7])), (o2, .inl (cI, 6, .inl zs)), (o3, .inl (cI, 30, .inl op)), (o4, .inl (cI, 900, .inl al)), (o5, .inl (cI, 7, .inl ho)), (o6, .inl (cI, 6, .inl pk)), (o7, .inl (cI, 6, .inl bp))] s.heap.size) s.heap H locs ∧ lv_has ls 7 [(0, .ref o0), (1, .int i1), (2, .int i2), (3, .int y), (4, .int (i1 * 5)), (5, .int ((i1 * 5) + (kat 6 zs i1))), (6, .int x)]) ?_ (i1 * 5) (0, pk) ?_ ⟨0, pk, (rfl), hP, hD, hS, (lv_sub hl [4, 5, 6, 3, 2, 1, 0] rfl)⟩
        · skip
          intro x sg H locs ls hJ hxb44 ih44
          obtain ⟨y, g, hI, hP, hD, hS, hl⟩ := hJ
          refine lv_iload hx hb dX0_greatest_44 (lv_at hl 6 rfl) ?_
          refine lv_iload hx hb dX0_greatest_46 (lv_at hl 5 rfl) ?_
          refine lv_icmp_ge (tgt := 88) hx hb dX0_greatest_48 (by decide) (fun hc => absurd hc (hxb44)) (fun _ => ?_)
          refine lv_aload_n hx hb dX0_greatest_51 rfl (lv_at hl 0 rfl) ?_
          refine va_get (D := D) (ci := 0) (v := .ref o6) (C := RX0) (T := TX0) (N := 8) hx hb hts (fun w h => List.mem_cons_of_mem _ (List.mem_append_right _ (h))) hown hK.1 hP 0 rfl rfl 6 (by decide) (hts (.fieldLink RX0 31 "SenseNet$Chooser" "picks" "[I") (List.mem_of_getElem? (i := 3) rfl)) (fun _ h9 => h9) rfl dX0_greatest_52 ?_
          refine lv_iload_n hx hb dX0_greatest_55 rfl (lv_at hl 1 rfl) ?_
          refine lv_iload hx hb dX0_greatest_56 (lv_at hl 6 rfl) ?_
          refine kq_V (wr := [(o0, .inr (0, [.int cp, .int cb, .ref o2, .ref o3, .ref o4, .ref o5, .ref o6, .ref o7])), (o2, .inl (cI, 6, .inl zs)), (o3, .inl (cI, 30, .inl op)), (o4, .inl (cI, 900, .inl al)), (o5, .inl (cI, 7, .inl ho)), (o7, .inl (cI, 6, .inl bp))]) (va_runSN (As := [.ref o6, .int i1, .int x]) (rest := []) ⟨hx, hb, hml, hown, hts⟩ (c_X3_put l D cI o6 6 g i1 x (by decide) _) ⟨va_cnB 3 hts gX0_greatest_X3_put_n50 rfl rfl rfl hK.2.1 (hts (.initialized RX3) (List.mem_of_getElem? (i := 9) rfl)) (by decide +kernel) ⟨by simp only [kr_m]; omega, by simp only [kr_m]; omega⟩, (hts (.static yX3_put) (List.mem_of_getElem? (i := 11) rfl)), trivial⟩ (kp_WS (hP.sub (ws' := [(o6, .inl (cI, 6, .inl g))]) [5] rfl) (hD.sub (ws' := [(o6, .inl (cI, 6, .inl g))]) [5] (by decide) rfl) hK) rfl rfl hl.1 rfl (lv_room (Nat.le_of_ble_eq_true rfl)) dX0_greatest_58 ⟨Nat.zero_le _, Nat.zero_le _⟩) hP hD hS hA [5] [0, 1, 2, 3, 4, 6] rfl rfl (by decide) (by decide) (fun _u H locs er_58 hP hD hS => ?_)
          have hP := hP.sub (ws' := [(o0, .inr (0, [.int cp, .int cb, .ref o2, .ref o3, .ref o4, .ref o5, .ref o6, .ref o7])), (o2, .inl (cI, 6, .inl zs)), (o3, .inl (cI, 30, .inl op)), (o4, .inl (cI, 900, .inl al)), (o5, .inl (cI, 7, .inl ho)), (o6, .inl (cI, 6, .inl (kput 6 g i1 x))), (o7, .inl (cI, 6, .inl bp))]) [0, 1, 2, 3, 4, 6, 5] rfl
          have hD := hD.sub (ws' := [(o0, .inr (0, [.int cp, .int cb, .ref o2, .ref o3, .ref o4, .ref o5, .ref o6, .ref o7])), (o2, .inl (cI, 6, .inl zs)), (o3, .inl (cI, 30, .inl op)), (o4, .inl (cI, 900, .inl al)), (o5, .inl (cI, 7, .inl ho)), (o6, .inl (cI, 6, .inl (kput 6 g i1 x))), (o7, .inl (cI, 6, .inl bp))]) [0, 1, 2, 3, 4, 6, 5] (by decide) rfl
          refine lv_iload_n hx hb dX0_greatest_61 rfl (lv_at hl 3 rfl) ?_
          refine lv_aload_n hx hb dX0_greatest_62 rfl (lv_at hl 0 rfl) ?_
          refine lv_iload_n hx hb dX0_greatest_63 rfl (lv_at hl 1 rfl) ?_
          refine lv_iconst (v := 1) hx hb dX0_greatest_64 (by decide) ?_
          refine lv_iadd hx hb dX0_greatest_65 ?_
          refine lv_iload_n hx hb dX0_greatest_66 rfl (lv_at hl 2 rfl) ?_
          refine lv_aload_n hx hb dX0_greatest_67 rfl (lv_at hl 0 rfl) ?_
          refine lv_iload_n hx hb dX0_greatest_68 rfl (lv_at hl 1 rfl) ?_
          refine lv_iload hx hb dX0_greatest_69 (lv_at hl 6 rfl) ?_
          refine kq_R (va_runV (As := [.int i1, .int x]) (rest := [.int i2, .int (i1 + 1), .ref o0, .int y]) ⟨hx, hb, hml, hown, hts⟩ (c_X0_gain l D cI o0 o2 o3 o4 o5 o6 o7 cp cb zs op al ho (kput 6 g i1 x) bp i1 x _) (cwV 2 hts gX0_greatest_X0_gain rfl rfl rfl (by decide +kernel) ⟨by simp only [kr_m]; omega, by simp only [kr_m]; omega⟩) (kp_RV (hP.sub (ws' := [(o0, .inr (0, [.int cp, .int cb, .ref o2, .ref o3, .ref o4, .ref o5, .ref o6, .ref o7])), (o2, .inl (cI, 6, .inl zs)), (o3, .inl (cI, 30, .inl op)), (o4, .inl (cI, 900, .inl al)), (o5, .inl (cI, 7, .inl ho)), (o6, .inl (cI, 6, .inl (kput 6 g i1 x))), (o7, .inl (cI, 6, .inl bp))]) [0, 1, 2, 3, 4, 5, 6] rfl) hK 0 0 rfl rfl) rfl rfl hl.1 rfl (lv_room (Nat.le_of_ble_eq_true rfl)) dX0_greatest_71 ⟨Nat.zero_le _, Nat.zero_le _⟩) hP hS hA (fun r_71 H locs er_71 hP hS => ?_)
          subst er_71
          refine lv_iadd hx hb dX0_greatest_74 ?_
          refine kq_W (wr := []) (va_runS (As := [.ref o0, .int (i1 + 1), .int (i2 + (kgain al (kput 6 g i1 x) i1 x))]) (rest := [.int y]) ⟨hx, hb, hml, hown, hts⟩ (ih o0 o2 o3 o4 o5 o6 o7 cp cb zs op al ho (kput 6 g i1 x) bp (i1 + 1) (i2 + (kgain al (kput 6 g i1 x) i1 x)) (kx_d1 hd c_7) _) (va_cwS 3 hts gX0_greatest_X0_greatest rfl rfl rfl (by decide +kernel) ⟨by simp only [kr_m]; omega, by simp only [kr_m]; omega⟩) (kp_WS (hP.sub (ws' := [(o0, .inr (0, [.int cp, .int cb, .ref o2, .ref o3, .ref o4, .ref o5, .ref o6, .ref o7])), (o2, .inl (cI, 6, .inl zs)), (o3, .inl (cI, 30, .inl op)), (o4, .inl (cI, 900, .inl al)), (o5, .inl (cI, 7, .inl ho)), (o6, .inl (cI, 6, .inl (kput 6 g i1 x))), (o7, .inl (cI, 6, .inl bp))]) [0, 1, 2, 3, 4, 5, 6] rfl) (hD.sub (ws' := [(o0, .inr (0, [.int cp, .int cb, .ref o2, .ref o3, .ref o4, .ref o5, .ref o6, .ref o7])), (o2, .inl (cI, 6, .inl zs)), (o3, .inl (cI, 30, .inl op)), (o4, .inl (cI, 900, .inl al)), (o5, .inl (cI, 7, .inl ho)), (o6, .inl (cI, 6, .inl (kput 6 g i1 x))), (o7, .inl (cI, 6, .inl bp))]) [0, 1, 2, 3, 4, 5, 6] (by decide) rfl) hK) rfl rfl hl.1 rfl (lv_room (Nat.le_of_ble_eq_true rfl)) dX0_greatest_75 ⟨Nat.zero_le _, Nat.zero_le _⟩) hP hD hS hA [0, 1, 2, 3, 4, 5, 6] [] rfl rfl (by decide) (by decide) (fun r_75 _u H locs er_75 hP hD hS => ?_)
          have hP := hP.sub (ws' := [(o0, .inr (0, [.int cp, .int cb, .ref o2, .ref o3, .ref o4, .ref o5, .ref o6, .ref o7])), (o2, .inl (cI, 6, .inl zs)), (o3, .inl (cI, 30, .inl op)), (o4, .inl (cI, 900, .inl al)), (o5, .inl (cI, 7, .inl ho)), (o6, .inl (cI, 6, .inl ((kgre al zs cp d (i1 + 1) (i2 + (kgain al (kput 6 g i1 x) i1 x)) (kput 6 g i1 x)).2))), (o7, .inl (cI, 6, .inl bp))]) [0, 1, 2, 3, 4, 5, 6] rfl
          have hD := hD.sub (ws' := [(o0, .inr (0, [.int cp, .int cb, .ref o2, .ref o3, .ref o4, .ref o5, .ref o6, .ref o7])), (o2, .inl (cI, 6, .inl zs)), (o3, .inl (cI, 30, .inl op)), (o4, .inl (cI, 900, .inl al)), (o5, .inl (cI, 7, .inl ho)), (o6, .inl (cI, 6, .inl ((kgre al zs cp d (i1 + 1) (i2 + (kgain al (kput 6 g i1 x) i1 x)) (kput 6 g i1 x)).2))), (o7, .inl (cI, 6, .inl bp))]) [0, 1, 2, 3, 4, 5, 6] (by decide) rfl
          subst er_75
          refine va_mmax hx hb (hml.trans hl.1.symm) hown (hts (.methodLink RX0 85 Lib.Math.max.name) (List.mem_of_getElem? (i := 4) rfl)) (hts (.static Lib.Math.max.name) (List.mem_of_getElem? (i := 5) rfl)) (hts (.initialized "java/lang/Math") (List.mem_of_getElem? (i := 6) rfl)) (hts (.code Lib.Math.max.name Lib.Math.max.code 2 (some .int)) (List.mem_of_getElem? (i := 7) rfl)) (Nat.le_of_ble_eq_true rfl) (Nat.le_of_ble_eq_true rfl) (Nat.zero_le _) (Nat.zero_le _) dX0_greatest_78 ?_
          refine lv_istore_n (lv' := [(3, .int (if y < ((kgre al zs cp d (i1 + 1) (i2 + (kgain al (kput 6 g i1 x) i1 x)) (kput 6 g i1 x)).1) then ((kgre al zs cp d (i1 + 1) (i2 + (kgain al (kput 6 g i1 x) i1 x)) (kput 6 g i1 x)).1) else y)), (0, .ref o0), (1, .int i1), (2, .int i2), (4, .int (i1 * 5)), (5, .int ((i1 * 5) + (kat 6 zs i1))), (6, .int x)]) hx hb dX0_greatest_81 rfl hl (by decide) rfl (fun ls hl => ?_)
          refine lv_iinc (v := x + 1) (lv' := [(6, .int (x + 1)), (3, .int (if y < ((kgre al zs cp d (i1 + 1) (i2 + (kgain al (kput 6 g i1 x) i1 x)) (kput 6 g i1 x)).1) then ((kgre al zs cp d (i1 + 1) (i2 + (kgain al (kput 6 g i1 x) i1 x)) (kput 6 g i1 x)).1) else y)), (0, .ref o0), (1, .int i1), (2, .int i2), (4, .int (i1 * 5)), (5, .int ((i1 * 5) + (kat 6 zs i1)))]) hx hb dX0_greatest_82 hl (k := 6) rfl (rfl) (by decide) rfl (fun ls hl => ?_)
          refine lv_goto (tgt := 44) hx hb dX0_greatest_85 (by decide) ?_
          exact ih44 _ _ _ ⟨(if y < ((kgre al zs cp d (i1 + 1) (i2 + (kgain al (kput 6 g i1 x) i1 x)) (kput 6 g i1 x)).1) then ((kgre al zs cp d (i1 + 1) (i2 + (kgain al (kput 6 g i1 x) i1 x)) (kput 6 g i1 x)).1) else y), ((kgre al zs cp d (i1 + 1) (i2 + (kgain al (kput 6 g i1 x) i1 x)) (kput 6 g i1 x)).2), (by rw [hI]; rfl), hP, hD, hS, (lv_sub hl [2, 3, 4, 1, 5, 6, 0] rfl)⟩
        · skip
          intro x H locs ls hJ hxb44
          obtain ⟨y, g, hI, hP, hD, hS, hl⟩ := hJ
          refine lv_iload hx hb dX0_greatest_44 (lv_at hl 6 rfl) ?_
          refine lv_iload hx hb dX0_greatest_46 (lv_at hl 5 rfl) ?_
          refine lv_icmp_ge (tgt := 88) hx hb dX0_greatest_48 (by decide) (fun _ => ?_) (fun hc => absurd (hxb44) hc)
          refine lv_iload_n hx hb dX0_greatest_88 rfl (lv_at hl 3 rfl) ?_
          exact ke_W hx hb hr hlocks (()) (by (rw [show kgre al zs cp (d + 1) i1 i2 pk = (y, g) from (if_neg c_7).trans ((if_neg (Classical.not_not.mpr c_15)).trans hI)]); exact hP) (by (rw [show kgre al zs cp (d + 1) i1 i2 pk = (y, g) from (if_neg c_7).trans ((if_neg (Classical.not_not.mpr c_15)).trans hI)]); exact hD) hS dX0_greatest_89 (by rw [show kgre al zs cp (d + 1) i1 i2 pk = (y, g) from (if_neg c_7).trans ((if_neg (Classical.not_not.mpr c_15)).trans hI)])
      · skip
        refine lv_iload_n hx hb dX0_greatest_18 rfl (lv_at hl 2 rfl) ?_
        exact ke_W hx hb hr hlocks (()) (by (first | rw [show kgre al zs cp (d + 1) i1 i2 pk = (i2, pk) from if_pos c_7] | rw [show kgre al zs cp (d + 1) i1 i2 pk = (i2, pk) from (if_neg c_7).trans (if_pos c_15)]); exact hP) (by (first | rw [show kgre al zs cp (d + 1) i1 i2 pk = (i2, pk) from if_pos c_7] | rw [show kgre al zs cp (d + 1) i1 i2 pk = (i2, pk) from (if_neg c_7).trans (if_pos c_15)]); exact hD) hS dX0_greatest_19 (by first | rw [show kgre al zs cp (d + 1) i1 i2 pk = (i2, pk) from if_pos c_7] | rw [show kgre al zs cp (d + 1) i1 i2 pk = (i2, pk) from (if_neg c_7).trans (if_pos c_15)])
set_option maxHeartbeats 4000000 in
set_option maxRecDepth 100000 in
theorem c_X0_findBest (l : Launch) (D : va_G) (cI : ClassId) (o0 o2 o3 o4 o5 o6 o7 : Nat) (cp : Int32) (cb : Int32) (zs : Nat → Int32) (op : Nat → Int32) (al : Nat → Int32) (ho : Nat → Int32) (pk : Nat → Int32) (bp : Nat → Int32) : kc_W l yX0_findBest wsX0_findBest 10 245 D cI [.ref o0] [(o0, .inr (0, [.int cp, .int cb, .ref o2, .ref o3, .ref o4, .ref o5, .ref o6, .ref o7])), (o2, .inl (cI, 6, .inl zs)), (o3, .inl (cI, 30, .inl op)), (o4, .inl (cI, 900, .inl al)), (o5, .inl (cI, 7, .inl ho)), (o6, .inl (cI, 6, .inl pk)), (o7, .inl (cI, 6, .inl bp))] (fun (r : Int32) (u : Unit) => r = (ksek al ho zs cp 7 0 0 (-1, pk, bp)).1) (fun u => [(o0, .inr (0, [.int cp, .int ((ksek al ho zs cp 7 0 0 (-1, pk, bp)).1), .ref o2, .ref o3, .ref o4, .ref o5, .ref o6, .ref o7])), (o2, .inl (cI, 6, .inl zs)), (o3, .inl (cI, 30, .inl op)), (o4, .inl (cI, 900, .inl al)), (o5, .inl (cI, 7, .inl ho)), (o6, .inl (cI, 6, .inl ((ksek al ho zs cp 7 0 0 (-1, pk, bp)).2.1))), (o7, .inl (cI, 6, .inl ((ksek al ho zs cp 7 0 0 (-1, pk, bp)).2.2)))]) := by
  refine ks_W (cc := cX0_findBest) (nL := 1) (ret := (some .int)) (by decide) rfl (Nat.le_of_ble_eq_true rfl) ?_
  intro p e s m below meth c ls hF hP hK hS hA hD hl
  obtain ⟨hx, hb, hr, hml, hown, hts, hlocks⟩ := hF
  have hown : s.vm.findClass RX0 = some m.cls := hown
  have hl : lv_has ls 1 [(0, .ref o0)] := hl
  refine lv_aload_n hx hb dX0_findBest_0 rfl (lv_at hl 0 rfl) ?_
  refine lv_iconst (v := (-1)) hx hb dX0_findBest_1 (by decide) ?_
  refine va_put (D := D) (ci := 0) (v := .int (-1)) (ty := .int) (C := RX0) (T := TX0) (N := 8) hx hb hts (fun w h => List.mem_cons_of_mem _ (List.mem_append_right _ (h))) tyX0 tyX0_ok nmX0 hown hK.1 hP hD hS 0 rfl rfl 1 (by decide) (hts (.fieldLink RX0 15 "SenseNet$Chooser" "best" "I") (List.mem_of_getElem? (i := 1) rfl)) (fun _ h9 => h9) rfl (by decide +kernel) rfl rfl (Nat.le_of_ble_eq_true rfl) dX0_findBest_2 (fun H locs hP hD hS => ?_)
  have hP : va_P D vwCl [(o0, .inr (0, [.int cp, .int (-1), .ref o2, .ref o3, .ref o4, .ref o5, .ref o6, .ref o7])), (o2, .inl (cI, 6, .inl zs)), (o3, .inl (cI, 30, .inl op)), (o4, .inl (cI, 900, .inl al)), (o5, .inl (cI, 7, .inl ho)), (o6, .inl (cI, 6, .inl pk)), (o7, .inl (cI, 6, .inl bp))] H := hP
  have hD := (show va_D _ [(o0, .inr (0, [.int cp, .int (-1), .ref o2, .ref o3, .ref o4, .ref o5, .ref o6, .ref o7])), (o2, .inl (cI, 6, .inl zs)), (o3, .inl (cI, 30, .inl op)), (o4, .inl (cI, 900, .inl al)), (o5, .inl (cI, 7, .inl ho)), (o6, .inl (cI, 6, .inl pk)), (o7, .inl (cI, 6, .inl bp))] from hD)
  refine lv_aload_n hx hb dX0_findBest_5 rfl (lv_at hl 0 rfl) ?_
  refine lv_iconst (v := 0) hx hb dX0_findBest_6 (by decide) ?_
  refine lv_iconst (v := 0) hx hb dX0_findBest_7 (by decide) ?_
  refine kq_V (wr := []) (va_runS (As := [.ref o0, .int 0, .int 0]) (rest := []) ⟨hx, hb, hml, hown, hts⟩ (c_X0_seek l D cI 7 o0 o2 o3 o4 o5 o6 o7 cp (-1) zs op al ho pk bp 0 0 (by decide) _) (va_cwS 3 hts gX0_findBest_X0_seek rfl rfl rfl (by decide +kernel) ⟨Nat.le_of_ble_eq_true rfl, Nat.le_of_ble_eq_true rfl⟩) (kp_WS (hP.sub (ws' := [(o0, .inr (0, [.int cp, .int (-1), .ref o2, .ref o3, .ref o4, .ref o5, .ref o6, .ref o7])), (o2, .inl (cI, 6, .inl zs)), (o3, .inl (cI, 30, .inl op)), (o4, .inl (cI, 900, .inl al)), (o5, .inl (cI, 7, .inl ho)), (o6, .inl (cI, 6, .inl pk)), (o7, .inl (cI, 6, .inl bp))]) [0, 1, 2, 3, 4, 5, 6] rfl) (hD.sub (ws' := [(o0, .inr (0, [.int cp, .int (-1), .ref o2, .ref o3, .ref o4, .ref o5, .ref o6, .ref o7])), (o2, .inl (cI, 6, .inl zs)), (o3, .inl (cI, 30, .inl op)), (o4, .inl (cI, 900, .inl al)), (o5, .inl (cI, 7, .inl ho)), (o6, .inl (cI, 6, .inl pk)), (o7, .inl (cI, 6, .inl bp))]) [0, 1, 2, 3, 4, 5, 6] (by decide) rfl) hK) rfl rfl hl.1 rfl (lv_room (Nat.le_of_ble_eq_true rfl)) dX0_findBest_8 ⟨Nat.zero_le _, Nat.zero_le _⟩) hP hD hS hA [0, 1, 2, 3, 4, 5, 6] [] rfl rfl (by decide) (by decide) (fun _u H locs er_8 hP hD hS => ?_)
  have hP := hP.sub (ws' := [(o0, .inr (0, [.int cp, .int ((ksek al ho zs cp 7 0 0 ((-1), pk, bp)).1), .ref o2, .ref o3, .ref o4, .ref o5, .ref o6, .ref o7])), (o2, .inl (cI, 6, .inl zs)), (o3, .inl (cI, 30, .inl op)), (o4, .inl (cI, 900, .inl al)), (o5, .inl (cI, 7, .inl ho)), (o6, .inl (cI, 6, .inl ((ksek al ho zs cp 7 0 0 ((-1), pk, bp)).2.1))), (o7, .inl (cI, 6, .inl ((ksek al ho zs cp 7 0 0 ((-1), pk, bp)).2.2)))]) [0, 1, 2, 3, 4, 5, 6] rfl
  have hD := hD.sub (ws' := [(o0, .inr (0, [.int cp, .int ((ksek al ho zs cp 7 0 0 ((-1), pk, bp)).1), .ref o2, .ref o3, .ref o4, .ref o5, .ref o6, .ref o7])), (o2, .inl (cI, 6, .inl zs)), (o3, .inl (cI, 30, .inl op)), (o4, .inl (cI, 900, .inl al)), (o5, .inl (cI, 7, .inl ho)), (o6, .inl (cI, 6, .inl ((ksek al ho zs cp 7 0 0 ((-1), pk, bp)).2.1))), (o7, .inl (cI, 6, .inl ((ksek al ho zs cp 7 0 0 ((-1), pk, bp)).2.2)))]) [0, 1, 2, 3, 4, 5, 6] (by decide) rfl
  refine lv_aload_n hx hb dX0_findBest_11 rfl (lv_at hl 0 rfl) ?_
  refine va_get (D := D) (ci := 0) (v := .int ((ksek al ho zs cp 7 0 0 ((-1), pk, bp)).1)) (C := RX0) (T := TX0) (N := 8) hx hb hts (fun w h => List.mem_cons_of_mem _ (List.mem_append_right _ (h))) hown hK.1 hP 0 rfl rfl 1 (by decide) (hts (.fieldLink RX0 15 "SenseNet$Chooser" "best" "I") (List.mem_of_getElem? (i := 1) rfl)) (fun _ h9 => h9) rfl dX0_findBest_12 ?_
  exact ke_W hx hb hr hlocks (()) hP hD hS dX0_findBest_15 (rfl)
set_option maxHeartbeats 4000000 in
set_option maxRecDepth 100000 in
theorem c_X0_findGreatest (l : Launch) (D : va_G) (cI : ClassId) (o0 o2 o3 o4 o5 o6 o7 : Nat) (cp : Int32) (cb : Int32) (zs : Nat → Int32) (op : Nat → Int32) (al : Nat → Int32) (ho : Nat → Int32) (pk : Nat → Int32) (bp : Nat → Int32) : kc_W l yX0_findGreatest wsX0_findGreatest 10 253 D cI [.ref o0] [(o0, .inr (0, [.int cp, .int cb, .ref o2, .ref o3, .ref o4, .ref o5, .ref o6, .ref o7])), (o2, .inl (cI, 6, .inl zs)), (o3, .inl (cI, 30, .inl op)), (o4, .inl (cI, 900, .inl al)), (o5, .inl (cI, 7, .inl ho)), (o6, .inl (cI, 6, .inl pk)), (o7, .inl (cI, 6, .inl bp))] (fun (r : Int32) (u : Unit) => r = (kgre al zs cp 7 0 0 pk).1) (fun u => [(o0, .inr (0, [.int cp, .int cb, .ref o2, .ref o3, .ref o4, .ref o5, .ref o6, .ref o7])), (o2, .inl (cI, 6, .inl zs)), (o3, .inl (cI, 30, .inl op)), (o4, .inl (cI, 900, .inl al)), (o5, .inl (cI, 7, .inl ho)), (o6, .inl (cI, 6, .inl ((kgre al zs cp 7 0 0 pk).2))), (o7, .inl (cI, 6, .inl bp))]) := by
  refine ks_W (cc := cX0_findGreatest) (nL := 1) (ret := (some .int)) (by decide) rfl (Nat.le_of_ble_eq_true rfl) ?_
  intro p e s m below meth c ls hF hP hK hS hA hD hl
  obtain ⟨hx, hb, hr, hml, hown, hts, hlocks⟩ := hF
  have hown : s.vm.findClass RX0 = some m.cls := hown
  have hl : lv_has ls 1 [(0, .ref o0)] := hl
  refine lv_aload_n hx hb dX0_findGreatest_0 rfl (lv_at hl 0 rfl) ?_
  refine lv_iconst (v := 0) hx hb dX0_findGreatest_1 (by decide) ?_
  refine lv_iconst (v := 0) hx hb dX0_findGreatest_2 (by decide) ?_
  refine kq_W (wr := []) (va_runS (As := [.ref o0, .int 0, .int 0]) (rest := []) ⟨hx, hb, hml, hown, hts⟩ (c_X0_greatest l D cI 7 o0 o2 o3 o4 o5 o6 o7 cp cb zs op al ho pk bp 0 0 (by decide) _) (va_cwS 3 hts gX0_findGreatest_X0_greatest rfl rfl rfl (by decide +kernel) ⟨Nat.le_of_ble_eq_true rfl, Nat.le_of_ble_eq_true rfl⟩) (kp_WS (hP.sub (ws' := [(o0, .inr (0, [.int cp, .int cb, .ref o2, .ref o3, .ref o4, .ref o5, .ref o6, .ref o7])), (o2, .inl (cI, 6, .inl zs)), (o3, .inl (cI, 30, .inl op)), (o4, .inl (cI, 900, .inl al)), (o5, .inl (cI, 7, .inl ho)), (o6, .inl (cI, 6, .inl pk)), (o7, .inl (cI, 6, .inl bp))]) [0, 1, 2, 3, 4, 5, 6] rfl) (hD.sub (ws' := [(o0, .inr (0, [.int cp, .int cb, .ref o2, .ref o3, .ref o4, .ref o5, .ref o6, .ref o7])), (o2, .inl (cI, 6, .inl zs)), (o3, .inl (cI, 30, .inl op)), (o4, .inl (cI, 900, .inl al)), (o5, .inl (cI, 7, .inl ho)), (o6, .inl (cI, 6, .inl pk)), (o7, .inl (cI, 6, .inl bp))]) [0, 1, 2, 3, 4, 5, 6] (by decide) rfl) hK) rfl rfl hl.1 rfl (lv_room (Nat.le_of_ble_eq_true rfl)) dX0_findGreatest_3 ⟨Nat.zero_le _, Nat.zero_le _⟩) hP hD hS hA [0, 1, 2, 3, 4, 5, 6] [] rfl rfl (by decide) (by decide) (fun r_3 _u H locs er_3 hP hD hS => ?_)
  have hP := hP.sub (ws' := [(o0, .inr (0, [.int cp, .int cb, .ref o2, .ref o3, .ref o4, .ref o5, .ref o6, .ref o7])), (o2, .inl (cI, 6, .inl zs)), (o3, .inl (cI, 30, .inl op)), (o4, .inl (cI, 900, .inl al)), (o5, .inl (cI, 7, .inl ho)), (o6, .inl (cI, 6, .inl ((kgre al zs cp 7 0 0 pk).2))), (o7, .inl (cI, 6, .inl bp))]) [0, 1, 2, 3, 4, 5, 6] rfl
  have hD := hD.sub (ws' := [(o0, .inr (0, [.int cp, .int cb, .ref o2, .ref o3, .ref o4, .ref o5, .ref o6, .ref o7])), (o2, .inl (cI, 6, .inl zs)), (o3, .inl (cI, 30, .inl op)), (o4, .inl (cI, 900, .inl al)), (o5, .inl (cI, 7, .inl ho)), (o6, .inl (cI, 6, .inl ((kgre al zs cp 7 0 0 pk).2))), (o7, .inl (cI, 6, .inl bp))]) [0, 1, 2, 3, 4, 5, 6] (by decide) rfl
  subst er_3
  exact ke_W hx hb hr hlocks (()) hP hD hS dX0_findGreatest_6 (rfl)
