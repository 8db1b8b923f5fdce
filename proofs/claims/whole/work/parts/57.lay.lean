theorem klA {g : Nat → Int32} {j : Nat} {v : Int32} {w : Nat} (h : ∀ k, k < j → g k = nI (kui k)) (hv : v = nI w) (hw : w = kui j) : ∀ k, k < j + 1 → upd g j v k = nI (kui k) := by
  intro k hk
  unfold upd
  by_cases e : k = j
  · rw [if_pos e, hv, hw, e]
  · rw [if_neg e]; exact h k (by omega)
set_option maxHeartbeats 4000000 in
set_option maxRecDepth 100000 in
theorem c_X4_layUp (l : Launch) (D : va_G) (cI : ClassId) (m0 m3 m4 m5 m6 m7 m9 m11 m12 m13 m14 : Nat) (th : Int32) (ma : Int32) (tr : Int32) (mw : Int32) (sd : Int32) (pa : Nat → Int32) (ct : Nat → Int32) (mg : Nat → Int32) (mm : Nat → Int32) (mk : Nat → Int32) (mt : Nat → Int32) (up : Nat → Int32) (li : Nat → Int32) (td : Nat → Int32) (be : Nat → Int32) : kc_V l yX4_layUp wsX4_layUp 1 21 D cI [.ref m0] [(m0, .inr (4, [.int th, .int ma, .int tr, .ref m3, .ref m4, .ref m5, .ref m6, .ref m7, .int mw, .ref m9, .int sd, .ref m11, .ref m12, .ref m13, .ref m14])), (m3, .inl (cI, 30, .inl pa)), (m4, .inl (cI, 30, .inl ct)), (m5, .inl (cI, 50, .inl mg)), (m6, .inl (cI, 10, .inl mm)), (m7, .inl (cI, 10, .inl mk)), (m9, .inl (cI, 6, .inl mt)), (m11, .inl (cI, 900, .inl up)), (m12, .inl (cI, 900, .inl li)), (m13, .inl (cI, 6, .inl td)), (m14, .inl (cI, 6, .inl be))] (fun (u : (Nat → Int32)) => kUp tr pa u) (fun u => [(m0, .inr (4, [.int th, .int ma, .int tr, .ref m3, .ref m4, .ref m5, .ref m6, .ref m7, .int mw, .ref m9, .int sd, .ref m11, .ref m12, .ref m13, .ref m14])), (m3, .inl (cI, 30, .inl pa)), (m4, .inl (cI, 30, .inl ct)), (m5, .inl (cI, 50, .inl mg)), (m6, .inl (cI, 10, .inl mm)), (m7, .inl (cI, 10, .inl mk)), (m9, .inl (cI, 6, .inl mt)), (m11, .inl (cI, 900, .inl u)), (m12, .inl (cI, 900, .inl li)), (m13, .inl (cI, 6, .inl td)), (m14, .inl (cI, 6, .inl be))]) := by
  refine ks_V (cc := cX4_layUp) (nL := 6) (ret := none) (by decide) rfl (Nat.le_of_ble_eq_true rfl) ?_
  intro p e s m below meth c ls hF hP hK hS hA hD hl
  obtain ⟨hx, hb, hr, hml, hown, hts, hlocks⟩ := hF
  have hown : s.vm.findClass RX4 = some m.cls := hown
  have hl : lv_has ls 6 [(0, .ref m0)] := hl
  refine lv_iconst (v := 0) hx hb dX4_layUp_0 (by decide) ?_
  refine lv_istore_n (lv' := [(1, .int 0), (0, .ref m0)]) hx hb dX4_layUp_1 rfl hl (by decide) rfl (fun ls hl => ?_)
  refine kl_for (head := 2) (N := 900) (fun (j : Nat) (H : Heap) (locs : List Loc) (ls : Array Slot) => ∃ (g0 : Nat → Int32), (∀ k, k < j → g0 k = nI (kui k)) ∧ va_P D vwCl [(m0, .inr (4, [.int th, .int ma, .int tr, .ref m3, .ref m4, .ref m5, .ref m6, .ref m7, .int mw, .ref m9, .int sd, .ref m11, .ref m12, .ref m13, .ref m14])), (m3, .inl (cI, 30, .inl pa)), (m4, .inl (cI, 30, .inl ct)), (m5, .inl (cI, 50, .inl mg)), (m6, .inl (cI, 10, .inl mm)), (m7, .inl (cI, 10, .inl mk)), (m9, .inl (cI, 6, .inl mt)), (m11, .inl (cI, 900, .inl g0)), (m12, .inl (cI, 900, .inl li)), (m13, .inl (cI, 6, .inl td)), (m14, .inl (cI, 6, .inl be))] H ∧ va_D (va_A [(m0, .inr (4, [.int th, .int ma, .int tr, .ref m3, .ref m4, .ref m5, .ref m6, .ref m7, .int mw, .ref m9, .int sd, .ref m11, .ref m12, .ref m13, .ref m14])), (m3, .inl (cI, 30, .inl pa)), (m4, .inl (cI, 30, .inl ct)), (m5, .inl (cI, 50, .inl mg)), (m6, .inl (cI, 10, .inl mm)), (m7, .inl (cI, 10, .inl mk)), (m9, .inl (cI, 6, .inl mt)), (m11, .inl (cI, 900, .inl up)), (m12, .inl (cI, 900, .inl li)), (m13, .inl (cI, 6, .inl td)), (m14, .inl (cI, 6, .inl be))] s.heap.size) [(m0, .inr (4, [.int th, .int ma, .int tr, .ref m3, .ref m4, .ref m5, .ref m6, .ref m7, .int mw, .ref m9, .int sd, .ref m11, .ref m12, .ref m13, .ref m14])), (m3, .inl (cI, 30, .inl pa)), (m4, .inl (cI, 30, .inl ct)), (m5, .inl (cI, 50, .inl mg)), (m6, .inl (cI, 10, .inl mm)), (m7, .inl (cI, 10, .inl mk)), (m9, .inl (cI, 6, .inl mt)), (m11, .inl (cI, 900, .inl g0)), (m12, .inl (cI, 900, .inl li)), (m13, .inl (cI, 6, .inl td)), (m14, .inl (cI, 6, .inl be))] ∧ va_S (va_A [(m0, .inr (4, [.int th, .int ma, .int tr, .ref m3, .ref m4, .ref m5, .ref m6, .ref m7, .int mw, .ref m9, .int sd, .ref m11, .ref m12, .ref m13, .ref m14])), (m3, .inl (cI, 30, .inl pa)), (m4, .inl (cI, 30, .inl ct)), (m5, .inl (cI, 50, .inl mg)), (m6, .inl (cI, 10, .inl mm)), (m7, .inl (cI, 10, .inl mk)), (m9, .inl (cI, 6, .inl mt)), (m11, .inl (cI, 900, .inl up)), (m12, .inl (cI, 900, .inl li)), (m13, .inl (cI, 6, .inl td)), (m14, .inl (cI, 6, .inl be))] s.heap.size) s.heap H locs ∧ lv_has ls 6 [(0, .ref m0), (1, .int (nI j))]) 0 (Nat.zero_le _) ?_ ?_ ⟨up, (fun k hk => absurd hk (Nat.not_lt_zero k)), hP, hD, hS, (lv_sub hl [1, 0] rfl)⟩
  · skip
    intro j hj H locs ls hJ ih2
    obtain ⟨g0, hI, hP, hD, hS, hl⟩ := hJ
    refine lv_iload_n hx hb dX4_layUp_2 rfl (lv_at hl 1 rfl) ?_
    refine lv_sipush (v := 900) hx hb dX4_layUp_3 (by decide) ?_
    refine lv_icmp_ge (tgt := 39) hx hb dX4_layUp_6 (by decide) (fun hc => absurd hc (nI_ge (b := 900) hj (by decide))) (fun _ => ?_)
    refine lv_aload_n hx hb dX4_layUp_9 rfl (lv_at hl 0 rfl) ?_
    refine va_get (D := D) (ci := 4) (v := .ref m11) (C := RX4) (T := TX4) (N := 15) hx hb hts (fun w h => List.mem_cons_of_mem _ (List.mem_append_right _ (h))) hown hK.1 hP 0 rfl rfl 11 (by decide) (hts (.fieldLink RX4 28 "SenseNetModel" "up" "[I") (List.mem_of_getElem? (i := 1) rfl)) (fun _ h9 => h9) rfl dX4_layUp_10 ?_
    refine lv_iload_n hx hb dX4_layUp_13 rfl (lv_at hl 1 rfl) ?_
    refine lv_iload_n hx hb dX4_layUp_14 rfl (lv_at hl 1 rfl) ?_
    refine lv_bipush (v := 30) hx hb dX4_layUp_15 (by decide) ?_
    refine lv_idiv hx hb dX4_layUp_17 (by decide) ?_
    refine kx_top (show (nI j) / 30 = nI (j / 30) from pk_div (d := 30) (by omega) (by decide) (by decide)) ?_
    refine lv_iload_n hx hb dX4_layUp_18 rfl (lv_at hl 1 rfl) ?_
    refine lv_bipush (v := 30) hx hb dX4_layUp_19 (by decide) ?_
    refine lv_irem hx hb dX4_layUp_21 (by decide) ?_
    refine kx_top (show (nI j) - (nI j) / 30 * 30 = nI (j % 30) from pk_rem (d := 30) (by omega) (by decide) (by decide)) ?_
    refine lv_icmp_ne (tgt := 29) hx hb dX4_layUp_22 (by decide) (fun c_22 => ?_) (fun c_22 => ?_)
    · skip
      refine lv_sipush (v := 1000) hx hb dX4_layUp_29 (by decide) ?_
      refine va_iast (q0 := 7) (t0 := 0) hx hb hK.1 hP hD hS rfl rfl (vp_in_nI (show j < 900 from hj) (by decide)) dX4_layUp_32 (fun H locs hP hD hS => ?_)
      rw [show (nI j).toNatClampNeg = j from nI_clamp (Nat.lt_trans (show j < 900 from hj) (by decide))] at hP hD
      have hP : va_P D vwCl [(m0, .inr (4, [.int th, .int ma, .int tr, .ref m3, .ref m4, .ref m5, .ref m6, .ref m7, .int mw, .ref m9, .int sd, .ref m11, .ref m12, .ref m13, .ref m14])), (m3, .inl (cI, 30, .inl pa)), (m4, .inl (cI, 30, .inl ct)), (m5, .inl (cI, 50, .inl mg)), (m6, .inl (cI, 10, .inl mm)), (m7, .inl (cI, 10, .inl mk)), (m9, .inl (cI, 6, .inl mt)), (m11, .inl (cI, 900, .inl (upd g0 j 1000))), (m12, .inl (cI, 900, .inl li)), (m13, .inl (cI, 6, .inl td)), (m14, .inl (cI, 6, .inl be))] H := hP
      have hD := (show va_D _ [(m0, .inr (4, [.int th, .int ma, .int tr, .ref m3, .ref m4, .ref m5, .ref m6, .ref m7, .int mw, .ref m9, .int sd, .ref m11, .ref m12, .ref m13, .ref m14])), (m3, .inl (cI, 30, .inl pa)), (m4, .inl (cI, 30, .inl ct)), (m5, .inl (cI, 50, .inl mg)), (m6, .inl (cI, 10, .inl mm)), (m7, .inl (cI, 10, .inl mk)), (m9, .inl (cI, 6, .inl mt)), (m11, .inl (cI, 900, .inl (upd g0 j 1000))), (m12, .inl (cI, 900, .inl li)), (m13, .inl (cI, 6, .inl td)), (m14, .inl (cI, 6, .inl be))] from hD)
      refine lv_iinc (v := nI (j + 1)) (lv' := [(1, .int (nI (j + 1))), (0, .ref m0)]) hx hb dX4_layUp_33 hl (k := 1) rfl (nI_1 _) (by decide) rfl (fun ls hl => ?_)
      refine lv_goto (tgt := 2) hx hb dX4_layUp_36 (by decide) ?_
      exact ih2 _ _ _ ⟨(upd g0 j 1000), (klA hI (show _ = nI 1000 from rfl) (by unfold kui; rw [if_neg (fun z => c_22 (congrArg nI z))])), hP, hD, hS, (lv_sub hl [1, 0] rfl)⟩
    · skip
      refine lv_iconst (v := 0) hx hb dX4_layUp_25 (by decide) ?_
      refine lv_goto (tgt := 32) hx hb dX4_layUp_26 (by decide) ?_
      refine va_iast (q0 := 7) (t0 := 0) hx hb hK.1 hP hD hS rfl rfl (vp_in_nI (show j < 900 from hj) (by decide)) dX4_layUp_32 (fun H locs hP hD hS => ?_)
      rw [show (nI j).toNatClampNeg = j from nI_clamp (Nat.lt_trans (show j < 900 from hj) (by decide))] at hP hD
      have hP : va_P D vwCl [(m0, .inr (4, [.int th, .int ma, .int tr, .ref m3, .ref m4, .ref m5, .ref m6, .ref m7, .int mw, .ref m9, .int sd, .ref m11, .ref m12, .ref m13, .ref m14])), (m3, .inl (cI, 30, .inl pa)), (m4, .inl (cI, 30, .inl ct)), (m5, .inl (cI, 50, .inl mg)), (m6, .inl (cI, 10, .inl mm)), (m7, .inl (cI, 10, .inl mk)), (m9, .inl (cI, 6, .inl mt)), (m11, .inl (cI, 900, .inl (upd g0 j 0))), (m12, .inl (cI, 900, .inl li)), (m13, .inl (cI, 6, .inl td)), (m14, .inl (cI, 6, .inl be))] H := hP
      have hD := (show va_D _ [(m0, .inr (4, [.int th, .int ma, .int tr, .ref m3, .ref m4, .ref m5, .ref m6, .ref m7, .int mw, .ref m9, .int sd, .ref m11, .ref m12, .ref m13, .ref m14])), (m3, .inl (cI, 30, .inl pa)), (m4, .inl (cI, 30, .inl ct)), (m5, .inl (cI, 50, .inl mg)), (m6, .inl (cI, 10, .inl mm)), (m7, .inl (cI, 10, .inl mk)), (m9, .inl (cI, 6, .inl mt)), (m11, .inl (cI, 900, .inl (upd g0 j 0))), (m12, .inl (cI, 900, .inl li)), (m13, .inl (cI, 6, .inl td)), (m14, .inl (cI, 6, .inl be))] from hD)
      refine lv_iinc (v := nI (j + 1)) (lv' := [(1, .int (nI (j + 1))), (0, .ref m0)]) hx hb dX4_layUp_33 hl (k := 1) rfl (nI_1 _) (by decide) rfl (fun ls hl => ?_)
      refine lv_goto (tgt := 2) hx hb dX4_layUp_36 (by decide) ?_
      exact ih2 _ _ _ ⟨(upd g0 j 0), (klA hI (show _ = nI 0 from rfl) (by unfold kui; rw [if_pos ((nI_eq (by omega) (by omega)).mp c_22)])), hP, hD, hS, (lv_sub hl [1, 0] rfl)⟩
  · skip
    intro H locs ls hJ
    obtain ⟨g0, hI, hP, hD, hS, hl⟩ := hJ
    refine lv_iload_n hx hb dX4_layUp_2 rfl (lv_at hl 1 rfl) ?_
    refine lv_sipush (v := 900) hx hb dX4_layUp_3 (by decide) ?_
    refine lv_icmp_ge (tgt := 39) hx hb dX4_layUp_6 (by decide) (fun _ => ?_) (fun hc => absurd (nI_le (a := 900) (b := 900) (Nat.le_refl _) (by decide)) hc)
    refine lv_iconst (v := 1) hx hb dX4_layUp_39 (by decide) ?_
    refine lv_istore_n (lv' := [(1, .int 1), (0, .ref m0)]) hx hb dX4_layUp_40 rfl hl (by decide) rfl (fun ls hl => ?_)
    refine kl_while (head := 41) (fun (x : Nat) (H : Heap) (locs : List Loc) (ls : Array Slot) => ∃ (go : Int32), ∃ (g1 : Nat → Int32), (kLW tr pa g1 go x) ∧ va_P D vwCl [(m0, .inr (4, [.int th, .int ma, .int tr, .ref m3, .ref m4, .ref m5, .ref m6, .ref m7, .int mw, .ref m9, .int sd, .ref m11, .ref m12, .ref m13, .ref m14])), (m3, .inl (cI, 30, .inl pa)), (m4, .inl (cI, 30, .inl ct)), (m5, .inl (cI, 50, .inl mg)), (m6, .inl (cI, 10, .inl mm)), (m7, .inl (cI, 10, .inl mk)), (m9, .inl (cI, 6, .inl mt)), (m11, .inl (cI, 900, .inl g1)), (m12, .inl (cI, 900, .inl li)), (m13, .inl (cI, 6, .inl td)), (m14, .inl (cI, 6, .inl be))] H ∧ va_D (va_A [(m0, .inr (4, [.int th, .int ma, .int tr, .ref m3, .ref m4, .ref m5, .ref m6, .ref m7, .int mw, .ref m9, .int sd, .ref m11, .ref m12, .ref m13, .ref m14])), (m3, .inl (cI, 30, .inl pa)), (m4, .inl (cI, 30, .inl ct)), (m5, .inl (cI, 50, .inl mg)), (m6, .inl (cI, 10, .inl mm)), (m7, .inl (cI, 10, .inl mk)), (m9, .inl (cI, 6, .inl mt)), (m11, .inl (cI, 900, .inl up)), (m12, .inl (cI, 900, .inl li)), (m13, .inl (cI, 6, .inl td)), (m14, .inl (cI, 6, .inl be))] s.heap.size) [(m0, .inr (4, [.int th, .int ma, .int tr, .ref m3, .ref m4, .ref m5, .ref m6, .ref m7, .int mw, .ref m9, .int sd, .ref m11, .ref m12, .ref m13, .ref m14])), (m3, .inl (cI, 30, .inl pa)), (m4, .inl (cI, 30, .inl ct)), (m5, .inl (cI, 50, .inl mg)), (m6, .inl (cI, 10, .inl mm)), (m7, .inl (cI, 10, .inl mk)), (m9, .inl (cI, 6, .inl mt)), (m11, .inl (cI, 900, .inl g1)), (m12, .inl (cI, 900, .inl li)), (m13, .inl (cI, 6, .inl td)), (m14, .inl (cI, 6, .inl be))] ∧ va_S (va_A [(m0, .inr (4, [.int th, .int ma, .int tr, .ref m3, .ref m4, .ref m5, .ref m6, .ref m7, .int mw, .ref m9, .int sd, .ref m11, .ref m12, .ref m13, .ref m14])), (m3, .inl (cI, 30, .inl pa)), (m4, .inl (cI, 30, .inl ct)), (m5, .inl (cI, 50, .inl mg)), (m6, .inl (cI, 10, .inl mm)), (m7, .inl (cI, 10, .inl mk)), (m9, .inl (cI, 6, .inl mt)), (m11, .inl (cI, 900, .inl up)), (m12, .inl (cI, 900, .inl li)), (m13, .inl (cI, 6, .inl td)), (m14, .inl (cI, 6, .inl be))] s.heap.size) s.heap H locs ∧ lv_has ls 6 [(0, .ref m0), (1, .int go)]) (fun x => x) ?_ (kSm kui 900 + 1) ⟨1, g0, (kLW_0 hI), hP, hD, hS, (lv_sub hl [1, 0] rfl)⟩
    · skip
      intro x H locs ls hJ ih41
      obtain ⟨go, g1, hI, hP, hD, hS, hl⟩ := hJ
      refine lv_iload_n hx hb dX4_layUp_41 rfl (lv_at hl 1 rfl) ?_
      refine lv_if_eq (tgt := 151) hx hb dX4_layUp_42 (by decide) (fun c_42 => ?_) (fun c_42 => ?_)
      · skip
        exact ke_V hx hb hr hlocks (g1) hP hD hS dX4_layUp_151 (kLW_e hI c_42)
      · skip
        obtain ⟨u0, hR0, hW0, hS0⟩ := kLW_h hI c_42
        refine lv_iconst (v := 0) hx hb dX4_layUp_45 (by decide) ?_
        refine lv_istore_n (lv' := [(1, .int 0), (0, .ref m0)]) hx hb dX4_layUp_46 rfl hl (by decide) rfl (fun ls hl => ?_)
        refine lv_iconst (v := 0) hx hb dX4_layUp_47 (by decide) ?_
        refine lv_istore_n (lv' := [(2, .int 0), (1, .int 0), (0, .ref m0)]) hx hb dX4_layUp_48 rfl hl (by decide) rfl (fun ls hl => ?_)
        refine kl_for (head := 49) (N := 900) (fun (j : Nat) (H : Heap) (locs : List Loc) (ls : Array Slot) => ∃ (go2 : Int32), ∃ (g2 : Nat → Int32), (kLB tr pa g2 go2 j (kSm u0 900)) ∧ va_P D vwCl [(m0, .inr (4, [.int th, .int ma, .int tr, .ref m3, .ref m4, .ref m5, .ref m6, .ref m7, .int mw, .ref m9, .int sd, .ref m11, .ref m12, .ref m13, .ref m14])), (m3, .inl (cI, 30, .inl pa)), (m4, .inl (cI, 30, .inl ct)), (m5, .inl (cI, 50, .inl mg)), (m6, .inl (cI, 10, .inl mm)), (m7, .inl (cI, 10, .inl mk)), (m9, .inl (cI, 6, .inl mt)), (m11, .inl (cI, 900, .inl g2)), (m12, .inl (cI, 900, .inl li)), (m13, .inl (cI, 6, .inl td)), (m14, .inl (cI, 6, .inl be))] H ∧ va_D (va_A [(m0, .inr (4, [.int th, .int ma, .int tr, .ref m3, .ref m4, .ref m5, .ref m6, .ref m7, .int mw, .ref m9, .int sd, .ref m11, .ref m12, .ref m13, .ref m14])), (m3, .inl (cI, 30, .inl pa)), (m4, .inl (cI, 30, .inl ct)), (m5, .inl (cI, 50, .inl mg)), (m6, .inl (cI, 10, .inl mm)), (m7, .inl (cI, 10, .inl mk)), (m9, .inl (cI, 6, .inl mt)), (m11, .inl (cI, 900, .inl up)), (m12, .inl (cI, 900, .inl li)), (m13, .inl (cI, 6, .inl td)), (m14, .inl (cI, 6, .inl be))] s.heap.size) [(m0, .inr (4, [.int th, .int ma, .int tr, .ref m3, .ref m4, .ref m5, .ref m6, .ref m7, .int mw, .ref m9, .int sd, .ref m11, .ref m12, .ref m13, .ref m14])), (m3, .inl (cI, 30, .inl pa)), (m4, .inl (cI, 30, .inl ct)), (m5, .inl (cI, 50, .inl mg)), (m6, .inl (cI, 10, .inl mm)), (m7, .inl (cI, 10, .inl mk)), (m9, .inl (cI, 6, .inl mt)), (m11, .inl (cI, 900, .inl g2)), (m12, .inl (cI, 900, .inl li)), (m13, .inl (cI, 6, .inl td)), (m14, .inl (cI, 6, .inl be))] ∧ va_S (va_A [(m0, .inr (4, [.int th, .int ma, .int tr, .ref m3, .ref m4, .ref m5, .ref m6, .ref m7, .int mw, .ref m9, .int sd, .ref m11, .ref m12, .ref m13, .ref m14])), (m3, .inl (cI, 30, .inl pa)), (m4, .inl (cI, 30, .inl ct)), (m5, .inl (cI, 50, .inl mg)), (m6, .inl (cI, 10, .inl mm)), (m7, .inl (cI, 10, .inl mk)), (m9, .inl (cI, 6, .inl mt)), (m11, .inl (cI, 900, .inl up)), (m12, .inl (cI, 900, .inl li)), (m13, .inl (cI, 6, .inl td)), (m14, .inl (cI, 6, .inl be))] s.heap.size) s.heap H locs ∧ lv_has ls 6 [(0, .ref m0), (1, .int go2), (2, .int (nI j))]) 0 (Nat.zero_le _) ?_ ?_ ⟨0, g1, (kLB_0 hR0 hW0), hP, hD, hS, (lv_sub hl [2, 1, 0] rfl)⟩
        · skip
          intro j hj H locs ls hJ ih49
          obtain ⟨go2, g2, hI49, hP, hD, hS, hl⟩ := hJ
          refine lv_iload_n hx hb dX4_layUp_49 rfl (lv_at hl 2 rfl) ?_
          refine lv_sipush (v := 900) hx hb dX4_layUp_50 (by decide) ?_
          refine lv_icmp_ge (tgt := 148) hx hb dX4_layUp_53 (by decide) (fun hc => absurd hc (nI_ge (b := 900) hj (by decide))) (fun _ => ?_)
          refine lv_iload_n hx hb dX4_layUp_56 rfl (lv_at hl 2 rfl) ?_
          refine lv_bipush (v := 30) hx hb dX4_layUp_57 (by decide) ?_
          refine lv_idiv hx hb dX4_layUp_59 (by decide) ?_
          refine kx_top (show (nI j) / 30 = nI (j / 30) from pk_div (d := 30) (by omega) (by decide) (by decide)) ?_
          refine lv_istore_n (lv' := [(3, .int (nI (j / 30))), (0, .ref m0), (1, .int go2), (2, .int (nI j))]) hx hb dX4_layUp_60 rfl hl (by decide) rfl (fun ls hl => ?_)
          refine lv_iconst (v := 0) hx hb dX4_layUp_61 (by decide) ?_
          refine lv_istore (lv' := [(4, .int 0), (3, .int (nI (j / 30))), (0, .ref m0), (1, .int go2), (2, .int (nI j))]) hx hb dX4_layUp_62 hl (by decide) rfl (fun ls hl => ?_)
          refine kl_for (head := 64) (N := 30) (fun (q : Nat) (H : Heap) (locs : List Loc) (ls : Array Slot) => ∃ (go3 : Int32), ∃ (g3 : Nat → Int32), (kLC tr pa g3 go3 j q (kSm u0 900)) ∧ va_P D vwCl [(m0, .inr (4, [.int th, .int ma, .int tr, .ref m3, .ref m4, .ref m5, .ref m6, .ref m7, .int mw, .ref m9, .int sd, .ref m11, .ref m12, .ref m13, .ref m14])), (m3, .inl (cI, 30, .inl pa)), (m4, .inl (cI, 30, .inl ct)), (m5, .inl (cI, 50, .inl mg)), (m6, .inl (cI, 10, .inl mm)), (m7, .inl (cI, 10, .inl mk)), (m9, .inl (cI, 6, .inl mt)), (m11, .inl (cI, 900, .inl g3)), (m12, .inl (cI, 900, .inl li)), (m13, .inl (cI, 6, .inl td)), (m14, .inl (cI, 6, .inl be))] H ∧ va_D (va_A [(m0, .inr (4, [.int th, .int ma, .int tr, .ref m3, .ref m4, .ref m5, .ref m6, .ref m7, .int mw, .ref m9, .int sd, .ref m11, .ref m12, .ref m13, .ref m14])), (m3, .inl (cI, 30, .inl pa)), (m4, .inl (cI, 30, .inl ct)), (m5, .inl (cI, 50, .inl mg)), (m6, .inl (cI, 10, .inl mm)), (m7, .inl (cI, 10, .inl mk)), (m9, .inl (cI, 6, .inl mt)), (m11, .inl (cI, 900, .inl up)), (m12, .inl (cI, 900, .inl li)), (m13, .inl (cI, 6, .inl td)), (m14, .inl (cI, 6, .inl be))] s.heap.size) [(m0, .inr (4, [.int th, .int ma, .int tr, .ref m3, .ref m4, .ref m5, .ref m6, .ref m7, .int mw, .ref m9, .int sd, .ref m11, .ref m12, .ref m13, .ref m14])), (m3, .inl (cI, 30, .inl pa)), (m4, .inl (cI, 30, .inl ct)), (m5, .inl (cI, 50, .inl mg)), (m6, .inl (cI, 10, .inl mm)), (m7, .inl (cI, 10, .inl mk)), (m9, .inl (cI, 6, .inl mt)), (m11, .inl (cI, 900, .inl g3)), (m12, .inl (cI, 900, .inl li)), (m13, .inl (cI, 6, .inl td)), (m14, .inl (cI, 6, .inl be))] ∧ va_S (va_A [(m0, .inr (4, [.int th, .int ma, .int tr, .ref m3, .ref m4, .ref m5, .ref m6, .ref m7, .int mw, .ref m9, .int sd, .ref m11, .ref m12, .ref m13, .ref m14])), (m3, .inl (cI, 30, .inl pa)), (m4, .inl (cI, 30, .inl ct)), (m5, .inl (cI, 50, .inl mg)), (m6, .inl (cI, 10, .inl mm)), (m7, .inl (cI, 10, .inl mk)), (m9, .inl (cI, 6, .inl mt)), (m11, .inl (cI, 900, .inl up)), (m12, .inl (cI, 900, .inl li)), (m13, .inl (cI, 6, .inl td)), (m14, .inl (cI, 6, .inl be))] s.heap.size) s.heap H locs ∧ lv_has ls 6 [(0, .ref m0), (1, .int go3), (2, .int (nI j)), (3, .int (nI (j / 30))), (4, .int (nI q))]) 0 (Nat.zero_le _) ?_ ?_ ⟨go2, g2, (kLC_0 hI49), hP, hD, hS, (lv_sub hl [2, 3, 4, 1, 0] rfl)⟩
          · skip
            intro q hq H locs ls hJ ih64
            obtain ⟨go3, g3, hI64, hP, hD, hS, hl⟩ := hJ
            obtain ⟨u, hR, hW, hC⟩ := hI64
            refine lv_iload hx hb dX4_layUp_64 (lv_at hl 4 rfl) ?_
            refine lv_bipush (v := 30) hx hb dX4_layUp_66 (by decide) ?_
            refine lv_icmp_ge (tgt := 142) hx hb dX4_layUp_68 (by decide) (fun hc => absurd hc (nI_ge (b := 30) hq (by decide))) (fun _ => ?_)
            refine lv_aload_n hx hb dX4_layUp_71 rfl (lv_at hl 0 rfl) ?_
            refine va_get (D := D) (ci := 4) (v := .ref m11) (C := RX4) (T := TX4) (N := 15) hx hb hts (fun w h => List.mem_cons_of_mem _ (List.mem_append_right _ (h))) hown hK.1 hP 0 rfl rfl 11 (by decide) (hts (.fieldLink RX4 28 "SenseNetModel" "up" "[I") (List.mem_of_getElem? (i := 1) rfl)) (fun _ h9 => h9) rfl dX4_layUp_72 ?_
            refine lv_bipush (v := 30) hx hb dX4_layUp_75 (by decide) ?_
            refine lv_iload hx hb dX4_layUp_77 (lv_at hl 4 rfl) ?_
            refine lv_imul hx hb dX4_layUp_79 ?_
            refine lv_iload_n hx hb dX4_layUp_80 rfl (lv_at hl 2 rfl) ?_
            refine lv_bipush (v := 30) hx hb dX4_layUp_81 (by decide) ?_
            refine lv_irem hx hb dX4_layUp_83 (by decide) ?_
            refine kx_top (show (nI j) - (nI j) / 30 * 30 = nI (j % 30) from pk_rem (d := 30) (by omega) (by decide) (by decide)) ?_
            refine lv_iadd hx hb dX4_layUp_84 ?_
            refine kx_top (show (30 * (nI q)) + (nI (j % 30)) = nI (30 * q + j % 30) from kx_up) ?_
            refine va_iald (q0 := 7) (t0 := 0) hx hb hK.1 hP rfl rfl (vp_in_nI (show (30 * q + j % 30) < 900 from by omega) (by decide)) dX4_layUp_85 ?_
            refine kx_top (show g3 (nI (30 * q + j % 30)).toNatClampNeg = g3 (30 * q + j % 30) from congrArg g3 (nI_clamp (Nat.lt_trans (show (30 * q + j % 30) < 900 from by omega) (by decide)))) ?_
            refine kx_top (show g3 (30 * q + j % 30) = nI (u (30 * q + j % 30)) from hR _ (by omega)) ?_
            refine lv_iconst (v := 1) hx hb dX4_layUp_86 (by decide) ?_
            refine lv_iadd hx hb dX4_layUp_87 ?_
            refine kx_top (show (nI (u (30 * q + j % 30))) + 1 = nI (u (30 * q + j % 30) + 1) from nI_1 _) ?_
            refine lv_istore (lv' := [(5, .int (nI (u (30 * q + j % 30) + 1))), (0, .ref m0), (1, .int go3), (2, .int (nI j)), (3, .int (nI (j / 30))), (4, .int (nI q))]) hx hb dX4_layUp_88 hl (by decide) rfl (fun ls hl => ?_)
            refine lv_aload_n hx hb dX4_layUp_90 rfl (lv_at hl 1 rfl) ?_
            refine va_get (D := D) (ci := 4) (v := .int tr) (C := RX4) (T := TX4) (N := 15) hx hb hts (fun w h => List.mem_cons_of_mem _ (List.mem_append_right _ (h))) hown hK.1 hP 0 rfl rfl 2 (by decide) (hts (.fieldLink RX4 48 "SenseNetModel" "there" "I") (List.mem_of_getElem? (i := 2) rfl)) (fun _ h9 => h9) rfl dX4_layUp_91 ?_
            refine lv_iload_n hx hb dX4_layUp_94 rfl (lv_at hl 4 rfl) ?_
            refine kq_R (va_runS (As := [.int tr, .int (nI (j / 30))]) (rest := []) ⟨hx, hb, hml, hown, hts⟩ (c_X4_has l D cI tr (j / 30) (by omega) _) (va_cwS 2 hts gX4_layUp_X4_has rfl rfl rfl (by decide +kernel) ⟨Nat.le_of_ble_eq_true rfl, Nat.le_of_ble_eq_true rfl⟩) (kp_RS (hP.sub (ws' := []) [] rfl) hK) rfl rfl hl.1 rfl (lv_room (Nat.le_of_ble_eq_true rfl)) dX4_layUp_95 ⟨Nat.zero_le _, Nat.zero_le _⟩) hP hS hA (fun r_95 H locs er_95 hP hS => ?_)
            subst er_95
            refine lv_if_eq (tgt := 136) hx hb dX4_layUp_98 (by decide) (fun c_98 => ?_) (fun c_98 => ?_)
            · skip
              refine lv_iinc (v := nI (q + 1)) (lv' := [(4, .int (nI (q + 1))), (5, .int (nI (u (30 * q + j % 30) + 1))), (0, .ref m0), (1, .int go3), (2, .int (nI j)), (3, .int (nI (j / 30)))]) hx hb dX4_layUp_136 hl (k := 5) rfl (nI_1 _) (by decide) rfl (fun ls hl => ?_)
              refine lv_goto (tgt := 64) hx hb dX4_layUp_139 (by decide) ?_
              exact ih64 _ _ _ ⟨go3, g3, (kLC_n hR hW hC (fun z => by unfold kE at z; rw [nB_0.mp c_98] at z; cases z)), hP, hD, hS, (lv_sub hl [2, 3, 4, 5, 0] rfl)⟩
            · skip
              refine lv_aload_n hx hb dX4_layUp_101 rfl (lv_at hl 1 rfl) ?_
              refine va_get (D := D) (ci := 4) (v := .ref m3) (C := RX4) (T := TX4) (N := 15) hx hb hts (fun w h => List.mem_cons_of_mem _ (List.mem_append_right _ (h))) hown hK.1 hP 0 rfl rfl 3 (by decide) (hts (.fieldLink RX4 7 "SenseNetModel" "parents" "[I") (List.mem_of_getElem? (i := 3) rfl)) (fun _ h9 => h9) rfl dX4_layUp_102 ?_
              refine lv_iload_n hx hb dX4_layUp_105 rfl (lv_at hl 4 rfl) ?_
              refine va_iald (q0 := 1) (t0 := 0) hx hb hK.1 hP rfl rfl (vp_in_nI (show (j / 30) < 30 from by omega) (by decide)) dX4_layUp_106 ?_
              refine kx_top (show pa (nI (j / 30)).toNatClampNeg = pa (j / 30) from congrArg pa (nI_clamp (Nat.lt_trans (show (j / 30) < 30 from by omega) (by decide)))) ?_
              refine lv_iload hx hb dX4_layUp_107 (lv_at hl 5 rfl) ?_
              refine kq_R (va_runS (As := [.int (pa (j / 30)), .int (nI q)]) (rest := []) ⟨hx, hb, hml, hown, hts⟩ (c_X4_has l D cI (pa (j / 30)) q (hq) _) (va_cwS 2 hts gX4_layUp_X4_has rfl rfl rfl (by decide +kernel) ⟨Nat.le_of_ble_eq_true rfl, Nat.le_of_ble_eq_true rfl⟩) (kp_RS (hP.sub (ws' := []) [] rfl) hK) rfl rfl hl.1 rfl (lv_room (Nat.le_of_ble_eq_true rfl)) dX4_layUp_109 ⟨Nat.zero_le _, Nat.zero_le _⟩) hP hS hA (fun r_109 H locs er_109 hP hS => ?_)
              subst er_109
              refine lv_if_eq (tgt := 136) hx hb dX4_layUp_112 (by decide) (fun c_112 => ?_) (fun c_112 => ?_)
              · skip
                refine lv_iinc (v := nI (q + 1)) (lv' := [(4, .int (nI (q + 1))), (5, .int (nI (u (30 * q + j % 30) + 1))), (0, .ref m0), (1, .int go3), (2, .int (nI j)), (3, .int (nI (j / 30)))]) hx hb dX4_layUp_136 hl (k := 5) rfl (nI_1 _) (by decide) rfl (fun ls hl => ?_)
                refine lv_goto (tgt := 64) hx hb dX4_layUp_139 (by decide) ?_
                exact ih64 _ _ _ ⟨go3, g3, (kLC_n hR hW hC (fun z => by unfold kE at z; rw [nB_0.mp c_112, Bool.and_false] at z; cases z)), hP, hD, hS, (lv_sub hl [2, 3, 4, 5, 0] rfl)⟩
              · skip
                refine lv_iload hx hb dX4_layUp_115 (lv_at hl 0 rfl) ?_
                refine lv_aload_n hx hb dX4_layUp_117 rfl (lv_at hl 1 rfl) ?_
                refine va_get (D := D) (ci := 4) (v := .ref m11) (C := RX4) (T := TX4) (N := 15) hx hb hts (fun w h => List.mem_cons_of_mem _ (List.mem_append_right _ (h))) hown hK.1 hP 0 rfl rfl 11 (by decide) (hts (.fieldLink RX4 28 "SenseNetModel" "up" "[I") (List.mem_of_getElem? (i := 1) rfl)) (fun _ h9 => h9) rfl dX4_layUp_118 ?_
                refine lv_iload_n hx hb dX4_layUp_121 rfl (lv_at hl 3 rfl) ?_
                refine va_iald (q0 := 7) (t0 := 0) hx hb hK.1 hP rfl rfl (vp_in_nI (show j < 900 from hj) (by decide)) dX4_layUp_122 ?_
                refine kx_top (show g3 (nI j).toNatClampNeg = g3 j from congrArg g3 (nI_clamp (Nat.lt_trans (show j < 900 from hj) (by decide)))) ?_
                refine kx_top (show g3 j = nI (u j) from hR j hj) ?_
                refine lv_icmp_ge (tgt := 136) hx hb dX4_layUp_123 (by decide) (fun c_123 => ?_) (fun c_123 => ?_)
                · skip
                  refine lv_iinc (v := nI (q + 1)) (lv' := [(4, .int (nI (q + 1))), (5, .int (nI (u (30 * q + j % 30) + 1))), (0, .ref m0), (1, .int go3), (2, .int (nI j)), (3, .int (nI (j / 30)))]) hx hb dX4_layUp_136 hl (k := 5) rfl (nI_1 _) (by decide) rfl (fun ls hl => ?_)
                  refine lv_goto (tgt := 64) hx hb dX4_layUp_139 (by decide) ?_
                  exact ih64 _ _ _ ⟨go3, g3, (kLC_n hR hW hC (fun _ => (nI_leI (by have := (hW j hj).1; omega) (by have := (hW (30 * q + j % 30) (by omega)).1; omega)).mp c_123)), hP, hD, hS, (lv_sub hl [2, 3, 4, 5, 0] rfl)⟩
                · skip
                  refine lv_aload_n hx hb dX4_layUp_126 rfl (lv_at hl 1 rfl) ?_
                  refine va_get (D := D) (ci := 4) (v := .ref m11) (C := RX4) (T := TX4) (N := 15) hx hb hts (fun w h => List.mem_cons_of_mem _ (List.mem_append_right _ (h))) hown hK.1 hP 0 rfl rfl 11 (by decide) (hts (.fieldLink RX4 28 "SenseNetModel" "up" "[I") (List.mem_of_getElem? (i := 1) rfl)) (fun _ h9 => h9) rfl dX4_layUp_127 ?_
                  refine lv_iload_n hx hb dX4_layUp_130 rfl (lv_at hl 3 rfl) ?_
                  refine lv_iload hx hb dX4_layUp_131 (lv_at hl 0 rfl) ?_
                  refine va_iast (q0 := 7) (t0 := 0) hx hb hK.1 hP hD hS rfl rfl (vp_in_nI (show j < 900 from hj) (by decide)) dX4_layUp_133 (fun H locs hP hD hS => ?_)
                  rw [show (nI j).toNatClampNeg = j from nI_clamp (Nat.lt_trans (show j < 900 from hj) (by decide))] at hP hD
                  have hP : va_P D vwCl [(m0, .inr (4, [.int th, .int ma, .int tr, .ref m3, .ref m4, .ref m5, .ref m6, .ref m7, .int mw, .ref m9, .int sd, .ref m11, .ref m12, .ref m13, .ref m14])), (m3, .inl (cI, 30, .inl pa)), (m4, .inl (cI, 30, .inl ct)), (m5, .inl (cI, 50, .inl mg)), (m6, .inl (cI, 10, .inl mm)), (m7, .inl (cI, 10, .inl mk)), (m9, .inl (cI, 6, .inl mt)), (m11, .inl (cI, 900, .inl (upd g3 j (nI (u (30 * q + j % 30) + 1))))), (m12, .inl (cI, 900, .inl li)), (m13, .inl (cI, 6, .inl td)), (m14, .inl (cI, 6, .inl be))] H := hP
                  have hD := (show va_D _ [(m0, .inr (4, [.int th, .int ma, .int tr, .ref m3, .ref m4, .ref m5, .ref m6, .ref m7, .int mw, .ref m9, .int sd, .ref m11, .ref m12, .ref m13, .ref m14])), (m3, .inl (cI, 30, .inl pa)), (m4, .inl (cI, 30, .inl ct)), (m5, .inl (cI, 50, .inl mg)), (m6, .inl (cI, 10, .inl mm)), (m7, .inl (cI, 10, .inl mk)), (m9, .inl (cI, 6, .inl mt)), (m11, .inl (cI, 900, .inl (upd g3 j (nI (u (30 * q + j % 30) + 1))))), (m12, .inl (cI, 900, .inl li)), (m13, .inl (cI, 6, .inl td)), (m14, .inl (cI, 6, .inl be))] from hD)
                  refine lv_iconst (v := 1) hx hb dX4_layUp_134 (by decide) ?_
                  refine lv_istore_n (lv' := [(1, .int 1), (5, .int (nI (u (30 * q + j % 30) + 1))), (0, .ref m0), (2, .int (nI j)), (3, .int (nI (j / 30))), (4, .int (nI q))]) hx hb dX4_layUp_135 rfl hl (by decide) rfl (fun ls hl => ?_)
                  refine lv_iinc (v := nI (q + 1)) (lv' := [(4, .int (nI (q + 1))), (1, .int 1), (5, .int (nI (u (30 * q + j % 30) + 1))), (0, .ref m0), (2, .int (nI j)), (3, .int (nI (j / 30)))]) hx hb dX4_layUp_136 hl (k := 5) rfl (nI_1 _) (by decide) rfl (fun ls hl => ?_)
                  refine lv_goto (tgt := 64) hx hb dX4_layUp_139 (by decide) ?_
                  exact ih64 _ _ _ ⟨1, (upd g3 j (nI (u (30 * q + j % 30) + 1))), (kLC_w hj hq hR hW hC (by unfold kE; rw [nB_n0.mp c_98, nB_n0.mp c_112]; rfl) (Nat.lt_of_not_le (fun z => c_123 ((nI_leI (by have := (hW j hj).1; omega) (by have := (hW (30 * q + j % 30) (by omega)).1; omega)).mpr z)))), hP, hD, hS, (lv_sub hl [3, 1, 4, 5, 0] rfl)⟩
          · skip
            intro H locs ls hJ
            obtain ⟨go3, g3, hI64, hP, hD, hS, hl⟩ := hJ
            refine lv_iload hx hb dX4_layUp_64 (lv_at hl 4 rfl) ?_
            refine lv_bipush (v := 30) hx hb dX4_layUp_66 (by decide) ?_
            refine lv_icmp_ge (tgt := 142) hx hb dX4_layUp_68 (by decide) (fun _ => ?_) (fun hc => absurd (nI_le (a := 30) (b := 30) (Nat.le_refl _) (by decide)) hc)
            refine lv_iinc (v := nI (j + 1)) (lv' := [(2, .int (nI (j + 1))), (0, .ref m0), (1, .int go3), (3, .int (nI (j / 30))), (4, .int (nI 30))]) hx hb dX4_layUp_142 hl (k := 2) rfl (nI_1 _) (by decide) rfl (fun ls hl => ?_)
            refine lv_goto (tgt := 49) hx hb dX4_layUp_145 (by decide) ?_
            exact ih49 _ _ _ ⟨go3, g3, (kLC_1 hI64), hP, hD, hS, (lv_sub hl [1, 2, 0] rfl)⟩
        · skip
          intro H locs ls hJ
          obtain ⟨go2, g2, hI49, hP, hD, hS, hl⟩ := hJ
          refine lv_iload_n hx hb dX4_layUp_49 rfl (lv_at hl 2 rfl) ?_
          refine lv_sipush (v := 900) hx hb dX4_layUp_50 (by decide) ?_
          refine lv_icmp_ge (tgt := 148) hx hb dX4_layUp_53 (by decide) (fun _ => ?_) (fun hc => absurd (nI_le (a := 900) (b := 900) (Nat.le_refl _) (by decide)) hc)
          refine lv_goto (tgt := 41) hx hb dX4_layUp_148 (by decide) ?_
          obtain ⟨x1, hx1, hx2⟩ := kLB_1 hI49 hS0
          exact ih41 (x1) _ _ _ (hx1) ⟨go2, g2, (hx2), hP, hD, hS, (lv_sub hl [0, 1] rfl)⟩
