set_option maxHeartbeats 4000000 in
set_option maxRecDepth 100000 in
theorem c_X4_layLikes (l : Launch) (D : va_G) (cI : ClassId) (m0 m3 m4 m5 m6 m7 m9 m11 m12 m13 m14 : Nat) (th : Int32) (ma : Int32) (tr : Int32) (mw : Int32) (sd : Int32) (pa : Nat → Int32) (ct : Nat → Int32) (mg : Nat → Int32) (mm : Nat → Int32) (mk : Nat → Int32) (mt : Nat → Int32) (up : Nat → Int32) (li : Nat → Int32) (td : Nat → Int32) (be : Nat → Int32) (P : Nat) (wf : Nat → Nat) (nf : Nat → Nat) (i1 : Int32) (hp1 : sd = nI P) (hp2 : P ≤ 6) (hwf : ∀ k, k < P → mt k = nI (wf k) ∧ wf k < 10 ∧ mm (wf k) = nI (nf (wf k)) ∧ nf (wf k) ≤ 5) (hdv : kdv tr pa ct) : kc_V l yX4_layLikes wsX4_layLikes 4 97 D cI [.ref m0, .int i1] [(m0, .inr (4, [.int th, .int ma, .int tr, .ref m3, .ref m4, .ref m5, .ref m6, .ref m7, .int mw, .ref m9, .int sd, .ref m11, .ref m12, .ref m13, .ref m14])), (m3, .inl (cI, 30, .inl pa)), (m4, .inl (cI, 30, .inl ct)), (m5, .inl (cI, 50, .inl mg)), (m6, .inl (cI, 10, .inl mm)), (m7, .inl (cI, 10, .inl mk)), (m9, .inl (cI, 6, .inl mt)), (m11, .inl (cI, 900, .inl up)), (m12, .inl (cI, 900, .inl li)), (m13, .inl (cI, 6, .inl td)), (m14, .inl (cI, 6, .inl be))] (fun (u : (Nat → Int32) × (Nat → Int32)) => kUp tr pa u.1 ∧ ∀ k, k < 900 → u.2 k = klol tr pa u.1 ct mg wf nf P i1 k) (fun u => [(m0, .inr (4, [.int th, .int ma, .int tr, .ref m3, .ref m4, .ref m5, .ref m6, .ref m7, .int mw, .ref m9, .int sd, .ref m11, .ref m12, .ref m13, .ref m14])), (m3, .inl (cI, 30, .inl pa)), (m4, .inl (cI, 30, .inl ct)), (m5, .inl (cI, 50, .inl mg)), (m6, .inl (cI, 10, .inl mm)), (m7, .inl (cI, 10, .inl mk)), (m9, .inl (cI, 6, .inl mt)), (m11, .inl (cI, 900, .inl u.1)), (m12, .inl (cI, 900, .inl u.2)), (m13, .inl (cI, 6, .inl td)), (m14, .inl (cI, 6, .inl be))]) := by
  refine ks_V (cc := cX4_layLikes) (nL := 4) (ret := none) (by decide) rfl (Nat.le_of_ble_eq_true rfl) ?_
  intro p e s m below meth c ls hF hP hK hS hA hD hl
  obtain ⟨hx, hb, hr, hml, hown, hts, hlocks⟩ := hF
  have hown : s.vm.findClass RX4 = some m.cls := hown
  have hl : lv_has ls 4 [(0, .ref m0), (1, .int i1)] := hl
  refine lv_aload_n hx hb dX4_layLikes_0 rfl (lv_at hl 0 rfl) ?_
  refine kq_V (wr := []) (va_runV (As := []) (rest := []) ⟨hx, hb, hml, hown, hts⟩ (c_X4_layUp l D cI m0 m3 m4 m5 m6 m7 m9 m11 m12 m13 m14 th ma tr mw sd pa ct mg mm mk mt up li td be _) (cwV 0 hts gX4_layLikes_X4_layUp rfl rfl rfl (by decide +kernel) ⟨Nat.le_of_ble_eq_true rfl, Nat.le_of_ble_eq_true rfl⟩) (kp_WV (hP.sub (ws' := [(m0, .inr (4, [.int th, .int ma, .int tr, .ref m3, .ref m4, .ref m5, .ref m6, .ref m7, .int mw, .ref m9, .int sd, .ref m11, .ref m12, .ref m13, .ref m14])), (m3, .inl (cI, 30, .inl pa)), (m4, .inl (cI, 30, .inl ct)), (m5, .inl (cI, 50, .inl mg)), (m6, .inl (cI, 10, .inl mm)), (m7, .inl (cI, 10, .inl mk)), (m9, .inl (cI, 6, .inl mt)), (m11, .inl (cI, 900, .inl up)), (m12, .inl (cI, 900, .inl li)), (m13, .inl (cI, 6, .inl td)), (m14, .inl (cI, 6, .inl be))]) [0, 1, 2, 3, 4, 5, 6, 7, 8, 9, 10] rfl) (hD.sub (ws' := [(m0, .inr (4, [.int th, .int ma, .int tr, .ref m3, .ref m4, .ref m5, .ref m6, .ref m7, .int mw, .ref m9, .int sd, .ref m11, .ref m12, .ref m13, .ref m14])), (m3, .inl (cI, 30, .inl pa)), (m4, .inl (cI, 30, .inl ct)), (m5, .inl (cI, 50, .inl mg)), (m6, .inl (cI, 10, .inl mm)), (m7, .inl (cI, 10, .inl mk)), (m9, .inl (cI, 6, .inl mt)), (m11, .inl (cI, 900, .inl up)), (m12, .inl (cI, 900, .inl li)), (m13, .inl (cI, 6, .inl td)), (m14, .inl (cI, 6, .inl be))]) [0, 1, 2, 3, 4, 5, 6, 7, 8, 9, 10] (by decide) rfl) hK 0 4 rfl rfl) rfl rfl hl.1 rfl (lv_room (Nat.le_of_ble_eq_true rfl)) dX4_layLikes_1 ⟨Nat.zero_le _, Nat.zero_le _⟩) hP hD hS hA [0, 1, 2, 3, 4, 5, 6, 7, 8, 9, 10] [] rfl rfl (by decide) (by decide) (fun g9_1 H locs er_1 hP hD hS => ?_)
  have er_1 : kUp tr pa g9_1 := er_1
  have hP := hP.sub (ws' := [(m0, .inr (4, [.int th, .int ma, .int tr, .ref m3, .ref m4, .ref m5, .ref m6, .ref m7, .int mw, .ref m9, .int sd, .ref m11, .ref m12, .ref m13, .ref m14])), (m3, .inl (cI, 30, .inl pa)), (m4, .inl (cI, 30, .inl ct)), (m5, .inl (cI, 50, .inl mg)), (m6, .inl (cI, 10, .inl mm)), (m7, .inl (cI, 10, .inl mk)), (m9, .inl (cI, 6, .inl mt)), (m11, .inl (cI, 900, .inl g9_1)), (m12, .inl (cI, 900, .inl li)), (m13, .inl (cI, 6, .inl td)), (m14, .inl (cI, 6, .inl be))]) [0, 1, 2, 3, 4, 5, 6, 7, 8, 9, 10] rfl
  have hD := hD.sub (ws' := [(m0, .inr (4, [.int th, .int ma, .int tr, .ref m3, .ref m4, .ref m5, .ref m6, .ref m7, .int mw, .ref m9, .int sd, .ref m11, .ref m12, .ref m13, .ref m14])), (m3, .inl (cI, 30, .inl pa)), (m4, .inl (cI, 30, .inl ct)), (m5, .inl (cI, 50, .inl mg)), (m6, .inl (cI, 10, .inl mm)), (m7, .inl (cI, 10, .inl mk)), (m9, .inl (cI, 6, .inl mt)), (m11, .inl (cI, 900, .inl g9_1)), (m12, .inl (cI, 900, .inl li)), (m13, .inl (cI, 6, .inl td)), (m14, .inl (cI, 6, .inl be))]) [0, 1, 2, 3, 4, 5, 6, 7, 8, 9, 10] (by decide) rfl
  refine lv_iconst (v := 0) hx hb dX4_layLikes_4 (by decide) ?_
  refine lv_istore_n (lv' := [(2, .int 0), (0, .ref m0), (1, .int i1)]) hx hb dX4_layLikes_5 rfl hl (by decide) rfl (fun ls hl => ?_)
  refine kl_for (head := 6) (N := 900) (fun (j : Nat) (H : Heap) (locs : List Loc) (ls : Array Slot) => ∃ (g : Nat → Int32), (∀ k, k < j → g k = klol tr pa g9_1 ct mg wf nf P i1 k) ∧ va_P D vwCl [(m0, .inr (4, [.int th, .int ma, .int tr, .ref m3, .ref m4, .ref m5, .ref m6, .ref m7, .int mw, .ref m9, .int sd, .ref m11, .ref m12, .ref m13, .ref m14])), (m3, .inl (cI, 30, .inl pa)), (m4, .inl (cI, 30, .inl ct)), (m5, .inl (cI, 50, .inl mg)), (m6, .inl (cI, 10, .inl mm)), (m7, .inl (cI, 10, .inl mk)), (m9, .inl (cI, 6, .inl mt)), (m11, .inl (cI, 900, .inl g9_1)), (m12, .inl (cI, 900, .inl g)), (m13, .inl (cI, 6, .inl td)), (m14, .inl (cI, 6, .inl be))] H ∧ va_D (va_A [(m0, .inr (4, [.int th, .int ma, .int tr, .ref m3, .ref m4, .ref m5, .ref m6, .ref m7, .int mw, .ref m9, .int sd, .ref m11, .ref m12, .ref m13, .ref m14])), (m3, .inl (cI, 30, .inl pa)), (m4, .inl (cI, 30, .inl ct)), (m5, .inl (cI, 50, .inl mg)), (m6, .inl (cI, 10, .inl mm)), (m7, .inl (cI, 10, .inl mk)), (m9, .inl (cI, 6, .inl mt)), (m11, .inl (cI, 900, .inl up)), (m12, .inl (cI, 900, .inl li)), (m13, .inl (cI, 6, .inl td)), (m14, .inl (cI, 6, .inl be))] s.heap.size) [(m0, .inr (4, [.int th, .int ma, .int tr, .ref m3, .ref m4, .ref m5, .ref m6, .ref m7, .int mw, .ref m9, .int sd, .ref m11, .ref m12, .ref m13, .ref m14])), (m3, .inl (cI, 30, .inl pa)), (m4, .inl (cI, 30, .inl ct)), (m5, .inl (cI, 50, .inl mg)), (m6, .inl (cI, 10, .inl mm)), (m7, .inl (cI, 10, .inl mk)), (m9, .inl (cI, 6, .inl mt)), (m11, .inl (cI, 900, .inl g9_1)), (m12, .inl (cI, 900, .inl g)), (m13, .inl (cI, 6, .inl td)), (m14, .inl (cI, 6, .inl be))] ∧ va_S (va_A [(m0, .inr (4, [.int th, .int ma, .int tr, .ref m3, .ref m4, .ref m5, .ref m6, .ref m7, .int mw, .ref m9, .int sd, .ref m11, .ref m12, .ref m13, .ref m14])), (m3, .inl (cI, 30, .inl pa)), (m4, .inl (cI, 30, .inl ct)), (m5, .inl (cI, 50, .inl mg)), (m6, .inl (cI, 10, .inl mm)), (m7, .inl (cI, 10, .inl mk)), (m9, .inl (cI, 6, .inl mt)), (m11, .inl (cI, 900, .inl up)), (m12, .inl (cI, 900, .inl li)), (m13, .inl (cI, 6, .inl td)), (m14, .inl (cI, 6, .inl be))] s.heap.size) s.heap H locs ∧ lv_has ls 4 [(0, .ref m0), (1, .int i1), (2, .int (nI j))]) 0 (Nat.zero_le _) ?_ ?_ ⟨li, (fun k hk => absurd hk (Nat.not_lt_zero k)), hP, hD, hS, (lv_sub hl [1, 2, 0] rfl)⟩
  · skip
    intro j hj H locs ls hJ ih6
    obtain ⟨g, hI, hP, hD, hS, hl⟩ := hJ
    refine lv_iload_n hx hb dX4_layLikes_6 rfl (lv_at hl 2 rfl) ?_
    refine lv_sipush (v := 900) hx hb dX4_layLikes_7 (by decide) ?_
    refine lv_icmp_ge (tgt := 102) hx hb dX4_layLikes_10 (by decide) (fun hc => absurd hc (nI_ge (b := 900) hj (by decide))) (fun _ => ?_)
    refine lv_aload_n hx hb dX4_layLikes_13 rfl (lv_at hl 0 rfl) ?_
    refine va_get (D := D) (ci := 4) (v := .int tr) (C := RX4) (T := TX4) (N := 15) hx hb hts (fun w h => List.mem_cons_of_mem _ (List.mem_append_right _ (h))) hown hK.1 hP 0 rfl rfl 2 (by decide) (hts (.fieldLink RX4 48 "SenseNetModel" "there" "I") (List.mem_of_getElem? (i := 1) rfl)) (fun _ h9 => h9) rfl dX4_layLikes_14 ?_
    refine lv_iload_n hx hb dX4_layLikes_17 rfl (lv_at hl 2 rfl) ?_
    refine lv_bipush (v := 30) hx hb dX4_layLikes_18 (by decide) ?_
    refine lv_idiv hx hb dX4_layLikes_20 (by decide) ?_
    refine kx_top (show (nI j) / 30 = nI (j / 30) from pk_div (d := 30) (by omega) (by decide) (by decide)) ?_
    refine kq_R (va_runS (As := [.int tr, .int (nI (j / 30))]) (rest := []) ⟨hx, hb, hml, hown, hts⟩ (c_X4_has l D cI tr (j / 30) (by omega) _) (va_cwS 2 hts gX4_layLikes_X4_has rfl rfl rfl (by decide +kernel) ⟨Nat.le_of_ble_eq_true rfl, Nat.le_of_ble_eq_true rfl⟩) (kp_RS (hP.sub (ws' := []) [] rfl) hK) rfl rfl hl.1 rfl (lv_room (Nat.le_of_ble_eq_true rfl)) dX4_layLikes_21 ⟨Nat.zero_le _, Nat.zero_le _⟩) hP hS hA (fun r_21 H locs er_21 hP hS => ?_)
    subst er_21
    refine lv_if_eq (tgt := 67) hx hb dX4_layLikes_24 (by decide) (fun c_24 => ?_) (fun c_24 => ?_)
    · skip
      refine lv_iconst (v := 0) hx hb dX4_layLikes_67 (by decide) ?_
      refine lv_istore_n (lv' := [(3, .int 0), (0, .ref m0), (1, .int i1), (2, .int (nI j))]) hx hb dX4_layLikes_68 rfl hl (by decide) rfl (fun ls hl => ?_)
      refine lv_aload_n hx hb dX4_layLikes_69 rfl (lv_at hl 1 rfl) ?_
      refine va_get (D := D) (ci := 4) (v := .ref m12) (C := RX4) (T := TX4) (N := 15) hx hb hts (fun w h => List.mem_cons_of_mem _ (List.mem_append_right _ (h))) hown hK.1 hP 0 rfl rfl 12 (by decide) (hts (.fieldLink RX4 31 "SenseNetModel" "likes" "[I") (List.mem_of_getElem? (i := 2) rfl)) (fun _ h9 => h9) rfl dX4_layLikes_70 ?_
      refine lv_iload_n hx hb dX4_layLikes_73 rfl (lv_at hl 3 rfl) ?_
      refine lv_iload_n hx hb dX4_layLikes_74 rfl (lv_at hl 0 rfl) ?_
      refine lv_if_eq (tgt := 94) hx hb dX4_layLikes_75 (by decide) (fun _ => ?_) (fun hc => absurd (by decide) hc)
      refine lv_iconst (v := 0) hx hb dX4_layLikes_94 (by decide) ?_
      refine va_iast (q0 := 8) (t0 := 0) hx hb hK.1 hP hD hS rfl rfl (vp_in_nI (show j < 900 from hj) (by decide)) dX4_layLikes_95 (fun H locs hP hD hS => ?_)
      rw [show (nI j).toNatClampNeg = j from nI_clamp (Nat.lt_trans (show j < 900 from hj) (by decide))] at hP hD
      have hP : va_P D vwCl [(m0, .inr (4, [.int th, .int ma, .int tr, .ref m3, .ref m4, .ref m5, .ref m6, .ref m7, .int mw, .ref m9, .int sd, .ref m11, .ref m12, .ref m13, .ref m14])), (m3, .inl (cI, 30, .inl pa)), (m4, .inl (cI, 30, .inl ct)), (m5, .inl (cI, 50, .inl mg)), (m6, .inl (cI, 10, .inl mm)), (m7, .inl (cI, 10, .inl mk)), (m9, .inl (cI, 6, .inl mt)), (m11, .inl (cI, 900, .inl g9_1)), (m12, .inl (cI, 900, .inl (upd g j 0))), (m13, .inl (cI, 6, .inl td)), (m14, .inl (cI, 6, .inl be))] H := hP
      have hD := (show va_D _ [(m0, .inr (4, [.int th, .int ma, .int tr, .ref m3, .ref m4, .ref m5, .ref m6, .ref m7, .int mw, .ref m9, .int sd, .ref m11, .ref m12, .ref m13, .ref m14])), (m3, .inl (cI, 30, .inl pa)), (m4, .inl (cI, 30, .inl ct)), (m5, .inl (cI, 50, .inl mg)), (m6, .inl (cI, 10, .inl mm)), (m7, .inl (cI, 10, .inl mk)), (m9, .inl (cI, 6, .inl mt)), (m11, .inl (cI, 900, .inl g9_1)), (m12, .inl (cI, 900, .inl (upd g j 0))), (m13, .inl (cI, 6, .inl td)), (m14, .inl (cI, 6, .inl be))] from hD)
      refine lv_iinc (v := nI (j + 1)) (lv' := [(2, .int (nI (j + 1))), (3, .int 0), (0, .ref m0), (1, .int i1)]) hx hb dX4_layLikes_96 hl (k := 3) rfl (nI_1 _) (by decide) rfl (fun ls hl => ?_)
      refine lv_goto (tgt := 6) hx hb dX4_layLikes_99 (by decide) ?_
      exact ih6 _ _ _ ⟨(upd g j 0), (klol_s hI (by unfold klol; rw [if_neg (by rw [nB_0.mp c_24, Bool.false_and, Bool.false_and, Bool.false_and]; decide)])), hP, hD, hS, (lv_sub hl [2, 3, 0] rfl)⟩
    · skip
      refine lv_aload_n hx hb dX4_layLikes_27 rfl (lv_at hl 0 rfl) ?_
      refine va_get (D := D) (ci := 4) (v := .int tr) (C := RX4) (T := TX4) (N := 15) hx hb hts (fun w h => List.mem_cons_of_mem _ (List.mem_append_right _ (h))) hown hK.1 hP 0 rfl rfl 2 (by decide) (hts (.fieldLink RX4 48 "SenseNetModel" "there" "I") (List.mem_of_getElem? (i := 1) rfl)) (fun _ h9 => h9) rfl dX4_layLikes_28 ?_
      refine lv_iload_n hx hb dX4_layLikes_31 rfl (lv_at hl 2 rfl) ?_
      refine lv_bipush (v := 30) hx hb dX4_layLikes_32 (by decide) ?_
      refine lv_irem hx hb dX4_layLikes_34 (by decide) ?_
      refine kx_top (show (nI j) - (nI j) / 30 * 30 = nI (j % 30) from pk_rem (d := 30) (by omega) (by decide) (by decide)) ?_
      refine kq_R (va_runS (As := [.int tr, .int (nI (j % 30))]) (rest := []) ⟨hx, hb, hml, hown, hts⟩ (c_X4_has l D cI tr (j % 30) (by omega) _) (va_cwS 2 hts gX4_layLikes_X4_has rfl rfl rfl (by decide +kernel) ⟨Nat.le_of_ble_eq_true rfl, Nat.le_of_ble_eq_true rfl⟩) (kp_RS (hP.sub (ws' := []) [] rfl) hK) rfl rfl hl.1 rfl (lv_room (Nat.le_of_ble_eq_true rfl)) dX4_layLikes_35 ⟨Nat.zero_le _, Nat.zero_le _⟩) hP hS hA (fun r_35 H locs er_35 hP hS => ?_)
      subst er_35
      refine lv_if_eq (tgt := 67) hx hb dX4_layLikes_38 (by decide) (fun c_38 => ?_) (fun c_38 => ?_)
      · skip
        refine lv_iconst (v := 0) hx hb dX4_layLikes_67 (by decide) ?_
        refine lv_istore_n (lv' := [(3, .int 0), (0, .ref m0), (1, .int i1), (2, .int (nI j))]) hx hb dX4_layLikes_68 rfl hl (by decide) rfl (fun ls hl => ?_)
        refine lv_aload_n hx hb dX4_layLikes_69 rfl (lv_at hl 1 rfl) ?_
        refine va_get (D := D) (ci := 4) (v := .ref m12) (C := RX4) (T := TX4) (N := 15) hx hb hts (fun w h => List.mem_cons_of_mem _ (List.mem_append_right _ (h))) hown hK.1 hP 0 rfl rfl 12 (by decide) (hts (.fieldLink RX4 31 "SenseNetModel" "likes" "[I") (List.mem_of_getElem? (i := 2) rfl)) (fun _ h9 => h9) rfl dX4_layLikes_70 ?_
        refine lv_iload_n hx hb dX4_layLikes_73 rfl (lv_at hl 3 rfl) ?_
        refine lv_iload_n hx hb dX4_layLikes_74 rfl (lv_at hl 0 rfl) ?_
        refine lv_if_eq (tgt := 94) hx hb dX4_layLikes_75 (by decide) (fun _ => ?_) (fun hc => absurd (by decide) hc)
        refine lv_iconst (v := 0) hx hb dX4_layLikes_94 (by decide) ?_
        refine va_iast (q0 := 8) (t0 := 0) hx hb hK.1 hP hD hS rfl rfl (vp_in_nI (show j < 900 from hj) (by decide)) dX4_layLikes_95 (fun H locs hP hD hS => ?_)
        rw [show (nI j).toNatClampNeg = j from nI_clamp (Nat.lt_trans (show j < 900 from hj) (by decide))] at hP hD
        have hP : va_P D vwCl [(m0, .inr (4, [.int th, .int ma, .int tr, .ref m3, .ref m4, .ref m5, .ref m6, .ref m7, .int mw, .ref m9, .int sd, .ref m11, .ref m12, .ref m13, .ref m14])), (m3, .inl (cI, 30, .inl pa)), (m4, .inl (cI, 30, .inl ct)), (m5, .inl (cI, 50, .inl mg)), (m6, .inl (cI, 10, .inl mm)), (m7, .inl (cI, 10, .inl mk)), (m9, .inl (cI, 6, .inl mt)), (m11, .inl (cI, 900, .inl g9_1)), (m12, .inl (cI, 900, .inl (upd g j 0))), (m13, .inl (cI, 6, .inl td)), (m14, .inl (cI, 6, .inl be))] H := hP
        have hD := (show va_D _ [(m0, .inr (4, [.int th, .int ma, .int tr, .ref m3, .ref m4, .ref m5, .ref m6, .ref m7, .int mw, .ref m9, .int sd, .ref m11, .ref m12, .ref m13, .ref m14])), (m3, .inl (cI, 30, .inl pa)), (m4, .inl (cI, 30, .inl ct)), (m5, .inl (cI, 50, .inl mg)), (m6, .inl (cI, 10, .inl mm)), (m7, .inl (cI, 10, .inl mk)), (m9, .inl (cI, 6, .inl mt)), (m11, .inl (cI, 900, .inl g9_1)), (m12, .inl (cI, 900, .inl (upd g j 0))), (m13, .inl (cI, 6, .inl td)), (m14, .inl (cI, 6, .inl be))] from hD)
        refine lv_iinc (v := nI (j + 1)) (lv' := [(2, .int (nI (j + 1))), (3, .int 0), (0, .ref m0), (1, .int i1)]) hx hb dX4_layLikes_96 hl (k := 3) rfl (nI_1 _) (by decide) rfl (fun ls hl => ?_)
        refine lv_goto (tgt := 6) hx hb dX4_layLikes_99 (by decide) ?_
        exact ih6 _ _ _ ⟨(upd g j 0), (klol_s hI (by unfold klol; rw [if_neg (by rw [nB_0.mp c_38, Bool.and_false, Bool.false_and, Bool.false_and]; decide)])), hP, hD, hS, (lv_sub hl [2, 3, 0] rfl)⟩
      · skip
        refine lv_aload_n hx hb dX4_layLikes_41 rfl (lv_at hl 0 rfl) ?_
        refine lv_iload_n hx hb dX4_layLikes_42 rfl (lv_at hl 2 rfl) ?_
        refine lv_bipush (v := 30) hx hb dX4_layLikes_43 (by decide) ?_
        refine lv_idiv hx hb dX4_layLikes_45 (by decide) ?_
        refine kx_top (show (nI j) / 30 = nI (j / 30) from pk_div (d := 30) (by omega) (by decide) (by decide)) ?_
        refine kq_R (va_runV (As := [.int (nI (j / 30))]) (rest := []) ⟨hx, hb, hml, hown, hts⟩ (c_X4_canStand l D cI m0 m3 m4 m5 m6 m7 m9 m11 m12 m13 m14 th ma tr mw sd pa ct mg mm mk mt g9_1 g td be P wf nf (nI (j / 30)) (hp1) (hp2) (hwf) _) (cwV 1 hts gX4_layLikes_X4_canStand rfl rfl rfl (by decide +kernel) ⟨Nat.le_of_ble_eq_true rfl, Nat.le_of_ble_eq_true rfl⟩) (kp_RV (hP.sub (ws' := [(m0, .inr (4, [.int th, .int ma, .int tr, .ref m3, .ref m4, .ref m5, .ref m6, .ref m7, .int mw, .ref m9, .int sd, .ref m11, .ref m12, .ref m13, .ref m14])), (m3, .inl (cI, 30, .inl pa)), (m4, .inl (cI, 30, .inl ct)), (m5, .inl (cI, 50, .inl mg)), (m6, .inl (cI, 10, .inl mm)), (m7, .inl (cI, 10, .inl mk)), (m9, .inl (cI, 6, .inl mt)), (m11, .inl (cI, 900, .inl g9_1)), (m12, .inl (cI, 900, .inl g)), (m13, .inl (cI, 6, .inl td)), (m14, .inl (cI, 6, .inl be))]) [0, 1, 2, 3, 4, 5, 6, 7, 8, 9, 10] rfl) hK 0 4 rfl rfl) rfl rfl hl.1 rfl (lv_room (Nat.le_of_ble_eq_true rfl)) dX4_layLikes_46 ⟨Nat.zero_le _, Nat.zero_le _⟩) hP hS hA (fun r_46 H locs er_46 hP hS => ?_)
        subst er_46
        refine lv_if_eq (tgt := 67) hx hb dX4_layLikes_49 (by decide) (fun c_49 => ?_) (fun c_49 => ?_)
        · skip
          refine lv_iconst (v := 0) hx hb dX4_layLikes_67 (by decide) ?_
          refine lv_istore_n (lv' := [(3, .int 0), (0, .ref m0), (1, .int i1), (2, .int (nI j))]) hx hb dX4_layLikes_68 rfl hl (by decide) rfl (fun ls hl => ?_)
          refine lv_aload_n hx hb dX4_layLikes_69 rfl (lv_at hl 1 rfl) ?_
          refine va_get (D := D) (ci := 4) (v := .ref m12) (C := RX4) (T := TX4) (N := 15) hx hb hts (fun w h => List.mem_cons_of_mem _ (List.mem_append_right _ (h))) hown hK.1 hP 0 rfl rfl 12 (by decide) (hts (.fieldLink RX4 31 "SenseNetModel" "likes" "[I") (List.mem_of_getElem? (i := 2) rfl)) (fun _ h9 => h9) rfl dX4_layLikes_70 ?_
          refine lv_iload_n hx hb dX4_layLikes_73 rfl (lv_at hl 3 rfl) ?_
          refine lv_iload_n hx hb dX4_layLikes_74 rfl (lv_at hl 0 rfl) ?_
          refine lv_if_eq (tgt := 94) hx hb dX4_layLikes_75 (by decide) (fun _ => ?_) (fun hc => absurd (by decide) hc)
          refine lv_iconst (v := 0) hx hb dX4_layLikes_94 (by decide) ?_
          refine va_iast (q0 := 8) (t0 := 0) hx hb hK.1 hP hD hS rfl rfl (vp_in_nI (show j < 900 from hj) (by decide)) dX4_layLikes_95 (fun H locs hP hD hS => ?_)
          rw [show (nI j).toNatClampNeg = j from nI_clamp (Nat.lt_trans (show j < 900 from hj) (by decide))] at hP hD
          have hP : va_P D vwCl [(m0, .inr (4, [.int th, .int ma, .int tr, .ref m3, .ref m4, .ref m5, .ref m6, .ref m7, .int mw, .ref m9, .int sd, .ref m11, .ref m12, .ref m13, .ref m14])), (m3, .inl (cI, 30, .inl pa)), (m4, .inl (cI, 30, .inl ct)), (m5, .inl (cI, 50, .inl mg)), (m6, .inl (cI, 10, .inl mm)), (m7, .inl (cI, 10, .inl mk)), (m9, .inl (cI, 6, .inl mt)), (m11, .inl (cI, 900, .inl g9_1)), (m12, .inl (cI, 900, .inl (upd g j 0))), (m13, .inl (cI, 6, .inl td)), (m14, .inl (cI, 6, .inl be))] H := hP
          have hD := (show va_D _ [(m0, .inr (4, [.int th, .int ma, .int tr, .ref m3, .ref m4, .ref m5, .ref m6, .ref m7, .int mw, .ref m9, .int sd, .ref m11, .ref m12, .ref m13, .ref m14])), (m3, .inl (cI, 30, .inl pa)), (m4, .inl (cI, 30, .inl ct)), (m5, .inl (cI, 50, .inl mg)), (m6, .inl (cI, 10, .inl mm)), (m7, .inl (cI, 10, .inl mk)), (m9, .inl (cI, 6, .inl mt)), (m11, .inl (cI, 900, .inl g9_1)), (m12, .inl (cI, 900, .inl (upd g j 0))), (m13, .inl (cI, 6, .inl td)), (m14, .inl (cI, 6, .inl be))] from hD)
          refine lv_iinc (v := nI (j + 1)) (lv' := [(2, .int (nI (j + 1))), (3, .int 0), (0, .ref m0), (1, .int i1)]) hx hb dX4_layLikes_96 hl (k := 3) rfl (nI_1 _) (by decide) rfl (fun ls hl => ?_)
          refine lv_goto (tgt := 6) hx hb dX4_layLikes_99 (by decide) ?_
          exact ih6 _ _ _ ⟨(upd g j 0), (klol_s hI (by unfold klol; rw [if_neg (by rw [nB_0.mp c_49, Bool.and_false, Bool.false_and]; decide)])), hP, hD, hS, (lv_sub hl [2, 3, 0] rfl)⟩
        · skip
          refine lv_aload_n hx hb dX4_layLikes_52 rfl (lv_at hl 0 rfl) ?_
          refine lv_iload_n hx hb dX4_layLikes_53 rfl (lv_at hl 2 rfl) ?_
          refine lv_bipush (v := 30) hx hb dX4_layLikes_54 (by decide) ?_
          refine lv_irem hx hb dX4_layLikes_56 (by decide) ?_
          refine kx_top (show (nI j) - (nI j) / 30 * 30 = nI (j % 30) from pk_rem (d := 30) (by omega) (by decide) (by decide)) ?_
          refine kq_R (va_runV (As := [.int (nI (j % 30))]) (rest := []) ⟨hx, hb, hml, hown, hts⟩ (c_X4_canStand l D cI m0 m3 m4 m5 m6 m7 m9 m11 m12 m13 m14 th ma tr mw sd pa ct mg mm mk mt g9_1 g td be P wf nf (nI (j % 30)) (hp1) (hp2) (hwf) _) (cwV 1 hts gX4_layLikes_X4_canStand rfl rfl rfl (by decide +kernel) ⟨Nat.le_of_ble_eq_true rfl, Nat.le_of_ble_eq_true rfl⟩) (kp_RV (hP.sub (ws' := [(m0, .inr (4, [.int th, .int ma, .int tr, .ref m3, .ref m4, .ref m5, .ref m6, .ref m7, .int mw, .ref m9, .int sd, .ref m11, .ref m12, .ref m13, .ref m14])), (m3, .inl (cI, 30, .inl pa)), (m4, .inl (cI, 30, .inl ct)), (m5, .inl (cI, 50, .inl mg)), (m6, .inl (cI, 10, .inl mm)), (m7, .inl (cI, 10, .inl mk)), (m9, .inl (cI, 6, .inl mt)), (m11, .inl (cI, 900, .inl g9_1)), (m12, .inl (cI, 900, .inl g)), (m13, .inl (cI, 6, .inl td)), (m14, .inl (cI, 6, .inl be))]) [0, 1, 2, 3, 4, 5, 6, 7, 8, 9, 10] rfl) hK 0 4 rfl rfl) rfl rfl hl.1 rfl (lv_room (Nat.le_of_ble_eq_true rfl)) dX4_layLikes_57 ⟨Nat.zero_le _, Nat.zero_le _⟩) hP hS hA (fun r_57 H locs er_57 hP hS => ?_)
          subst er_57
          refine lv_if_eq (tgt := 67) hx hb dX4_layLikes_60 (by decide) (fun c_60 => ?_) (fun c_60 => ?_)
          · skip
            refine lv_iconst (v := 0) hx hb dX4_layLikes_67 (by decide) ?_
            refine lv_istore_n (lv' := [(3, .int 0), (0, .ref m0), (1, .int i1), (2, .int (nI j))]) hx hb dX4_layLikes_68 rfl hl (by decide) rfl (fun ls hl => ?_)
            refine lv_aload_n hx hb dX4_layLikes_69 rfl (lv_at hl 1 rfl) ?_
            refine va_get (D := D) (ci := 4) (v := .ref m12) (C := RX4) (T := TX4) (N := 15) hx hb hts (fun w h => List.mem_cons_of_mem _ (List.mem_append_right _ (h))) hown hK.1 hP 0 rfl rfl 12 (by decide) (hts (.fieldLink RX4 31 "SenseNetModel" "likes" "[I") (List.mem_of_getElem? (i := 2) rfl)) (fun _ h9 => h9) rfl dX4_layLikes_70 ?_
            refine lv_iload_n hx hb dX4_layLikes_73 rfl (lv_at hl 3 rfl) ?_
            refine lv_iload_n hx hb dX4_layLikes_74 rfl (lv_at hl 0 rfl) ?_
            refine lv_if_eq (tgt := 94) hx hb dX4_layLikes_75 (by decide) (fun _ => ?_) (fun hc => absurd (by decide) hc)
            refine lv_iconst (v := 0) hx hb dX4_layLikes_94 (by decide) ?_
            refine va_iast (q0 := 8) (t0 := 0) hx hb hK.1 hP hD hS rfl rfl (vp_in_nI (show j < 900 from hj) (by decide)) dX4_layLikes_95 (fun H locs hP hD hS => ?_)
            rw [show (nI j).toNatClampNeg = j from nI_clamp (Nat.lt_trans (show j < 900 from hj) (by decide))] at hP hD
            have hP : va_P D vwCl [(m0, .inr (4, [.int th, .int ma, .int tr, .ref m3, .ref m4, .ref m5, .ref m6, .ref m7, .int mw, .ref m9, .int sd, .ref m11, .ref m12, .ref m13, .ref m14])), (m3, .inl (cI, 30, .inl pa)), (m4, .inl (cI, 30, .inl ct)), (m5, .inl (cI, 50, .inl mg)), (m6, .inl (cI, 10, .inl mm)), (m7, .inl (cI, 10, .inl mk)), (m9, .inl (cI, 6, .inl mt)), (m11, .inl (cI, 900, .inl g9_1)), (m12, .inl (cI, 900, .inl (upd g j 0))), (m13, .inl (cI, 6, .inl td)), (m14, .inl (cI, 6, .inl be))] H := hP
            have hD := (show va_D _ [(m0, .inr (4, [.int th, .int ma, .int tr, .ref m3, .ref m4, .ref m5, .ref m6, .ref m7, .int mw, .ref m9, .int sd, .ref m11, .ref m12, .ref m13, .ref m14])), (m3, .inl (cI, 30, .inl pa)), (m4, .inl (cI, 30, .inl ct)), (m5, .inl (cI, 50, .inl mg)), (m6, .inl (cI, 10, .inl mm)), (m7, .inl (cI, 10, .inl mk)), (m9, .inl (cI, 6, .inl mt)), (m11, .inl (cI, 900, .inl g9_1)), (m12, .inl (cI, 900, .inl (upd g j 0))), (m13, .inl (cI, 6, .inl td)), (m14, .inl (cI, 6, .inl be))] from hD)
            refine lv_iinc (v := nI (j + 1)) (lv' := [(2, .int (nI (j + 1))), (3, .int 0), (0, .ref m0), (1, .int i1)]) hx hb dX4_layLikes_96 hl (k := 3) rfl (nI_1 _) (by decide) rfl (fun ls hl => ?_)
            refine lv_goto (tgt := 6) hx hb dX4_layLikes_99 (by decide) ?_
            exact ih6 _ _ _ ⟨(upd g j 0), (klol_s hI (by unfold klol; rw [if_neg (by rw [nB_0.mp c_60, Bool.and_false]; decide)])), hP, hD, hS, (lv_sub hl [2, 3, 0] rfl)⟩
          · skip
            refine lv_iconst (v := 1) hx hb dX4_layLikes_63 (by decide) ?_
            refine lv_goto (tgt := 68) hx hb dX4_layLikes_64 (by decide) ?_
            refine lv_istore_n (lv' := [(3, .int 1), (0, .ref m0), (1, .int i1), (2, .int (nI j))]) hx hb dX4_layLikes_68 rfl hl (by decide) rfl (fun ls hl => ?_)
            refine lv_aload_n hx hb dX4_layLikes_69 rfl (lv_at hl 1 rfl) ?_
            refine va_get (D := D) (ci := 4) (v := .ref m12) (C := RX4) (T := TX4) (N := 15) hx hb hts (fun w h => List.mem_cons_of_mem _ (List.mem_append_right _ (h))) hown hK.1 hP 0 rfl rfl 12 (by decide) (hts (.fieldLink RX4 31 "SenseNetModel" "likes" "[I") (List.mem_of_getElem? (i := 2) rfl)) (fun _ h9 => h9) rfl dX4_layLikes_70 ?_
            refine lv_iload_n hx hb dX4_layLikes_73 rfl (lv_at hl 3 rfl) ?_
            refine lv_iload_n hx hb dX4_layLikes_74 rfl (lv_at hl 0 rfl) ?_
            refine lv_if_eq (tgt := 94) hx hb dX4_layLikes_75 (by decide) (fun hc => absurd hc (by decide)) (fun _ => ?_)
            refine lv_aload_n hx hb dX4_layLikes_78 rfl (lv_at hl 1 rfl) ?_
            refine lv_iload_n hx hb dX4_layLikes_79 rfl (lv_at hl 3 rfl) ?_
            refine lv_bipush (v := 30) hx hb dX4_layLikes_80 (by decide) ?_
            refine lv_idiv hx hb dX4_layLikes_82 (by decide) ?_
            refine kx_top (show (nI j) / 30 = nI (j / 30) from pk_div (d := 30) (by omega) (by decide) (by decide)) ?_
            refine lv_iload_n hx hb dX4_layLikes_83 rfl (lv_at hl 3 rfl) ?_
            refine lv_bipush (v := 30) hx hb dX4_layLikes_84 (by decide) ?_
            refine lv_irem hx hb dX4_layLikes_86 (by decide) ?_
            refine kx_top (show (nI j) - (nI j) / 30 * 30 = nI (j % 30) from pk_rem (d := 30) (by omega) (by decide) (by decide)) ?_
            refine lv_iload_n hx hb dX4_layLikes_87 rfl (lv_at hl 2 rfl) ?_
            refine kq_R (va_runV (As := [.int (nI (j / 30)), .int (nI (j % 30)), .int i1]) (rest := [.int (nI j), .ref m12]) ⟨hx, hb, hml, hown, hts⟩ (c_X4_likenessOf l D cI m0 m3 m4 m5 m6 m7 m9 m11 m12 m13 m14 th ma tr mw sd pa ct mg mm mk mt g9_1 g td be (j / 30) (j % 30) i1 (by omega) (by omega) ((hdv _ er_1 (j / 30) (j % 30) (by omega) (by omega) (nB_n0.mp c_24) (nB_n0.mp c_38)).1) ((hdv _ er_1 (j / 30) (j % 30) (by omega) (by omega) (nB_n0.mp c_24) (nB_n0.mp c_38)).2) _) (cwV 3 hts gX4_layLikes_X4_likenessOf rfl rfl rfl (by decide +kernel) ⟨Nat.le_of_ble_eq_true rfl, Nat.le_of_ble_eq_true rfl⟩) (kp_RV (hP.sub (ws' := [(m0, .inr (4, [.int th, .int ma, .int tr, .ref m3, .ref m4, .ref m5, .ref m6, .ref m7, .int mw, .ref m9, .int sd, .ref m11, .ref m12, .ref m13, .ref m14])), (m3, .inl (cI, 30, .inl pa)), (m4, .inl (cI, 30, .inl ct)), (m5, .inl (cI, 50, .inl mg)), (m6, .inl (cI, 10, .inl mm)), (m7, .inl (cI, 10, .inl mk)), (m9, .inl (cI, 6, .inl mt)), (m11, .inl (cI, 900, .inl g9_1)), (m12, .inl (cI, 900, .inl g)), (m13, .inl (cI, 6, .inl td)), (m14, .inl (cI, 6, .inl be))]) [0, 1, 2, 3, 4, 5, 6, 7, 8, 9, 10] rfl) hK 0 4 rfl rfl) rfl rfl hl.1 rfl (lv_room (Nat.le_of_ble_eq_true rfl)) dX4_layLikes_88 ⟨Nat.zero_le _, Nat.zero_le _⟩) hP hS hA (fun r_88 H locs er_88 hP hS => ?_)
            subst er_88
            refine lv_goto (tgt := 95) hx hb dX4_layLikes_91 (by decide) ?_
            refine va_iast (q0 := 8) (t0 := 0) hx hb hK.1 hP hD hS rfl rfl (vp_in_nI (show j < 900 from hj) (by decide)) dX4_layLikes_95 (fun H locs hP hD hS => ?_)
            rw [show (nI j).toNatClampNeg = j from nI_clamp (Nat.lt_trans (show j < 900 from hj) (by decide))] at hP hD
            have hP : va_P D vwCl [(m0, .inr (4, [.int th, .int ma, .int tr, .ref m3, .ref m4, .ref m5, .ref m6, .ref m7, .int mw, .ref m9, .int sd, .ref m11, .ref m12, .ref m13, .ref m14])), (m3, .inl (cI, 30, .inl pa)), (m4, .inl (cI, 30, .inl ct)), (m5, .inl (cI, 50, .inl mg)), (m6, .inl (cI, 10, .inl mm)), (m7, .inl (cI, 10, .inl mk)), (m9, .inl (cI, 6, .inl mt)), (m11, .inl (cI, 900, .inl g9_1)), (m12, .inl (cI, 900, .inl (upd g j (klik tr pa g9_1 ct (j / 30) (j % 30) i1)))), (m13, .inl (cI, 6, .inl td)), (m14, .inl (cI, 6, .inl be))] H := hP
            have hD := (show va_D _ [(m0, .inr (4, [.int th, .int ma, .int tr, .ref m3, .ref m4, .ref m5, .ref m6, .ref m7, .int mw, .ref m9, .int sd, .ref m11, .ref m12, .ref m13, .ref m14])), (m3, .inl (cI, 30, .inl pa)), (m4, .inl (cI, 30, .inl ct)), (m5, .inl (cI, 50, .inl mg)), (m6, .inl (cI, 10, .inl mm)), (m7, .inl (cI, 10, .inl mk)), (m9, .inl (cI, 6, .inl mt)), (m11, .inl (cI, 900, .inl g9_1)), (m12, .inl (cI, 900, .inl (upd g j (klik tr pa g9_1 ct (j / 30) (j % 30) i1)))), (m13, .inl (cI, 6, .inl td)), (m14, .inl (cI, 6, .inl be))] from hD)
            refine lv_iinc (v := nI (j + 1)) (lv' := [(2, .int (nI (j + 1))), (3, .int 1), (0, .ref m0), (1, .int i1)]) hx hb dX4_layLikes_96 hl (k := 3) rfl (nI_1 _) (by decide) rfl (fun ls hl => ?_)
            refine lv_goto (tgt := 6) hx hb dX4_layLikes_99 (by decide) ?_
            exact ih6 _ _ _ ⟨(upd g j (klik tr pa g9_1 ct (j / 30) (j % 30) i1)), (klol_s hI (by unfold klol; rw [if_pos (by rw [nB_n0.mp c_24, nB_n0.mp c_38, nB_n0.mp c_49, nB_n0.mp c_60]; rfl)])), hP, hD, hS, (lv_sub hl [2, 3, 0] rfl)⟩
  · skip
    intro H locs ls hJ
    obtain ⟨g, hI, hP, hD, hS, hl⟩ := hJ
    refine lv_iload_n hx hb dX4_layLikes_6 rfl (lv_at hl 2 rfl) ?_
    refine lv_sipush (v := 900) hx hb dX4_layLikes_7 (by decide) ?_
    refine lv_icmp_ge (tgt := 102) hx hb dX4_layLikes_10 (by decide) (fun _ => ?_) (fun hc => absurd (nI_le (a := 900) (b := 900) (Nat.le_refl _) (by decide)) hc)
    exact ke_V hx hb hr hlocks ((g9_1, g)) hP hD hS dX4_layLikes_102 (⟨er_1, hI⟩)
set_option maxHeartbeats 4000000 in
set_option maxRecDepth 100000 in
theorem c_X4_goOn (l : Launch) (D : va_G) (cI : ClassId) (m0 m3 m4 m5 m6 m7 m9 m11 m12 m13 m14 : Nat) (th : Int32) (ma : Int32) (tr : Int32) (mw : Int32) (sd : Int32) (pa : Nat → Int32) (ct : Nat → Int32) (mg : Nat → Int32) (mm : Nat → Int32) (mk : Nat → Int32) (mt : Nat → Int32) (up : Nat → Int32) (li : Nat → Int32) (td : Nat → Int32) (be : Nat → Int32) (P : Nat) (wf : Nat → Nat) (nf : Nat → Nat) (on : Nat → Nat) (t0 : Nat → Nat) (hp1 : sd = nI P) (hp2 : P ≤ 6) (hwf : ∀ k, k < P → mt k = nI (wf k) ∧ wf k < 10 ∧ mm (wf k) = nI (nf (wf k)) ∧ nf (wf k) ≤ 5) (hon : ∀ k, k < P → kopm mm mk (wf k) = nI (on k)) (ho : kOn P on) (ht : kRt P td t0) (hv : kVal P on t0) : kc_W l yX4_goOn wsX4_goOn 1 21 D cI [.ref m0] [(m0, .inr (4, [.int th, .int ma, .int tr, .ref m3, .ref m4, .ref m5, .ref m6, .ref m7, .int mw, .ref m9, .int sd, .ref m11, .ref m12, .ref m13, .ref m14])), (m3, .inl (cI, 30, .inl pa)), (m4, .inl (cI, 30, .inl ct)), (m5, .inl (cI, 50, .inl mg)), (m6, .inl (cI, 10, .inl mm)), (m7, .inl (cI, 10, .inl mk)), (m9, .inl (cI, 6, .inl mt)), (m11, .inl (cI, 900, .inl up)), (m12, .inl (cI, 900, .inl li)), (m13, .inl (cI, 6, .inl td)), (m14, .inl (cI, 6, .inl be))] (fun (r : Int32) (u : (Nat → Int32)) => r = nB (kgo on P t0).1 ∧ kRt P u (kgo on P t0).2) (fun u => [(m0, .inr (4, [.int th, .int ma, .int tr, .ref m3, .ref m4, .ref m5, .ref m6, .ref m7, .int mw, .ref m9, .int sd, .ref m11, .ref m12, .ref m13, .ref m14])), (m3, .inl (cI, 30, .inl pa)), (m4, .inl (cI, 30, .inl ct)), (m5, .inl (cI, 50, .inl mg)), (m6, .inl (cI, 10, .inl mm)), (m7, .inl (cI, 10, .inl mk)), (m9, .inl (cI, 6, .inl mt)), (m11, .inl (cI, 900, .inl up)), (m12, .inl (cI, 900, .inl li)), (m13, .inl (cI, 6, .inl u)), (m14, .inl (cI, 6, .inl be))]) := by
  refine ks_W (cc := cX4_goOn) (nL := 2) (ret := (some .boolean)) (by decide) rfl (Nat.le_of_ble_eq_true rfl) ?_
  intro p e s m below meth c ls hF hP hK hS hA hD hl
  obtain ⟨hx, hb, hr, hml, hown, hts, hlocks⟩ := hF
  have hown : s.vm.findClass RX4 = some m.cls := hown
  have hl : lv_has ls 2 [(0, .ref m0)] := hl
  refine lv_aload_n hx hb dX4_goOn_0 rfl (lv_at hl 0 rfl) ?_
  refine va_get (D := D) (ci := 4) (v := .int sd) (C := RX4) (T := TX4) (N := 15) hx hb hts (fun w h => List.mem_cons_of_mem _ (List.mem_append_right _ (h))) hown hK.1 hP 0 rfl rfl 10 (by decide) (hts (.fieldLink RX4 91 "SenseNetModel" "said" "I") (List.mem_of_getElem? (i := 1) rfl)) (fun _ h9 => h9) rfl dX4_goOn_1 ?_
  refine lv_iconst (v := 1) hx hb dX4_goOn_4 (by decide) ?_
  refine lv_isub hx hb dX4_goOn_5 ?_
  refine kx_top (show sd - 1 = nI P - 1 from by rw [hp1]) ?_
  refine lv_istore_n (lv' := [(1, .int (nI P - 1)), (0, .ref m0)]) hx hb dX4_goOn_6 rfl hl (by decide) rfl (fun ls hl => ?_)
  refine kl_while (head := 7) (fun (x : Nat) (H : Heap) (locs : List Loc) (ls : Array Slot) => ∃ (g : Nat → Int32), (kGI P on g (kgo on P t0) x) ∧ va_P D vwCl [(m0, .inr (4, [.int th, .int ma, .int tr, .ref m3, .ref m4, .ref m5, .ref m6, .ref m7, .int mw, .ref m9, .int sd, .ref m11, .ref m12, .ref m13, .ref m14])), (m3, .inl (cI, 30, .inl pa)), (m4, .inl (cI, 30, .inl ct)), (m5, .inl (cI, 50, .inl mg)), (m6, .inl (cI, 10, .inl mm)), (m7, .inl (cI, 10, .inl mk)), (m9, .inl (cI, 6, .inl mt)), (m11, .inl (cI, 900, .inl up)), (m12, .inl (cI, 900, .inl li)), (m13, .inl (cI, 6, .inl g)), (m14, .inl (cI, 6, .inl be))] H ∧ va_D (va_A [(m0, .inr (4, [.int th, .int ma, .int tr, .ref m3, .ref m4, .ref m5, .ref m6, .ref m7, .int mw, .ref m9, .int sd, .ref m11, .ref m12, .ref m13, .ref m14])), (m3, .inl (cI, 30, .inl pa)), (m4, .inl (cI, 30, .inl ct)), (m5, .inl (cI, 50, .inl mg)), (m6, .inl (cI, 10, .inl mm)), (m7, .inl (cI, 10, .inl mk)), (m9, .inl (cI, 6, .inl mt)), (m11, .inl (cI, 900, .inl up)), (m12, .inl (cI, 900, .inl li)), (m13, .inl (cI, 6, .inl td)), (m14, .inl (cI, 6, .inl be))] s.heap.size) [(m0, .inr (4, [.int th, .int ma, .int tr, .ref m3, .ref m4, .ref m5, .ref m6, .ref m7, .int mw, .ref m9, .int sd, .ref m11, .ref m12, .ref m13, .ref m14])), (m3, .inl (cI, 30, .inl pa)), (m4, .inl (cI, 30, .inl ct)), (m5, .inl (cI, 50, .inl mg)), (m6, .inl (cI, 10, .inl mm)), (m7, .inl (cI, 10, .inl mk)), (m9, .inl (cI, 6, .inl mt)), (m11, .inl (cI, 900, .inl up)), (m12, .inl (cI, 900, .inl li)), (m13, .inl (cI, 6, .inl g)), (m14, .inl (cI, 6, .inl be))] ∧ va_S (va_A [(m0, .inr (4, [.int th, .int ma, .int tr, .ref m3, .ref m4, .ref m5, .ref m6, .ref m7, .int mw, .ref m9, .int sd, .ref m11, .ref m12, .ref m13, .ref m14])), (m3, .inl (cI, 30, .inl pa)), (m4, .inl (cI, 30, .inl ct)), (m5, .inl (cI, 50, .inl mg)), (m6, .inl (cI, 10, .inl mm)), (m7, .inl (cI, 10, .inl mk)), (m9, .inl (cI, 6, .inl mt)), (m11, .inl (cI, 900, .inl up)), (m12, .inl (cI, 900, .inl li)), (m13, .inl (cI, 6, .inl td)), (m14, .inl (cI, 6, .inl be))] s.heap.size) s.heap H locs ∧ lv_has ls 2 [(0, .ref m0), (1, .int (nI x - 1))]) (fun x => x) ?_ (P) ⟨td, (⟨Nat.le_refl P, t0, ht, hv, rfl⟩), hP, hD, hS, (lv_sub hl [1, 0] rfl)⟩
  · skip
    intro x H locs ls hJ ih7
    obtain ⟨g, hI, hP, hD, hS, hl⟩ := hJ
    refine lv_iload_n hx hb dX4_goOn_7 rfl (lv_at hl 1 rfl) ?_
    refine lv_if_lt (tgt := 40) hx hb dX4_goOn_8 (by decide) (fun c_8 => ?_) (fun c_8 => ?_)
    · skip
      refine lv_iload_n hx hb dX4_goOn_40 rfl (lv_at hl 1 rfl) ?_
      refine lv_if_lt (tgt := 54) hx hb dX4_goOn_41 (by decide) (fun _ => ?_) (fun hc => absurd (c_8) hc)
      refine lv_iload_n hx hb dX4_goOn_54 rfl (lv_at hl 1 rfl) ?_
      refine lv_if_lt (tgt := 62) hx hb dX4_goOn_55 (by decide) (fun _ => ?_) (fun hc => absurd (c_8) hc)
      refine lv_iconst (v := 0) hx hb dX4_goOn_62 (by decide) ?_
      exact ke_WZ hx hb hr hlocks (g) hP hD hS dX4_goOn_63 (false) (rfl) (⟨by rw [(kGI_e hI hp2 c_8).1], (kGI_e hI hp2 c_8).2⟩)
    · skip
      obtain ⟨p1, t, rfl, hp3, hR, hV, hG⟩ := kGI_o hI hp2 c_8
      refine lv_aload_n hx hb dX4_goOn_11 rfl (lv_at hl 0 rfl) ?_
      refine va_get (D := D) (ci := 4) (v := .ref m13) (C := RX4) (T := TX4) (N := 15) hx hb hts (fun w h => List.mem_cons_of_mem _ (List.mem_append_right _ (h))) hown hK.1 hP 0 rfl rfl 13 (by decide) (hts (.fieldLink RX4 34 "SenseNetModel" "tried" "[I") (List.mem_of_getElem? (i := 2) rfl)) (fun _ h9 => h9) rfl dX4_goOn_12 ?_
      refine lv_iload_n hx hb dX4_goOn_15 rfl (lv_at hl 1 rfl) ?_
      refine kx_top (show nI (p1 + 1) - 1 = nI p1 from nI_pred p1) ?_
      refine va_iald (q0 := 9) (t0 := 0) hx hb hK.1 hP rfl rfl (vp_in_nI (show p1 < 6 from by omega) (by decide)) dX4_goOn_16 ?_
      refine kx_top (show g (nI p1).toNatClampNeg = g p1 from congrArg g (nI_clamp (Nat.lt_trans (show p1 < 6 from by omega) (by decide)))) ?_
      refine kx_top (show g p1 = nI (t p1) from hR p1 hp3) ?_
      refine lv_aload_n hx hb dX4_goOn_17 rfl (lv_at hl 0 rfl) ?_
      refine lv_iload_n hx hb dX4_goOn_18 rfl (lv_at hl 1 rfl) ?_
      refine kx_top (show nI (p1 + 1) - 1 = nI p1 from nI_pred p1) ?_
      refine kq_R (va_runV (As := [.int (nI p1)]) (rest := [.int (nI (t p1))]) ⟨hx, hb, hml, hown, hts⟩ (c_X4_optionsAt l D cI m0 m3 m4 m5 m6 m7 m9 m11 m12 m13 m14 th ma tr mw sd pa ct mg mm mk mt up li g be (wf p1) p1 (by omega) ((hwf p1 hp3).1) ((hwf p1 hp3).2.1) _) (cwV 1 hts gX4_goOn_X4_optionsAt rfl rfl rfl (by decide +kernel) ⟨Nat.le_of_ble_eq_true rfl, Nat.le_of_ble_eq_true rfl⟩) (kp_RV (hP.sub (ws' := [(m0, .inr (4, [.int th, .int ma, .int tr, .ref m3, .ref m4, .ref m5, .ref m6, .ref m7, .int mw, .ref m9, .int sd, .ref m11, .ref m12, .ref m13, .ref m14])), (m3, .inl (cI, 30, .inl pa)), (m4, .inl (cI, 30, .inl ct)), (m5, .inl (cI, 50, .inl mg)), (m6, .inl (cI, 10, .inl mm)), (m7, .inl (cI, 10, .inl mk)), (m9, .inl (cI, 6, .inl mt)), (m11, .inl (cI, 900, .inl up)), (m12, .inl (cI, 900, .inl li)), (m13, .inl (cI, 6, .inl g)), (m14, .inl (cI, 6, .inl be))]) [0, 1, 2, 3, 4, 5, 6, 7, 8, 9, 10] rfl) hK 0 4 rfl rfl) rfl rfl hl.1 rfl (lv_room (Nat.le_of_ble_eq_true rfl)) dX4_goOn_19 ⟨Nat.zero_le _, Nat.zero_le _⟩) hP hS hA (fun r_19 H locs er_19 hP hS => ?_)
      subst er_19
      refine kx_top (show kopm mm mk (wf p1) = nI (on p1) from hon p1 hp3) ?_
      refine lv_iconst (v := 1) hx hb dX4_goOn_22 (by decide) ?_
      refine lv_isub hx hb dX4_goOn_23 ?_
      refine lv_icmp_ne (tgt := 40) hx hb dX4_goOn_24 (by decide) (fun c_24 => ?_) (fun c_24 => ?_)
      · skip
        refine lv_iload_n hx hb dX4_goOn_40 rfl (lv_at hl 1 rfl) ?_
        refine lv_if_lt (tgt := 54) hx hb dX4_goOn_41 (by decide) (fun hc => absurd hc (c_8)) (fun _ => ?_)
        refine lv_aload_n hx hb dX4_goOn_44 rfl (lv_at hl 0 rfl) ?_
        refine va_get (D := D) (ci := 4) (v := .ref m13) (C := RX4) (T := TX4) (N := 15) hx hb hts (fun w h => List.mem_cons_of_mem _ (List.mem_append_right _ (h))) hown hK.1 hP 0 rfl rfl 13 (by decide) (hts (.fieldLink RX4 34 "SenseNetModel" "tried" "[I") (List.mem_of_getElem? (i := 2) rfl)) (fun _ h9 => h9) rfl dX4_goOn_45 ?_
        refine lv_iload_n hx hb dX4_goOn_48 rfl (lv_at hl 1 rfl) ?_
        refine kx_top (show nI (p1 + 1) - 1 = nI p1 from nI_pred p1) ?_
        refine lv_dup2_11 hx hb dX4_goOn_49 rfl rfl ?_
        refine va_iald (q0 := 9) (t0 := 0) hx hb hK.1 hP rfl rfl (vp_in_nI (show p1 < 6 from by omega) (by decide)) dX4_goOn_50 ?_
        refine kx_top (show g (nI p1).toNatClampNeg = g p1 from congrArg g (nI_clamp (Nat.lt_trans (show p1 < 6 from by omega) (by decide)))) ?_
        refine kx_top (show g p1 = nI (t p1) from hR p1 hp3) ?_
        refine lv_iconst (v := 1) hx hb dX4_goOn_51 (by decide) ?_
        refine lv_iadd hx hb dX4_goOn_52 ?_
        refine kx_top (show (nI (t p1)) + 1 = nI (t p1 + 1) from nI_1 _) ?_
        refine va_iast (q0 := 9) (t0 := 0) hx hb hK.1 hP hD hS rfl rfl (vp_in_nI (show p1 < 6 from by omega) (by decide)) dX4_goOn_53 (fun H locs hP hD hS => ?_)
        rw [show (nI p1).toNatClampNeg = p1 from nI_clamp (Nat.lt_trans (show p1 < 6 from by omega) (by decide))] at hP hD
        have hP : va_P D vwCl [(m0, .inr (4, [.int th, .int ma, .int tr, .ref m3, .ref m4, .ref m5, .ref m6, .ref m7, .int mw, .ref m9, .int sd, .ref m11, .ref m12, .ref m13, .ref m14])), (m3, .inl (cI, 30, .inl pa)), (m4, .inl (cI, 30, .inl ct)), (m5, .inl (cI, 50, .inl mg)), (m6, .inl (cI, 10, .inl mm)), (m7, .inl (cI, 10, .inl mk)), (m9, .inl (cI, 6, .inl mt)), (m11, .inl (cI, 900, .inl up)), (m12, .inl (cI, 900, .inl li)), (m13, .inl (cI, 6, .inl (upd g p1 (nI (t p1 + 1))))), (m14, .inl (cI, 6, .inl be))] H := hP
        have hD := (show va_D _ [(m0, .inr (4, [.int th, .int ma, .int tr, .ref m3, .ref m4, .ref m5, .ref m6, .ref m7, .int mw, .ref m9, .int sd, .ref m11, .ref m12, .ref m13, .ref m14])), (m3, .inl (cI, 30, .inl pa)), (m4, .inl (cI, 30, .inl ct)), (m5, .inl (cI, 50, .inl mg)), (m6, .inl (cI, 10, .inl mm)), (m7, .inl (cI, 10, .inl mk)), (m9, .inl (cI, 6, .inl mt)), (m11, .inl (cI, 900, .inl up)), (m12, .inl (cI, 900, .inl li)), (m13, .inl (cI, 6, .inl (upd g p1 (nI (t p1 + 1))))), (m14, .inl (cI, 6, .inl be))] from hD)
        refine lv_iload_n hx hb dX4_goOn_54 rfl (lv_at hl 1 rfl) ?_
        refine lv_if_lt (tgt := 62) hx hb dX4_goOn_55 (by decide) (fun hc => absurd hc (c_8)) (fun _ => ?_)
        refine lv_iconst (v := 1) hx hb dX4_goOn_58 (by decide) ?_
        refine lv_goto (tgt := 63) hx hb dX4_goOn_59 (by decide) ?_
        exact ke_WZ hx hb hr hlocks (upd g p1 (nI (t p1 + 1))) hP hD hS dX4_goOn_63 (true) (rfl) (⟨by rw [(kGI_d hp3 ho hR hV hG c_24).1], (kGI_d hp3 ho hR hV hG c_24).2⟩)
      · skip
        refine lv_aload_n hx hb dX4_goOn_27 rfl (lv_at hl 0 rfl) ?_
        refine va_get (D := D) (ci := 4) (v := .ref m13) (C := RX4) (T := TX4) (N := 15) hx hb hts (fun w h => List.mem_cons_of_mem _ (List.mem_append_right _ (h))) hown hK.1 hP 0 rfl rfl 13 (by decide) (hts (.fieldLink RX4 34 "SenseNetModel" "tried" "[I") (List.mem_of_getElem? (i := 2) rfl)) (fun _ h9 => h9) rfl dX4_goOn_28 ?_
        refine lv_iload_n hx hb dX4_goOn_31 rfl (lv_at hl 1 rfl) ?_
        refine kx_top (show nI (p1 + 1) - 1 = nI p1 from nI_pred p1) ?_
        refine lv_iconst (v := 0) hx hb dX4_goOn_32 (by decide) ?_
        refine va_iast (q0 := 9) (t0 := 0) hx hb hK.1 hP hD hS rfl rfl (vp_in_nI (show p1 < 6 from by omega) (by decide)) dX4_goOn_33 (fun H locs hP hD hS => ?_)
        rw [show (nI p1).toNatClampNeg = p1 from nI_clamp (Nat.lt_trans (show p1 < 6 from by omega) (by decide))] at hP hD
        have hP : va_P D vwCl [(m0, .inr (4, [.int th, .int ma, .int tr, .ref m3, .ref m4, .ref m5, .ref m6, .ref m7, .int mw, .ref m9, .int sd, .ref m11, .ref m12, .ref m13, .ref m14])), (m3, .inl (cI, 30, .inl pa)), (m4, .inl (cI, 30, .inl ct)), (m5, .inl (cI, 50, .inl mg)), (m6, .inl (cI, 10, .inl mm)), (m7, .inl (cI, 10, .inl mk)), (m9, .inl (cI, 6, .inl mt)), (m11, .inl (cI, 900, .inl up)), (m12, .inl (cI, 900, .inl li)), (m13, .inl (cI, 6, .inl (upd g p1 0))), (m14, .inl (cI, 6, .inl be))] H := hP
        have hD := (show va_D _ [(m0, .inr (4, [.int th, .int ma, .int tr, .ref m3, .ref m4, .ref m5, .ref m6, .ref m7, .int mw, .ref m9, .int sd, .ref m11, .ref m12, .ref m13, .ref m14])), (m3, .inl (cI, 30, .inl pa)), (m4, .inl (cI, 30, .inl ct)), (m5, .inl (cI, 50, .inl mg)), (m6, .inl (cI, 10, .inl mm)), (m7, .inl (cI, 10, .inl mk)), (m9, .inl (cI, 6, .inl mt)), (m11, .inl (cI, 900, .inl up)), (m12, .inl (cI, 900, .inl li)), (m13, .inl (cI, 6, .inl (upd g p1 0))), (m14, .inl (cI, 6, .inl be))] from hD)
        refine lv_iinc (v := nI p1 - 1) (lv' := [(1, .int (nI p1 - 1)), (0, .ref m0)]) hx hb dX4_goOn_34 hl (k := 1) rfl (kx_m1 p1) (by decide) rfl (fun ls hl => ?_)
        refine lv_goto (tgt := 7) hx hb dX4_goOn_37 (by decide) ?_
        exact ih7 (p1) _ _ _ (Nat.lt_succ_self p1) ⟨(upd g p1 0), (kGI_s hp3 ho hR hV hG c_24), hP, hD, hS, (lv_sub hl [1, 0] rfl)⟩
set_option maxHeartbeats 4000000 in
set_option maxRecDepth 100000 in
theorem c_X4_worth (l : Launch) (D : va_G) (cI : ClassId) (m0 m3 m4 m5 m6 m7 m9 m11 m12 m13 m14 : Nat) (th : Int32) (ma : Int32) (tr : Int32) (mw : Int32) (sd : Int32) (pa : Nat → Int32) (ct : Nat → Int32) (mg : Nat → Int32) (mm : Nat → Int32) (mk : Nat → Int32) (mt : Nat → Int32) (up : Nat → Int32) (li : Nat → Int32) (td : Nat → Int32) (be : Nat → Int32) (P : Nat) (wf : Nat → Nat) (nf : Nat → Nat) (t0 : Nat → Nat) (sf : Nat → Nat) (hp1 : sd = nI P) (hp2 : P ≤ 6) (hwf : ∀ k, k < P → mt k = nI (wf k) ∧ wf k < 10 ∧ mm (wf k) = nI (nf (wf k)) ∧ nf (wf k) ≤ 5) (ht : kRt P td t0) (ht5 : ∀ k, k < P → t0 k < 5 ∧ ksem mg mk (wf k) (t0 k) = nI (sf k) ∧ sf k < 30) : kc_R l yX4_worth wsX4_worth 1 23 D cI [.ref m0] [(m0, .inr (4, [.int th, .int ma, .int tr, .ref m3, .ref m4, .ref m5, .ref m6, .ref m7, .int mw, .ref m9, .int sd, .ref m11, .ref m12, .ref m13, .ref m14])), (m3, .inl (cI, 30, .inl pa)), (m4, .inl (cI, 30, .inl ct)), (m5, .inl (cI, 50, .inl mg)), (m6, .inl (cI, 10, .inl mm)), (m7, .inl (cI, 10, .inl mk)), (m9, .inl (cI, 6, .inl mt)), (m11, .inl (cI, 900, .inl up)), (m12, .inl (cI, 900, .inl li)), (m13, .inl (cI, 6, .inl td)), (m14, .inl (cI, 6, .inl be))] (fun r => r = kwr li sf P) := by
  refine ks_R (cc := cX4_worth) (nL := 4) (ret := (some .int)) (by decide) rfl (Nat.le_of_ble_eq_true rfl) ?_
  intro p e s m below meth c ls hF hP hK hS hA hl
  obtain ⟨hx, hb, hr, hml, hown, hts, hlocks⟩ := hF
  have hown : s.vm.findClass RX4 = some m.cls := hown
  have hl : lv_has ls 4 [(0, .ref m0)] := hl
  refine lv_iconst (v := 0) hx hb dX4_worth_0 (by decide) ?_
  refine lv_istore_n (lv' := [(1, .int 0), (0, .ref m0)]) hx hb dX4_worth_1 rfl hl (by decide) rfl (fun ls hl => ?_)
  refine lv_iconst (v := 0) hx hb dX4_worth_2 (by decide) ?_
  refine lv_istore_n (lv' := [(2, .int 0), (1, .int 0), (0, .ref m0)]) hx hb dX4_worth_3 rfl hl (by decide) rfl (fun ls hl => ?_)
  refine kl_for (head := 4) (N := P) (fun (j : Nat) (H : Heap) (locs : List Loc) (ls : Array Slot) => ∃ (y : Int32), (y = kwr li sf j) ∧ va_P D vwCl [(m0, .inr (4, [.int th, .int ma, .int tr, .ref m3, .ref m4, .ref m5, .ref m6, .ref m7, .int mw, .ref m9, .int sd, .ref m11, .ref m12, .ref m13, .ref m14])), (m3, .inl (cI, 30, .inl pa)), (m4, .inl (cI, 30, .inl ct)), (m5, .inl (cI, 50, .inl mg)), (m6, .inl (cI, 10, .inl mm)), (m7, .inl (cI, 10, .inl mk)), (m9, .inl (cI, 6, .inl mt)), (m11, .inl (cI, 900, .inl up)), (m12, .inl (cI, 900, .inl li)), (m13, .inl (cI, 6, .inl td)), (m14, .inl (cI, 6, .inl be))] H ∧ va_S (va_A [] s.heap.size) s.heap H locs ∧ lv_has ls 4 [(0, .ref m0), (1, .int y), (2, .int (nI j))]) 0 (Nat.zero_le _) ?_ ?_ ⟨0, (rfl), hP, hS, (lv_sub hl [2, 1, 0] rfl)⟩
  · skip
    intro j hj H locs ls hJ ih4
    obtain ⟨y, hI, hP, hS, hl⟩ := hJ
    refine lv_iload_n hx hb dX4_worth_4 rfl (lv_at hl 2 rfl) ?_
    refine lv_aload_n hx hb dX4_worth_5 rfl (lv_at hl 0 rfl) ?_
    refine va_get (D := D) (ci := 4) (v := .int sd) (C := RX4) (T := TX4) (N := 15) hx hb hts (fun w h => List.mem_cons_of_mem _ (List.mem_append_right _ (h))) hown hK.1 hP 0 rfl rfl 10 (by decide) (hts (.fieldLink RX4 91 "SenseNetModel" "said" "I") (List.mem_of_getElem? (i := 1) rfl)) (fun _ h9 => h9) rfl dX4_worth_6 ?_
    refine lv_icmp_ge (tgt := 65) hx hb dX4_worth_9 (by decide) (fun hc => absurd hc (by rw [hp1]; exact nI_ge (b := P) hj (by omega))) (fun _ => ?_)
    refine lv_iconst (v := 0) hx hb dX4_worth_12 (by decide) ?_
    refine lv_istore_n (lv' := [(3, .int 0), (0, .ref m0), (1, .int y), (2, .int (nI j))]) hx hb dX4_worth_13 rfl hl (by decide) rfl (fun ls hl => ?_)
    refine kl_for (head := 14) (N := j) (fun (k : Nat) (H : Heap) (locs : List Loc) (ls : Array Slot) => ∃ (y2 : Int32), (y2 = kwi li sf j k y) ∧ va_P D vwCl [(m0, .inr (4, [.int th, .int ma, .int tr, .ref m3, .ref m4, .ref m5, .ref m6, .ref m7, .int mw, .ref m9, .int sd, .ref m11, .ref m12, .ref m13, .ref m14])), (m3, .inl (cI, 30, .inl pa)), (m4, .inl (cI, 30, .inl ct)), (m5, .inl (cI, 50, .inl mg)), (m6, .inl (cI, 10, .inl mm)), (m7, .inl (cI, 10, .inl mk)), (m9, .inl (cI, 6, .inl mt)), (m11, .inl (cI, 900, .inl up)), (m12, .inl (cI, 900, .inl li)), (m13, .inl (cI, 6, .inl td)), (m14, .inl (cI, 6, .inl be))] H ∧ va_S (va_A [] s.heap.size) s.heap H locs ∧ lv_has ls 4 [(0, .ref m0), (1, .int y2), (2, .int (nI j)), (3, .int (nI k))]) 0 (Nat.zero_le _) ?_ ?_ ⟨y, (rfl), hP, hS, (lv_sub hl [1, 2, 3, 0] rfl)⟩
    · skip
      intro k hk H locs ls hJ ih14
      obtain ⟨y2, hI14, hP, hS, hl⟩ := hJ
      refine lv_iload_n hx hb dX4_worth_14 rfl (lv_at hl 3 rfl) ?_
      refine lv_iload_n hx hb dX4_worth_15 rfl (lv_at hl 2 rfl) ?_
      refine lv_icmp_ge (tgt := 59) hx hb dX4_worth_16 (by decide) (fun hc => absurd hc (nI_ge (b := j) hk (by omega))) (fun _ => ?_)
      refine lv_iload_n hx hb dX4_worth_19 rfl (lv_at hl 1 rfl) ?_
      refine lv_aload_n hx hb dX4_worth_20 rfl (lv_at hl 0 rfl) ?_
      refine va_get (D := D) (ci := 4) (v := .ref m12) (C := RX4) (T := TX4) (N := 15) hx hb hts (fun w h => List.mem_cons_of_mem _ (List.mem_append_right _ (h))) hown hK.1 hP 0 rfl rfl 12 (by decide) (hts (.fieldLink RX4 31 "SenseNetModel" "likes" "[I") (List.mem_of_getElem? (i := 2) rfl)) (fun _ h9 => h9) rfl dX4_worth_21 ?_
      refine lv_bipush (v := 30) hx hb dX4_worth_24 (by decide) ?_
      refine lv_aload_n hx hb dX4_worth_26 rfl (lv_at hl 0 rfl) ?_
      refine lv_iload_n hx hb dX4_worth_27 rfl (lv_at hl 3 rfl) ?_
      refine lv_aload_n hx hb dX4_worth_28 rfl (lv_at hl 0 rfl) ?_
      refine va_get (D := D) (ci := 4) (v := .ref m13) (C := RX4) (T := TX4) (N := 15) hx hb hts (fun w h => List.mem_cons_of_mem _ (List.mem_append_right _ (h))) hown hK.1 hP 0 rfl rfl 13 (by decide) (hts (.fieldLink RX4 34 "SenseNetModel" "tried" "[I") (List.mem_of_getElem? (i := 3) rfl)) (fun _ h9 => h9) rfl dX4_worth_29 ?_
      refine lv_iload_n hx hb dX4_worth_32 rfl (lv_at hl 3 rfl) ?_
      refine va_iald (q0 := 9) (t0 := 0) hx hb hK.1 hP rfl rfl (vp_in_nI (show k < 6 from by omega) (by decide)) dX4_worth_33 ?_
      refine kx_top (show td (nI k).toNatClampNeg = td k from congrArg td (nI_clamp (Nat.lt_trans (show k < 6 from by omega) (by decide)))) ?_
      refine kx_top (show td k = nI (t0 k) from ht k (by omega)) ?_
      refine kq_R (va_runV (As := [.int (nI k), .int (nI (t0 k))]) (rest := [.int 30, .ref m12, .int y2]) ⟨hx, hb, hml, hown, hts⟩ (c_X4_senseAt l D cI m0 m3 m4 m5 m6 m7 m9 m11 m12 m13 m14 th ma tr mw sd pa ct mg mm mk mt up li td be (wf k) k (t0 k) (by omega) ((hwf k (by omega)).1) ((hwf k (by omega)).2.1) ((ht5 k (by omega)).1) _) (cwV 2 hts gX4_worth_X4_senseAt rfl rfl rfl (by decide +kernel) ⟨Nat.le_of_ble_eq_true rfl, Nat.le_of_ble_eq_true rfl⟩) (kp_RV (hP.sub (ws' := [(m0, .inr (4, [.int th, .int ma, .int tr, .ref m3, .ref m4, .ref m5, .ref m6, .ref m7, .int mw, .ref m9, .int sd, .ref m11, .ref m12, .ref m13, .ref m14])), (m3, .inl (cI, 30, .inl pa)), (m4, .inl (cI, 30, .inl ct)), (m5, .inl (cI, 50, .inl mg)), (m6, .inl (cI, 10, .inl mm)), (m7, .inl (cI, 10, .inl mk)), (m9, .inl (cI, 6, .inl mt)), (m11, .inl (cI, 900, .inl up)), (m12, .inl (cI, 900, .inl li)), (m13, .inl (cI, 6, .inl td)), (m14, .inl (cI, 6, .inl be))]) [0, 1, 2, 3, 4, 5, 6, 7, 8, 9, 10] rfl) hK 0 4 rfl rfl) rfl rfl hl.1 rfl (lv_room (Nat.le_of_ble_eq_true rfl)) dX4_worth_34 ⟨Nat.zero_le _, Nat.zero_le _⟩) hP hS hA (fun r_34 H locs er_34 hP hS => ?_)
      subst er_34
      refine kx_top (show ksem mg mk (wf k) (t0 k) = nI (sf k) from (ht5 k (by omega)).2.1) ?_
      refine lv_imul hx hb dX4_worth_37 ?_
      refine lv_aload_n hx hb dX4_worth_38 rfl (lv_at hl 0 rfl) ?_
      refine lv_iload_n hx hb dX4_worth_39 rfl (lv_at hl 2 rfl) ?_
      refine lv_aload_n hx hb dX4_worth_40 rfl (lv_at hl 0 rfl) ?_
      refine va_get (D := D) (ci := 4) (v := .ref m13) (C := RX4) (T := TX4) (N := 15) hx hb hts (fun w h => List.mem_cons_of_mem _ (List.mem_append_right _ (h))) hown hK.1 hP 0 rfl rfl 13 (by decide) (hts (.fieldLink RX4 34 "SenseNetModel" "tried" "[I") (List.mem_of_getElem? (i := 3) rfl)) (fun _ h9 => h9) rfl dX4_worth_41 ?_
      refine lv_iload_n hx hb dX4_worth_44 rfl (lv_at hl 2 rfl) ?_
      refine va_iald (q0 := 9) (t0 := 0) hx hb hK.1 hP rfl rfl (vp_in_nI (show j < 6 from by omega) (by decide)) dX4_worth_45 ?_
      refine kx_top (show td (nI j).toNatClampNeg = td j from congrArg td (nI_clamp (Nat.lt_trans (show j < 6 from by omega) (by decide)))) ?_
      refine kx_top (show td j = nI (t0 j) from ht j hj) ?_
      refine kq_R (va_runV (As := [.int (nI j), .int (nI (t0 j))]) (rest := [.int (30 * (nI (sf k))), .ref m12, .int y2]) ⟨hx, hb, hml, hown, hts⟩ (c_X4_senseAt l D cI m0 m3 m4 m5 m6 m7 m9 m11 m12 m13 m14 th ma tr mw sd pa ct mg mm mk mt up li td be (wf j) j (t0 j) (by omega) ((hwf j hj).1) ((hwf j hj).2.1) ((ht5 j hj).1) _) (cwV 2 hts gX4_worth_X4_senseAt rfl rfl rfl (by decide +kernel) ⟨Nat.le_of_ble_eq_true rfl, Nat.le_of_ble_eq_true rfl⟩) (kp_RV (hP.sub (ws' := [(m0, .inr (4, [.int th, .int ma, .int tr, .ref m3, .ref m4, .ref m5, .ref m6, .ref m7, .int mw, .ref m9, .int sd, .ref m11, .ref m12, .ref m13, .ref m14])), (m3, .inl (cI, 30, .inl pa)), (m4, .inl (cI, 30, .inl ct)), (m5, .inl (cI, 50, .inl mg)), (m6, .inl (cI, 10, .inl mm)), (m7, .inl (cI, 10, .inl mk)), (m9, .inl (cI, 6, .inl mt)), (m11, .inl (cI, 900, .inl up)), (m12, .inl (cI, 900, .inl li)), (m13, .inl (cI, 6, .inl td)), (m14, .inl (cI, 6, .inl be))]) [0, 1, 2, 3, 4, 5, 6, 7, 8, 9, 10] rfl) hK 0 4 rfl rfl) rfl rfl hl.1 rfl (lv_room (Nat.le_of_ble_eq_true rfl)) dX4_worth_46 ⟨Nat.zero_le _, Nat.zero_le _⟩) hP hS hA (fun r_46 H locs er_46 hP hS => ?_)
      subst er_46
      refine kx_top (show ksem mg mk (wf j) (t0 j) = nI (sf j) from (ht5 j hj).2.1) ?_
      refine lv_iadd hx hb dX4_worth_49 ?_
      refine kx_top (show (30 * (nI (sf k))) + (nI (sf j)) = nI (30 * sf k + sf j) from kx_up) ?_
      refine va_iald (q0 := 8) (t0 := 0) hx hb hK.1 hP rfl rfl (vp_in_nI (show (30 * sf k + sf j) < 900 from (by have := (ht5 k (by omega)).2.2; have := (ht5 j hj).2.2; omega)) (by decide)) dX4_worth_50 ?_
      refine kx_top (show li (nI (30 * sf k + sf j)).toNatClampNeg = li (30 * sf k + sf j) from congrArg li (nI_clamp (Nat.lt_trans (show (30 * sf k + sf j) < 900 from (by have := (ht5 k (by omega)).2.2; have := (ht5 j hj).2.2; omega)) (by decide)))) ?_
      refine lv_iadd hx hb dX4_worth_51 ?_
      refine lv_istore_n (lv' := [(1, .int (y2 + (li (30 * sf k + sf j)))), (0, .ref m0), (2, .int (nI j)), (3, .int (nI k))]) hx hb dX4_worth_52 rfl hl (by decide) rfl (fun ls hl => ?_)
      refine lv_iinc (v := nI (k + 1)) (lv' := [(3, .int (nI (k + 1))), (1, .int (y2 + (li (30 * sf k + sf j)))), (0, .ref m0), (2, .int (nI j))]) hx hb dX4_worth_53 hl (k := 3) rfl (nI_1 _) (by decide) rfl (fun ls hl => ?_)
      refine lv_goto (tgt := 14) hx hb dX4_worth_56 (by decide) ?_
      exact ih14 _ _ _ ⟨(y2 + (li (30 * sf k + sf j))), (by rw [hI14]; rfl), hP, hS, (lv_sub hl [2, 1, 3, 0] rfl)⟩
    · skip
      intro H locs ls hJ
      obtain ⟨y2, hI14, hP, hS, hl⟩ := hJ
      refine lv_iload_n hx hb dX4_worth_14 rfl (lv_at hl 3 rfl) ?_
      refine lv_iload_n hx hb dX4_worth_15 rfl (lv_at hl 2 rfl) ?_
      refine lv_icmp_ge (tgt := 59) hx hb dX4_worth_16 (by decide) (fun _ => ?_) (fun hc => absurd (nI_le (a := j) (b := j) (Nat.le_refl _) (by omega)) hc)
      refine lv_iinc (v := nI (j + 1)) (lv' := [(2, .int (nI (j + 1))), (0, .ref m0), (1, .int y2), (3, .int (nI j))]) hx hb dX4_worth_59 hl (k := 2) rfl (nI_1 _) (by decide) rfl (fun ls hl => ?_)
      refine lv_goto (tgt := 4) hx hb dX4_worth_62 (by decide) ?_
      exact ih4 _ _ _ ⟨y2, (by rw [hI14, hI]; rfl), hP, hS, (lv_sub hl [1, 2, 0] rfl)⟩
  · skip
    intro H locs ls hJ
    obtain ⟨y, hI, hP, hS, hl⟩ := hJ
    refine lv_iload_n hx hb dX4_worth_4 rfl (lv_at hl 2 rfl) ?_
    refine lv_aload_n hx hb dX4_worth_5 rfl (lv_at hl 0 rfl) ?_
    refine va_get (D := D) (ci := 4) (v := .int sd) (C := RX4) (T := TX4) (N := 15) hx hb hts (fun w h => List.mem_cons_of_mem _ (List.mem_append_right _ (h))) hown hK.1 hP 0 rfl rfl 10 (by decide) (hts (.fieldLink RX4 91 "SenseNetModel" "said" "I") (List.mem_of_getElem? (i := 1) rfl)) (fun _ h9 => h9) rfl dX4_worth_6 ?_
    refine lv_icmp_ge (tgt := 65) hx hb dX4_worth_9 (by decide) (fun _ => ?_) (fun hc => absurd (by rw [hp1]; exact nI_le (a := P) (b := P) (Nat.le_refl _) (by omega)) hc)
    refine lv_iload_n hx hb dX4_worth_65 rfl (lv_at hl 1 rfl) ?_
    exact ke_R hx hb hr hlocks hS dX4_worth_66 (hI)
