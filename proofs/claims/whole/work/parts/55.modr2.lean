set_option maxHeartbeats 4000000 in
set_option maxRecDepth 100000 in
theorem c_X4_sharedOf (l : Launch) (D : va_G) (cI : ClassId) (m0 m3 m4 m5 m6 m7 m9 m11 m12 m13 m14 : Nat) (th : Int32) (ma : Int32) (tr : Int32) (mw : Int32) (sd : Int32) (pa : Nat → Int32) (ct : Nat → Int32) (mg : Nat → Int32) (mm : Nat → Int32) (mk : Nat → Int32) (mt : Nat → Int32) (up : Nat → Int32) (li : Nat → Int32) (td : Nat → Int32) (be : Nat → Int32) (a : Nat) (b : Nat) (ha : a < 30) (hbb : b < 30) : kc_R l yX4_sharedOf wsX4_sharedOf 2 45 D cI [.ref m0, .int (nI a), .int (nI b)] [(m0, .inr (4, [.int th, .int ma, .int tr, .ref m3, .ref m4, .ref m5, .ref m6, .ref m7, .int mw, .ref m9, .int sd, .ref m11, .ref m12, .ref m13, .ref m14])), (m3, .inl (cI, 30, .inl pa)), (m4, .inl (cI, 30, .inl ct)), (m5, .inl (cI, 50, .inl mg)), (m6, .inl (cI, 10, .inl mm)), (m7, .inl (cI, 10, .inl mk)), (m9, .inl (cI, 6, .inl mt)), (m11, .inl (cI, 900, .inl up)), (m12, .inl (cI, 900, .inl li)), (m13, .inl (cI, 6, .inl td)), (m14, .inl (cI, 6, .inl be))] (fun r => r = kshr tr pa up ct a b 30) := by
  refine ks_R (cc := cX4_sharedOf) (nL := 7) (ret := (some .int)) (by decide) rfl (Nat.le_of_ble_eq_true rfl) ?_
  intro p e s m below meth c ls hF hP hK hS hA hl
  obtain ⟨hx, hb, hr, hml, hown, hts, hlocks⟩ := hF
  have hown : s.vm.findClass RX4 = some m.cls := hown
  have hl : lv_has ls 7 [(0, .ref m0), (1, .int (nI a)), (2, .int (nI b))] := hl
  refine lv_iconst (v := (-1)) hx hb dX4_sharedOf_0 (by decide) ?_
  refine lv_istore_n (lv' := [(3, .int (-1)), (0, .ref m0), (1, .int (nI a)), (2, .int (nI b))]) hx hb dX4_sharedOf_1 rfl hl (by decide) rfl (fun ls hl => ?_)
  refine lv_iconst (v := 0) hx hb dX4_sharedOf_2 (by decide) ?_
  refine lv_istore (lv' := [(4, .int 0), (3, .int (-1)), (0, .ref m0), (1, .int (nI a)), (2, .int (nI b))]) hx hb dX4_sharedOf_3 hl (by decide) rfl (fun ls hl => ?_)
  refine kl_for (head := 5) (N := 30) (fun (j : Nat) (H : Heap) (locs : List Loc) (ls : Array Slot) => ∃ (y : Int32), (y = kshr tr pa up ct a b j) ∧ va_P D vwCl [(m0, .inr (4, [.int th, .int ma, .int tr, .ref m3, .ref m4, .ref m5, .ref m6, .ref m7, .int mw, .ref m9, .int sd, .ref m11, .ref m12, .ref m13, .ref m14])), (m3, .inl (cI, 30, .inl pa)), (m4, .inl (cI, 30, .inl ct)), (m5, .inl (cI, 50, .inl mg)), (m6, .inl (cI, 10, .inl mm)), (m7, .inl (cI, 10, .inl mk)), (m9, .inl (cI, 6, .inl mt)), (m11, .inl (cI, 900, .inl up)), (m12, .inl (cI, 900, .inl li)), (m13, .inl (cI, 6, .inl td)), (m14, .inl (cI, 6, .inl be))] H ∧ va_S (va_A [] s.heap.size) s.heap H locs ∧ lv_has ls 7 [(0, .ref m0), (1, .int (nI a)), (2, .int (nI b)), (3, .int y), (4, .int (nI j))]) 0 (Nat.zero_le _) ?_ ?_ ⟨(-1), (rfl), hP, hS, (lv_sub hl [2, 3, 4, 1, 0] rfl)⟩
  · skip
    intro j hj H locs ls hJ ih5
    obtain ⟨y, hI, hP, hS, hl⟩ := hJ
    refine lv_iload hx hb dX4_sharedOf_5 (lv_at hl 4 rfl) ?_
    refine lv_bipush (v := 30) hx hb dX4_sharedOf_7 (by decide) ?_
    refine lv_icmp_ge (tgt := 116) hx hb dX4_sharedOf_9 (by decide) (fun hc => absurd hc (nI_ge (b := 30) hj (by decide))) (fun _ => ?_)
    refine lv_aload_n hx hb dX4_sharedOf_12 rfl (lv_at hl 0 rfl) ?_
    refine va_get (D := D) (ci := 4) (v := .int tr) (C := RX4) (T := TX4) (N := 15) hx hb hts (fun w h => List.mem_cons_of_mem _ (List.mem_append_right _ (h))) hown hK.1 hP 0 rfl rfl 2 (by decide) (hts (.fieldLink RX4 48 "SenseNetModel" "there" "I") (List.mem_of_getElem? (i := 1) rfl)) (fun _ h9 => h9) rfl dX4_sharedOf_13 ?_
    refine lv_iload hx hb dX4_sharedOf_16 (lv_at hl 4 rfl) ?_
    refine kq_R (va_runS (As := [.int tr, .int (nI j)]) (rest := []) ⟨hx, hb, hml, hown, hts⟩ (c_X4_has l D cI tr j (hj) _) (va_cwS 2 hts gX4_sharedOf_X4_has rfl rfl rfl (by decide +kernel) ⟨Nat.le_of_ble_eq_true rfl, Nat.le_of_ble_eq_true rfl⟩) (kp_RS (hP.sub (ws' := []) [] rfl) hK) rfl rfl hl.1 rfl (lv_room (Nat.le_of_ble_eq_true rfl)) dX4_sharedOf_18 ⟨Nat.zero_le _, Nat.zero_le _⟩) hP hS hA (fun r_18 H locs er_18 hP hS => ?_)
    subst er_18
    refine lv_if_eq (tgt := 110) hx hb dX4_sharedOf_21 (by decide) (fun c_21 => ?_) (fun c_21 => ?_)
    · skip
      refine lv_iinc (v := nI (j + 1)) (lv' := [(4, .int (nI (j + 1))), (0, .ref m0), (1, .int (nI a)), (2, .int (nI b)), (3, .int y)]) hx hb dX4_sharedOf_110 hl (k := 4) rfl (nI_1 _) (by decide) rfl (fun ls hl => ?_)
      refine lv_goto (tgt := 5) hx hb dX4_sharedOf_113 (by decide) ?_
      exact ih5 _ _ _ ⟨y, (kshr_n hI (by rw [nB_0.mp c_21]; rfl)), hP, hS, (lv_sub hl [1, 2, 3, 4, 0] rfl)⟩
    · skip
      refine lv_aload_n hx hb dX4_sharedOf_24 rfl (lv_at hl 0 rfl) ?_
      refine lv_iload hx hb dX4_sharedOf_25 (lv_at hl 4 rfl) ?_
      refine lv_iload_n hx hb dX4_sharedOf_27 rfl (lv_at hl 1 rfl) ?_
      refine kq_R (va_runV (As := [.int (nI j), .int (nI a)]) (rest := []) ⟨hx, hb, hml, hown, hts⟩ (c_X4_covers l D cI m0 m3 m4 m5 m6 m7 m9 m11 m12 m13 m14 th ma tr mw sd pa ct mg mm mk mt up li td be j a (hj) (ha) _) (cwV 2 hts gX4_sharedOf_X4_covers rfl rfl rfl (by decide +kernel) ⟨Nat.le_of_ble_eq_true rfl, Nat.le_of_ble_eq_true rfl⟩) (kp_RV (hP.sub (ws' := [(m0, .inr (4, [.int th, .int ma, .int tr, .ref m3, .ref m4, .ref m5, .ref m6, .ref m7, .int mw, .ref m9, .int sd, .ref m11, .ref m12, .ref m13, .ref m14])), (m3, .inl (cI, 30, .inl pa)), (m4, .inl (cI, 30, .inl ct)), (m5, .inl (cI, 50, .inl mg)), (m6, .inl (cI, 10, .inl mm)), (m7, .inl (cI, 10, .inl mk)), (m9, .inl (cI, 6, .inl mt)), (m11, .inl (cI, 900, .inl up)), (m12, .inl (cI, 900, .inl li)), (m13, .inl (cI, 6, .inl td)), (m14, .inl (cI, 6, .inl be))]) [0, 1, 2, 3, 4, 5, 6, 7, 8, 9, 10] rfl) hK 0 4 rfl rfl) rfl rfl hl.1 rfl (lv_room (Nat.le_of_ble_eq_true rfl)) dX4_sharedOf_28 ⟨Nat.zero_le _, Nat.zero_le _⟩) hP hS hA (fun r_28 H locs er_28 hP hS => ?_)
      subst er_28
      refine lv_if_eq (tgt := 110) hx hb dX4_sharedOf_31 (by decide) (fun c_31 => ?_) (fun c_31 => ?_)
      · skip
        refine lv_iinc (v := nI (j + 1)) (lv' := [(4, .int (nI (j + 1))), (0, .ref m0), (1, .int (nI a)), (2, .int (nI b)), (3, .int y)]) hx hb dX4_sharedOf_110 hl (k := 4) rfl (nI_1 _) (by decide) rfl (fun ls hl => ?_)
        refine lv_goto (tgt := 5) hx hb dX4_sharedOf_113 (by decide) ?_
        exact ih5 _ _ _ ⟨y, (kshr_n hI (by rw [nB_0.mp c_31, Bool.and_false]; rfl)), hP, hS, (lv_sub hl [1, 2, 3, 4, 0] rfl)⟩
      · skip
        refine lv_aload_n hx hb dX4_sharedOf_34 rfl (lv_at hl 0 rfl) ?_
        refine lv_iload hx hb dX4_sharedOf_35 (lv_at hl 4 rfl) ?_
        refine lv_iload_n hx hb dX4_sharedOf_37 rfl (lv_at hl 2 rfl) ?_
        refine kq_R (va_runV (As := [.int (nI j), .int (nI b)]) (rest := []) ⟨hx, hb, hml, hown, hts⟩ (c_X4_covers l D cI m0 m3 m4 m5 m6 m7 m9 m11 m12 m13 m14 th ma tr mw sd pa ct mg mm mk mt up li td be j b (hj) (hbb) _) (cwV 2 hts gX4_sharedOf_X4_covers rfl rfl rfl (by decide +kernel) ⟨Nat.le_of_ble_eq_true rfl, Nat.le_of_ble_eq_true rfl⟩) (kp_RV (hP.sub (ws' := [(m0, .inr (4, [.int th, .int ma, .int tr, .ref m3, .ref m4, .ref m5, .ref m6, .ref m7, .int mw, .ref m9, .int sd, .ref m11, .ref m12, .ref m13, .ref m14])), (m3, .inl (cI, 30, .inl pa)), (m4, .inl (cI, 30, .inl ct)), (m5, .inl (cI, 50, .inl mg)), (m6, .inl (cI, 10, .inl mm)), (m7, .inl (cI, 10, .inl mk)), (m9, .inl (cI, 6, .inl mt)), (m11, .inl (cI, 900, .inl up)), (m12, .inl (cI, 900, .inl li)), (m13, .inl (cI, 6, .inl td)), (m14, .inl (cI, 6, .inl be))]) [0, 1, 2, 3, 4, 5, 6, 7, 8, 9, 10] rfl) hK 0 4 rfl rfl) rfl rfl hl.1 rfl (lv_room (Nat.le_of_ble_eq_true rfl)) dX4_sharedOf_38 ⟨Nat.zero_le _, Nat.zero_le _⟩) hP hS hA (fun r_38 H locs er_38 hP hS => ?_)
        subst er_38
        refine lv_if_eq (tgt := 110) hx hb dX4_sharedOf_41 (by decide) (fun c_41 => ?_) (fun c_41 => ?_)
        · skip
          refine lv_iinc (v := nI (j + 1)) (lv' := [(4, .int (nI (j + 1))), (0, .ref m0), (1, .int (nI a)), (2, .int (nI b)), (3, .int y)]) hx hb dX4_sharedOf_110 hl (k := 4) rfl (nI_1 _) (by decide) rfl (fun ls hl => ?_)
          refine lv_goto (tgt := 5) hx hb dX4_sharedOf_113 (by decide) ?_
          exact ih5 _ _ _ ⟨y, (kshr_n hI (by rw [nB_0.mp c_41, Bool.and_false])), hP, hS, (lv_sub hl [1, 2, 3, 4, 0] rfl)⟩
        · skip
          refine lv_iload_n hx hb dX4_sharedOf_44 rfl (lv_at hl 3 rfl) ?_
          refine lv_iconst (v := (-1)) hx hb dX4_sharedOf_45 (by decide) ?_
          refine kl_cut (pc := 65) (fun (H : Heap) (locs : List Loc) (ls : Array Slot) (st : List Value) => ∃ (v : Int32), (v = kby tr up ct j y) ∧ st = [.int v] ∧ va_P D vwCl [(m0, .inr (4, [.int th, .int ma, .int tr, .ref m3, .ref m4, .ref m5, .ref m6, .ref m7, .int mw, .ref m9, .int sd, .ref m11, .ref m12, .ref m13, .ref m14])), (m3, .inl (cI, 30, .inl pa)), (m4, .inl (cI, 30, .inl ct)), (m5, .inl (cI, 50, .inl mg)), (m6, .inl (cI, 10, .inl mm)), (m7, .inl (cI, 10, .inl mk)), (m9, .inl (cI, 6, .inl mt)), (m11, .inl (cI, 900, .inl up)), (m12, .inl (cI, 900, .inl li)), (m13, .inl (cI, 6, .inl td)), (m14, .inl (cI, 6, .inl be))] H ∧ va_S (va_A [] s.heap.size) s.heap H locs ∧ lv_has ls 7 [(0, .ref m0), (1, .int (nI a)), (2, .int (nI b)), (3, .int y), (4, .int (nI j))]) ?_ (fun jn65 => ?_)
          · skip
            intro H locs ls st hJ
            obtain ⟨v, hI65, rfl, hP, hS, hl⟩ := hJ
            refine lv_istore (lv' := [(5, .int v), (0, .ref m0), (1, .int (nI a)), (2, .int (nI b)), (3, .int y), (4, .int (nI j))]) hx hb dX4_sharedOf_65 hl (by decide) rfl (fun ls hl => ?_)
            refine kl_cut (pc := 96) (fun (H : Heap) (locs : List Loc) (ls : Array Slot) (st : List Value) => ∃ (w : Int32), (w = nB (kbet tr pa up ct j y)) ∧ st = [.int w] ∧ va_P D vwCl [(m0, .inr (4, [.int th, .int ma, .int tr, .ref m3, .ref m4, .ref m5, .ref m6, .ref m7, .int mw, .ref m9, .int sd, .ref m11, .ref m12, .ref m13, .ref m14])), (m3, .inl (cI, 30, .inl pa)), (m4, .inl (cI, 30, .inl ct)), (m5, .inl (cI, 50, .inl mg)), (m6, .inl (cI, 10, .inl mm)), (m7, .inl (cI, 10, .inl mk)), (m9, .inl (cI, 6, .inl mt)), (m11, .inl (cI, 900, .inl up)), (m12, .inl (cI, 900, .inl li)), (m13, .inl (cI, 6, .inl td)), (m14, .inl (cI, 6, .inl be))] H ∧ va_S (va_A [] s.heap.size) s.heap H locs ∧ lv_has ls 7 [(0, .ref m0), (1, .int (nI a)), (2, .int (nI b)), (3, .int y), (4, .int (nI j))]) ?_ (fun jn96 => ?_)
            · skip
              intro H locs ls st hJ
              obtain ⟨w, hI96, rfl, hP, hS, hl⟩ := hJ
              refine lv_istore (lv' := [(6, .int w), (0, .ref m0), (1, .int (nI a)), (2, .int (nI b)), (3, .int y), (4, .int (nI j))]) hx hb dX4_sharedOf_96 hl (by decide) rfl (fun ls hl => ?_)
              refine lv_iload hx hb dX4_sharedOf_98 (lv_at hl 0 rfl) ?_
              refine lv_if_eq (tgt := 108) hx hb dX4_sharedOf_100 (by decide) (fun c_100 => ?_) (fun c_100 => ?_)
              · skip
                refine lv_iload_n hx hb dX4_sharedOf_108 rfl (lv_at hl 4 rfl) ?_
                refine lv_istore_n (lv' := [(3, .int y), (6, .int w), (0, .ref m0), (1, .int (nI a)), (2, .int (nI b)), (4, .int (nI j))]) hx hb dX4_sharedOf_109 rfl hl (by decide) rfl (fun ls hl => ?_)
                refine lv_iinc (v := nI (j + 1)) (lv' := [(4, .int (nI (j + 1))), (3, .int y), (6, .int w), (0, .ref m0), (1, .int (nI a)), (2, .int (nI b))]) hx hb dX4_sharedOf_110 hl (k := 5) rfl (nI_1 _) (by decide) rfl (fun ls hl => ?_)
                refine lv_goto (tgt := 5) hx hb dX4_sharedOf_113 (by decide) ?_
                exact ih5 _ _ _ ⟨y, (kshr_t hI (nB_n0.mp c_21) (nB_n0.mp c_31) (nB_n0.mp c_41) (nB_0.mp (hI96.symm.trans c_100))), hP, hS, (lv_sub hl [3, 4, 5, 1, 0] rfl)⟩
              · skip
                refine lv_iload hx hb dX4_sharedOf_103 (lv_at hl 5 rfl) ?_
                refine lv_goto (tgt := 109) hx hb dX4_sharedOf_105 (by decide) ?_
                refine lv_istore_n (lv' := [(3, .int (nI j)), (6, .int w), (0, .ref m0), (1, .int (nI a)), (2, .int (nI b)), (4, .int (nI j))]) hx hb dX4_sharedOf_109 rfl hl (by decide) rfl (fun ls hl => ?_)
                refine lv_iinc (v := nI (j + 1)) (lv' := [(4, .int (nI (j + 1))), (3, .int (nI j)), (6, .int w), (0, .ref m0), (1, .int (nI a)), (2, .int (nI b))]) hx hb dX4_sharedOf_110 hl (k := 5) rfl (nI_1 _) (by decide) rfl (fun ls hl => ?_)
                refine lv_goto (tgt := 5) hx hb dX4_sharedOf_113 (by decide) ?_
                exact ih5 _ _ _ ⟨(nI j), (kshr_f hI (nB_n0.mp c_21) (nB_n0.mp c_31) (nB_n0.mp c_41) (nB_n0.mp (fun z => c_100 (hI96.trans z)))), hP, hS, (lv_sub hl [3, 4, 5, 1, 0] rfl)⟩
            refine lv_iload hx hb dX4_sharedOf_67 (lv_at hl 0 rfl) ?_
            refine lv_if_lt (tgt := 91) hx hb dX4_sharedOf_69 (by decide) (fun c_69 => ?_) (fun c_69 => ?_)
            · skip
              refine lv_iconst (v := 1) hx hb dX4_sharedOf_91 (by decide) ?_
              refine lv_goto (tgt := 96) hx hb dX4_sharedOf_92 (by decide) ?_
              exact jn96 _ _ _ _ ⟨1, (by unfold kbet; rw [← hI65, decide_eq_true c_69]; rfl), rfl, hP, hS, (lv_sub hl [1, 2, 3, 4, 5] rfl)⟩
            · skip
              refine lv_iload hx hb dX4_sharedOf_72 (lv_at hl 0 rfl) ?_
              refine lv_if_ne (tgt := 95) hx hb dX4_sharedOf_74 (by decide) (fun c_74 => ?_) (fun c_74 => ?_)
              · skip
                refine lv_iconst (v := 0) hx hb dX4_sharedOf_95 (by decide) ?_
                exact jn96 _ _ _ _ ⟨0, (by unfold kbet; rw [← hI65, decide_eq_false c_69, decide_eq_false c_74]; rfl), rfl, hP, hS, (lv_sub hl [1, 2, 3, 4, 5] rfl)⟩
              · skip
                obtain ⟨q, hq, rfl⟩ := kshr_nm hI (kby_0 (hI65.symm.trans c_74)) (Nat.le_of_lt hj)
                refine lv_aload_n hx hb dX4_sharedOf_77 rfl (lv_at hl 1 rfl) ?_
                refine lv_iload hx hb dX4_sharedOf_78 (lv_at hl 5 rfl) ?_
                refine kq_R (va_runV (As := [.int (nI j)]) (rest := []) ⟨hx, hb, hml, hown, hts⟩ (c_X4_depthOf l D cI m0 m3 m4 m5 m6 m7 m9 m11 m12 m13 m14 th ma tr mw sd pa ct mg mm mk mt up li td be j (hj) _) (cwV 1 hts gX4_sharedOf_X4_depthOf rfl rfl rfl (by decide +kernel) ⟨Nat.le_of_ble_eq_true rfl, Nat.le_of_ble_eq_true rfl⟩) (kp_RV (hP.sub (ws' := [(m0, .inr (4, [.int th, .int ma, .int tr, .ref m3, .ref m4, .ref m5, .ref m6, .ref m7, .int mw, .ref m9, .int sd, .ref m11, .ref m12, .ref m13, .ref m14])), (m3, .inl (cI, 30, .inl pa)), (m4, .inl (cI, 30, .inl ct)), (m5, .inl (cI, 50, .inl mg)), (m6, .inl (cI, 10, .inl mm)), (m7, .inl (cI, 10, .inl mk)), (m9, .inl (cI, 6, .inl mt)), (m11, .inl (cI, 900, .inl up)), (m12, .inl (cI, 900, .inl li)), (m13, .inl (cI, 6, .inl td)), (m14, .inl (cI, 6, .inl be))]) [0, 1, 2, 3, 4, 5, 6, 7, 8, 9, 10] rfl) hK 0 4 rfl rfl) rfl rfl hl.1 rfl (lv_room (Nat.le_of_ble_eq_true rfl)) dX4_sharedOf_80 ⟨Nat.zero_le _, Nat.zero_le _⟩) hP hS hA (fun r_80 H locs er_80 hP hS => ?_)
                subst er_80
                refine lv_aload_n hx hb dX4_sharedOf_83 rfl (lv_at hl 1 rfl) ?_
                refine lv_iload_n hx hb dX4_sharedOf_84 rfl (lv_at hl 4 rfl) ?_
                refine kq_R (va_runV (As := [.int (nI q)]) (rest := [.int (kdpo tr pa up j 30)]) ⟨hx, hb, hml, hown, hts⟩ (c_X4_depthOf l D cI m0 m3 m4 m5 m6 m7 m9 m11 m12 m13 m14 th ma tr mw sd pa ct mg mm mk mt up li td be q (hq) _) (cwV 1 hts gX4_sharedOf_X4_depthOf rfl rfl rfl (by decide +kernel) ⟨Nat.le_of_ble_eq_true rfl, Nat.le_of_ble_eq_true rfl⟩) (kp_RV (hP.sub (ws' := [(m0, .inr (4, [.int th, .int ma, .int tr, .ref m3, .ref m4, .ref m5, .ref m6, .ref m7, .int mw, .ref m9, .int sd, .ref m11, .ref m12, .ref m13, .ref m14])), (m3, .inl (cI, 30, .inl pa)), (m4, .inl (cI, 30, .inl ct)), (m5, .inl (cI, 50, .inl mg)), (m6, .inl (cI, 10, .inl mm)), (m7, .inl (cI, 10, .inl mk)), (m9, .inl (cI, 6, .inl mt)), (m11, .inl (cI, 900, .inl up)), (m12, .inl (cI, 900, .inl li)), (m13, .inl (cI, 6, .inl td)), (m14, .inl (cI, 6, .inl be))]) [0, 1, 2, 3, 4, 5, 6, 7, 8, 9, 10] rfl) hK 0 4 rfl rfl) rfl rfl hl.1 rfl (lv_room (Nat.le_of_ble_eq_true rfl)) dX4_sharedOf_85 ⟨Nat.zero_le _, Nat.zero_le _⟩) hP hS hA (fun r_85 H locs er_85 hP hS => ?_)
                subst er_85
                refine lv_icmp_le (tgt := 95) hx hb dX4_sharedOf_88 (by decide) (fun c_88 => ?_) (fun c_88 => ?_)
                · skip
                  refine lv_iconst (v := 0) hx hb dX4_sharedOf_95 (by decide) ?_
                  exact jn96 _ _ _ _ ⟨0, (by unfold kbet; rw [← hI65, decide_eq_false c_69, decide_eq_true c_74, nI_clamp (show q < 2 ^ 31 by omega), decide_eq_true c_88]; rfl), rfl, hP, hS, (lv_sub hl [1, 2, 3, 4, 5] rfl)⟩
                · skip
                  refine lv_iconst (v := 1) hx hb dX4_sharedOf_91 (by decide) ?_
                  refine lv_goto (tgt := 96) hx hb dX4_sharedOf_92 (by decide) ?_
                  exact jn96 _ _ _ _ ⟨1, (by unfold kbet; rw [← hI65, decide_eq_false c_69, decide_eq_true c_74, nI_clamp (show q < 2 ^ 31 by omega), decide_eq_false c_88]; rfl), rfl, hP, hS, (lv_sub hl [1, 2, 3, 4, 5] rfl)⟩
          refine lv_icmp_ne (tgt := 53) hx hb dX4_sharedOf_46 (by decide) (fun c_46 => ?_) (fun c_46 => ?_)
          · skip
            obtain ⟨q, hq, rfl⟩ := kshr_nm hI c_46 (Nat.le_of_lt hj)
            refine lv_aload_n hx hb dX4_sharedOf_53 rfl (lv_at hl 0 rfl) ?_
            refine lv_iload hx hb dX4_sharedOf_54 (lv_at hl 4 rfl) ?_
            refine kq_R (va_runV (As := [.int (nI j)]) (rest := []) ⟨hx, hb, hml, hown, hts⟩ (c_X4_massOf l D cI m0 m3 m4 m5 m6 m7 m9 m11 m12 m13 m14 th ma tr mw sd pa ct mg mm mk mt up li td be j (hj) _) (cwV 1 hts gX4_sharedOf_X4_massOf rfl rfl rfl (by decide +kernel) ⟨Nat.le_of_ble_eq_true rfl, Nat.le_of_ble_eq_true rfl⟩) (kp_RV (hP.sub (ws' := [(m0, .inr (4, [.int th, .int ma, .int tr, .ref m3, .ref m4, .ref m5, .ref m6, .ref m7, .int mw, .ref m9, .int sd, .ref m11, .ref m12, .ref m13, .ref m14])), (m3, .inl (cI, 30, .inl pa)), (m4, .inl (cI, 30, .inl ct)), (m5, .inl (cI, 50, .inl mg)), (m6, .inl (cI, 10, .inl mm)), (m7, .inl (cI, 10, .inl mk)), (m9, .inl (cI, 6, .inl mt)), (m11, .inl (cI, 900, .inl up)), (m12, .inl (cI, 900, .inl li)), (m13, .inl (cI, 6, .inl td)), (m14, .inl (cI, 6, .inl be))]) [0, 1, 2, 3, 4, 5, 6, 7, 8, 9, 10] rfl) hK 0 4 rfl rfl) rfl rfl hl.1 rfl (lv_room (Nat.le_of_ble_eq_true rfl)) dX4_sharedOf_56 ⟨Nat.zero_le _, Nat.zero_le _⟩) hP hS hA (fun r_56 H locs er_56 hP hS => ?_)
            subst er_56
            refine lv_aload_n hx hb dX4_sharedOf_59 rfl (lv_at hl 0 rfl) ?_
            refine lv_iload_n hx hb dX4_sharedOf_60 rfl (lv_at hl 3 rfl) ?_
            refine kq_R (va_runV (As := [.int (nI q)]) (rest := [.int (kmas tr up ct j 30)]) ⟨hx, hb, hml, hown, hts⟩ (c_X4_massOf l D cI m0 m3 m4 m5 m6 m7 m9 m11 m12 m13 m14 th ma tr mw sd pa ct mg mm mk mt up li td be q (hq) _) (cwV 1 hts gX4_sharedOf_X4_massOf rfl rfl rfl (by decide +kernel) ⟨Nat.le_of_ble_eq_true rfl, Nat.le_of_ble_eq_true rfl⟩) (kp_RV (hP.sub (ws' := [(m0, .inr (4, [.int th, .int ma, .int tr, .ref m3, .ref m4, .ref m5, .ref m6, .ref m7, .int mw, .ref m9, .int sd, .ref m11, .ref m12, .ref m13, .ref m14])), (m3, .inl (cI, 30, .inl pa)), (m4, .inl (cI, 30, .inl ct)), (m5, .inl (cI, 50, .inl mg)), (m6, .inl (cI, 10, .inl mm)), (m7, .inl (cI, 10, .inl mk)), (m9, .inl (cI, 6, .inl mt)), (m11, .inl (cI, 900, .inl up)), (m12, .inl (cI, 900, .inl li)), (m13, .inl (cI, 6, .inl td)), (m14, .inl (cI, 6, .inl be))]) [0, 1, 2, 3, 4, 5, 6, 7, 8, 9, 10] rfl) hK 0 4 rfl rfl) rfl rfl hl.1 rfl (lv_room (Nat.le_of_ble_eq_true rfl)) dX4_sharedOf_61 ⟨Nat.zero_le _, Nat.zero_le _⟩) hP hS hA (fun r_61 H locs er_61 hP hS => ?_)
            subst er_61
            refine lv_isub hx hb dX4_sharedOf_64 ?_
            exact jn65 _ _ _ _ ⟨((kmas tr up ct j 30) - (kmas tr up ct q 30)), (by unfold kby; rw [if_pos c_46, nI_clamp (show q < 2 ^ 31 by omega)]), rfl, hP, hS, (lv_sub hl [0, 1, 2, 3, 4] rfl)⟩
          · skip
            refine lv_iconst (v := (-1)) hx hb dX4_sharedOf_49 (by decide) ?_
            refine lv_goto (tgt := 65) hx hb dX4_sharedOf_50 (by decide) ?_
            exact jn65 _ _ _ _ ⟨(-1), (by unfold kby; rw [if_neg (Classical.not_not.mpr c_46)]), rfl, hP, hS, (lv_sub hl [0, 1, 2, 3, 4] rfl)⟩
  · skip
    intro H locs ls hJ
    obtain ⟨y, hI, hP, hS, hl⟩ := hJ
    refine lv_iload hx hb dX4_sharedOf_5 (lv_at hl 4 rfl) ?_
    refine lv_bipush (v := 30) hx hb dX4_sharedOf_7 (by decide) ?_
    refine lv_icmp_ge (tgt := 116) hx hb dX4_sharedOf_9 (by decide) (fun _ => ?_) (fun hc => absurd (nI_le (a := 30) (b := 30) (Nat.le_refl _) (by decide)) hc)
    refine lv_iload_n hx hb dX4_sharedOf_116 rfl (lv_at hl 3 rfl) ?_
    exact ke_R hx hb hr hlocks hS dX4_sharedOf_117 (hI)
set_option maxHeartbeats 4000000 in
set_option maxRecDepth 100000 in
theorem c_X4_likenessOf (l : Launch) (D : va_G) (cI : ClassId) (m0 m3 m4 m5 m6 m7 m9 m11 m12 m13 m14 : Nat) (th : Int32) (ma : Int32) (tr : Int32) (mw : Int32) (sd : Int32) (pa : Nat → Int32) (ct : Nat → Int32) (mg : Nat → Int32) (mm : Nat → Int32) (mk : Nat → Int32) (mt : Nat → Int32) (up : Nat → Int32) (li : Nat → Int32) (td : Nat → Int32) (be : Nat → Int32) (a : Nat) (b : Nat) (i3 : Int32) (ha : a < 30) (hbb : b < 30) (hd1 : ¬ kshr tr pa up ct a b 30 = -1 → ¬ 1 + kdst up a b = 0) (hd2 : ¬ kdpo tr pa up a 30 + kdpo tr pa up b 30 + 2 = 0) : kc_R l yX4_likenessOf wsX4_likenessOf 3 71 D cI [.ref m0, .int (nI a), .int (nI b), .int i3] [(m0, .inr (4, [.int th, .int ma, .int tr, .ref m3, .ref m4, .ref m5, .ref m6, .ref m7, .int mw, .ref m9, .int sd, .ref m11, .ref m12, .ref m13, .ref m14])), (m3, .inl (cI, 30, .inl pa)), (m4, .inl (cI, 30, .inl ct)), (m5, .inl (cI, 50, .inl mg)), (m6, .inl (cI, 10, .inl mm)), (m7, .inl (cI, 10, .inl mk)), (m9, .inl (cI, 6, .inl mt)), (m11, .inl (cI, 900, .inl up)), (m12, .inl (cI, 900, .inl li)), (m13, .inl (cI, 6, .inl td)), (m14, .inl (cI, 6, .inl be))] (fun r => r = klik tr pa up ct a b i3) := by
  refine ks_R (cc := cX4_likenessOf) (nL := 7) (ret := (some .int)) (by decide) rfl (Nat.le_of_ble_eq_true rfl) ?_
  intro p e s m below meth c ls hF hP hK hS hA hl
  obtain ⟨hx, hb, hr, hml, hown, hts, hlocks⟩ := hF
  have hown : s.vm.findClass RX4 = some m.cls := hown
  have hl : lv_has ls 7 [(0, .ref m0), (1, .int (nI a)), (2, .int (nI b)), (3, .int i3)] := hl
  refine lv_aload_n hx hb dX4_likenessOf_0 rfl (lv_at hl 0 rfl) ?_
  refine lv_iload_n hx hb dX4_likenessOf_1 rfl (lv_at hl 1 rfl) ?_
  refine lv_iload_n hx hb dX4_likenessOf_2 rfl (lv_at hl 2 rfl) ?_
  refine kq_R (va_runV (As := [.int (nI a), .int (nI b)]) (rest := []) ⟨hx, hb, hml, hown, hts⟩ (c_X4_sharedOf l D cI m0 m3 m4 m5 m6 m7 m9 m11 m12 m13 m14 th ma tr mw sd pa ct mg mm mk mt up li td be a b (ha) (hbb) _) (cwV 2 hts gX4_likenessOf_X4_sharedOf rfl rfl rfl (by decide +kernel) ⟨Nat.le_of_ble_eq_true rfl, Nat.le_of_ble_eq_true rfl⟩) (kp_RV (hP.sub (ws' := [(m0, .inr (4, [.int th, .int ma, .int tr, .ref m3, .ref m4, .ref m5, .ref m6, .ref m7, .int mw, .ref m9, .int sd, .ref m11, .ref m12, .ref m13, .ref m14])), (m3, .inl (cI, 30, .inl pa)), (m4, .inl (cI, 30, .inl ct)), (m5, .inl (cI, 50, .inl mg)), (m6, .inl (cI, 10, .inl mm)), (m7, .inl (cI, 10, .inl mk)), (m9, .inl (cI, 6, .inl mt)), (m11, .inl (cI, 900, .inl up)), (m12, .inl (cI, 900, .inl li)), (m13, .inl (cI, 6, .inl td)), (m14, .inl (cI, 6, .inl be))]) [0, 1, 2, 3, 4, 5, 6, 7, 8, 9, 10] rfl) hK 0 4 rfl rfl) rfl rfl hl.1 rfl (lv_room (Nat.le_of_ble_eq_true rfl)) dX4_likenessOf_3 ⟨Nat.zero_le _, Nat.zero_le _⟩) hP hS hA (fun r_3 H locs er_3 hP hS => ?_)
  subst er_3
  refine lv_topi (fun y ey => ?_)
  refine lv_istore (lv' := [(4, .int y), (0, .ref m0), (1, .int (nI a)), (2, .int (nI b)), (3, .int i3)]) hx hb dX4_likenessOf_6 hl (by decide) rfl (fun ls hl => ?_)
  refine lv_iload hx hb dX4_likenessOf_8 (lv_at hl 0 rfl) ?_
  refine lv_iconst (v := (-1)) hx hb dX4_likenessOf_10 (by decide) ?_
  refine lv_icmp_ne (tgt := 16) hx hb dX4_likenessOf_11 (by decide) (fun c_11 => ?_) (fun c_11 => ?_)
  · skip
    obtain ⟨q, hq, rfl⟩ := kshr_nm ey c_11 (Nat.le_refl 30)
    refine lv_iload_n hx hb dX4_likenessOf_16 rfl (lv_at hl 4 rfl) ?_
    refine lv_if_ne (tgt := 33) hx hb dX4_likenessOf_17 (by decide) (fun c_17 => ?_) (fun c_17 => ?_)
    · skip
      refine lv_iload_n hx hb dX4_likenessOf_33 rfl (lv_at hl 4 rfl) ?_
      refine lv_iconst (v := 1) hx hb dX4_likenessOf_34 (by decide) ?_
      refine lv_icmp_ne (tgt := 83) hx hb dX4_likenessOf_35 (by decide) (fun c_35 => ?_) (fun c_35 => ?_)
      · skip
        refine lv_iconst (v := 0) hx hb dX4_likenessOf_83 (by decide) ?_
        refine lv_istore (lv' := [(5, .int 0), (4, .int (nI q)), (0, .ref m0), (1, .int (nI a)), (2, .int (nI b)), (3, .int i3)]) hx hb dX4_likenessOf_84 hl (by decide) rfl (fun ls hl => ?_)
        refine lv_iconst (v := 0) hx hb dX4_likenessOf_86 (by decide) ?_
        refine lv_istore (lv' := [(6, .int 0), (5, .int 0), (4, .int (nI q)), (0, .ref m0), (1, .int (nI a)), (2, .int (nI b)), (3, .int i3)]) hx hb dX4_likenessOf_87 hl (by decide) rfl (fun ls hl => ?_)
        refine kl_for (head := 89) (N := 30) (fun (j : Nat) (H : Heap) (locs : List Loc) (ls : Array Slot) => ∃ (y2 : Int32), (y2 = kwho tr ct j) ∧ va_P D vwCl [(m0, .inr (4, [.int th, .int ma, .int tr, .ref m3, .ref m4, .ref m5, .ref m6, .ref m7, .int mw, .ref m9, .int sd, .ref m11, .ref m12, .ref m13, .ref m14])), (m3, .inl (cI, 30, .inl pa)), (m4, .inl (cI, 30, .inl ct)), (m5, .inl (cI, 50, .inl mg)), (m6, .inl (cI, 10, .inl mm)), (m7, .inl (cI, 10, .inl mk)), (m9, .inl (cI, 6, .inl mt)), (m11, .inl (cI, 900, .inl up)), (m12, .inl (cI, 900, .inl li)), (m13, .inl (cI, 6, .inl td)), (m14, .inl (cI, 6, .inl be))] H ∧ va_S (va_A [] s.heap.size) s.heap H locs ∧ lv_has ls 7 [(0, .ref m0), (1, .int (nI a)), (2, .int (nI b)), (3, .int i3), (4, .int (nI q)), (5, .int y2), (6, .int (nI j))]) 0 (Nat.zero_le _) ?_ ?_ ⟨0, (rfl), hP, hS, (lv_sub hl [3, 4, 5, 6, 2, 1, 0] rfl)⟩
        · skip
          intro j hj H locs ls hJ ih89
          obtain ⟨y2, hI, hP, hS, hl⟩ := hJ
          refine lv_iload hx hb dX4_likenessOf_89 (lv_at hl 6 rfl) ?_
          refine lv_bipush (v := 30) hx hb dX4_likenessOf_91 (by decide) ?_
          refine lv_icmp_ge (tgt := 130) hx hb dX4_likenessOf_93 (by decide) (fun hc => absurd hc (nI_ge (b := 30) hj (by decide))) (fun _ => ?_)
          refine lv_iload hx hb dX4_likenessOf_96 (lv_at hl 5 rfl) ?_
          refine lv_aload_n hx hb dX4_likenessOf_98 rfl (lv_at hl 0 rfl) ?_
          refine va_get (D := D) (ci := 4) (v := .int tr) (C := RX4) (T := TX4) (N := 15) hx hb hts (fun w h => List.mem_cons_of_mem _ (List.mem_append_right _ (h))) hown hK.1 hP 0 rfl rfl 2 (by decide) (hts (.fieldLink RX4 48 "SenseNetModel" "there" "I") (List.mem_of_getElem? (i := 1) rfl)) (fun _ h9 => h9) rfl dX4_likenessOf_99 ?_
          refine lv_iload hx hb dX4_likenessOf_102 (lv_at hl 6 rfl) ?_
          refine kq_R (va_runS (As := [.int tr, .int (nI j)]) (rest := [.int y2]) ⟨hx, hb, hml, hown, hts⟩ (c_X4_has l D cI tr j (hj) _) (va_cwS 2 hts gX4_likenessOf_X4_has rfl rfl rfl (by decide +kernel) ⟨Nat.le_of_ble_eq_true rfl, Nat.le_of_ble_eq_true rfl⟩) (kp_RS (hP.sub (ws' := []) [] rfl) hK) rfl rfl hl.1 rfl (lv_room (Nat.le_of_ble_eq_true rfl)) dX4_likenessOf_104 ⟨Nat.zero_le _, Nat.zero_le _⟩) hP hS hA (fun r_104 H locs er_104 hP hS => ?_)
          subst er_104
          refine lv_if_eq (tgt := 120) hx hb dX4_likenessOf_107 (by decide) (fun c_107 => ?_) (fun c_107 => ?_)
          · skip
            refine lv_iconst (v := 0) hx hb dX4_likenessOf_120 (by decide) ?_
            refine lv_iadd hx hb dX4_likenessOf_121 ?_
            refine lv_istore (lv' := [(5, .int (y2 + 0)), (0, .ref m0), (1, .int (nI a)), (2, .int (nI b)), (3, .int i3), (4, .int (nI q)), (6, .int (nI j))]) hx hb dX4_likenessOf_122 hl (by decide) rfl (fun ls hl => ?_)
            refine lv_iinc (v := nI (j + 1)) (lv' := [(6, .int (nI (j + 1))), (5, .int (y2 + 0)), (0, .ref m0), (1, .int (nI a)), (2, .int (nI b)), (3, .int i3), (4, .int (nI q))]) hx hb dX4_likenessOf_124 hl (k := 6) rfl (nI_1 _) (by decide) rfl (fun ls hl => ?_)
            refine lv_goto (tgt := 89) hx hb dX4_likenessOf_127 (by decide) ?_
            exact ih89 _ _ _ ⟨(y2 + 0), (by rw [hI]; show _ = _ + _; rw [if_pos c_107]), hP, hS, (lv_sub hl [2, 3, 4, 5, 6, 1, 0] rfl)⟩
          · skip
            refine lv_aload_n hx hb dX4_likenessOf_110 rfl (lv_at hl 0 rfl) ?_
            refine va_get (D := D) (ci := 4) (v := .ref m4) (C := RX4) (T := TX4) (N := 15) hx hb hts (fun w h => List.mem_cons_of_mem _ (List.mem_append_right _ (h))) hown hK.1 hP 0 rfl rfl 4 (by decide) (hts (.fieldLink RX4 13 "SenseNetModel" "counts" "[I") (List.mem_of_getElem? (i := 2) rfl)) (fun _ h9 => h9) rfl dX4_likenessOf_111 ?_
            refine lv_iload hx hb dX4_likenessOf_114 (lv_at hl 6 rfl) ?_
            refine va_iald (q0 := 2) (t0 := 0) hx hb hK.1 hP rfl rfl (vp_in_nI (show j < 30 from hj) (by decide)) dX4_likenessOf_116 ?_
            refine kx_top (show ct (nI j).toNatClampNeg = ct j from congrArg ct (nI_clamp (Nat.lt_trans (show j < 30 from hj) (by decide)))) ?_
            refine lv_goto (tgt := 121) hx hb dX4_likenessOf_117 (by decide) ?_
            refine lv_iadd hx hb dX4_likenessOf_121 ?_
            refine lv_istore (lv' := [(5, .int (y2 + (ct j))), (0, .ref m0), (1, .int (nI a)), (2, .int (nI b)), (3, .int i3), (4, .int (nI q)), (6, .int (nI j))]) hx hb dX4_likenessOf_122 hl (by decide) rfl (fun ls hl => ?_)
            refine lv_iinc (v := nI (j + 1)) (lv' := [(6, .int (nI (j + 1))), (5, .int (y2 + (ct j))), (0, .ref m0), (1, .int (nI a)), (2, .int (nI b)), (3, .int i3), (4, .int (nI q))]) hx hb dX4_likenessOf_124 hl (k := 6) rfl (nI_1 _) (by decide) rfl (fun ls hl => ?_)
            refine lv_goto (tgt := 89) hx hb dX4_likenessOf_127 (by decide) ?_
            exact ih89 _ _ _ ⟨(y2 + (ct j)), (by rw [hI]; show _ = _ + _; rw [if_neg c_107]), hP, hS, (lv_sub hl [2, 3, 4, 5, 6, 1, 0] rfl)⟩
        · skip
          intro H locs ls hJ
          obtain ⟨y2, hI, hP, hS, hl⟩ := hJ
          refine lv_iload hx hb dX4_likenessOf_89 (lv_at hl 6 rfl) ?_
          refine lv_bipush (v := 30) hx hb dX4_likenessOf_91 (by decide) ?_
          refine lv_icmp_ge (tgt := 130) hx hb dX4_likenessOf_93 (by decide) (fun _ => ?_) (fun hc => absurd (nI_le (a := 30) (b := 30) (Nat.le_refl _) (by decide)) hc)
          refine lv_iload hx hb dX4_likenessOf_130 (lv_at hl 5 rfl) ?_
          refine lv_if_ne (tgt := 139) hx hb dX4_likenessOf_132 (by decide) (fun c_132 => ?_) (fun c_132 => ?_)
          · skip
            refine lv_sipush (v := 10000) hx hb dX4_likenessOf_139 (by decide) ?_
            refine lv_iload hx hb dX4_likenessOf_142 (lv_at hl 5 rfl) ?_
            refine lv_aload_n hx hb dX4_likenessOf_144 rfl (lv_at hl 0 rfl) ?_
            refine lv_iload hx hb dX4_likenessOf_145 (lv_at hl 4 rfl) ?_
            refine kq_R (va_runV (As := [.int (nI q)]) (rest := [.int y2, .int 10000]) ⟨hx, hb, hml, hown, hts⟩ (c_X4_massOf l D cI m0 m3 m4 m5 m6 m7 m9 m11 m12 m13 m14 th ma tr mw sd pa ct mg mm mk mt up li td be q (hq) _) (cwV 1 hts gX4_likenessOf_X4_massOf rfl rfl rfl (by decide +kernel) ⟨Nat.le_of_ble_eq_true rfl, Nat.le_of_ble_eq_true rfl⟩) (kp_RV (hP.sub (ws' := [(m0, .inr (4, [.int th, .int ma, .int tr, .ref m3, .ref m4, .ref m5, .ref m6, .ref m7, .int mw, .ref m9, .int sd, .ref m11, .ref m12, .ref m13, .ref m14])), (m3, .inl (cI, 30, .inl pa)), (m4, .inl (cI, 30, .inl ct)), (m5, .inl (cI, 50, .inl mg)), (m6, .inl (cI, 10, .inl mm)), (m7, .inl (cI, 10, .inl mk)), (m9, .inl (cI, 6, .inl mt)), (m11, .inl (cI, 900, .inl up)), (m12, .inl (cI, 900, .inl li)), (m13, .inl (cI, 6, .inl td)), (m14, .inl (cI, 6, .inl be))]) [0, 1, 2, 3, 4, 5, 6, 7, 8, 9, 10] rfl) hK 0 4 rfl rfl) rfl rfl hl.1 rfl (lv_room (Nat.le_of_ble_eq_true rfl)) dX4_likenessOf_147 ⟨Nat.zero_le _, Nat.zero_le _⟩) hP hS hA (fun r_147 H locs er_147 hP hS => ?_)
            subst er_147
            refine lv_isub hx hb dX4_likenessOf_150 ?_
            refine lv_imul hx hb dX4_likenessOf_151 ?_
            refine lv_iload hx hb dX4_likenessOf_152 (lv_at hl 5 rfl) ?_
            refine lv_idiv hx hb dX4_likenessOf_154 (c_132) ?_
            exact ke_R hx hb hr hlocks hS dX4_likenessOf_155 (by unfold klik; rw [← ey, if_neg c_11, if_neg c_17, if_neg c_35, ← hI, if_neg c_132, nI_clamp (show q < 2 ^ 31 by omega)])
          · skip
            refine lv_iconst (v := 0) hx hb dX4_likenessOf_135 (by decide) ?_
            refine lv_goto (tgt := 155) hx hb dX4_likenessOf_136 (by decide) ?_
            exact ke_R hx hb hr hlocks hS dX4_likenessOf_155 (by unfold klik; rw [← ey, if_neg c_11, if_neg c_17, if_neg c_35, ← hI, if_pos c_132])
      · skip
        refine lv_sipush (v := 20000) hx hb dX4_likenessOf_38 (by decide) ?_
        refine lv_aload_n hx hb dX4_likenessOf_41 rfl (lv_at hl 1 rfl) ?_
        refine lv_iload hx hb dX4_likenessOf_42 (lv_at hl 0 rfl) ?_
        refine kq_R (va_runV (As := [.int (nI q)]) (rest := [.int 20000]) ⟨hx, hb, hml, hown, hts⟩ (c_X4_depthOf l D cI m0 m3 m4 m5 m6 m7 m9 m11 m12 m13 m14 th ma tr mw sd pa ct mg mm mk mt up li td be q (hq) _) (cwV 1 hts gX4_likenessOf_X4_depthOf rfl rfl rfl (by decide +kernel) ⟨Nat.le_of_ble_eq_true rfl, Nat.le_of_ble_eq_true rfl⟩) (kp_RV (hP.sub (ws' := [(m0, .inr (4, [.int th, .int ma, .int tr, .ref m3, .ref m4, .ref m5, .ref m6, .ref m7, .int mw, .ref m9, .int sd, .ref m11, .ref m12, .ref m13, .ref m14])), (m3, .inl (cI, 30, .inl pa)), (m4, .inl (cI, 30, .inl ct)), (m5, .inl (cI, 50, .inl mg)), (m6, .inl (cI, 10, .inl mm)), (m7, .inl (cI, 10, .inl mk)), (m9, .inl (cI, 6, .inl mt)), (m11, .inl (cI, 900, .inl up)), (m12, .inl (cI, 900, .inl li)), (m13, .inl (cI, 6, .inl td)), (m14, .inl (cI, 6, .inl be))]) [0, 1, 2, 3, 4, 5, 6, 7, 8, 9, 10] rfl) hK 0 4 rfl rfl) rfl rfl hl.1 rfl (lv_room (Nat.le_of_ble_eq_true rfl)) dX4_likenessOf_44 ⟨Nat.zero_le _, Nat.zero_le _⟩) hP hS hA (fun r_44 H locs er_44 hP hS => ?_)
        subst er_44
        refine lv_iconst (v := 1) hx hb dX4_likenessOf_47 (by decide) ?_
        refine lv_iadd hx hb dX4_likenessOf_48 ?_
        refine lv_imul hx hb dX4_likenessOf_49 ?_
        refine lv_aload_n hx hb dX4_likenessOf_50 rfl (lv_at hl 1 rfl) ?_
        refine lv_iload_n hx hb dX4_likenessOf_51 rfl (lv_at hl 2 rfl) ?_
        refine kq_R (va_runV (As := [.int (nI a)]) (rest := [.int (20000 * ((kdpo tr pa up q 30) + 1))]) ⟨hx, hb, hml, hown, hts⟩ (c_X4_depthOf l D cI m0 m3 m4 m5 m6 m7 m9 m11 m12 m13 m14 th ma tr mw sd pa ct mg mm mk mt up li td be a (ha) _) (cwV 1 hts gX4_likenessOf_X4_depthOf rfl rfl rfl (by decide +kernel) ⟨Nat.le_of_ble_eq_true rfl, Nat.le_of_ble_eq_true rfl⟩) (kp_RV (hP.sub (ws' := [(m0, .inr (4, [.int th, .int ma, .int tr, .ref m3, .ref m4, .ref m5, .ref m6, .ref m7, .int mw, .ref m9, .int sd, .ref m11, .ref m12, .ref m13, .ref m14])), (m3, .inl (cI, 30, .inl pa)), (m4, .inl (cI, 30, .inl ct)), (m5, .inl (cI, 50, .inl mg)), (m6, .inl (cI, 10, .inl mm)), (m7, .inl (cI, 10, .inl mk)), (m9, .inl (cI, 6, .inl mt)), (m11, .inl (cI, 900, .inl up)), (m12, .inl (cI, 900, .inl li)), (m13, .inl (cI, 6, .inl td)), (m14, .inl (cI, 6, .inl be))]) [0, 1, 2, 3, 4, 5, 6, 7, 8, 9, 10] rfl) hK 0 4 rfl rfl) rfl rfl hl.1 rfl (lv_room (Nat.le_of_ble_eq_true rfl)) dX4_likenessOf_52 ⟨Nat.zero_le _, Nat.zero_le _⟩) hP hS hA (fun r_52 H locs er_52 hP hS => ?_)
        subst er_52
        refine lv_aload_n hx hb dX4_likenessOf_55 rfl (lv_at hl 1 rfl) ?_
        refine lv_iload_n hx hb dX4_likenessOf_56 rfl (lv_at hl 3 rfl) ?_
        refine kq_R (va_runV (As := [.int (nI b)]) (rest := [.int (kdpo tr pa up a 30), .int (20000 * ((kdpo tr pa up q 30) + 1))]) ⟨hx, hb, hml, hown, hts⟩ (c_X4_depthOf l D cI m0 m3 m4 m5 m6 m7 m9 m11 m12 m13 m14 th ma tr mw sd pa ct mg mm mk mt up li td be b (hbb) _) (cwV 1 hts gX4_likenessOf_X4_depthOf rfl rfl rfl (by decide +kernel) ⟨Nat.le_of_ble_eq_true rfl, Nat.le_of_ble_eq_true rfl⟩) (kp_RV (hP.sub (ws' := [(m0, .inr (4, [.int th, .int ma, .int tr, .ref m3, .ref m4, .ref m5, .ref m6, .ref m7, .int mw, .ref m9, .int sd, .ref m11, .ref m12, .ref m13, .ref m14])), (m3, .inl (cI, 30, .inl pa)), (m4, .inl (cI, 30, .inl ct)), (m5, .inl (cI, 50, .inl mg)), (m6, .inl (cI, 10, .inl mm)), (m7, .inl (cI, 10, .inl mk)), (m9, .inl (cI, 6, .inl mt)), (m11, .inl (cI, 900, .inl up)), (m12, .inl (cI, 900, .inl li)), (m13, .inl (cI, 6, .inl td)), (m14, .inl (cI, 6, .inl be))]) [0, 1, 2, 3, 4, 5, 6, 7, 8, 9, 10] rfl) hK 0 4 rfl rfl) rfl rfl hl.1 rfl (lv_room (Nat.le_of_ble_eq_true rfl)) dX4_likenessOf_57 ⟨Nat.zero_le _, Nat.zero_le _⟩) hP hS hA (fun r_57 H locs er_57 hP hS => ?_)
        subst er_57
        refine lv_iadd hx hb dX4_likenessOf_60 ?_
        refine lv_iconst (v := 2) hx hb dX4_likenessOf_61 (by decide) ?_
        refine lv_iadd hx hb dX4_likenessOf_62 ?_
        refine lv_idiv hx hb dX4_likenessOf_63 (hd2) ?_
        refine lv_istore (lv' := [(5, .int ((20000 * ((kdpo tr pa up q 30) + 1)) / (((kdpo tr pa up a 30) + (kdpo tr pa up b 30)) + 2))), (4, .int (nI q)), (0, .ref m0), (1, .int (nI a)), (2, .int (nI b)), (3, .int i3)]) hx hb dX4_likenessOf_64 hl (by decide) rfl (fun ls hl => ?_)
        refine lv_iload hx hb dX4_likenessOf_66 (lv_at hl 0 rfl) ?_
        refine lv_sipush (v := 10000) hx hb dX4_likenessOf_68 (by decide) ?_
        refine lv_icmp_ge (tgt := 79) hx hb dX4_likenessOf_71 (by decide) (fun c_71 => ?_) (fun c_71 => ?_)
        · skip
          refine lv_sipush (v := 10000) hx hb dX4_likenessOf_79 (by decide) ?_
          exact ke_R hx hb hr hlocks hS dX4_likenessOf_82 (by unfold klik klk1; rw [← ey, if_neg c_11, if_neg c_17, if_pos c_35, nI_clamp (show q < 2 ^ 31 by omega), if_pos c_71])
        · skip
          refine lv_iload hx hb dX4_likenessOf_74 (lv_at hl 0 rfl) ?_
          refine lv_goto (tgt := 82) hx hb dX4_likenessOf_76 (by decide) ?_
          exact ke_R hx hb hr hlocks hS dX4_likenessOf_82 (by unfold klik klk1; rw [← ey, if_neg c_11, if_neg c_17, if_pos c_35, nI_clamp (show q < 2 ^ 31 by omega), if_neg c_71])
    · skip
      refine lv_sipush (v := 10000) hx hb dX4_likenessOf_20 (by decide) ?_
      refine lv_iconst (v := 1) hx hb dX4_likenessOf_23 (by decide) ?_
      refine lv_aload_n hx hb dX4_likenessOf_24 rfl (lv_at hl 1 rfl) ?_
      refine lv_iload_n hx hb dX4_likenessOf_25 rfl (lv_at hl 2 rfl) ?_
      refine lv_iload_n hx hb dX4_likenessOf_26 rfl (lv_at hl 3 rfl) ?_
      refine kq_R (va_runV (As := [.int (nI a), .int (nI b)]) (rest := [.int 1, .int 10000]) ⟨hx, hb, hml, hown, hts⟩ (c_X4_distanceOf l D cI m0 m3 m4 m5 m6 m7 m9 m11 m12 m13 m14 th ma tr mw sd pa ct mg mm mk mt up li td be a b (ha) (hbb) _) (cwV 2 hts gX4_likenessOf_X4_distanceOf rfl rfl rfl (by decide +kernel) ⟨Nat.le_of_ble_eq_true rfl, Nat.le_of_ble_eq_true rfl⟩) (kp_RV (hP.sub (ws' := [(m0, .inr (4, [.int th, .int ma, .int tr, .ref m3, .ref m4, .ref m5, .ref m6, .ref m7, .int mw, .ref m9, .int sd, .ref m11, .ref m12, .ref m13, .ref m14])), (m3, .inl (cI, 30, .inl pa)), (m4, .inl (cI, 30, .inl ct)), (m5, .inl (cI, 50, .inl mg)), (m6, .inl (cI, 10, .inl mm)), (m7, .inl (cI, 10, .inl mk)), (m9, .inl (cI, 6, .inl mt)), (m11, .inl (cI, 900, .inl up)), (m12, .inl (cI, 900, .inl li)), (m13, .inl (cI, 6, .inl td)), (m14, .inl (cI, 6, .inl be))]) [0, 1, 2, 3, 4, 5, 6, 7, 8, 9, 10] rfl) hK 0 4 rfl rfl) rfl rfl hl.1 rfl (lv_room (Nat.le_of_ble_eq_true rfl)) dX4_likenessOf_27 ⟨Nat.zero_le _, Nat.zero_le _⟩) hP hS hA (fun r_27 H locs er_27 hP hS => ?_)
      subst er_27
      refine lv_iadd hx hb dX4_likenessOf_30 ?_
      refine lv_idiv hx hb dX4_likenessOf_31 (hd1 (fun z => c_11 (ey.trans z))) ?_
      exact ke_R hx hb hr hlocks hS dX4_likenessOf_32 (by unfold klik; rw [← ey, if_neg c_11, if_pos c_17])
  · skip
    refine lv_iconst (v := 0) hx hb dX4_likenessOf_14 (by decide) ?_
    exact ke_R hx hb hr hlocks hS dX4_likenessOf_15 (by unfold klik; rw [if_pos (ey.symm.trans c_11)])
set_option maxHeartbeats 4000000 in
set_option maxRecDepth 100000 in
theorem c_X4_canStand (l : Launch) (D : va_G) (cI : ClassId) (m0 m3 m4 m5 m6 m7 m9 m11 m12 m13 m14 : Nat) (th : Int32) (ma : Int32) (tr : Int32) (mw : Int32) (sd : Int32) (pa : Nat → Int32) (ct : Nat → Int32) (mg : Nat → Int32) (mm : Nat → Int32) (mk : Nat → Int32) (mt : Nat → Int32) (up : Nat → Int32) (li : Nat → Int32) (td : Nat → Int32) (be : Nat → Int32) (P : Nat) (wf : Nat → Nat) (nf : Nat → Nat) (i1 : Int32) (hp1 : sd = nI P) (hp2 : P ≤ 6) (hwf : ∀ k, k < P → mt k = nI (wf k) ∧ wf k < 10 ∧ mm (wf k) = nI (nf (wf k)) ∧ nf (wf k) ≤ 5) : kc_R l yX4_canStand wsX4_canStand 1 24 D cI [.ref m0, .int i1] [(m0, .inr (4, [.int th, .int ma, .int tr, .ref m3, .ref m4, .ref m5, .ref m6, .ref m7, .int mw, .ref m9, .int sd, .ref m11, .ref m12, .ref m13, .ref m14])), (m3, .inl (cI, 30, .inl pa)), (m4, .inl (cI, 30, .inl ct)), (m5, .inl (cI, 50, .inl mg)), (m6, .inl (cI, 10, .inl mm)), (m7, .inl (cI, 10, .inl mk)), (m9, .inl (cI, 6, .inl mt)), (m11, .inl (cI, 900, .inl up)), (m12, .inl (cI, 900, .inl li)), (m13, .inl (cI, 6, .inl td)), (m14, .inl (cI, 6, .inl be))] (fun r => r = nB (kstd mg wf nf i1 P)) := by
  refine ks_R (cc := cX4_canStand) (nL := 4) (ret := (some .boolean)) (by decide) rfl (Nat.le_of_ble_eq_true rfl) ?_
  intro p e s m below meth c ls hF hP hK hS hA hl
  obtain ⟨hx, hb, hr, hml, hown, hts, hlocks⟩ := hF
  have hown : s.vm.findClass RX4 = some m.cls := hown
  have hl : lv_has ls 4 [(0, .ref m0), (1, .int i1)] := hl
  refine lv_iconst (v := 0) hx hb dX4_canStand_0 (by decide) ?_
  refine lv_istore_n (lv' := [(2, .int 0), (0, .ref m0), (1, .int i1)]) hx hb dX4_canStand_1 rfl hl (by decide) rfl (fun ls hl => ?_)
  refine lv_iconst (v := 0) hx hb dX4_canStand_2 (by decide) ?_
  refine lv_istore_n (lv' := [(3, .int 0), (2, .int 0), (0, .ref m0), (1, .int i1)]) hx hb dX4_canStand_3 rfl hl (by decide) rfl (fun ls hl => ?_)
  refine kl_for (head := 4) (N := P) (fun (j : Nat) (H : Heap) (locs : List Loc) (ls : Array Slot) => ∃ (y : Int32), (y = nB (kstd mg wf nf i1 j)) ∧ va_P D vwCl [(m0, .inr (4, [.int th, .int ma, .int tr, .ref m3, .ref m4, .ref m5, .ref m6, .ref m7, .int mw, .ref m9, .int sd, .ref m11, .ref m12, .ref m13, .ref m14])), (m3, .inl (cI, 30, .inl pa)), (m4, .inl (cI, 30, .inl ct)), (m5, .inl (cI, 50, .inl mg)), (m6, .inl (cI, 10, .inl mm)), (m7, .inl (cI, 10, .inl mk)), (m9, .inl (cI, 6, .inl mt)), (m11, .inl (cI, 900, .inl up)), (m12, .inl (cI, 900, .inl li)), (m13, .inl (cI, 6, .inl td)), (m14, .inl (cI, 6, .inl be))] H ∧ va_S (va_A [] s.heap.size) s.heap H locs ∧ lv_has ls 4 [(0, .ref m0), (1, .int i1), (2, .int y), (3, .int (nI j))]) 0 (Nat.zero_le _) ?_ ?_ ⟨0, (rfl), hP, hS, (lv_sub hl [2, 3, 1, 0] rfl)⟩
  · skip
    intro j hj H locs ls hJ ih4
    obtain ⟨y, hI, hP, hS, hl⟩ := hJ
    refine lv_iload_n hx hb dX4_canStand_4 rfl (lv_at hl 3 rfl) ?_
    refine lv_aload_n hx hb dX4_canStand_5 rfl (lv_at hl 0 rfl) ?_
    refine va_get (D := D) (ci := 4) (v := .int sd) (C := RX4) (T := TX4) (N := 15) hx hb hts (fun w h => List.mem_cons_of_mem _ (List.mem_append_right _ (h))) hown hK.1 hP 0 rfl rfl 10 (by decide) (hts (.fieldLink RX4 91 "SenseNetModel" "said" "I") (List.mem_of_getElem? (i := 1) rfl)) (fun _ h9 => h9) rfl dX4_canStand_6 ?_
    refine lv_icmp_ge (tgt := 43) hx hb dX4_canStand_9 (by decide) (fun hc => absurd hc (by rw [hp1]; exact nI_ge (b := P) hj (by omega))) (fun _ => ?_)
    refine lv_iload_n hx hb dX4_canStand_12 rfl (lv_at hl 2 rfl) ?_
    refine lv_if_ne (tgt := 31) hx hb dX4_canStand_13 (by decide) (fun c_13 => ?_) (fun c_13 => ?_)
    · skip
      refine lv_iconst (v := 1) hx hb dX4_canStand_31 (by decide) ?_
      refine lv_goto (tgt := 36) hx hb dX4_canStand_32 (by decide) ?_
      refine lv_istore_n (lv' := [(2, .int 1), (0, .ref m0), (1, .int i1), (3, .int (nI j))]) hx hb dX4_canStand_36 rfl hl (by decide) rfl (fun ls hl => ?_)
      refine lv_iinc (v := nI (j + 1)) (lv' := [(3, .int (nI (j + 1))), (2, .int 1), (0, .ref m0), (1, .int i1)]) hx hb dX4_canStand_37 hl (k := 3) rfl (nI_1 _) (by decide) rfl (fun ls hl => ?_)
      refine lv_goto (tgt := 4) hx hb dX4_canStand_40 (by decide) ?_
      exact ih4 _ _ _ ⟨1, (by rw [hI] at c_13; simp only [kstd, nB_n0.mp c_13, Bool.true_or]; rfl), hP, hS, (lv_sub hl [2, 3, 1, 0] rfl)⟩
    · skip
      refine lv_aload_n hx hb dX4_canStand_16 rfl (lv_at hl 0 rfl) ?_
      refine lv_aload_n hx hb dX4_canStand_17 rfl (lv_at hl 0 rfl) ?_
      refine va_get (D := D) (ci := 4) (v := .ref m9) (C := RX4) (T := TX4) (N := 15) hx hb hts (fun w h => List.mem_cons_of_mem _ (List.mem_append_right _ (h))) hown hK.1 hP 0 rfl rfl 9 (by decide) (hts (.fieldLink RX4 25 "SenseNetModel" "sentence" "[I") (List.mem_of_getElem? (i := 2) rfl)) (fun _ h9 => h9) rfl dX4_canStand_18 ?_
      refine lv_iload_n hx hb dX4_canStand_21 rfl (lv_at hl 3 rfl) ?_
      refine va_iald (q0 := 6) (t0 := 0) hx hb hK.1 hP rfl rfl (vp_in_nI (show j < 6 from by omega) (by decide)) dX4_canStand_22 ?_
      refine kx_top (show mt (nI j).toNatClampNeg = mt j from congrArg mt (nI_clamp (Nat.lt_trans (show j < 6 from by omega) (by decide)))) ?_
      refine kx_top (show mt j = nI (wf j) from (hwf j hj).1) ?_
      refine lv_iload_n hx hb dX4_canStand_23 rfl (lv_at hl 1 rfl) ?_
      refine kq_R (va_runV (As := [.int (nI (wf j)), .int i1]) (rest := []) ⟨hx, hb, hml, hown, hts⟩ (c_X4_placeOf l D cI m0 m3 m4 m5 m6 m7 m9 m11 m12 m13 m14 th ma tr mw sd pa ct mg mm mk mt up li td be (nf (wf j)) (wf j) i1 ((hwf j hj).2.1) ((hwf j hj).2.2.1) ((hwf j hj).2.2.2) _) (cwV 2 hts gX4_canStand_X4_placeOf rfl rfl rfl (by decide +kernel) ⟨Nat.le_of_ble_eq_true rfl, Nat.le_of_ble_eq_true rfl⟩) (kp_RV (hP.sub (ws' := [(m0, .inr (4, [.int th, .int ma, .int tr, .ref m3, .ref m4, .ref m5, .ref m6, .ref m7, .int mw, .ref m9, .int sd, .ref m11, .ref m12, .ref m13, .ref m14])), (m3, .inl (cI, 30, .inl pa)), (m4, .inl (cI, 30, .inl ct)), (m5, .inl (cI, 50, .inl mg)), (m6, .inl (cI, 10, .inl mm)), (m7, .inl (cI, 10, .inl mk)), (m9, .inl (cI, 6, .inl mt)), (m11, .inl (cI, 900, .inl up)), (m12, .inl (cI, 900, .inl li)), (m13, .inl (cI, 6, .inl td)), (m14, .inl (cI, 6, .inl be))]) [0, 1, 2, 3, 4, 5, 6, 7, 8, 9, 10] rfl) hK 0 4 rfl rfl) rfl rfl hl.1 rfl (lv_room (Nat.le_of_ble_eq_true rfl)) dX4_canStand_24 ⟨Nat.zero_le _, Nat.zero_le _⟩) hP hS hA (fun r_24 H locs er_24 hP hS => ?_)
      subst er_24
      refine lv_iconst (v := (-1)) hx hb dX4_canStand_27 (by decide) ?_
      refine lv_icmp_eq (tgt := 35) hx hb dX4_canStand_28 (by decide) (fun c_28 => ?_) (fun c_28 => ?_)
      · skip
        refine lv_iconst (v := 0) hx hb dX4_canStand_35 (by decide) ?_
        refine lv_istore_n (lv' := [(2, .int 0), (0, .ref m0), (1, .int i1), (3, .int (nI j))]) hx hb dX4_canStand_36 rfl hl (by decide) rfl (fun ls hl => ?_)
        refine lv_iinc (v := nI (j + 1)) (lv' := [(3, .int (nI (j + 1))), (2, .int 0), (0, .ref m0), (1, .int i1)]) hx hb dX4_canStand_37 hl (k := 3) rfl (nI_1 _) (by decide) rfl (fun ls hl => ?_)
        refine lv_goto (tgt := 4) hx hb dX4_canStand_40 (by decide) ?_
        exact ih4 _ _ _ ⟨0, (by rw [hI] at c_13; simp only [kstd, nB_0.mp c_13, decide_eq_true c_28, Bool.not_true, Bool.or_false]; rfl), hP, hS, (lv_sub hl [2, 3, 1, 0] rfl)⟩
      · skip
        refine lv_iconst (v := 1) hx hb dX4_canStand_31 (by decide) ?_
        refine lv_goto (tgt := 36) hx hb dX4_canStand_32 (by decide) ?_
        refine lv_istore_n (lv' := [(2, .int 1), (0, .ref m0), (1, .int i1), (3, .int (nI j))]) hx hb dX4_canStand_36 rfl hl (by decide) rfl (fun ls hl => ?_)
        refine lv_iinc (v := nI (j + 1)) (lv' := [(3, .int (nI (j + 1))), (2, .int 1), (0, .ref m0), (1, .int i1)]) hx hb dX4_canStand_37 hl (k := 3) rfl (nI_1 _) (by decide) rfl (fun ls hl => ?_)
        refine lv_goto (tgt := 4) hx hb dX4_canStand_40 (by decide) ?_
        exact ih4 _ _ _ ⟨1, (by simp only [kstd, decide_eq_false c_28, Bool.not_false, Bool.or_true]; rfl), hP, hS, (lv_sub hl [2, 3, 1, 0] rfl)⟩
  · skip
    intro H locs ls hJ
    obtain ⟨y, hI, hP, hS, hl⟩ := hJ
    refine lv_iload_n hx hb dX4_canStand_4 rfl (lv_at hl 3 rfl) ?_
    refine lv_aload_n hx hb dX4_canStand_5 rfl (lv_at hl 0 rfl) ?_
    refine va_get (D := D) (ci := 4) (v := .int sd) (C := RX4) (T := TX4) (N := 15) hx hb hts (fun w h => List.mem_cons_of_mem _ (List.mem_append_right _ (h))) hown hK.1 hP 0 rfl rfl 10 (by decide) (hts (.fieldLink RX4 91 "SenseNetModel" "said" "I") (List.mem_of_getElem? (i := 1) rfl)) (fun _ h9 => h9) rfl dX4_canStand_6 ?_
    refine lv_icmp_ge (tgt := 43) hx hb dX4_canStand_9 (by decide) (fun _ => ?_) (fun hc => absurd (by rw [hp1]; exact nI_le (a := P) (b := P) (Nat.le_refl _) (by omega)) hc)
    refine lv_iload_n hx hb dX4_canStand_43 rfl (lv_at hl 2 rfl) ?_
    exact ke_Z hx hb hr hlocks hS dX4_canStand_44 (kstd mg wf nf i1 P) (hI) (rfl)
