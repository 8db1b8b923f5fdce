set_option maxHeartbeats 4000000 in
set_option maxRecDepth 100000 in
theorem c_X3_bit (l : Launch) (D : va_G) (cI : ClassId) (i1 : Int32) : kc_R l yX3_bit wsX3_bit 0 0 D cI [.int i1] [] (fun r => r = kbit i1) := by
  refine ks_R (cc := cX3_bit) (nL := 1) (ret := (some .int)) (by decide) rfl (Nat.le_of_ble_eq_true rfl) ?_
  intro p e s m below meth c ls hF hP hK hS hA hl
  obtain ⟨hx, hb, hr, hml, hown, hts, hlocks⟩ := hF
  have hown : s.vm.findClass RX3 = some m.cls := hown
  have hl : lv_has ls 1 [(0, .int i1)] := hl
  refine lv_iload_n hx hb dX3_bit_0 rfl (lv_at hl 0 rfl) ?_
  refine lv_if_lt (tgt := 16) hx hb dX3_bit_1 (by decide) (fun c_1 => ?_) (fun c_1 => ?_)
  · skip
    refine lv_iconst (v := 0) hx hb dX3_bit_16 (by decide) ?_
    exact ke_R hx hb hr hlocks hS dX3_bit_17 (by unfold kbit; first | rw [if_pos c_1] | rw [if_neg c_1, if_pos c_7] | rw [if_neg c_1, if_neg c_7])
  · skip
    refine lv_iload_n hx hb dX3_bit_4 rfl (lv_at hl 0 rfl) ?_
    refine lv_bipush (v := 30) hx hb dX3_bit_5 (by decide) ?_
    refine lv_icmp_ge (tgt := 16) hx hb dX3_bit_7 (by decide) (fun c_7 => ?_) (fun c_7 => ?_)
    · skip
      refine lv_iconst (v := 0) hx hb dX3_bit_16 (by decide) ?_
      exact ke_R hx hb hr hlocks hS dX3_bit_17 (by unfold kbit; first | rw [if_pos c_1] | rw [if_neg c_1, if_pos c_7] | rw [if_neg c_1, if_neg c_7])
    · skip
      refine lv_iconst (v := 1) hx hb dX3_bit_10 (by decide) ?_
      refine lv_iload_n hx hb dX3_bit_11 rfl (lv_at hl 0 rfl) ?_
      refine lv_ishl hx hb dX3_bit_12 ?_
      refine lv_goto (tgt := 17) hx hb dX3_bit_13 (by decide) ?_
      exact ke_R hx hb hr hlocks hS dX3_bit_17 (by unfold kbit; first | rw [if_pos c_1] | rw [if_neg c_1, if_pos c_7] | rw [if_neg c_1, if_neg c_7])
set_option maxHeartbeats 4000000 in
set_option maxRecDepth 100000 in
theorem c_X3_holds (l : Launch) (D : va_G) (cI : ClassId) (i1 : Int32) (i2 : Int32) : kc_R l yX3_holds wsX3_holds 1 20 D cI [.int i1, .int i2] [] (fun r => r = nB (khas i1 i2)) := by
  refine ks_R (cc := cX3_holds) (nL := 2) (ret := (some .boolean)) (by decide) rfl (Nat.le_of_ble_eq_true rfl) ?_
  intro p e s m below meth c ls hF hP hK hS hA hl
  obtain ⟨hx, hb, hr, hml, hown, hts, hlocks⟩ := hF
  have hown : s.vm.findClass RX3 = some m.cls := hown
  have hl : lv_has ls 2 [(0, .int i1), (1, .int i2)] := hl
  refine lv_iload_n hx hb dX3_holds_0 rfl (lv_at hl 0 rfl) ?_
  refine lv_iload_n hx hb dX3_holds_1 rfl (lv_at hl 1 rfl) ?_
  refine kq_R (va_runS (As := [.int i2]) (rest := [.int i1]) ⟨hx, hb, hml, hown, hts⟩ (c_X3_bit l D cI i2 _) (va_cwS 1 hts gX3_holds_X3_bit rfl rfl rfl (by decide +kernel) ⟨Nat.le_of_ble_eq_true rfl, Nat.le_of_ble_eq_true rfl⟩) (kp_RS (hP.sub (ws' := []) [] rfl) hK) rfl rfl hl.1 rfl (lv_room (Nat.le_of_ble_eq_true rfl)) dX3_holds_2 ⟨Nat.zero_le _, Nat.zero_le _⟩) hP hS hA (fun r_2 H locs er_2 hP hS => ?_)
  subst er_2
  refine lv_iand hx hb dX3_holds_5 ?_
  refine lv_if_eq (tgt := 13) hx hb dX3_holds_6 (by decide) (fun c_6 => ?_) (fun c_6 => ?_)
  · skip
    refine lv_iconst (v := 0) hx hb dX3_holds_13 (by decide) ?_
    exact ke_Z hx hb hr hlocks hS dX3_holds_14 (khas i1 i2) (by unfold khas nB; first | (rw [if_pos c_6]; simp [c_6]; done) | simp [c_6]) (rfl)
  · skip
    refine lv_iconst (v := 1) hx hb dX3_holds_9 (by decide) ?_
    refine lv_goto (tgt := 14) hx hb dX3_holds_10 (by decide) ?_
    exact ke_Z hx hb hr hlocks hS dX3_holds_14 (khas i1 i2) (by unfold khas nB; first | (rw [if_pos c_6]; simp [c_6]; done) | simp [c_6]) (rfl)
set_option maxHeartbeats 4000000 in
set_option maxRecDepth 100000 in
theorem c_X3_at (l : Launch) (D : va_G) (cI : ClassId) (h0 : Nat) (n : Nat) (f : Nat → Int32) (i : Int32) (hn : n < 2 ^ 31) : kc_R l yX3_at wsX3_at 0 0 D cI [.ref h0, .int i] [(h0, .inl (cI, n, .inl f))] (fun r => r = kat n f i) := by
  refine ks_R (cc := cX3_at) (nL := 2) (ret := (some .int)) (by decide) rfl (Nat.le_of_ble_eq_true rfl) ?_
  intro p e s m below meth c ls hF hP hK hS hA hl
  obtain ⟨hx, hb, hr, hml, hown, hts, hlocks⟩ := hF
  have hown : s.vm.findClass RX3 = some m.cls := hown
  have hl : lv_has ls 2 [(0, .ref h0), (1, .int i)] := hl
  refine lv_aload_n hx hb dX3_at_0 rfl (lv_at hl 0 rfl) ?_
  refine lv_ifnull hx hb dX3_at_1 ?_
  refine lv_iload_n hx hb dX3_at_4 rfl (lv_at hl 1 rfl) ?_
  refine lv_if_lt (tgt := 20) hx hb dX3_at_5 (by decide) (fun c_5 => ?_) (fun c_5 => ?_)
  · skip
    refine lv_iconst (v := 0) hx hb dX3_at_20 (by decide) ?_
    exact ke_R hx hb hr hlocks hS dX3_at_21 (by unfold kat; first | rw [if_pos c_5] | rw [if_neg c_5, if_pos c_11] | rw [if_neg c_5, if_neg c_11])
  · skip
    refine lv_iload_n hx hb dX3_at_8 rfl (lv_at hl 1 rfl) ?_
    refine lv_aload_n hx hb dX3_at_9 rfl (lv_at hl 0 rfl) ?_
    refine va_alen (q0 := 0) (t0 := 0) (v := nI n) hx hb hK.1 hP rfl rfl rfl dX3_at_10 ?_
    refine lv_icmp_ge (tgt := 20) hx hb dX3_at_11 (by decide) (fun c_11 => ?_) (fun c_11 => ?_)
    · skip
      refine lv_iconst (v := 0) hx hb dX3_at_20 (by decide) ?_
      exact ke_R hx hb hr hlocks hS dX3_at_21 (by unfold kat; first | rw [if_pos c_5] | rw [if_neg c_5, if_pos c_11] | rw [if_neg c_5, if_neg c_11])
    · skip
      refine lv_aload_n hx hb dX3_at_14 rfl (lv_at hl 0 rfl) ?_
      refine lv_iload_n hx hb dX3_at_15 rfl (lv_at hl 1 rfl) ?_
      refine va_iald (q0 := 0) (t0 := 0) hx hb hK.1 hP rfl rfl (kx_in hn c_5 c_11) dX3_at_16 ?_
      refine lv_goto (tgt := 21) hx hb dX3_at_17 (by decide) ?_
      exact ke_R hx hb hr hlocks hS dX3_at_21 (by unfold kat; first | rw [if_pos c_5] | rw [if_neg c_5, if_pos c_11] | rw [if_neg c_5, if_neg c_11])
set_option maxHeartbeats 4000000 in
set_option maxRecDepth 100000 in
theorem c_X3_put (l : Launch) (D : va_G) (cI : ClassId) (h0 : Nat) (n : Nat) (f : Nat → Int32) (i : Int32) (v : Int32) (hn : n < 2 ^ 31) : kc_V l yX3_put wsX3_put 0 0 D cI [.ref h0, .int i, .int v] [(h0, .inl (cI, n, .inl f))] (fun (u : Unit) => True) (fun u => [(h0, .inl (cI, n, .inl (kput n f i v)))]) := by
  refine ks_V (cc := cX3_put) (nL := 3) (ret := none) (by decide) rfl (Nat.le_of_ble_eq_true rfl) ?_
  intro p e s m below meth c ls hF hP hK hS hA hD hl
  obtain ⟨hx, hb, hr, hml, hown, hts, hlocks⟩ := hF
  have hown : s.vm.findClass RX3 = some m.cls := hown
  have hl : lv_has ls 3 [(0, .ref h0), (1, .int i), (2, .int v)] := hl
  refine lv_aload_n hx hb dX3_put_0 rfl (lv_at hl 0 rfl) ?_
  refine lv_ifnull hx hb dX3_put_1 ?_
  refine lv_iload_n hx hb dX3_put_4 rfl (lv_at hl 1 rfl) ?_
  refine lv_if_lt (tgt := 18) hx hb dX3_put_5 (by decide) (fun c_5 => ?_) (fun c_5 => ?_)
  · skip
    exact ke_V hx hb hr hlocks (()) (by (unfold kput; first | rw [if_pos c_5] | rw [if_neg c_5, if_pos c_11] | rw [if_neg c_5, if_neg c_11]); exact hP) (by (unfold kput; first | rw [if_pos c_5] | rw [if_neg c_5, if_pos c_11] | rw [if_neg c_5, if_neg c_11]); exact hD) hS dX3_put_18 (trivial)
  · skip
    refine lv_iload_n hx hb dX3_put_8 rfl (lv_at hl 1 rfl) ?_
    refine lv_aload_n hx hb dX3_put_9 rfl (lv_at hl 0 rfl) ?_
    refine va_alen (q0 := 0) (t0 := 0) (v := nI n) hx hb hK.1 hP rfl rfl rfl dX3_put_10 ?_
    refine lv_icmp_ge (tgt := 18) hx hb dX3_put_11 (by decide) (fun c_11 => ?_) (fun c_11 => ?_)
    · skip
      exact ke_V hx hb hr hlocks (()) (by (unfold kput; first | rw [if_pos c_5] | rw [if_neg c_5, if_pos c_11] | rw [if_neg c_5, if_neg c_11]); exact hP) (by (unfold kput; first | rw [if_pos c_5] | rw [if_neg c_5, if_pos c_11] | rw [if_neg c_5, if_neg c_11]); exact hD) hS dX3_put_18 (trivial)
    · skip
      refine lv_aload_n hx hb dX3_put_14 rfl (lv_at hl 0 rfl) ?_
      refine lv_iload_n hx hb dX3_put_15 rfl (lv_at hl 1 rfl) ?_
      refine lv_iload_n hx hb dX3_put_16 rfl (lv_at hl 2 rfl) ?_
      refine va_iast (q0 := 0) (t0 := 0) hx hb hK.1 hP hD hS rfl rfl (kx_in hn c_5 c_11) dX3_put_17 (fun H locs hP hD hS => ?_)
      have hP : va_P D vwCl [(h0, .inl (cI, n, .inl (upd f (i).toNatClampNeg v)))] H := hP
      have hD := (show va_D _ [(h0, .inl (cI, n, .inl (upd f (i).toNatClampNeg v)))] from hD)
      exact ke_V hx hb hr hlocks (()) (by (unfold kput; first | rw [if_pos c_5] | rw [if_neg c_5, if_pos c_11] | rw [if_neg c_5, if_neg c_11]); exact hP) (by (unfold kput; first | rw [if_pos c_5] | rw [if_neg c_5, if_pos c_11] | rw [if_neg c_5, if_neg c_11]); exact hD) hS dX3_put_18 (trivial)
