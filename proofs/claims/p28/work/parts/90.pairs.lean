/-! p28: arePairsSo. -/
theorem kin_v {v : Nat} (h : v < 3) : kin (nI v) 0 2 = true := by
  rcases (show v = 0 ∨ v = 1 ∨ v = 2 by omega) with rfl | rfl | rfl <;> decide
set_option maxHeartbeats 4000000 in
set_option maxRecDepth 100000 in
theorem cw_arePairsSoA (l : Launch) (D : va_G) (cI : ClassId) (a : Nat → Nat) (c : kCS) (x : kXS) (i j : Nat) (hi : i < 30) (hj : j < 30) (hp : bt (kPr c) i = true) (hq : bt (kPr c) j = true) {A : Nat} {cn rk : Nat → Nat} {pa : Nat → Int32} (hN : kRN A cn rk (kAd c) (kPr c) (kPa c) (kCs c) (kCo c) (kMa c) (kDe c) (kSx c) pa) (z0 : kCo c i &&& kCo c j = 0) (t0 : ktel (kMa c) (kDe c) (kCo c i &&& kCo c j) 30 = -1) (d0 : ksbt (kSx c) (nI i) (nI j) (kCo c i &&& kCo c j) 30 = -1) (ne : ¬ i = j) (hfl : l.stackTraces = false) : kc_X l yL_arePairsSo wsL_arePairsSo 8 126 91 546 D cI [.ref (a 0), .int (nI i), .int (nI j)] (oW cI a c x) (fun (r : Int32) (_ : Unit) => r = 1) (fun _ => oW cI a c x) (fun _ => False) := by
  refine ks_X (cc := cL_arePairsSo) (nL := 9) (ret := (some .boolean)) (by decide) rfl (Nat.le_of_ble_eq_true rfl) ?_
  intro p e s m below meth cd ls hF ht hP hK hX hZ hS hA hD hl
  obtain ⟨hx, hb, hr, hml, hown, hts, hlocks⟩ := hF
  have hown : s.vm.findClass RL = some m.cls := hown
  have hS := kx_wk (ws := (oW cI a c x)) hS
  have hl : lv_has ls 9 [(0, .ref (a 0)), (1, .int (nI i)), (2, .int (nI j))] := hl
  have hn := hN.2.2.1
  have hs := hN.2.2.2.1
  refine lv_aload_n hx hb dL_arePairsSo_0 rfl (lv_at hl 0 rfl) ?_
  refine lv_iload_n hx hb dL_arePairsSo_1 rfl (lv_at hl 1 rfl) ?_
  refine lv_iload_n hx hb dL_arePairsSo_2 rfl (lv_at hl 2 rfl) ?_
  refine kq_0 (px := fun _ => False) (vx_runV (As := [.int (nI i), .int (nI j)]) (rest := []) ⟨hx, hb, hml, hown, hts⟩ (cG_shared l D cI a c x i j hi hj hp hq hfl _) (cwV 2 hts gL_arePairsSo_X3_shared rfl rfl rfl (by decide +kernel) ⟨Nat.le_of_ble_eq_true rfl, Nat.le_of_ble_eq_true rfl⟩) (kp_0V hP hD hK hX hZ hS hA 0 3 rfl rfl) rfl rfl hl.1 rfl (lv_room (Nat.le_of_ble_eq_true rfl)) dL_arePairsSo_3 ⟨(show 0 + 2 ≤ 91 from by omega), (show 0 + 12 ≤ 546 from by omega)⟩) hP hD hS hA (fun E ce q9 H locs hE hP hS hcell hv hcl => hE.elim) (fun r_3 _u H locs er_3 hP hD hS => ?_)
  have hP : va_P D vwCl (oW cI a c x) H := hP
  have hD : va_D _ (oW cI a c x) := hD
  have er_3 : r_3 = ktel (kMa c) (kDe c) (kCo c i &&& kCo c j) 30 := er_3
  rw [er_3]
  refine kx_top (show ktel (kMa c) (kDe c) (kCo c i &&& kCo c j) 30 = (-1) from t0) ?_
  refine lv_istore_n (lv' := [(3, .int (-1)), (0, .ref (a 0)), (1, .int (nI i)), (2, .int (nI j))]) hx hb dL_arePairsSo_6 rfl hl (by decide) rfl (fun ls hl => ?_)
  refine lv_aload_n hx hb dL_arePairsSo_7 rfl (lv_at hl 1 rfl) ?_
  refine lv_iload_n hx hb dL_arePairsSo_8 rfl (lv_at hl 2 rfl) ?_
  refine kq_0 (px := fun _ => False) (vx_runV (As := [.int (nI i)]) (rest := []) ⟨hx, hb, hml, hown, hts⟩ (cG_above l D cI a c x i hi hp hfl _) (cwV 1 hts gL_arePairsSo_X3_above rfl rfl rfl (by decide +kernel) ⟨Nat.le_of_ble_eq_true rfl, Nat.le_of_ble_eq_true rfl⟩) (kp_0V hP hD hK hX hZ hS hA 0 3 rfl rfl) rfl rfl hl.1 rfl (lv_room (Nat.le_of_ble_eq_true rfl)) dL_arePairsSo_9 ⟨(show 0 + 2 + 1 ≤ 91 from by omega), (show 0 + 12 + 6 ≤ 546 from by omega)⟩) hP hD hS hA (fun E ce q9 H locs hE hP hS hcell hv hcl => hE.elim) (fun r_9 _u H locs er_9 hP hD hS => ?_)
  have hP : va_P D vwCl (oW cI a c x) H := hP
  have hD : va_D _ (oW cI a c x) := hD
  have er_9 : r_9 = kU (kCo c) i := er_9
  rw [er_9]
  refine lv_iconst (v := 1) hx hb dL_arePairsSo_12 (by decide) ?_
  refine lv_iload_n hx hb dL_arePairsSo_13 rfl (lv_at hl 2 rfl) ?_
  refine lv_ishl hx hb dL_arePairsSo_14 ?_
  refine lv_ior hx hb dL_arePairsSo_15 ?_
  refine lv_aload_n hx hb dL_arePairsSo_16 rfl (lv_at hl 1 rfl) ?_
  refine lv_iload_n hx hb dL_arePairsSo_17 rfl (lv_at hl 3 rfl) ?_
  refine kq_0 (px := fun _ => False) (vx_runV (As := [.int (nI j)]) (rest := [.int ((kU (kCo c) i) ||| (1 <<< ((nI i) &&& 31)))]) ⟨hx, hb, hml, hown, hts⟩ (cG_above l D cI a c x j hj hq hfl _) (cwV 1 hts gL_arePairsSo_X3_above rfl rfl rfl (by decide +kernel) ⟨Nat.le_of_ble_eq_true rfl, Nat.le_of_ble_eq_true rfl⟩) (kp_0V hP hD hK hX hZ hS hA 0 3 rfl rfl) rfl rfl hl.1 rfl (lv_room (Nat.le_of_ble_eq_true rfl)) dL_arePairsSo_18 ⟨(show 0 + 2 + 1 + 1 ≤ 91 from by omega), (show 0 + 12 + 6 + 6 ≤ 546 from by omega)⟩) hP hD hS hA (fun E ce q9 H locs hE hP hS hcell hv hcl => hE.elim) (fun r_18 _u H locs er_18 hP hD hS => ?_)
  have hP : va_P D vwCl (oW cI a c x) H := hP
  have hD : va_D _ (oW cI a c x) := hD
  have er_18 : r_18 = kU (kCo c) j := er_18
  rw [er_18]
  refine lv_iconst (v := 1) hx hb dL_arePairsSo_21 (by decide) ?_
  refine lv_iload_n hx hb dL_arePairsSo_22 rfl (lv_at hl 3 rfl) ?_
  refine lv_ishl hx hb dL_arePairsSo_23 ?_
  refine lv_ior hx hb dL_arePairsSo_24 ?_
  refine lv_iand hx hb dL_arePairsSo_25 ?_
  refine kx_top (show ((kU (kCo c) i) ||| (1 <<< ((nI i) &&& 31))) &&& ((kU (kCo c) j) ||| (1 <<< ((nI j) &&& 31))) = 0 from (kZ_both hs.1 hi hj hp hq).trans z0) ?_
  refine lv_istore (lv' := [(4, .int 0), (3, .int (-1)), (0, .ref (a 0)), (1, .int (nI i)), (2, .int (nI j))]) hx hb dL_arePairsSo_26 hl (by decide) rfl (fun ls hl => ?_)
  refine lv_aload_n hx hb dL_arePairsSo_28 rfl (lv_at hl 2 rfl) ?_
  refine lv_iload_n hx hb dL_arePairsSo_29 rfl (lv_at hl 3 rfl) ?_
  refine lv_iload_n hx hb dL_arePairsSo_30 rfl (lv_at hl 4 rfl) ?_
  refine kq_0 (px := fun _ => False) (vx_runV (As := [.int (nI i), .int (nI j)]) (rest := []) ⟨hx, hb, hml, hown, hts⟩ (cG_distance l D cI a c x i j hi hj hp hq hfl _) (cwV 2 hts gL_arePairsSo_X3_distance rfl rfl rfl (by decide +kernel) ⟨Nat.le_of_ble_eq_true rfl, Nat.le_of_ble_eq_true rfl⟩) (kp_0V hP hD hK hX hZ hS hA 0 3 rfl rfl) rfl rfl hl.1 rfl (lv_room (Nat.le_of_ble_eq_true rfl)) dL_arePairsSo_31 ⟨(show 0 + 2 + 1 + 1 + 2 ≤ 91 from by omega), (show 0 + 12 + 6 + 6 + 12 ≤ 546 from by omega)⟩) hP hD hS hA (fun E ce q9 H locs hE hP hS hcell hv hcl => hE.elim) (fun r_31 _u H locs er_31 hP hD hS => ?_)
  have hP : va_P D vwCl (oW cI a c x) H := hP
  have hD : va_D _ (oW cI a c x) := hD
  have er_31 : r_31 = ksbt (kSx c) (nI i) (nI j) (kCo c i &&& kCo c j) 30 := er_31
  rw [er_31]
  refine kx_top (show ksbt (kSx c) (nI i) (nI j) (kCo c i &&& kCo c j) 30 = (-1) from d0) ?_
  refine lv_istore (lv' := [(5, .int (-1)), (4, .int 0), (3, .int (-1)), (0, .ref (a 0)), (1, .int (nI i)), (2, .int (nI j))]) hx hb dL_arePairsSo_34 hl (by decide) rfl (fun ls hl => ?_)
  refine lv_iload_n hx hb dL_arePairsSo_36 rfl (lv_at hl 2 rfl) ?_
  refine lv_aload_n hx hb dL_arePairsSo_37 rfl (lv_at hl 3 rfl) ?_
  refine lv_iload_n hx hb dL_arePairsSo_38 rfl (lv_at hl 5 rfl) ?_
  refine lv_iload_n hx hb dL_arePairsSo_39 rfl (lv_at hl 4 rfl) ?_
  refine kq_0 (px := fun _ => False) (vx_runV (As := [.int (nI j), .int (nI i)]) (rest := [.int (-1)]) ⟨hx, hb, hml, hown, hts⟩ (cG_shared l D cI a c x j i hj hi hq hp hfl _) (cwV 2 hts gL_arePairsSo_X3_shared rfl rfl rfl (by decide +kernel) ⟨Nat.le_of_ble_eq_true rfl, Nat.le_of_ble_eq_true rfl⟩) (kp_0V hP hD hK hX hZ hS hA 0 3 rfl rfl) rfl rfl hl.1 rfl (lv_room (Nat.le_of_ble_eq_true rfl)) dL_arePairsSo_40 ⟨(show 0 + 2 + 1 + 1 + 2 + 2 ≤ 91 from by omega), (show 0 + 12 + 6 + 6 + 12 + 12 ≤ 546 from by omega)⟩) hP hD hS hA (fun E ce q9 H locs hE hP hS hcell hv hcl => hE.elim) (fun r_40 _u H locs er_40 hP hD hS => ?_)
  have hP : va_P D vwCl (oW cI a c x) H := hP
  have hD : va_D _ (oW cI a c x) := hD
  have er_40 : r_40 = ktel (kMa c) (kDe c) (kCo c j &&& kCo c i) 30 := er_40
  rw [er_40]
  refine kx_top (show ktel (kMa c) (kDe c) (kCo c j &&& kCo c i) 30 = (-1) from by rw [b_com (kCo c j)]; exact t0) ?_
  refine lv_icmp_ne (tgt := 129) hx hb dL_arePairsSo_43 (by decide) (fun hc => absurd (by decide) hc) (fun _ => ?_)
  refine lv_iload hx hb dL_arePairsSo_46 (lv_at hl 0 rfl) ?_
  refine lv_aload_n hx hb dL_arePairsSo_48 rfl (lv_at hl 3 rfl) ?_
  refine lv_iload_n hx hb dL_arePairsSo_49 rfl (lv_at hl 5 rfl) ?_
  refine lv_iload_n hx hb dL_arePairsSo_50 rfl (lv_at hl 4 rfl) ?_
  refine kq_0 (px := fun _ => False) (vx_runV (As := [.int (nI j), .int (nI i)]) (rest := [.int (-1)]) ⟨hx, hb, hml, hown, hts⟩ (cG_distance l D cI a c x j i hj hi hq hp hfl _) (cwV 2 hts gL_arePairsSo_X3_distance rfl rfl rfl (by decide +kernel) ⟨Nat.le_of_ble_eq_true rfl, Nat.le_of_ble_eq_true rfl⟩) (kp_0V hP hD hK hX hZ hS hA 0 3 rfl rfl) rfl rfl hl.1 rfl (lv_room (Nat.le_of_ble_eq_true rfl)) dL_arePairsSo_51 ⟨(show 0 + 2 + 1 + 1 + 2 + 2 + 2 ≤ 91 from by omega), (show 0 + 12 + 6 + 6 + 12 + 12 + 12 ≤ 546 from by omega)⟩) hP hD hS hA (fun E ce q9 H locs hE hP hS hcell hv hcl => hE.elim) (fun r_51 _u H locs er_51 hP hD hS => ?_)
  have hP : va_P D vwCl (oW cI a c x) H := hP
  have hD : va_D _ (oW cI a c x) := hD
  have er_51 : r_51 = ksbt (kSx c) (nI j) (nI i) (kCo c j &&& kCo c i) 30 := er_51
  rw [er_51]
  refine kx_top (show ksbt (kSx c) (nI j) (nI i) (kCo c j &&& kCo c i) 30 = (-1) from (kZ_dsym hn hs.1 hi hj hp hq).trans d0) ?_
  refine lv_icmp_ne (tgt := 129) hx hb dL_arePairsSo_54 (by decide) (fun hc => absurd (by decide) hc) (fun _ => ?_)
  refine lv_iload_n hx hb dL_arePairsSo_57 rfl (lv_at hl 2 rfl) ?_
  refine lv_if_ge (tgt := 65) hx hb dL_arePairsSo_58 (by decide) (fun hc => absurd hc (by decide)) (fun _ => ?_)
  refine lv_iconst (v := 1) hx hb dL_arePairsSo_61 (by decide) ?_
  refine lv_goto (tgt := 66) hx hb dL_arePairsSo_62 (by decide) ?_
  refine lv_iload hx hb dL_arePairsSo_66 (lv_at hl 1 rfl) ?_
  refine lv_if_ne (tgt := 75) hx hb dL_arePairsSo_68 (by decide) (fun hc => absurd (by decide) hc) (fun _ => ?_)
  refine lv_iconst (v := 1) hx hb dL_arePairsSo_71 (by decide) ?_
  refine lv_goto (tgt := 76) hx hb dL_arePairsSo_72 (by decide) ?_
  refine lv_icmp_ne (tgt := 129) hx hb dL_arePairsSo_76 (by decide) (fun hc => absurd (by decide) hc) (fun _ => ?_)
  refine lv_iload hx hb dL_arePairsSo_79 (lv_at hl 0 rfl) ?_
  refine lv_if_ge (tgt := 88) hx hb dL_arePairsSo_81 (by decide) (fun hc => absurd hc (by decide)) (fun _ => ?_)
  refine lv_iconst (v := 1) hx hb dL_arePairsSo_84 (by decide) ?_
  refine lv_goto (tgt := 89) hx hb dL_arePairsSo_85 (by decide) ?_
  refine lv_iload hx hb dL_arePairsSo_89 (lv_at hl 1 rfl) ?_
  refine lv_if_ne (tgt := 98) hx hb dL_arePairsSo_91 (by decide) (fun hc => absurd (by decide) hc) (fun _ => ?_)
  refine lv_iconst (v := 1) hx hb dL_arePairsSo_94 (by decide) ?_
  refine lv_goto (tgt := 99) hx hb dL_arePairsSo_95 (by decide) ?_
  refine lv_icmp_ne (tgt := 129) hx hb dL_arePairsSo_99 (by decide) (fun hc => absurd (by decide) hc) (fun _ => ?_)
  refine lv_iload hx hb dL_arePairsSo_102 (lv_at hl 0 rfl) ?_
  refine lv_if_ne (tgt := 111) hx hb dL_arePairsSo_104 (by decide) (fun _ => ?_) (fun hc => absurd hc (by decide))
  refine lv_iconst (v := 0) hx hb dL_arePairsSo_111 (by decide) ?_
  refine lv_iload_n hx hb dL_arePairsSo_112 rfl (lv_at hl 4 rfl) ?_
  refine lv_iload_n hx hb dL_arePairsSo_113 rfl (lv_at hl 5 rfl) ?_
  refine lv_icmp_ne (tgt := 121) hx hb dL_arePairsSo_114 (by decide) (fun _ => ?_) (fun hc => absurd hc (fun e => ne ((nI_eq (by omega) (by omega)).mp e)))
  refine lv_iconst (v := 0) hx hb dL_arePairsSo_121 (by decide) ?_
  refine lv_icmp_ne (tgt := 129) hx hb dL_arePairsSo_122 (by decide) (fun hc => absurd (by decide) hc) (fun _ => ?_)
  refine lv_iconst (v := 1) hx hb dL_arePairsSo_125 (by decide) ?_
  refine lv_goto (tgt := 130) hx hb dL_arePairsSo_126 (by decide) ?_
  refine lv_istore (lv' := [(6, .int 1), (5, .int (-1)), (4, .int 0), (3, .int (-1)), (0, .ref (a 0)), (1, .int (nI i)), (2, .int (nI j))]) hx hb dL_arePairsSo_130 hl (by decide) rfl (fun ls hl => ?_)
  refine lv_iconst (v := 0) hx hb dL_arePairsSo_132 (by decide) ?_
  refine lv_istore (lv' := [(7, .int 0), (6, .int 1), (5, .int (-1)), (4, .int 0), (3, .int (-1)), (0, .ref (a 0)), (1, .int (nI i)), (2, .int (nI j))]) hx hb dL_arePairsSo_133 hl (by decide) rfl (fun ls hl => ?_)
  refine lv_iload hx hb dL_arePairsSo_135 (lv_at hl 0 rfl) ?_
  refine lv_bipush (v := 30) hx hb dL_arePairsSo_137 (by decide) ?_
  refine lv_icmp_ge (tgt := 188) hx hb dL_arePairsSo_139 (by decide) (fun hc => absurd hc (by decide)) (fun _ => ?_)
  refine lv_iload_n hx hb dL_arePairsSo_142 rfl (lv_at hl 4 rfl) ?_
  refine lv_if_lt (tgt := 188) hx hb dL_arePairsSo_143 (by decide) (fun _ => ?_) (fun hc => absurd (by decide) hc)
  refine lv_iconst (v := 0) hx hb dL_arePairsSo_188 (by decide) ?_
  refine lv_istore (lv' := [(7, .int 0), (6, .int 1), (5, .int (-1)), (4, .int 0), (3, .int (-1)), (0, .ref (a 0)), (1, .int (nI i)), (2, .int (nI j))]) hx hb dL_arePairsSo_189 hl (by decide) rfl (fun ls hl => ?_)
  refine kl_forc (head := 191) (N := 3) (kc := 6) (kn := 36) (c0 := 0 + 2 + 1 + 1 + 2 + 2 + 2) (s0 := 0 + 12 + 6 + 6 + 12 + 12 + 12) (fun (v : Nat) (H : Heap) (locs : List Loc) (ls : Array Slot) => va_P D vwCl (oW cI a c x) H ∧ va_D (va_A (oW cI a c x) s.heap.size) (oW cI a c x) ∧ va_S (va_A (oW cI a c x) s.heap.size) s.heap H locs ∧ lv_has ls 9 [(0, .ref (a 0)), (1, .int (nI i)), (2, .int (nI j)), (3, .int (-1)), (4, .int 0), (5, .int (-1)), (6, .int 1), (7, .int (nI v))]) ?_ ?_ ⟨hP, hD, hS, (lv_sub hl [5, 6, 7, 4, 3, 2, 1, 0] rfl)⟩
  · skip
    intro v hv H locs ls hJ ih191
    obtain ⟨hP, hD, hS, hl⟩ := hJ
    have hL := kR_al (nI v) hN hi hj hp hq
    refine lv_iload hx hb dL_arePairsSo_191 (lv_at hl 7 rfl) ?_
    refine lv_iconst (v := 3) hx hb dL_arePairsSo_193 (by decide) ?_
    refine lv_icmp_ge (tgt := 260) hx hb dL_arePairsSo_194 (by decide) (fun hc => absurd hc (nI_ge hv (by decide))) (fun _ => ?_)
    refine lv_aload_n hx hb dL_arePairsSo_197 rfl (lv_at hl 0 rfl) ?_
    refine lv_iload_n hx hb dL_arePairsSo_198 rfl (lv_at hl 1 rfl) ?_
    refine lv_iload_n hx hb dL_arePairsSo_199 rfl (lv_at hl 2 rfl) ?_
    refine lv_iload hx hb dL_arePairsSo_200 (lv_at hl 7 rfl) ?_
    refine kq_0 (px := fun _ => False) (vx_runV (As := [.int (nI i), .int (nI j), .int (nI v)]) (rest := []) ⟨hx, hb, hml, hown, hts⟩ (cG_likeness l D cI a c x i j hi hj hp hq (nI v) (kin_v hv) hfl _) (cwV 3 hts gL_arePairsSo_X3_likeness rfl rfl rfl (by decide +kernel) ⟨Nat.le_of_ble_eq_true rfl, Nat.le_of_ble_eq_true rfl⟩) (kp_0V hP hD hK hX hZ hS hA 0 3 rfl rfl) rfl rfl hl.1 rfl (lv_room (Nat.le_of_ble_eq_true rfl)) dL_arePairsSo_202 ⟨(show (0 + 2 + 1 + 1 + 2 + 2 + 2) + 6 * v + 3 ≤ 91 from by omega), (show (0 + 12 + 6 + 6 + 12 + 12 + 12) + 36 * v + 18 ≤ 546 from by omega)⟩) hP hD hS hA (fun E ce q9 H locs hE hP hS hcell hv hcl => hE.elim) (fun r_202 _u H locs er_202 hP hD hS => ?_)
    have hP : va_P D vwCl (oW cI a c x) H := hP
    have hD : va_D _ (oW cI a c x) := hD
    have er_202 : r_202 = kali (kPr c) (kCs c) (kCo c) (kMa c) (kDe c) (kSx c) (nI i) (nI j) (nI v) := er_202
    rw [er_202]
    refine kx_top (show kali (kPr c) (kCs c) (kCo c) (kMa c) (kDe c) (kSx c) (nI i) (nI j) (nI v) = nI (kLL (kPr c) (kCs c) (kCo c) (kMa c) (kDe c) (kSx c) (nI v) i j) from hL.1) ?_
    refine lv_istore (lv' := [(8, .int (nI (kLL (kPr c) (kCs c) (kCo c) (kMa c) (kDe c) (kSx c) (nI v) i j))), (0, .ref (a 0)), (1, .int (nI i)), (2, .int (nI j)), (3, .int (-1)), (4, .int 0), (5, .int (-1)), (6, .int 1), (7, .int (nI v))]) hx hb dL_arePairsSo_205 hl (by decide) rfl (fun ls hl => ?_)
    refine lv_iload hx hb dL_arePairsSo_207 (lv_at hl 7 rfl) ?_
    refine lv_if_eq (tgt := 251) hx hb dL_arePairsSo_209 (by decide) (fun hc => absurd hc (by decide)) (fun _ => ?_)
    refine lv_iload hx hb dL_arePairsSo_212 (lv_at hl 0 rfl) ?_
    refine lv_if_lt (tgt := 251) hx hb dL_arePairsSo_214 (by decide) (fun hc => absurd hc (nI_pos (Nat.lt_of_le_of_lt hL.2 (by decide)))) (fun _ => ?_)
    refine lv_iload hx hb dL_arePairsSo_217 (lv_at hl 0 rfl) ?_
    refine lv_sipush (v := 10000) hx hb dL_arePairsSo_219 (by decide) ?_
    refine lv_icmp_gt (tgt := 251) hx hb dL_arePairsSo_222 (by decide) (fun hc => absurd hc (nI_nlt (a := 10000) hL.2 (by decide))) (fun _ => ?_)
    refine lv_iload hx hb dL_arePairsSo_225 (lv_at hl 0 rfl) ?_
    refine lv_aload_n hx hb dL_arePairsSo_227 rfl (lv_at hl 1 rfl) ?_
    refine lv_iload_n hx hb dL_arePairsSo_228 rfl (lv_at hl 3 rfl) ?_
    refine lv_iload_n hx hb dL_arePairsSo_229 rfl (lv_at hl 2 rfl) ?_
    refine lv_iload hx hb dL_arePairsSo_230 (lv_at hl 8 rfl) ?_
    refine kq_0 (px := fun _ => False) (vx_runV (As := [.int (nI j), .int (nI i), .int (nI v)]) (rest := [.int (nI (kLL (kPr c) (kCs c) (kCo c) (kMa c) (kDe c) (kSx c) (nI v) i j))]) ⟨hx, hb, hml, hown, hts⟩ (cG_likeness l D cI a c x j i hj hi hq hp (nI v) (kin_v hv) hfl _) (cwV 3 hts gL_arePairsSo_X3_likeness rfl rfl rfl (by decide +kernel) ⟨Nat.le_of_ble_eq_true rfl, Nat.le_of_ble_eq_true rfl⟩) (kp_0V hP hD hK hX hZ hS hA 0 3 rfl rfl) rfl rfl hl.1 rfl (lv_room (Nat.le_of_ble_eq_true rfl)) dL_arePairsSo_232 ⟨(show (0 + 2 + 1 + 1 + 2 + 2 + 2) + 6 * v + 3 + 3 ≤ 91 from by omega), (show (0 + 12 + 6 + 6 + 12 + 12 + 12) + 36 * v + 18 + 18 ≤ 546 from by omega)⟩) hP hD hS hA (fun E ce q9 H locs hE hP hS hcell hv hcl => hE.elim) (fun r_232 _u H locs er_232 hP hD hS => ?_)
    have hP : va_P D vwCl (oW cI a c x) H := hP
    have hD : va_D _ (oW cI a c x) := hD
    have er_232 : r_232 = kali (kPr c) (kCs c) (kCo c) (kMa c) (kDe c) (kSx c) (nI j) (nI i) (nI v) := er_232
    rw [er_232]
    refine kx_top (show kali (kPr c) (kCs c) (kCo c) (kMa c) (kDe c) (kSx c) (nI j) (nI i) (nI v) = nI (kLL (kPr c) (kCs c) (kCo c) (kMa c) (kDe c) (kSx c) (nI v) i j) from (kZ_like hn hs.1 (nI v) hi hj hp hq).trans hL.1) ?_
    refine lv_icmp_ne (tgt := 251) hx hb dL_arePairsSo_235 (by decide) (fun hc => absurd (rfl) hc) (fun _ => ?_)
    refine lv_iload_n hx hb dL_arePairsSo_238 rfl (lv_at hl 4 rfl) ?_
    refine lv_if_ge (tgt := 247) hx hb dL_arePairsSo_239 (by decide) (fun hc => absurd hc (by decide)) (fun _ => ?_)
    refine lv_iload hx hb dL_arePairsSo_242 (lv_at hl 0 rfl) ?_
    refine lv_if_ne (tgt := 251) hx hb dL_arePairsSo_244 (by decide) (fun hc => absurd (hL.1.symm.trans (kZ_like0 (nI v) hi hj t0)) hc) (fun _ => ?_)
    refine lv_iconst (v := 1) hx hb dL_arePairsSo_247 (by decide) ?_
    refine lv_goto (tgt := 252) hx hb dL_arePairsSo_248 (by decide) ?_
    refine lv_istore (lv' := [(6, .int 1), (8, .int (nI (kLL (kPr c) (kCs c) (kCo c) (kMa c) (kDe c) (kSx c) (nI v) i j))), (0, .ref (a 0)), (1, .int (nI i)), (2, .int (nI j)), (3, .int (-1)), (4, .int 0), (5, .int (-1)), (7, .int (nI v))]) hx hb dL_arePairsSo_252 hl (by decide) rfl (fun ls hl => ?_)
    refine lv_iinc (v := nI (v + 1)) (lv' := [(7, .int (nI (v + 1))), (6, .int 1), (8, .int (nI (kLL (kPr c) (kCs c) (kCo c) (kMa c) (kDe c) (kSx c) (nI v) i j))), (0, .ref (a 0)), (1, .int (nI i)), (2, .int (nI j)), (3, .int (-1)), (4, .int 0), (5, .int (-1))]) hx hb dL_arePairsSo_254 hl (k := 8) rfl (nI_1 _) (by decide) rfl (fun ls hl => ?_)
    refine lv_goto (tgt := 191) hx hb dL_arePairsSo_257 (by decide) ?_
    refine W.widen (k := (0 + 2 + 1 + 1 + 2 + 2 + 2) + 6 * (v + 1)) (n := (0 + 12 + 6 + 6 + 12 + 12 + 12) + 36 * (v + 1)) (by omega) (by omega) ?_
    exact ih191 _ _ _ ⟨hP, hD, hS, (lv_sub hl [3, 4, 5, 6, 7, 8, 1, 0] rfl)⟩
  · skip
    intro H locs ls hJ
    obtain ⟨hP, hD, hS, hl⟩ := hJ
    refine lv_iload hx hb dL_arePairsSo_191 (lv_at hl 7 rfl) ?_
    refine lv_iconst (v := 3) hx hb dL_arePairsSo_193 (by decide) ?_
    refine lv_icmp_ge (tgt := 260) hx hb dL_arePairsSo_194 (by decide) (fun _ => ?_) (fun hc => absurd (nI_le (Nat.le_refl 3) (by decide)) hc)
    refine lv_iload hx hb dL_arePairsSo_260 (lv_at hl 6 rfl) ?_
    refine lv_if_eq (tgt := 301) hx hb dL_arePairsSo_262 (by decide) (fun hc => absurd hc (by decide)) (fun _ => ?_)
    refine lv_iload_n hx hb dL_arePairsSo_265 rfl (lv_at hl 3 rfl) ?_
    refine lv_if_lt (tgt := 297) hx hb dL_arePairsSo_266 (by decide) (fun _ => ?_) (fun hc => absurd (by decide) hc)
    refine lv_iconst (v := 1) hx hb dL_arePairsSo_297 (by decide) ?_
    refine lv_goto (tgt := 302) hx hb dL_arePairsSo_298 (by decide) ?_
    exact ke_XZ hx hb hr hlocks (()) hP hD hS (show (0 + 2 + 1 + 1 + 2 + 2 + 2) + 6 * 3 ≤ 91 from by omega) (show (0 + 12 + 6 + 6 + 12 + 12 + 12) + 36 * 3 ≤ 546 from by omega) dL_arePairsSo_302 true rfl (rfl)
set_option maxHeartbeats 4000000 in
set_option maxRecDepth 100000 in
theorem cw_arePairsSoB (l : Launch) (D : va_G) (cI : ClassId) (a : Nat → Nat) (c : kCS) (x : kXS) (i j : Nat) (hi : i < 30) (hj : j < 30) (hp : bt (kPr c) i = true) (hq : bt (kPr c) j = true) {A : Nat} {cn rk : Nat → Nat} {pa : Nat → Int32} (hN : kRN A cn rk (kAd c) (kPr c) (kPa c) (kCs c) (kCo c) (kMa c) (kDe c) (kSx c) pa) (t u : Nat) (htt : t < 30) (hpt : bt (kPr c) t = true) (t1 : ktel (kMa c) (kDe c) (kCo c i &&& kCo c j) 30 = nI t) (t2 : bt (kCo c i &&& kCo c j) t = true) (t3 : ∀ k, bt (kCo c i &&& kCo c j) k = true → ¬ kMa c k < kMa c t) (zn : ¬ kCo c i &&& kCo c j = 0) (hu : u < 60) (d1 : ksbt (kSx c) (nI i) (nI j) (kCo c i &&& kCo c j) 30 = nI u) (d2 : u = 0 ↔ i = j) (hfl : l.stackTraces = false) : kc_X l yL_arePairsSo wsL_arePairsSo 8 126 91 546 D cI [.ref (a 0), .int (nI i), .int (nI j)] (oW cI a c x) (fun (r : Int32) (_ : Unit) => r = 1) (fun _ => oW cI a c x) (fun _ => False) := by
  refine ks_X (cc := cL_arePairsSo) (nL := 9) (ret := (some .boolean)) (by decide) rfl (Nat.le_of_ble_eq_true rfl) ?_
  intro p e s m below meth cd ls hF ht hP hK hX hZ hS hA hD hl
  obtain ⟨hx, hb, hr, hml, hown, hts, hlocks⟩ := hF
  have hown : s.vm.findClass RL = some m.cls := hown
  have hS := kx_wk (ws := (oW cI a c x)) hS
  have hl : lv_has ls 9 [(0, .ref (a 0)), (1, .int (nI i)), (2, .int (nI j))] := hl
  have hn := hN.2.2.1
  have hs := hN.2.2.2.1
  refine lv_aload_n hx hb dL_arePairsSo_0 rfl (lv_at hl 0 rfl) ?_
  refine lv_iload_n hx hb dL_arePairsSo_1 rfl (lv_at hl 1 rfl) ?_
  refine lv_iload_n hx hb dL_arePairsSo_2 rfl (lv_at hl 2 rfl) ?_
  refine kq_0 (px := fun _ => False) (vx_runV (As := [.int (nI i), .int (nI j)]) (rest := []) ⟨hx, hb, hml, hown, hts⟩ (cG_shared l D cI a c x i j hi hj hp hq hfl _) (cwV 2 hts gL_arePairsSo_X3_shared rfl rfl rfl (by decide +kernel) ⟨Nat.le_of_ble_eq_true rfl, Nat.le_of_ble_eq_true rfl⟩) (kp_0V hP hD hK hX hZ hS hA 0 3 rfl rfl) rfl rfl hl.1 rfl (lv_room (Nat.le_of_ble_eq_true rfl)) dL_arePairsSo_3 ⟨(show 0 + 2 ≤ 91 from by omega), (show 0 + 12 ≤ 546 from by omega)⟩) hP hD hS hA (fun E ce q9 H locs hE hP hS hcell hv hcl => hE.elim) (fun r_3 _u H locs er_3 hP hD hS => ?_)
  have hP : va_P D vwCl (oW cI a c x) H := hP
  have hD : va_D _ (oW cI a c x) := hD
  have er_3 : r_3 = ktel (kMa c) (kDe c) (kCo c i &&& kCo c j) 30 := er_3
  rw [er_3]
  refine kx_top (show ktel (kMa c) (kDe c) (kCo c i &&& kCo c j) 30 = nI t from t1) ?_
  refine lv_istore_n (lv' := [(3, .int (nI t)), (0, .ref (a 0)), (1, .int (nI i)), (2, .int (nI j))]) hx hb dL_arePairsSo_6 rfl hl (by decide) rfl (fun ls hl => ?_)
  refine lv_aload_n hx hb dL_arePairsSo_7 rfl (lv_at hl 1 rfl) ?_
  refine lv_iload_n hx hb dL_arePairsSo_8 rfl (lv_at hl 2 rfl) ?_
  refine kq_0 (px := fun _ => False) (vx_runV (As := [.int (nI i)]) (rest := []) ⟨hx, hb, hml, hown, hts⟩ (cG_above l D cI a c x i hi hp hfl _) (cwV 1 hts gL_arePairsSo_X3_above rfl rfl rfl (by decide +kernel) ⟨Nat.le_of_ble_eq_true rfl, Nat.le_of_ble_eq_true rfl⟩) (kp_0V hP hD hK hX hZ hS hA 0 3 rfl rfl) rfl rfl hl.1 rfl (lv_room (Nat.le_of_ble_eq_true rfl)) dL_arePairsSo_9 ⟨(show 0 + 2 + 1 ≤ 91 from by omega), (show 0 + 12 + 6 ≤ 546 from by omega)⟩) hP hD hS hA (fun E ce q9 H locs hE hP hS hcell hv hcl => hE.elim) (fun r_9 _u H locs er_9 hP hD hS => ?_)
  have hP : va_P D vwCl (oW cI a c x) H := hP
  have hD : va_D _ (oW cI a c x) := hD
  have er_9 : r_9 = kU (kCo c) i := er_9
  rw [er_9]
  refine lv_iconst (v := 1) hx hb dL_arePairsSo_12 (by decide) ?_
  refine lv_iload_n hx hb dL_arePairsSo_13 rfl (lv_at hl 2 rfl) ?_
  refine lv_ishl hx hb dL_arePairsSo_14 ?_
  refine lv_ior hx hb dL_arePairsSo_15 ?_
  refine lv_aload_n hx hb dL_arePairsSo_16 rfl (lv_at hl 1 rfl) ?_
  refine lv_iload_n hx hb dL_arePairsSo_17 rfl (lv_at hl 3 rfl) ?_
  refine kq_0 (px := fun _ => False) (vx_runV (As := [.int (nI j)]) (rest := [.int ((kU (kCo c) i) ||| (1 <<< ((nI i) &&& 31)))]) ⟨hx, hb, hml, hown, hts⟩ (cG_above l D cI a c x j hj hq hfl _) (cwV 1 hts gL_arePairsSo_X3_above rfl rfl rfl (by decide +kernel) ⟨Nat.le_of_ble_eq_true rfl, Nat.le_of_ble_eq_true rfl⟩) (kp_0V hP hD hK hX hZ hS hA 0 3 rfl rfl) rfl rfl hl.1 rfl (lv_room (Nat.le_of_ble_eq_true rfl)) dL_arePairsSo_18 ⟨(show 0 + 2 + 1 + 1 ≤ 91 from by omega), (show 0 + 12 + 6 + 6 ≤ 546 from by omega)⟩) hP hD hS hA (fun E ce q9 H locs hE hP hS hcell hv hcl => hE.elim) (fun r_18 _u H locs er_18 hP hD hS => ?_)
  have hP : va_P D vwCl (oW cI a c x) H := hP
  have hD : va_D _ (oW cI a c x) := hD
  have er_18 : r_18 = kU (kCo c) j := er_18
  rw [er_18]
  refine lv_iconst (v := 1) hx hb dL_arePairsSo_21 (by decide) ?_
  refine lv_iload_n hx hb dL_arePairsSo_22 rfl (lv_at hl 3 rfl) ?_
  refine lv_ishl hx hb dL_arePairsSo_23 ?_
  refine lv_ior hx hb dL_arePairsSo_24 ?_
  refine lv_iand hx hb dL_arePairsSo_25 ?_
  refine kx_top (show ((kU (kCo c) i) ||| (1 <<< ((nI i) &&& 31))) &&& ((kU (kCo c) j) ||| (1 <<< ((nI j) &&& 31))) = kCo c i &&& kCo c j from kZ_both hs.1 hi hj hp hq) ?_
  refine lv_istore (lv' := [(4, .int (kCo c i &&& kCo c j)), (3, .int (nI t)), (0, .ref (a 0)), (1, .int (nI i)), (2, .int (nI j))]) hx hb dL_arePairsSo_26 hl (by decide) rfl (fun ls hl => ?_)
  refine lv_aload_n hx hb dL_arePairsSo_28 rfl (lv_at hl 2 rfl) ?_
  refine lv_iload_n hx hb dL_arePairsSo_29 rfl (lv_at hl 3 rfl) ?_
  refine lv_iload_n hx hb dL_arePairsSo_30 rfl (lv_at hl 4 rfl) ?_
  refine kq_0 (px := fun _ => False) (vx_runV (As := [.int (nI i), .int (nI j)]) (rest := []) ⟨hx, hb, hml, hown, hts⟩ (cG_distance l D cI a c x i j hi hj hp hq hfl _) (cwV 2 hts gL_arePairsSo_X3_distance rfl rfl rfl (by decide +kernel) ⟨Nat.le_of_ble_eq_true rfl, Nat.le_of_ble_eq_true rfl⟩) (kp_0V hP hD hK hX hZ hS hA 0 3 rfl rfl) rfl rfl hl.1 rfl (lv_room (Nat.le_of_ble_eq_true rfl)) dL_arePairsSo_31 ⟨(show 0 + 2 + 1 + 1 + 2 ≤ 91 from by omega), (show 0 + 12 + 6 + 6 + 12 ≤ 546 from by omega)⟩) hP hD hS hA (fun E ce q9 H locs hE hP hS hcell hv hcl => hE.elim) (fun r_31 _u H locs er_31 hP hD hS => ?_)
  have hP : va_P D vwCl (oW cI a c x) H := hP
  have hD : va_D _ (oW cI a c x) := hD
  have er_31 : r_31 = ksbt (kSx c) (nI i) (nI j) (kCo c i &&& kCo c j) 30 := er_31
  rw [er_31]
  refine kx_top (show ksbt (kSx c) (nI i) (nI j) (kCo c i &&& kCo c j) 30 = nI u from d1) ?_
  refine lv_istore (lv' := [(5, .int (nI u)), (4, .int (kCo c i &&& kCo c j)), (3, .int (nI t)), (0, .ref (a 0)), (1, .int (nI i)), (2, .int (nI j))]) hx hb dL_arePairsSo_34 hl (by decide) rfl (fun ls hl => ?_)
  refine lv_iload_n hx hb dL_arePairsSo_36 rfl (lv_at hl 2 rfl) ?_
  refine lv_aload_n hx hb dL_arePairsSo_37 rfl (lv_at hl 3 rfl) ?_
  refine lv_iload_n hx hb dL_arePairsSo_38 rfl (lv_at hl 5 rfl) ?_
  refine lv_iload_n hx hb dL_arePairsSo_39 rfl (lv_at hl 4 rfl) ?_
  refine kq_0 (px := fun _ => False) (vx_runV (As := [.int (nI j), .int (nI i)]) (rest := [.int (nI t)]) ⟨hx, hb, hml, hown, hts⟩ (cG_shared l D cI a c x j i hj hi hq hp hfl _) (cwV 2 hts gL_arePairsSo_X3_shared rfl rfl rfl (by decide +kernel) ⟨Nat.le_of_ble_eq_true rfl, Nat.le_of_ble_eq_true rfl⟩) (kp_0V hP hD hK hX hZ hS hA 0 3 rfl rfl) rfl rfl hl.1 rfl (lv_room (Nat.le_of_ble_eq_true rfl)) dL_arePairsSo_40 ⟨(show 0 + 2 + 1 + 1 + 2 + 2 ≤ 91 from by omega), (show 0 + 12 + 6 + 6 + 12 + 12 ≤ 546 from by omega)⟩) hP hD hS hA (fun E ce q9 H locs hE hP hS hcell hv hcl => hE.elim) (fun r_40 _u H locs er_40 hP hD hS => ?_)
  have hP : va_P D vwCl (oW cI a c x) H := hP
  have hD : va_D _ (oW cI a c x) := hD
  have er_40 : r_40 = ktel (kMa c) (kDe c) (kCo c j &&& kCo c i) 30 := er_40
  rw [er_40]
  refine kx_top (show ktel (kMa c) (kDe c) (kCo c j &&& kCo c i) 30 = nI t from by rw [b_com (kCo c j)]; exact t1) ?_
  refine lv_icmp_ne (tgt := 129) hx hb dL_arePairsSo_43 (by decide) (fun hc => absurd (rfl) hc) (fun _ => ?_)
  refine lv_iload hx hb dL_arePairsSo_46 (lv_at hl 0 rfl) ?_
  refine lv_aload_n hx hb dL_arePairsSo_48 rfl (lv_at hl 3 rfl) ?_
  refine lv_iload_n hx hb dL_arePairsSo_49 rfl (lv_at hl 5 rfl) ?_
  refine lv_iload_n hx hb dL_arePairsSo_50 rfl (lv_at hl 4 rfl) ?_
  refine kq_0 (px := fun _ => False) (vx_runV (As := [.int (nI j), .int (nI i)]) (rest := [.int (nI u)]) ⟨hx, hb, hml, hown, hts⟩ (cG_distance l D cI a c x j i hj hi hq hp hfl _) (cwV 2 hts gL_arePairsSo_X3_distance rfl rfl rfl (by decide +kernel) ⟨Nat.le_of_ble_eq_true rfl, Nat.le_of_ble_eq_true rfl⟩) (kp_0V hP hD hK hX hZ hS hA 0 3 rfl rfl) rfl rfl hl.1 rfl (lv_room (Nat.le_of_ble_eq_true rfl)) dL_arePairsSo_51 ⟨(show 0 + 2 + 1 + 1 + 2 + 2 + 2 ≤ 91 from by omega), (show 0 + 12 + 6 + 6 + 12 + 12 + 12 ≤ 546 from by omega)⟩) hP hD hS hA (fun E ce q9 H locs hE hP hS hcell hv hcl => hE.elim) (fun r_51 _u H locs er_51 hP hD hS => ?_)
  have hP : va_P D vwCl (oW cI a c x) H := hP
  have hD : va_D _ (oW cI a c x) := hD
  have er_51 : r_51 = ksbt (kSx c) (nI j) (nI i) (kCo c j &&& kCo c i) 30 := er_51
  rw [er_51]
  refine kx_top (show ksbt (kSx c) (nI j) (nI i) (kCo c j &&& kCo c i) 30 = nI u from (kZ_dsym hn hs.1 hi hj hp hq).trans d1) ?_
  refine lv_icmp_ne (tgt := 129) hx hb dL_arePairsSo_54 (by decide) (fun hc => absurd (rfl) hc) (fun _ => ?_)
  refine lv_iload_n hx hb dL_arePairsSo_57 rfl (lv_at hl 2 rfl) ?_
  refine lv_if_ge (tgt := 65) hx hb dL_arePairsSo_58 (by decide) (fun _ => ?_) (fun hc => absurd (nI_pos' (by omega)) hc)
  refine lv_iconst (v := 0) hx hb dL_arePairsSo_65 (by decide) ?_
  refine lv_iload hx hb dL_arePairsSo_66 (lv_at hl 1 rfl) ?_
  refine lv_if_ne (tgt := 75) hx hb dL_arePairsSo_68 (by decide) (fun _ => ?_) (fun hc => absurd hc (zn))
  refine lv_iconst (v := 0) hx hb dL_arePairsSo_75 (by decide) ?_
  refine lv_icmp_ne (tgt := 129) hx hb dL_arePairsSo_76 (by decide) (fun hc => absurd (by decide) hc) (fun _ => ?_)
  refine lv_iload hx hb dL_arePairsSo_79 (lv_at hl 0 rfl) ?_
  refine lv_if_ge (tgt := 88) hx hb dL_arePairsSo_81 (by decide) (fun _ => ?_) (fun hc => absurd (nI_pos' (by omega)) hc)
  refine lv_iconst (v := 0) hx hb dL_arePairsSo_88 (by decide) ?_
  refine lv_iload hx hb dL_arePairsSo_89 (lv_at hl 1 rfl) ?_
  refine lv_if_ne (tgt := 98) hx hb dL_arePairsSo_91 (by decide) (fun _ => ?_) (fun hc => absurd hc (zn))
  refine lv_iconst (v := 0) hx hb dL_arePairsSo_98 (by decide) ?_
  refine lv_icmp_ne (tgt := 129) hx hb dL_arePairsSo_99 (by decide) (fun hc => absurd (by decide) hc) (fun _ => ?_)
  refine kl_cutc (pc := 125) (c1 := 0 + 2 + 1 + 1 + 2 + 2 + 2 + 0) (s1 := 0 + 12 + 6 + 6 + 12 + 12 + 12 + 0) (fun (H : Heap) (locs : List Loc) (ls : Array Slot) (st : List Value) => st = [] ∧ va_P D vwCl (oW cI a c x) H ∧ va_D (va_A (oW cI a c x) s.heap.size) (oW cI a c x) ∧ va_S (va_A (oW cI a c x) s.heap.size) s.heap H locs ∧ lv_has ls 9 [(0, .ref (a 0)), (1, .int (nI i)), (2, .int (nI j)), (3, .int (nI t)), (4, .int (kCo c i &&& kCo c j)), (5, .int (nI u))]) ?_ (fun jn125 => ?_)
  · skip
    intro H locs ls st hJ
    obtain ⟨rfl, hP, hD, hS, hl⟩ := hJ
    refine lv_iconst (v := 1) hx hb dL_arePairsSo_125 (by decide) ?_
    refine lv_goto (tgt := 130) hx hb dL_arePairsSo_126 (by decide) ?_
    refine lv_istore (lv' := [(6, .int 1), (0, .ref (a 0)), (1, .int (nI i)), (2, .int (nI j)), (3, .int (nI t)), (4, .int (kCo c i &&& kCo c j)), (5, .int (nI u))]) hx hb dL_arePairsSo_130 hl (by decide) rfl (fun ls hl => ?_)
    refine lv_iconst (v := 0) hx hb dL_arePairsSo_132 (by decide) ?_
    refine lv_istore (lv' := [(7, .int 0), (6, .int 1), (0, .ref (a 0)), (1, .int (nI i)), (2, .int (nI j)), (3, .int (nI t)), (4, .int (kCo c i &&& kCo c j)), (5, .int (nI u))]) hx hb dL_arePairsSo_133 hl (by decide) rfl (fun ls hl => ?_)
    refine kl_forc (head := 135) (N := 30) (kc := 2) (kn := 12) (c0 := 0 + 2 + 1 + 1 + 2 + 2 + 2 + 0) (s0 := 0 + 12 + 6 + 6 + 12 + 12 + 12 + 0) (fun (k : Nat) (H : Heap) (locs : List Loc) (ls : Array Slot) => va_P D vwCl (oW cI a c x) H ∧ va_D (va_A (oW cI a c x) s.heap.size) (oW cI a c x) ∧ va_S (va_A (oW cI a c x) s.heap.size) s.heap H locs ∧ lv_has ls 9 [(0, .ref (a 0)), (1, .int (nI i)), (2, .int (nI j)), (3, .int (nI t)), (4, .int (kCo c i &&& kCo c j)), (5, .int (nI u)), (6, .int 1), (7, .int (nI k))]) ?_ ?_ ⟨hP, hD, hS, (lv_sub hl [2, 3, 4, 5, 6, 7, 1, 0] rfl)⟩
    · skip
      intro k hk H locs ls hJ ih135
      obtain ⟨hP, hD, hS, hl⟩ := hJ
      refine lv_iload hx hb dL_arePairsSo_135 (lv_at hl 7 rfl) ?_
      refine lv_bipush (v := 30) hx hb dL_arePairsSo_137 (by decide) ?_
      refine lv_icmp_ge (tgt := 188) hx hb dL_arePairsSo_139 (by decide) (fun hc => absurd hc (nI_ge hk (by decide))) (fun _ => ?_)
      refine lv_iload_n hx hb dL_arePairsSo_142 rfl (lv_at hl 3 rfl) ?_
      refine lv_if_lt (tgt := 188) hx hb dL_arePairsSo_143 (by decide) (fun hc => absurd hc (nI_pos (by omega))) (fun _ => ?_)
      refine lv_iload hx hb dL_arePairsSo_146 (lv_at hl 6 rfl) ?_
      refine lv_if_eq (tgt := 179) hx hb dL_arePairsSo_148 (by decide) (fun hc => absurd hc (by decide)) (fun _ => ?_)
      refine lv_iload hx hb dL_arePairsSo_151 (lv_at hl 4 rfl) ?_
      refine lv_iload hx hb dL_arePairsSo_153 (lv_at hl 7 rfl) ?_
      refine lv_ishr hx hb dL_arePairsSo_155 ?_
      refine lv_iconst (v := 1) hx hb dL_arePairsSo_156 (by decide) ?_
      refine lv_iand hx hb dL_arePairsSo_157 ?_
      refine kx_top (show ((kCo c i &&& kCo c j) >>> ((nI k) &&& 31)) &&& 1 = nB (bt (kCo c i &&& kCo c j) k) from b_sar (by omega)) ?_
      refine lv_if_eq (tgt := 175) hx hb dL_arePairsSo_158 (by decide) (fun c_158 => ?_) (fun c_158 => ?_)
      · skip
        refine lv_iconst (v := 1) hx hb dL_arePairsSo_175 (by decide) ?_
        refine lv_goto (tgt := 180) hx hb dL_arePairsSo_176 (by decide) ?_
        refine lv_istore (lv' := [(6, .int 1), (0, .ref (a 0)), (1, .int (nI i)), (2, .int (nI j)), (3, .int (nI t)), (4, .int (kCo c i &&& kCo c j)), (5, .int (nI u)), (7, .int (nI k))]) hx hb dL_arePairsSo_180 hl (by decide) rfl (fun ls hl => ?_)
        refine lv_iinc (v := nI (k + 1)) (lv' := [(7, .int (nI (k + 1))), (6, .int 1), (0, .ref (a 0)), (1, .int (nI i)), (2, .int (nI j)), (3, .int (nI t)), (4, .int (kCo c i &&& kCo c j)), (5, .int (nI u))]) hx hb dL_arePairsSo_182 hl (k := 7) rfl (nI_1 _) (by decide) rfl (fun ls hl => ?_)
        refine lv_goto (tgt := 135) hx hb dL_arePairsSo_185 (by decide) ?_
        refine W.widen (k := (0 + 2 + 1 + 1 + 2 + 2 + 2 + 0) + 2 * (k + 1)) (n := (0 + 12 + 6 + 6 + 12 + 12 + 12 + 0) + 12 * (k + 1)) (by omega) (by omega) ?_
        exact ih135 _ _ _ ⟨hP, hD, hS, (lv_sub hl [2, 3, 4, 5, 6, 7, 1, 0] rfl)⟩
      · skip
        have hbt := nB_n0.mp c_158
        have hpk := (kZ_b hn hs.1 hi hj hp hbt).2
        refine lv_aload_n hx hb dL_arePairsSo_161 rfl (lv_at hl 0 rfl) ?_
        refine lv_iload hx hb dL_arePairsSo_162 (lv_at hl 7 rfl) ?_
        refine kq_0 (px := fun _ => False) (vx_runV (As := [.int (nI k)]) (rest := []) ⟨hx, hb, hml, hown, hts⟩ (cG_mass l D cI a c x k hk hpk hfl _) (cwV 1 hts gL_arePairsSo_X3_mass rfl rfl rfl (by decide +kernel) ⟨Nat.le_of_ble_eq_true rfl, Nat.le_of_ble_eq_true rfl⟩) (kp_0V hP hD hK hX hZ hS hA 0 3 rfl rfl) rfl rfl hl.1 rfl (lv_room (Nat.le_of_ble_eq_true rfl)) dL_arePairsSo_164 ⟨(show (0 + 2 + 1 + 1 + 2 + 2 + 2 + 0) + 2 * k + 1 ≤ 91 from by omega), (show (0 + 12 + 6 + 6 + 12 + 12 + 12 + 0) + 12 * k + 6 ≤ 546 from by omega)⟩) hP hD hS hA (fun E ce q9 H locs hE hP hS hcell hv hcl => hE.elim) (fun r_164 _u H locs er_164 hP hD hS => ?_)
        have hP : va_P D vwCl (oW cI a c x) H := hP
        have hD : va_D _ (oW cI a c x) := hD
        have er_164 : r_164 = kMa c k := er_164
        rw [er_164]
        refine lv_aload_n hx hb dL_arePairsSo_167 rfl (lv_at hl 0 rfl) ?_
        refine lv_iload_n hx hb dL_arePairsSo_168 rfl (lv_at hl 3 rfl) ?_
        refine kq_0 (px := fun _ => False) (vx_runV (As := [.int (nI t)]) (rest := [.int (kMa c k)]) ⟨hx, hb, hml, hown, hts⟩ (cG_mass l D cI a c x t htt hpt hfl _) (cwV 1 hts gL_arePairsSo_X3_mass rfl rfl rfl (by decide +kernel) ⟨Nat.le_of_ble_eq_true rfl, Nat.le_of_ble_eq_true rfl⟩) (kp_0V hP hD hK hX hZ hS hA 0 3 rfl rfl) rfl rfl hl.1 rfl (lv_room (Nat.le_of_ble_eq_true rfl)) dL_arePairsSo_169 ⟨(show (0 + 2 + 1 + 1 + 2 + 2 + 2 + 0) + 2 * k + 1 + 1 ≤ 91 from by omega), (show (0 + 12 + 6 + 6 + 12 + 12 + 12 + 0) + 12 * k + 6 + 6 ≤ 546 from by omega)⟩) hP hD hS hA (fun E ce q9 H locs hE hP hS hcell hv hcl => hE.elim) (fun r_169 _u H locs er_169 hP hD hS => ?_)
        have hP : va_P D vwCl (oW cI a c x) H := hP
        have hD : va_D _ (oW cI a c x) := hD
        have er_169 : r_169 = kMa c t := er_169
        rw [er_169]
        refine lv_icmp_lt (tgt := 179) hx hb dL_arePairsSo_172 (by decide) (fun hc => absurd hc (t3 k hbt)) (fun _ => ?_)
        refine lv_iconst (v := 1) hx hb dL_arePairsSo_175 (by decide) ?_
        refine lv_goto (tgt := 180) hx hb dL_arePairsSo_176 (by decide) ?_
        refine lv_istore (lv' := [(6, .int 1), (0, .ref (a 0)), (1, .int (nI i)), (2, .int (nI j)), (3, .int (nI t)), (4, .int (kCo c i &&& kCo c j)), (5, .int (nI u)), (7, .int (nI k))]) hx hb dL_arePairsSo_180 hl (by decide) rfl (fun ls hl => ?_)
        refine lv_iinc (v := nI (k + 1)) (lv' := [(7, .int (nI (k + 1))), (6, .int 1), (0, .ref (a 0)), (1, .int (nI i)), (2, .int (nI j)), (3, .int (nI t)), (4, .int (kCo c i &&& kCo c j)), (5, .int (nI u))]) hx hb dL_arePairsSo_182 hl (k := 7) rfl (nI_1 _) (by decide) rfl (fun ls hl => ?_)
        refine lv_goto (tgt := 135) hx hb dL_arePairsSo_185 (by decide) ?_
        refine W.widen (k := (0 + 2 + 1 + 1 + 2 + 2 + 2 + 0) + 2 * (k + 1)) (n := (0 + 12 + 6 + 6 + 12 + 12 + 12 + 0) + 12 * (k + 1)) (by omega) (by omega) ?_
        exact ih135 _ _ _ ⟨hP, hD, hS, (lv_sub hl [2, 3, 4, 5, 6, 7, 1, 0] rfl)⟩
    · skip
      intro H locs ls hJ
      obtain ⟨hP, hD, hS, hl⟩ := hJ
      refine lv_iload hx hb dL_arePairsSo_135 (lv_at hl 7 rfl) ?_
      refine lv_bipush (v := 30) hx hb dL_arePairsSo_137 (by decide) ?_
      refine lv_icmp_ge (tgt := 188) hx hb dL_arePairsSo_139 (by decide) (fun _ => ?_) (fun hc => absurd (nI_le (Nat.le_refl 30) (by decide)) hc)
      refine lv_iconst (v := 0) hx hb dL_arePairsSo_188 (by decide) ?_
      refine lv_istore (lv' := [(7, .int 0), (0, .ref (a 0)), (1, .int (nI i)), (2, .int (nI j)), (3, .int (nI t)), (4, .int (kCo c i &&& kCo c j)), (5, .int (nI u)), (6, .int 1)]) hx hb dL_arePairsSo_189 hl (by decide) rfl (fun ls hl => ?_)
      refine kl_forc (head := 191) (N := 3) (kc := 6) (kn := 36) (c0 := (0 + 2 + 1 + 1 + 2 + 2 + 2 + 0) + 2 * 30) (s0 := (0 + 12 + 6 + 6 + 12 + 12 + 12 + 0) + 12 * 30) (fun (v : Nat) (H : Heap) (locs : List Loc) (ls : Array Slot) => va_P D vwCl (oW cI a c x) H ∧ va_D (va_A (oW cI a c x) s.heap.size) (oW cI a c x) ∧ va_S (va_A (oW cI a c x) s.heap.size) s.heap H locs ∧ lv_has ls 9 [(0, .ref (a 0)), (1, .int (nI i)), (2, .int (nI j)), (3, .int (nI t)), (4, .int (kCo c i &&& kCo c j)), (5, .int (nI u)), (6, .int 1), (7, .int (nI v))]) ?_ ?_ ⟨hP, hD, hS, (lv_sub hl [1, 2, 3, 4, 5, 6, 7, 0] rfl)⟩
      · skip
        intro v hv H locs ls hJ ih191
        obtain ⟨hP, hD, hS, hl⟩ := hJ
        have hL := kR_al (nI v) hN hi hj hp hq
        refine lv_iload hx hb dL_arePairsSo_191 (lv_at hl 7 rfl) ?_
        refine lv_iconst (v := 3) hx hb dL_arePairsSo_193 (by decide) ?_
        refine lv_icmp_ge (tgt := 260) hx hb dL_arePairsSo_194 (by decide) (fun hc => absurd hc (nI_ge hv (by decide))) (fun _ => ?_)
        refine lv_aload_n hx hb dL_arePairsSo_197 rfl (lv_at hl 0 rfl) ?_
        refine lv_iload_n hx hb dL_arePairsSo_198 rfl (lv_at hl 1 rfl) ?_
        refine lv_iload_n hx hb dL_arePairsSo_199 rfl (lv_at hl 2 rfl) ?_
        refine lv_iload hx hb dL_arePairsSo_200 (lv_at hl 7 rfl) ?_
        refine kq_0 (px := fun _ => False) (vx_runV (As := [.int (nI i), .int (nI j), .int (nI v)]) (rest := []) ⟨hx, hb, hml, hown, hts⟩ (cG_likeness l D cI a c x i j hi hj hp hq (nI v) (kin_v hv) hfl _) (cwV 3 hts gL_arePairsSo_X3_likeness rfl rfl rfl (by decide +kernel) ⟨Nat.le_of_ble_eq_true rfl, Nat.le_of_ble_eq_true rfl⟩) (kp_0V hP hD hK hX hZ hS hA 0 3 rfl rfl) rfl rfl hl.1 rfl (lv_room (Nat.le_of_ble_eq_true rfl)) dL_arePairsSo_202 ⟨(show ((0 + 2 + 1 + 1 + 2 + 2 + 2 + 0) + 2 * 30) + 6 * v + 3 ≤ 91 from by omega), (show ((0 + 12 + 6 + 6 + 12 + 12 + 12 + 0) + 12 * 30) + 36 * v + 18 ≤ 546 from by omega)⟩) hP hD hS hA (fun E ce q9 H locs hE hP hS hcell hv hcl => hE.elim) (fun r_202 _u H locs er_202 hP hD hS => ?_)
        have hP : va_P D vwCl (oW cI a c x) H := hP
        have hD : va_D _ (oW cI a c x) := hD
        have er_202 : r_202 = kali (kPr c) (kCs c) (kCo c) (kMa c) (kDe c) (kSx c) (nI i) (nI j) (nI v) := er_202
        rw [er_202]
        refine kx_top (show kali (kPr c) (kCs c) (kCo c) (kMa c) (kDe c) (kSx c) (nI i) (nI j) (nI v) = nI (kLL (kPr c) (kCs c) (kCo c) (kMa c) (kDe c) (kSx c) (nI v) i j) from hL.1) ?_
        refine lv_istore (lv' := [(8, .int (nI (kLL (kPr c) (kCs c) (kCo c) (kMa c) (kDe c) (kSx c) (nI v) i j))), (0, .ref (a 0)), (1, .int (nI i)), (2, .int (nI j)), (3, .int (nI t)), (4, .int (kCo c i &&& kCo c j)), (5, .int (nI u)), (6, .int 1), (7, .int (nI v))]) hx hb dL_arePairsSo_205 hl (by decide) rfl (fun ls hl => ?_)
        refine lv_iload hx hb dL_arePairsSo_207 (lv_at hl 7 rfl) ?_
        refine lv_if_eq (tgt := 251) hx hb dL_arePairsSo_209 (by decide) (fun hc => absurd hc (by decide)) (fun _ => ?_)
        refine lv_iload hx hb dL_arePairsSo_212 (lv_at hl 0 rfl) ?_
        refine lv_if_lt (tgt := 251) hx hb dL_arePairsSo_214 (by decide) (fun hc => absurd hc (nI_pos (Nat.lt_of_le_of_lt hL.2 (by decide)))) (fun _ => ?_)
        refine lv_iload hx hb dL_arePairsSo_217 (lv_at hl 0 rfl) ?_
        refine lv_sipush (v := 10000) hx hb dL_arePairsSo_219 (by decide) ?_
        refine lv_icmp_gt (tgt := 251) hx hb dL_arePairsSo_222 (by decide) (fun hc => absurd hc (nI_nlt (a := 10000) hL.2 (by decide))) (fun _ => ?_)
        refine lv_iload hx hb dL_arePairsSo_225 (lv_at hl 0 rfl) ?_
        refine lv_aload_n hx hb dL_arePairsSo_227 rfl (lv_at hl 1 rfl) ?_
        refine lv_iload_n hx hb dL_arePairsSo_228 rfl (lv_at hl 3 rfl) ?_
        refine lv_iload_n hx hb dL_arePairsSo_229 rfl (lv_at hl 2 rfl) ?_
        refine lv_iload hx hb dL_arePairsSo_230 (lv_at hl 8 rfl) ?_
        refine kq_0 (px := fun _ => False) (vx_runV (As := [.int (nI j), .int (nI i), .int (nI v)]) (rest := [.int (nI (kLL (kPr c) (kCs c) (kCo c) (kMa c) (kDe c) (kSx c) (nI v) i j))]) ⟨hx, hb, hml, hown, hts⟩ (cG_likeness l D cI a c x j i hj hi hq hp (nI v) (kin_v hv) hfl _) (cwV 3 hts gL_arePairsSo_X3_likeness rfl rfl rfl (by decide +kernel) ⟨Nat.le_of_ble_eq_true rfl, Nat.le_of_ble_eq_true rfl⟩) (kp_0V hP hD hK hX hZ hS hA 0 3 rfl rfl) rfl rfl hl.1 rfl (lv_room (Nat.le_of_ble_eq_true rfl)) dL_arePairsSo_232 ⟨(show ((0 + 2 + 1 + 1 + 2 + 2 + 2 + 0) + 2 * 30) + 6 * v + 3 + 3 ≤ 91 from by omega), (show ((0 + 12 + 6 + 6 + 12 + 12 + 12 + 0) + 12 * 30) + 36 * v + 18 + 18 ≤ 546 from by omega)⟩) hP hD hS hA (fun E ce q9 H locs hE hP hS hcell hv hcl => hE.elim) (fun r_232 _u H locs er_232 hP hD hS => ?_)
        have hP : va_P D vwCl (oW cI a c x) H := hP
        have hD : va_D _ (oW cI a c x) := hD
        have er_232 : r_232 = kali (kPr c) (kCs c) (kCo c) (kMa c) (kDe c) (kSx c) (nI j) (nI i) (nI v) := er_232
        rw [er_232]
        refine kx_top (show kali (kPr c) (kCs c) (kCo c) (kMa c) (kDe c) (kSx c) (nI j) (nI i) (nI v) = nI (kLL (kPr c) (kCs c) (kCo c) (kMa c) (kDe c) (kSx c) (nI v) i j) from (kZ_like hn hs.1 (nI v) hi hj hp hq).trans hL.1) ?_
        refine lv_icmp_ne (tgt := 251) hx hb dL_arePairsSo_235 (by decide) (fun hc => absurd (rfl) hc) (fun _ => ?_)
        refine lv_iload_n hx hb dL_arePairsSo_238 rfl (lv_at hl 4 rfl) ?_
        refine lv_if_ge (tgt := 247) hx hb dL_arePairsSo_239 (by decide) (fun _ => ?_) (fun hc => absurd (nI_pos' (by omega)) hc)
        refine lv_iconst (v := 1) hx hb dL_arePairsSo_247 (by decide) ?_
        refine lv_goto (tgt := 252) hx hb dL_arePairsSo_248 (by decide) ?_
        refine lv_istore (lv' := [(6, .int 1), (8, .int (nI (kLL (kPr c) (kCs c) (kCo c) (kMa c) (kDe c) (kSx c) (nI v) i j))), (0, .ref (a 0)), (1, .int (nI i)), (2, .int (nI j)), (3, .int (nI t)), (4, .int (kCo c i &&& kCo c j)), (5, .int (nI u)), (7, .int (nI v))]) hx hb dL_arePairsSo_252 hl (by decide) rfl (fun ls hl => ?_)
        refine lv_iinc (v := nI (v + 1)) (lv' := [(7, .int (nI (v + 1))), (6, .int 1), (8, .int (nI (kLL (kPr c) (kCs c) (kCo c) (kMa c) (kDe c) (kSx c) (nI v) i j))), (0, .ref (a 0)), (1, .int (nI i)), (2, .int (nI j)), (3, .int (nI t)), (4, .int (kCo c i &&& kCo c j)), (5, .int (nI u))]) hx hb dL_arePairsSo_254 hl (k := 8) rfl (nI_1 _) (by decide) rfl (fun ls hl => ?_)
        refine lv_goto (tgt := 191) hx hb dL_arePairsSo_257 (by decide) ?_
        refine W.widen (k := ((0 + 2 + 1 + 1 + 2 + 2 + 2 + 0) + 2 * 30) + 6 * (v + 1)) (n := ((0 + 12 + 6 + 6 + 12 + 12 + 12 + 0) + 12 * 30) + 36 * (v + 1)) (by omega) (by omega) ?_
        exact ih191 _ _ _ ⟨hP, hD, hS, (lv_sub hl [3, 4, 5, 6, 7, 8, 1, 0] rfl)⟩
      · skip
        intro H locs ls hJ
        obtain ⟨hP, hD, hS, hl⟩ := hJ
        refine lv_iload hx hb dL_arePairsSo_191 (lv_at hl 7 rfl) ?_
        refine lv_iconst (v := 3) hx hb dL_arePairsSo_193 (by decide) ?_
        refine lv_icmp_ge (tgt := 260) hx hb dL_arePairsSo_194 (by decide) (fun _ => ?_) (fun hc => absurd (nI_le (Nat.le_refl 3) (by decide)) hc)
        refine lv_iload hx hb dL_arePairsSo_260 (lv_at hl 6 rfl) ?_
        refine lv_if_eq (tgt := 301) hx hb dL_arePairsSo_262 (by decide) (fun hc => absurd hc (by decide)) (fun _ => ?_)
        refine lv_iload_n hx hb dL_arePairsSo_265 rfl (lv_at hl 3 rfl) ?_
        refine lv_if_lt (tgt := 297) hx hb dL_arePairsSo_266 (by decide) (fun hc => absurd hc (nI_pos (by omega))) (fun _ => ?_)
        refine lv_iload hx hb dL_arePairsSo_269 (lv_at hl 4 rfl) ?_
        refine lv_iload_n hx hb dL_arePairsSo_271 rfl (lv_at hl 3 rfl) ?_
        refine lv_ishr hx hb dL_arePairsSo_272 ?_
        refine lv_iconst (v := 1) hx hb dL_arePairsSo_273 (by decide) ?_
        refine lv_iand hx hb dL_arePairsSo_274 ?_
        refine kx_top (show ((kCo c i &&& kCo c j) >>> ((nI t) &&& 31)) &&& 1 = 1 from (b_sar (by omega)).trans (by rw [t2]; rfl)) ?_
        refine lv_iconst (v := 1) hx hb dL_arePairsSo_275 (by decide) ?_
        refine lv_icmp_ne (tgt := 301) hx hb dL_arePairsSo_276 (by decide) (fun hc => absurd (by decide) hc) (fun _ => ?_)
        refine lv_aload_n hx hb dL_arePairsSo_279 rfl (lv_at hl 0 rfl) ?_
        refine lv_iload_n hx hb dL_arePairsSo_280 rfl (lv_at hl 1 rfl) ?_
        refine lv_iload_n hx hb dL_arePairsSo_281 rfl (lv_at hl 2 rfl) ?_
        refine lv_iconst (v := 0) hx hb dL_arePairsSo_282 (by decide) ?_
        refine kq_0 (px := fun _ => False) (vx_runV (As := [.int (nI i), .int (nI j), .int 0]) (rest := []) ⟨hx, hb, hml, hown, hts⟩ (cG_likeness l D cI a c x i j hi hj hp hq 0 (by decide) hfl _) (cwV 3 hts gL_arePairsSo_X3_likeness rfl rfl rfl (by decide +kernel) ⟨Nat.le_of_ble_eq_true rfl, Nat.le_of_ble_eq_true rfl⟩) (kp_0V hP hD hK hX hZ hS hA 0 3 rfl rfl) rfl rfl hl.1 rfl (lv_room (Nat.le_of_ble_eq_true rfl)) dL_arePairsSo_283 ⟨(show ((0 + 2 + 1 + 1 + 2 + 2 + 2 + 0) + 2 * 30) + 6 * 3 + 3 ≤ 91 from by omega), (show ((0 + 12 + 6 + 6 + 12 + 12 + 12 + 0) + 12 * 30) + 36 * 3 + 18 ≤ 546 from by omega)⟩) hP hD hS hA (fun E ce q9 H locs hE hP hS hcell hv hcl => hE.elim) (fun r_283 _u H locs er_283 hP hD hS => ?_)
        have hP : va_P D vwCl (oW cI a c x) H := hP
        have hD : va_D _ (oW cI a c x) := hD
        have er_283 : r_283 = kali (kPr c) (kCs c) (kCo c) (kMa c) (kDe c) (kSx c) (nI i) (nI j) 0 := er_283
        rw [er_283]
        refine kx_top (show kali (kPr c) (kCs c) (kCo c) (kMa c) (kDe c) (kSx c) (nI i) (nI j) 0 = 10000 / (1 + nI u) from kZ_likeq hi hj (by rw [t1]; exact nI_neg1 t (by omega)) hu d1) ?_
        refine lv_sipush (v := 10000) hx hb dL_arePairsSo_286 (by decide) ?_
        refine lv_iconst (v := 1) hx hb dL_arePairsSo_289 (by decide) ?_
        refine lv_iload hx hb dL_arePairsSo_290 (lv_at hl 5 rfl) ?_
        refine lv_iadd hx hb dL_arePairsSo_292 ?_
        refine lv_idiv hx hb dL_arePairsSo_293 (by rw [show (1 : Int32) + nI u = nI (1 + u) from nI_add 1 u]; exact nI_ne0 (by omega) (by omega)) ?_
        refine lv_icmp_ne (tgt := 301) hx hb dL_arePairsSo_294 (by decide) (fun hc => absurd (rfl) hc) (fun _ => ?_)
        refine lv_iconst (v := 1) hx hb dL_arePairsSo_297 (by decide) ?_
        refine lv_goto (tgt := 302) hx hb dL_arePairsSo_298 (by decide) ?_
        exact ke_XZ hx hb hr hlocks (()) hP hD hS (show ((0 + 2 + 1 + 1 + 2 + 2 + 2 + 0) + 2 * 30) + 6 * 3 + 3 ≤ 91 from by omega) (show ((0 + 12 + 6 + 6 + 12 + 12 + 12 + 0) + 12 * 30) + 36 * 3 + 18 ≤ 546 from by omega) dL_arePairsSo_302 true rfl (rfl)
  refine lv_iload hx hb dL_arePairsSo_102 (lv_at hl 0 rfl) ?_
  refine lv_if_ne (tgt := 111) hx hb dL_arePairsSo_104 (by decide) (fun c_104 => ?_) (fun c_104 => ?_)
  · skip
    refine lv_iconst (v := 0) hx hb dL_arePairsSo_111 (by decide) ?_
    refine lv_iload_n hx hb dL_arePairsSo_112 rfl (lv_at hl 4 rfl) ?_
    refine lv_iload_n hx hb dL_arePairsSo_113 rfl (lv_at hl 5 rfl) ?_
    refine lv_icmp_ne (tgt := 121) hx hb dL_arePairsSo_114 (by decide) (fun _ => ?_) (fun hc => absurd hc (fun e => c_104 (by rw [d2.mpr ((nI_eq (by omega) (by omega)).mp e)]; rfl)))
    refine lv_iconst (v := 0) hx hb dL_arePairsSo_121 (by decide) ?_
    refine lv_icmp_ne (tgt := 129) hx hb dL_arePairsSo_122 (by decide) (fun hc => absurd (by decide) hc) (fun _ => ?_)
    refine W.widen (k := 0 + 2 + 1 + 1 + 2 + 2 + 2 + 0) (n := 0 + 12 + 6 + 6 + 12 + 12 + 12 + 0) (by omega) (by omega) ?_
    exact jn125 _ _ _ _ ⟨rfl, hP, hD, hS, (lv_sub hl [3, 4, 5, 2, 1, 0] rfl)⟩
  · skip
    refine lv_iconst (v := 1) hx hb dL_arePairsSo_107 (by decide) ?_
    refine lv_goto (tgt := 112) hx hb dL_arePairsSo_108 (by decide) ?_
    refine lv_iload_n hx hb dL_arePairsSo_112 rfl (lv_at hl 4 rfl) ?_
    refine lv_iload_n hx hb dL_arePairsSo_113 rfl (lv_at hl 5 rfl) ?_
    refine lv_icmp_ne (tgt := 121) hx hb dL_arePairsSo_114 (by decide) (fun hc => absurd (by rw [d2.mp ((nI_eq (b := 0) (by omega) (by decide)).mp c_104)]) hc) (fun _ => ?_)
    refine lv_iconst (v := 1) hx hb dL_arePairsSo_117 (by decide) ?_
    refine lv_goto (tgt := 122) hx hb dL_arePairsSo_118 (by decide) ?_
    refine lv_icmp_ne (tgt := 129) hx hb dL_arePairsSo_122 (by decide) (fun hc => absurd (by decide) hc) (fun _ => ?_)
    refine W.widen (k := 0 + 2 + 1 + 1 + 2 + 2 + 2 + 0) (n := 0 + 12 + 6 + 6 + 12 + 12 + 12 + 0) (by omega) (by omega) ?_
    exact jn125 _ _ _ _ ⟨rfl, hP, hD, hS, (lv_sub hl [3, 4, 5, 2, 1, 0] rfl)⟩
theorem cw_arePairsSo (l : Launch) (D : va_G) (cI : ClassId) (a : Nat → Nat) (c : kCS) (x : kXS) (i j : Nat) (hi : i < 30) (hj : j < 30) (hp : bt (kPr c) i = true) (hq : bt (kPr c) j = true) {A : Nat} {cn rk : Nat → Nat} {pa : Nat → Int32} (hN : kRN A cn rk (kAd c) (kPr c) (kPa c) (kCs c) (kCo c) (kMa c) (kDe c) (kSx c) pa) (hfl : l.stackTraces = false) : kc_X l yL_arePairsSo wsL_arePairsSo 8 126 91 546 D cI [.ref (a 0), .int (nI i), .int (nI j)] (oW cI a c x) (fun (r : Int32) (_ : Unit) => r = 1) (fun _ => oW cI a c x) (fun _ => False) := by
  have hn := hN.2.2.1
  have hs := hN.2.2.2.1
  rcases kZ_tel (ms := kMa c) (dp := kDe c) hn hs.1 hi hj hp with ⟨z0, t0⟩ | ⟨t, ht, hpt, t1, t2, t3, zn⟩
  · rcases kZ_dis hn hs.1 hi hj hp hq with ⟨_, d0, ne⟩ | ⟨u, hu, zn, d1, d2⟩
    · exact cw_arePairsSoA l D cI a c x i j hi hj hp hq hN z0 t0 d0 ne hfl
    · exact absurd z0 zn
  · rcases kZ_dis hn hs.1 hi hj hp hq with ⟨z0, _, _⟩ | ⟨u, hu, _, d1, d2⟩
    · exact absurd z0 zn
    · exact cw_arePairsSoB l D cI a c x i j hi hj hp hq hN t u ht hpt t1 t2 t3 zn hu d1 d2 hfl
