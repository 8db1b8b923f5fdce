/-! p28: isSenseSo. -/
theorem kdue_t {P : Int32} {cv : Nat → Int32} {j : Nat} (h : bt P j = true) : kdue P cv j ||| kU cv j = kdue P cv (j + 1) := (if_pos h).symm
theorem kdue_f {P : Int32} {cv : Nat → Int32} {j : Nat} (h : bt P j = false) : kdue P cv (j + 1) = kdue P cv j := if_neg (by rw [h]; decide)
theorem kdpt_f {P : Int32} {dp : Nat → Int32} {j : Nat} (h : bt P j = false) : kdpt P dp (j + 1) = kdpt P dp j := if_neg (by rw [h]; decide)
theorem kdpt_a {P : Int32} {dp : Nat → Int32} {j : Nat} (h : bt P j = true) (h1 : kdpt P dp j ≤ dp j + 1) : kdpt P dp j = kdpt P dp (j + 1) := by
  show _ = if bt P j = true then (if dp j + 1 < kdpt P dp j then dp j + 1 else kdpt P dp j) else kdpt P dp j
  rw [if_pos h, if_neg (Int32.not_lt.mpr h1)]
theorem kdpt_b {P : Int32} {dp : Nat → Int32} {j : Nat} (h : bt P j = true) (h1 : ¬ kdpt P dp j ≤ dp j + 1) : dp j + 1 = kdpt P dp (j + 1) := by
  show _ = if bt P j = true then (if dp j + 1 < kdpt P dp j then dp j + 1 else kdpt P dp j) else kdpt P dp j
  rw [if_pos h, if_pos (Int32.not_le.mp h1)]
theorem kS_cnt {A : Nat} {cn rk : Nat → Nat} {ad pr : Int32} {ps cs cv ms dp sx pa : Nat → Int32} (h : kRN A cn rk ad pr ps cs cv ms dp sx pa) {a : Nat} (ha : a < 30) : ¬ (4 : Int32) < nI (kcnt (ps a) 32) := by
  have e : nI (kcnt (ps a) 32) = nI (kcnt (ps a) 30) := (kpop_32 _).symm.trans (kRN_pop h ha)
  rw [e]
  exact nI_nlt (a := 4) (h.2.2.2.2.2.1 a ha) (by decide)
theorem nB_f {b : Bool} (h : ¬ nB b = 1) : b = false := by
  cases b with
  | false => rfl
  | true => exact absurd rfl h
set_option maxHeartbeats 4000000 in
set_option maxRecDepth 100000 in
theorem cw_isSenseSo (l : Launch) (D : va_G) (cI : ClassId) (a : Nat → Nat) (c : kCS) (x : kXS) (i : Nat) (hi : i < 30) (hp : bt (kPr c) i = true) {A : Nat} {cn rk : Nat → Nat} {pa : Nat → Int32} (hN : kRN A cn rk (kAd c) (kPr c) (kPa c) (kCs c) (kCo c) (kMa c) (kDe c) (kSx c) pa) (hfl : l.stackTraces = false) : kc_X l yL_isSenseSo wsL_isSenseSo 8 133 188 1128 D cI [.ref (a 0), .int (nI i)] (oW cI a c x) (fun (r : Int32) (_ : kXS) => r = 1) (fun u => oW cI a c u) (fun _ => False) := by
  refine ks_X (cc := cL_isSenseSo) (nL := 9) (ret := (some .boolean)) (by decide) rfl (Nat.le_of_ble_eq_true rfl) ?_
  intro p e s m below meth cd ls hF ht hP hK hX hZ hS hA hD hl
  obtain ⟨hx, hb, hr, hml, hown, hts, hlocks⟩ := hF
  have hown : s.vm.findClass RL = some m.cls := hown
  have hS := kx_wk (ws := (oW cI a c x)) hS
  have hl : lv_has ls 9 [(0, .ref (a 0)), (1, .int (nI i))] := hl
  have hn := hN.2.2.1
  have hs := hN.2.2.2.1
  refine lv_aload_n hx hb dL_isSenseSo_0 rfl (lv_at hl 0 rfl) ?_
  refine lv_iload_n hx hb dL_isSenseSo_1 rfl (lv_at hl 1 rfl) ?_
  refine kq_0 (px := fun _ => False) (vx_runV (As := [.int (nI i)]) (rest := []) ⟨hx, hb, hml, hown, hts⟩ (cG_parents l D cI a c x i hi hp hfl _) (cwV 1 hts gL_isSenseSo_X3_parents rfl rfl rfl (by decide +kernel) ⟨Nat.le_of_ble_eq_true rfl, Nat.le_of_ble_eq_true rfl⟩) (kp_0V hP hD hK hX hZ hS hA 0 3 rfl rfl) rfl rfl hl.1 rfl (lv_room (Nat.le_of_ble_eq_true rfl)) dL_isSenseSo_2 ⟨(show 0 + 1 ≤ 188 from by omega), (show 0 + 6 ≤ 1128 from by omega)⟩) hP hD hS hA (fun E ce q9 H locs hE hP hS hcell hv hcl => hE.elim) (fun r_2 _u H locs er_2 hP hD hS => ?_)
  have hP : va_P D vwCl (oW cI a c x) H := hP
  have hD : va_D _ (oW cI a c x) := hD
  have er_2 : r_2 = kPa c i := er_2
  rw [er_2]
  refine lv_istore_n (lv' := [(2, .int (kPa c i)), (0, .ref (a 0)), (1, .int (nI i))]) hx hb dL_isSenseSo_5 rfl hl (by decide) rfl (fun ls hl => ?_)
  refine lv_aload_n hx hb dL_isSenseSo_6 rfl (lv_at hl 1 rfl) ?_
  refine lv_iload_n hx hb dL_isSenseSo_7 rfl (lv_at hl 2 rfl) ?_
  refine kq_0 (px := fun _ => False) (vx_runV (As := [.int (nI i)]) (rest := []) ⟨hx, hb, hml, hown, hts⟩ (cG_above l D cI a c x i hi hp hfl _) (cwV 1 hts gL_isSenseSo_X3_above rfl rfl rfl (by decide +kernel) ⟨Nat.le_of_ble_eq_true rfl, Nat.le_of_ble_eq_true rfl⟩) (kp_0V hP hD hK hX hZ hS hA 0 3 rfl rfl) rfl rfl hl.1 rfl (lv_room (Nat.le_of_ble_eq_true rfl)) dL_isSenseSo_8 ⟨(show 0 + 1 + 1 ≤ 188 from by omega), (show 0 + 6 + 6 ≤ 1128 from by omega)⟩) hP hD hS hA (fun E ce q9 H locs hE hP hS hcell hv hcl => hE.elim) (fun r_8 _u H locs er_8 hP hD hS => ?_)
  have hP : va_P D vwCl (oW cI a c x) H := hP
  have hD : va_D _ (oW cI a c x) := hD
  have er_8 : r_8 = kU (kCo c) i := er_8
  rw [er_8]
  refine lv_istore_n (lv' := [(3, .int (kU (kCo c) i)), (2, .int (kPa c i)), (0, .ref (a 0)), (1, .int (nI i))]) hx hb dL_isSenseSo_11 rfl hl (by decide) rfl (fun ls hl => ?_)
  refine lv_aload_n hx hb dL_isSenseSo_12 rfl (lv_at hl 2 rfl) ?_
  refine lv_iload_n hx hb dL_isSenseSo_13 rfl (lv_at hl 3 rfl) ?_
  refine kq_0 (px := fun _ => False) (vx_runV (As := [.int (nI i)]) (rest := []) ⟨hx, hb, hml, hown, hts⟩ (cG_below l D cI a c x i hi hp hfl _) (cwV 1 hts gL_isSenseSo_X3_below rfl rfl rfl (by decide +kernel) ⟨Nat.le_of_ble_eq_true rfl, Nat.le_of_ble_eq_true rfl⟩) (kp_0V hP hD hK hX hZ hS hA 0 3 rfl rfl) rfl rfl hl.1 rfl (lv_room (Nat.le_of_ble_eq_true rfl)) dL_isSenseSo_14 ⟨(show 0 + 1 + 1 + 1 ≤ 188 from by omega), (show 0 + 6 + 6 + 6 ≤ 1128 from by omega)⟩) hP hD hS hA (fun E ce q9 H locs hE hP hS hcell hv hcl => hE.elim) (fun r_14 _u H locs er_14 hP hD hS => ?_)
  have hP : va_P D vwCl (oW cI a c x) H := hP
  have hD : va_D _ (oW cI a c x) := hD
  have er_14 : r_14 = kB (kCo c) i := er_14
  rw [er_14]
  refine lv_istore (lv' := [(4, .int (kB (kCo c) i)), (3, .int (kU (kCo c) i)), (2, .int (kPa c i)), (0, .ref (a 0)), (1, .int (nI i))]) hx hb dL_isSenseSo_17 hl (by decide) rfl (fun ls hl => ?_)
  refine lv_iload_n hx hb dL_isSenseSo_19 rfl (lv_at hl 2 rfl) ?_
  refine lv_istore (lv' := [(5, .int (kPa c i)), (4, .int (kB (kCo c) i)), (3, .int (kU (kCo c) i)), (2, .int (kPa c i)), (0, .ref (a 0)), (1, .int (nI i))]) hx hb dL_isSenseSo_20 hl (by decide) rfl (fun ls hl => ?_)
  refine lv_iload_n hx hb dL_isSenseSo_22 rfl (lv_at hl 3 rfl) ?_
  refine kl_cutc (pc := 32) (c1 := 0 + 1 + 1 + 1 + 0) (s1 := 0 + 6 + 6 + 6 + 0) (fun (H : Heap) (locs : List Loc) (ls : Array Slot) (st : List Value) => st = [.int (kdpt (kPa c i) (kDe c) 0)] ∧ va_P D vwCl (oW cI a c x) H ∧ va_D (va_A (oW cI a c x) s.heap.size) (oW cI a c x) ∧ va_S (va_A (oW cI a c x) s.heap.size) s.heap H locs ∧ lv_has ls 9 [(0, .ref (a 0)), (1, .int (nI i)), (2, .int (kPa c i)), (3, .int (kU (kCo c) i)), (4, .int (kB (kCo c) i)), (5, .int (kPa c i))]) ?_ (fun jn32 => ?_)
  · skip
    intro H locs ls st hJ
    obtain ⟨rfl, hP, hD, hS, hl⟩ := hJ
    refine lv_istore (lv' := [(6, .int (kdpt (kPa c i) (kDe c) 0)), (0, .ref (a 0)), (1, .int (nI i)), (2, .int (kPa c i)), (3, .int (kU (kCo c) i)), (4, .int (kB (kCo c) i)), (5, .int (kPa c i))]) hx hb dL_isSenseSo_32 hl (by decide) rfl (fun ls hl => ?_)
    refine lv_iload_n hx hb dL_isSenseSo_34 rfl (lv_at hl 3 rfl) ?_
    refine kq_R (va_runS (As := [.int (kPa c i)]) (rest := []) ⟨hx, hb, hml, hown, hts⟩ (cw_bits l D cI (kPa c i) _) (va_cwS 1 hts gL_isSenseSo_L_bits rfl rfl rfl (by decide +kernel) ⟨Nat.le_of_ble_eq_true rfl, Nat.le_of_ble_eq_true rfl⟩) (kp_RS (hP.sub (ws' := []) [] rfl) hK) rfl rfl hl.1 rfl (lv_room (Nat.le_of_ble_eq_true rfl)) dL_isSenseSo_35 ⟨(show 0 + 1 + 1 + 1 + 0 + 0 ≤ 188 from by omega), (show 0 + 6 + 6 + 6 + 0 + 0 ≤ 1128 from by omega)⟩) hP hS hA (fun r_35 H locs er_35 hP hS => ?_)
    have er_35 : r_35 = nI (kcnt (kPa c i) 32) := er_35
    rw [er_35]
    refine lv_iconst (v := 4) hx hb dL_isSenseSo_38 (by decide) ?_
    refine lv_icmp_gt (tgt := 93) hx hb dL_isSenseSo_39 (by decide) (fun hc => absurd hc (kS_cnt hN hi)) (fun _ => ?_)
    refine lv_iload_n hx hb dL_isSenseSo_42 rfl (lv_at hl 4 rfl) ?_
    refine lv_iload hx hb dL_isSenseSo_43 (lv_at hl 5 rfl) ?_
    refine lv_iand hx hb dL_isSenseSo_45 ?_
    refine lv_if_ne (tgt := 93) hx hb dL_isSenseSo_46 (by decide) (fun hc => absurd (kS_dis hn hs.1 hi hp) hc) (fun _ => ?_)
    refine lv_iload_n hx hb dL_isSenseSo_49 rfl (lv_at hl 4 rfl) ?_
    refine lv_iload hx hb dL_isSenseSo_50 (lv_at hl 5 rfl) ?_
    refine lv_ior hx hb dL_isSenseSo_52 ?_
    refine lv_iload_n hx hb dL_isSenseSo_53 rfl (lv_at hl 2 rfl) ?_
    refine lv_ishr hx hb dL_isSenseSo_54 ?_
    refine lv_iconst (v := 1) hx hb dL_isSenseSo_55 (by decide) ?_
    refine lv_iand hx hb dL_isSenseSo_56 ?_
    refine lv_if_ne (tgt := 93) hx hb dL_isSenseSo_57 (by decide) (fun hc => absurd (kS_self hs.1 hi hp) hc) (fun _ => ?_)
    refine lv_aload_n hx hb dL_isSenseSo_60 rfl (lv_at hl 1 rfl) ?_
    refine kq_R (va_runV (As := []) (rest := []) ⟨hx, hb, hml, hown, hts⟩ (cP_senses l D cI a c x _) (cwV 0 hts gL_isSenseSo_X3_senses rfl rfl rfl (by decide +kernel) ⟨Nat.le_of_ble_eq_true rfl, Nat.le_of_ble_eq_true rfl⟩) (kp_RV hP hK 0 3 rfl rfl) rfl rfl hl.1 rfl (lv_room (Nat.le_of_ble_eq_true rfl)) dL_isSenseSo_61 ⟨(show 0 + 1 + 1 + 1 + 0 + 0 ≤ 188 from by omega), (show 0 + 6 + 6 + 6 + 0 + 0 ≤ 1128 from by omega)⟩) hP hS hA (fun r_61 H locs er_61 hP hS => ?_)
    have er_61 : r_61 = kPr c := er_61
    rw [er_61]
    refine lv_iload_n hx hb dL_isSenseSo_64 rfl (lv_at hl 4 rfl) ?_
    refine lv_ior hx hb dL_isSenseSo_65 ?_
    refine lv_iload hx hb dL_isSenseSo_66 (lv_at hl 5 rfl) ?_
    refine lv_ior hx hb dL_isSenseSo_68 ?_
    refine lv_aload_n hx hb dL_isSenseSo_69 rfl (lv_at hl 1 rfl) ?_
    refine kq_R (va_runV (As := []) (rest := [.int (((kPr c) ||| (kU (kCo c) i)) ||| (kB (kCo c) i))]) ⟨hx, hb, hml, hown, hts⟩ (cP_senses l D cI a c x _) (cwV 0 hts gL_isSenseSo_X3_senses rfl rfl rfl (by decide +kernel) ⟨Nat.le_of_ble_eq_true rfl, Nat.le_of_ble_eq_true rfl⟩) (kp_RV hP hK 0 3 rfl rfl) rfl rfl hl.1 rfl (lv_room (Nat.le_of_ble_eq_true rfl)) dL_isSenseSo_70 ⟨(show 0 + 1 + 1 + 1 + 0 + 0 ≤ 188 from by omega), (show 0 + 6 + 6 + 6 + 0 + 0 ≤ 1128 from by omega)⟩) hP hS hA (fun r_70 H locs er_70 hP hS => ?_)
    have er_70 : r_70 = kPr c := er_70
    rw [er_70]
    refine lv_icmp_ne (tgt := 93) hx hb dL_isSenseSo_73 (by decide) (fun hc => absurd (kS_sub hn hs.1 hi hp) hc) (fun _ => ?_)
    refine lv_aload_n hx hb dL_isSenseSo_76 rfl (lv_at hl 1 rfl) ?_
    refine lv_iload_n hx hb dL_isSenseSo_77 rfl (lv_at hl 2 rfl) ?_
    refine kq_0 (px := fun _ => False) (vx_runV (As := [.int (nI i)]) (rest := []) ⟨hx, hb, hml, hown, hts⟩ (cG_mass l D cI a c x i hi hp hfl _) (cwV 1 hts gL_isSenseSo_X3_mass rfl rfl rfl (by decide +kernel) ⟨Nat.le_of_ble_eq_true rfl, Nat.le_of_ble_eq_true rfl⟩) (kp_0V hP hD hK hX hZ hS hA 0 3 rfl rfl) rfl rfl hl.1 rfl (lv_room (Nat.le_of_ble_eq_true rfl)) dL_isSenseSo_78 ⟨(show 0 + 1 + 1 + 1 + 0 + 1 ≤ 188 from by omega), (show 0 + 6 + 6 + 6 + 0 + 6 ≤ 1128 from by omega)⟩) hP hD hS hA (fun E ce q9 H locs hE hP hS hcell hv hcl => hE.elim) (fun r_78 _u H locs er_78 hP hD hS => ?_)
    have hP : va_P D vwCl (oW cI a c x) H := hP
    have hD : va_D _ (oW cI a c x) := hD
    have er_78 : r_78 = kMa c i := er_78
    rw [er_78]
    refine lv_aload_n hx hb dL_isSenseSo_81 rfl (lv_at hl 1 rfl) ?_
    refine lv_iload_n hx hb dL_isSenseSo_82 rfl (lv_at hl 2 rfl) ?_
    refine kq_0 (px := fun _ => False) (vx_runV (As := [.int (nI i)]) (rest := [.int (kMa c i)]) ⟨hx, hb, hml, hown, hts⟩ (cG_massByWalks l D cI a c x i hi hp hn (hs.2 i hi) hfl _) (cwV 1 hts gL_isSenseSo_X3_massByWalks rfl rfl rfl (by decide +kernel) ⟨Nat.le_of_ble_eq_true rfl, Nat.le_of_ble_eq_true rfl⟩) (kp_0V hP hD hK hX hZ hS hA 0 3 rfl rfl) rfl rfl hl.1 rfl (lv_room (Nat.le_of_ble_eq_true rfl)) dL_isSenseSo_83 ⟨(show 0 + 1 + 1 + 1 + 0 + 1 + 1 ≤ 188 from by omega), (show 0 + 6 + 6 + 6 + 0 + 6 + 6 ≤ 1128 from by omega)⟩) hP hD hS hA (fun E ce q9 H locs hE hP hS hcell hv hcl => hE.elim) (fun r_83 x1 H locs er_83 hP hD hS => ?_)
    have hP : va_P D vwCl (oW cI a c x1) H := hP
    have hD : va_D _ (oW cI a c x1) := hD
    have er_83 : r_83 = kMa c i := er_83
    rw [er_83]
    refine lv_icmp_ne (tgt := 93) hx hb dL_isSenseSo_86 (by decide) (fun hc => absurd (rfl) hc) (fun _ => ?_)
    refine lv_iconst (v := 1) hx hb dL_isSenseSo_89 (by decide) ?_
    refine lv_goto (tgt := 94) hx hb dL_isSenseSo_90 (by decide) ?_
    refine lv_istore (lv' := [(7, .int 1), (6, .int (kdpt (kPa c i) (kDe c) 0)), (0, .ref (a 0)), (1, .int (nI i)), (2, .int (kPa c i)), (3, .int (kU (kCo c) i)), (4, .int (kB (kCo c) i)), (5, .int (kPa c i))]) hx hb dL_isSenseSo_94 hl (by decide) rfl (fun ls hl => ?_)
    refine lv_iconst (v := 0) hx hb dL_isSenseSo_96 (by decide) ?_
    refine lv_istore (lv' := [(8, .int 0), (7, .int 1), (6, .int (kdpt (kPa c i) (kDe c) 0)), (0, .ref (a 0)), (1, .int (nI i)), (2, .int (kPa c i)), (3, .int (kU (kCo c) i)), (4, .int (kB (kCo c) i)), (5, .int (kPa c i))]) hx hb dL_isSenseSo_97 hl (by decide) rfl (fun ls hl => ?_)
    refine kl_forc (head := 99) (N := 30) (kc := 6) (kn := 36) (c0 := 0 + 1 + 1 + 1 + 0 + 1 + 1) (s0 := 0 + 6 + 6 + 6 + 0 + 6 + 6) (fun (j : Nat) (H : Heap) (locs : List Loc) (ls : Array Slot) => va_P D vwCl (oW cI a c x1) H ∧ va_D (va_A (oW cI a c x) s.heap.size) (oW cI a c x1) ∧ va_S (va_A (oW cI a c x) s.heap.size) s.heap H locs ∧ lv_has ls 9 [(0, .ref (a 0)), (1, .int (nI i)), (2, .int (kPa c i)), (3, .int (kU (kCo c) i)), (4, .int (kB (kCo c) i)), (5, .int (kdue (kPa c i) (kCo c) j)), (6, .int (kdpt (kPa c i) (kDe c) j)), (7, .int 1), (8, .int (nI j))]) ?_ ?_ ⟨hP, hD, hS, (lv_sub hl [3, 4, 5, 6, 7, 8, 2, 1, 0] rfl)⟩
    · skip
      intro j hj H locs ls hJ ih99
      obtain ⟨hP, hD, hS, hl⟩ := hJ
      refine lv_iload hx hb dL_isSenseSo_99 (lv_at hl 8 rfl) ?_
      refine lv_bipush (v := 30) hx hb dL_isSenseSo_101 (by decide) ?_
      refine lv_icmp_ge (tgt := 211) hx hb dL_isSenseSo_103 (by decide) (fun hc => absurd hc (nI_ge hj (by decide))) (fun _ => ?_)
      refine kl_cutc (pc := 155) (c1 := (0 + 1 + 1 + 1 + 0 + 1 + 1) + 6 * j + 3) (s1 := (0 + 6 + 6 + 6 + 0 + 6 + 6) + 36 * j + 18) (fun (H : Heap) (locs : List Loc) (ls : Array Slot) (st : List Value) => st = [] ∧ va_P D vwCl (oW cI a c x1) H ∧ va_D (va_A (oW cI a c x) s.heap.size) (oW cI a c x1) ∧ va_S (va_A (oW cI a c x) s.heap.size) s.heap H locs ∧ lv_has ls 9 [(0, .ref (a 0)), (1, .int (nI i)), (2, .int (kPa c i)), (3, .int (kU (kCo c) i)), (4, .int (kB (kCo c) i)), (5, .int (kdue (kPa c i) (kCo c) (j + 1))), (6, .int (kdpt (kPa c i) (kDe c) (j + 1))), (7, .int 1), (8, .int (nI j))]) ?_ (fun jn155 => ?_)
      · skip
        intro H locs ls st hJ
        obtain ⟨rfl, hP, hD, hS, hl⟩ := hJ
        refine lv_iload_n hx hb dL_isSenseSo_155 rfl (lv_at hl 3 rfl) ?_
        refine lv_iload hx hb dL_isSenseSo_156 (lv_at hl 8 rfl) ?_
        refine lv_ishr hx hb dL_isSenseSo_158 ?_
        refine lv_iconst (v := 1) hx hb dL_isSenseSo_159 (by decide) ?_
        refine lv_iand hx hb dL_isSenseSo_160 ?_
        refine kx_top (show ((kU (kCo c) i) >>> ((nI j) &&& 31)) &&& 1 = nB (bt (kU (kCo c) i) j) from b_sar (by omega)) ?_
        refine lv_iconst (v := 1) hx hb dL_isSenseSo_161 (by decide) ?_
        refine lv_icmp_ne (tgt := 205) hx hb dL_isSenseSo_162 (by decide) (fun c_162 => ?_) (fun c_162 => ?_)
        · skip
          refine lv_iinc (v := nI (j + 1)) (lv' := [(8, .int (nI (j + 1))), (0, .ref (a 0)), (1, .int (nI i)), (2, .int (kPa c i)), (3, .int (kU (kCo c) i)), (4, .int (kB (kCo c) i)), (5, .int (kdue (kPa c i) (kCo c) (j + 1))), (6, .int (kdpt (kPa c i) (kDe c) (j + 1))), (7, .int 1)]) hx hb dL_isSenseSo_205 hl (k := 8) rfl (nI_1 _) (by decide) rfl (fun ls hl => ?_)
          refine lv_goto (tgt := 99) hx hb dL_isSenseSo_208 (by decide) ?_
          refine W.widen (k := (0 + 1 + 1 + 1 + 0 + 1 + 1) + 6 * (j + 1)) (n := (0 + 6 + 6 + 6 + 0 + 6 + 6) + 36 * (j + 1)) (by omega) (by omega) ?_
          exact ih99 _ _ _ ⟨hP, hD, hS, (lv_sub hl [1, 2, 3, 4, 5, 6, 7, 8, 0] rfl)⟩
        · skip
          have hU := nB_1.mp c_162
          have hpj := (kRe_pr hn.1 hp hi ((kU_b hs.1 hi hp j).mp hU).2.1).1
          refine lv_iload hx hb dL_isSenseSo_165 (lv_at hl 7 rfl) ?_
          refine lv_if_eq (tgt := 202) hx hb dL_isSenseSo_167 (by decide) (fun hc => absurd hc (by decide)) (fun _ => ?_)
          refine lv_aload_n hx hb dL_isSenseSo_170 rfl (lv_at hl 0 rfl) ?_
          refine lv_iload hx hb dL_isSenseSo_171 (lv_at hl 8 rfl) ?_
          refine kq_0 (px := fun _ => False) (vx_runV (As := [.int (nI j)]) (rest := []) ⟨hx, hb, hml, hown, hts⟩ (cG_below l D cI a c x1 j hj hpj hfl _) (cwV 1 hts gL_isSenseSo_X3_below rfl rfl rfl (by decide +kernel) ⟨Nat.le_of_ble_eq_true rfl, Nat.le_of_ble_eq_true rfl⟩) (kp_0V hP hD hK hX hZ hS hA 0 3 rfl rfl) rfl rfl hl.1 rfl (lv_room (Nat.le_of_ble_eq_true rfl)) dL_isSenseSo_173 ⟨(show (0 + 1 + 1 + 1 + 0 + 1 + 1) + 6 * j + 3 + 1 ≤ 188 from by omega), (show (0 + 6 + 6 + 6 + 0 + 6 + 6) + 36 * j + 18 + 6 ≤ 1128 from by omega)⟩) hP hD hS hA (fun E ce q9 H locs hE hP hS hcell hv hcl => hE.elim) (fun r_173 _u H locs er_173 hP hD hS => ?_)
          have hP : va_P D vwCl (oW cI a c x1) H := hP
          have hD : va_D _ (oW cI a c x1) := hD
          have er_173 : r_173 = kB (kCo c) j := er_173
          rw [er_173]
          refine lv_iload_n hx hb dL_isSenseSo_176 rfl (lv_at hl 1 rfl) ?_
          refine lv_ishr hx hb dL_isSenseSo_177 ?_
          refine lv_iconst (v := 1) hx hb dL_isSenseSo_178 (by decide) ?_
          refine lv_iand hx hb dL_isSenseSo_179 ?_
          refine lv_iconst (v := 1) hx hb dL_isSenseSo_180 (by decide) ?_
          refine lv_icmp_ne (tgt := 202) hx hb dL_isSenseSo_181 (by decide) (fun hc => absurd (kS_abv hs.1 hi hp hU) hc) (fun _ => ?_)
          refine lv_aload_n hx hb dL_isSenseSo_184 rfl (lv_at hl 0 rfl) ?_
          refine lv_iload hx hb dL_isSenseSo_185 (lv_at hl 8 rfl) ?_
          refine kq_0 (px := fun _ => False) (vx_runV (As := [.int (nI j)]) (rest := []) ⟨hx, hb, hml, hown, hts⟩ (cG_mass l D cI a c x1 j hj hpj hfl _) (cwV 1 hts gL_isSenseSo_X3_mass rfl rfl rfl (by decide +kernel) ⟨Nat.le_of_ble_eq_true rfl, Nat.le_of_ble_eq_true rfl⟩) (kp_0V hP hD hK hX hZ hS hA 0 3 rfl rfl) rfl rfl hl.1 rfl (lv_room (Nat.le_of_ble_eq_true rfl)) dL_isSenseSo_187 ⟨(show (0 + 1 + 1 + 1 + 0 + 1 + 1) + 6 * j + 3 + 1 + 1 ≤ 188 from by omega), (show (0 + 6 + 6 + 6 + 0 + 6 + 6) + 36 * j + 18 + 6 + 6 ≤ 1128 from by omega)⟩) hP hD hS hA (fun E ce q9 H locs hE hP hS hcell hv hcl => hE.elim) (fun r_187 _u H locs er_187 hP hD hS => ?_)
          have hP : va_P D vwCl (oW cI a c x1) H := hP
          have hD : va_D _ (oW cI a c x1) := hD
          have er_187 : r_187 = kMa c j := er_187
          rw [er_187]
          refine lv_aload_n hx hb dL_isSenseSo_190 rfl (lv_at hl 0 rfl) ?_
          refine lv_iload_n hx hb dL_isSenseSo_191 rfl (lv_at hl 1 rfl) ?_
          refine kq_0 (px := fun _ => False) (vx_runV (As := [.int (nI i)]) (rest := [.int (kMa c j)]) ⟨hx, hb, hml, hown, hts⟩ (cG_mass l D cI a c x1 i hi hp hfl _) (cwV 1 hts gL_isSenseSo_X3_mass rfl rfl rfl (by decide +kernel) ⟨Nat.le_of_ble_eq_true rfl, Nat.le_of_ble_eq_true rfl⟩) (kp_0V hP hD hK hX hZ hS hA 0 3 rfl rfl) rfl rfl hl.1 rfl (lv_room (Nat.le_of_ble_eq_true rfl)) dL_isSenseSo_192 ⟨(show (0 + 1 + 1 + 1 + 0 + 1 + 1) + 6 * j + 3 + 1 + 1 + 1 ≤ 188 from by omega), (show (0 + 6 + 6 + 6 + 0 + 6 + 6) + 36 * j + 18 + 6 + 6 + 6 ≤ 1128 from by omega)⟩) hP hD hS hA (fun E ce q9 H locs hE hP hS hcell hv hcl => hE.elim) (fun r_192 _u H locs er_192 hP hD hS => ?_)
          have hP : va_P D vwCl (oW cI a c x1) H := hP
          have hD : va_D _ (oW cI a c x1) := hD
          have er_192 : r_192 = kMa c i := er_192
          rw [er_192]
          refine lv_icmp_lt (tgt := 202) hx hb dL_isSenseSo_195 (by decide) (fun hc => absurd hc (kS_mss hn hs hi hp hU)) (fun _ => ?_)
          refine lv_iconst (v := 1) hx hb dL_isSenseSo_198 (by decide) ?_
          refine lv_goto (tgt := 203) hx hb dL_isSenseSo_199 (by decide) ?_
          refine lv_istore (lv' := [(7, .int 1), (0, .ref (a 0)), (1, .int (nI i)), (2, .int (kPa c i)), (3, .int (kU (kCo c) i)), (4, .int (kB (kCo c) i)), (5, .int (kdue (kPa c i) (kCo c) (j + 1))), (6, .int (kdpt (kPa c i) (kDe c) (j + 1))), (8, .int (nI j))]) hx hb dL_isSenseSo_203 hl (by decide) rfl (fun ls hl => ?_)
          refine lv_iinc (v := nI (j + 1)) (lv' := [(8, .int (nI (j + 1))), (7, .int 1), (0, .ref (a 0)), (1, .int (nI i)), (2, .int (kPa c i)), (3, .int (kU (kCo c) i)), (4, .int (kB (kCo c) i)), (5, .int (kdue (kPa c i) (kCo c) (j + 1))), (6, .int (kdpt (kPa c i) (kDe c) (j + 1)))]) hx hb dL_isSenseSo_205 hl (k := 8) rfl (nI_1 _) (by decide) rfl (fun ls hl => ?_)
          refine lv_goto (tgt := 99) hx hb dL_isSenseSo_208 (by decide) ?_
          refine W.widen (k := (0 + 1 + 1 + 1 + 0 + 1 + 1) + 6 * (j + 1)) (n := (0 + 6 + 6 + 6 + 0 + 6 + 6) + 36 * (j + 1)) (by omega) (by omega) ?_
          exact ih99 _ _ _ ⟨hP, hD, hS, (lv_sub hl [2, 3, 4, 5, 6, 7, 8, 1, 0] rfl)⟩
      refine lv_iload_n hx hb dL_isSenseSo_106 rfl (lv_at hl 2 rfl) ?_
      refine lv_iload hx hb dL_isSenseSo_107 (lv_at hl 8 rfl) ?_
      refine lv_ishr hx hb dL_isSenseSo_109 ?_
      refine lv_iconst (v := 1) hx hb dL_isSenseSo_110 (by decide) ?_
      refine lv_iand hx hb dL_isSenseSo_111 ?_
      refine kx_top (show ((kPa c i) >>> ((nI j) &&& 31)) &&& 1 = nB (bt (kPa c i) j) from b_sar (by omega)) ?_
      refine lv_iconst (v := 1) hx hb dL_isSenseSo_112 (by decide) ?_
      refine lv_icmp_ne (tgt := 155) hx hb dL_isSenseSo_113 (by decide) (fun c_113 => ?_) (fun c_113 => ?_)
      · skip
        have hbt := nB_f c_113
        have hl : lv_has ls 9 [(0, .ref (a 0)), (1, .int (nI i)), (2, .int (kPa c i)), (3, .int (kU (kCo c) i)), (4, .int (kB (kCo c) i)), (5, .int (kdue (kPa c i) (kCo c) (j + 1))), (6, .int (kdpt (kPa c i) (kDe c) (j + 1))), (7, .int 1), (8, .int (nI j))] := (by rw [kdue_f hbt, kdpt_f hbt]; exact hl)
        refine W.widen (k := (0 + 1 + 1 + 1 + 0 + 1 + 1) + 6 * j + 3) (n := (0 + 6 + 6 + 6 + 0 + 6 + 6) + 36 * j + 18) (by omega) (by omega) ?_
        exact jn155 _ _ _ _ ⟨rfl, hP, hD, hS, (lv_sub hl [0, 1, 2, 3, 4, 5, 6, 7, 8] rfl)⟩
      · skip
        have hbt := nB_1.mp c_113
        have hpj := (hn.1.2 i hi j hbt).2.1
        refine lv_iload hx hb dL_isSenseSo_116 (lv_at hl 5 rfl) ?_
        refine lv_aload_n hx hb dL_isSenseSo_118 rfl (lv_at hl 0 rfl) ?_
        refine lv_iload hx hb dL_isSenseSo_119 (lv_at hl 8 rfl) ?_
        refine kq_0 (px := fun _ => False) (vx_runV (As := [.int (nI j)]) (rest := [.int (kdue (kPa c i) (kCo c) j)]) ⟨hx, hb, hml, hown, hts⟩ (cG_above l D cI a c x1 j hj hpj hfl _) (cwV 1 hts gL_isSenseSo_X3_above rfl rfl rfl (by decide +kernel) ⟨Nat.le_of_ble_eq_true rfl, Nat.le_of_ble_eq_true rfl⟩) (kp_0V hP hD hK hX hZ hS hA 0 3 rfl rfl) rfl rfl hl.1 rfl (lv_room (Nat.le_of_ble_eq_true rfl)) dL_isSenseSo_121 ⟨(show (0 + 1 + 1 + 1 + 0 + 1 + 1) + 6 * j + 1 ≤ 188 from by omega), (show (0 + 6 + 6 + 6 + 0 + 6 + 6) + 36 * j + 6 ≤ 1128 from by omega)⟩) hP hD hS hA (fun E ce q9 H locs hE hP hS hcell hv hcl => hE.elim) (fun r_121 _u H locs er_121 hP hD hS => ?_)
        have hP : va_P D vwCl (oW cI a c x1) H := hP
        have hD : va_D _ (oW cI a c x1) := hD
        have er_121 : r_121 = kU (kCo c) j := er_121
        rw [er_121]
        refine lv_ior hx hb dL_isSenseSo_124 ?_
        refine kx_top (show (kdue (kPa c i) (kCo c) j) ||| (kU (kCo c) j) = kdue (kPa c i) (kCo c) (j + 1) from kdue_t hbt) ?_
        refine lv_istore (lv' := [(5, .int (kdue (kPa c i) (kCo c) (j + 1))), (0, .ref (a 0)), (1, .int (nI i)), (2, .int (kPa c i)), (3, .int (kU (kCo c) i)), (4, .int (kB (kCo c) i)), (6, .int (kdpt (kPa c i) (kDe c) j)), (7, .int 1), (8, .int (nI j))]) hx hb dL_isSenseSo_125 hl (by decide) rfl (fun ls hl => ?_)
        refine lv_aload_n hx hb dL_isSenseSo_127 rfl (lv_at hl 1 rfl) ?_
        refine lv_iload hx hb dL_isSenseSo_128 (lv_at hl 8 rfl) ?_
        refine kq_0 (px := fun _ => False) (vx_runV (As := [.int (nI j)]) (rest := []) ⟨hx, hb, hml, hown, hts⟩ (cG_depth l D cI a c x1 j hj hpj hfl _) (cwV 1 hts gL_isSenseSo_X3_depth rfl rfl rfl (by decide +kernel) ⟨Nat.le_of_ble_eq_true rfl, Nat.le_of_ble_eq_true rfl⟩) (kp_0V hP hD hK hX hZ hS hA 0 3 rfl rfl) rfl rfl hl.1 rfl (lv_room (Nat.le_of_ble_eq_true rfl)) dL_isSenseSo_130 ⟨(show (0 + 1 + 1 + 1 + 0 + 1 + 1) + 6 * j + 1 + 1 ≤ 188 from by omega), (show (0 + 6 + 6 + 6 + 0 + 6 + 6) + 36 * j + 6 + 6 ≤ 1128 from by omega)⟩) hP hD hS hA (fun E ce q9 H locs hE hP hS hcell hv hcl => hE.elim) (fun r_130 _u H locs er_130 hP hD hS => ?_)
        have hP : va_P D vwCl (oW cI a c x1) H := hP
        have hD : va_D _ (oW cI a c x1) := hD
        have er_130 : r_130 = kDe c j := er_130
        rw [er_130]
        refine lv_iconst (v := 1) hx hb dL_isSenseSo_133 (by decide) ?_
        refine lv_iadd hx hb dL_isSenseSo_134 ?_
        refine lv_iload hx hb dL_isSenseSo_135 (lv_at hl 6 rfl) ?_
        refine lv_icmp_ge (tgt := 151) hx hb dL_isSenseSo_137 (by decide) (fun c_137 => ?_) (fun c_137 => ?_)
        · skip
          refine lv_iload hx hb dL_isSenseSo_151 (lv_at hl 6 rfl) ?_
          refine kx_top (show kdpt (kPa c i) (kDe c) j = kdpt (kPa c i) (kDe c) (j + 1) from kdpt_a hbt c_137) ?_
          refine lv_istore (lv' := [(6, .int (kdpt (kPa c i) (kDe c) (j + 1))), (5, .int (kdue (kPa c i) (kCo c) (j + 1))), (0, .ref (a 0)), (1, .int (nI i)), (2, .int (kPa c i)), (3, .int (kU (kCo c) i)), (4, .int (kB (kCo c) i)), (7, .int 1), (8, .int (nI j))]) hx hb dL_isSenseSo_153 hl (by decide) rfl (fun ls hl => ?_)
          refine W.widen (k := (0 + 1 + 1 + 1 + 0 + 1 + 1) + 6 * j + 3) (n := (0 + 6 + 6 + 6 + 0 + 6 + 6) + 36 * j + 18) (by omega) (by omega) ?_
          exact jn155 _ _ _ _ ⟨rfl, hP, hD, hS, (lv_sub hl [2, 3, 4, 5, 6, 1, 0, 7, 8] rfl)⟩
        · skip
          refine lv_aload_n hx hb dL_isSenseSo_140 rfl (lv_at hl 1 rfl) ?_
          refine lv_iload hx hb dL_isSenseSo_141 (lv_at hl 8 rfl) ?_
          refine kq_0 (px := fun _ => False) (vx_runV (As := [.int (nI j)]) (rest := []) ⟨hx, hb, hml, hown, hts⟩ (cG_depth l D cI a c x1 j hj hpj hfl _) (cwV 1 hts gL_isSenseSo_X3_depth rfl rfl rfl (by decide +kernel) ⟨Nat.le_of_ble_eq_true rfl, Nat.le_of_ble_eq_true rfl⟩) (kp_0V hP hD hK hX hZ hS hA 0 3 rfl rfl) rfl rfl hl.1 rfl (lv_room (Nat.le_of_ble_eq_true rfl)) dL_isSenseSo_143 ⟨(show (0 + 1 + 1 + 1 + 0 + 1 + 1) + 6 * j + 1 + 1 + 1 ≤ 188 from by omega), (show (0 + 6 + 6 + 6 + 0 + 6 + 6) + 36 * j + 6 + 6 + 6 ≤ 1128 from by omega)⟩) hP hD hS hA (fun E ce q9 H locs hE hP hS hcell hv hcl => hE.elim) (fun r_143 _u H locs er_143 hP hD hS => ?_)
          have hP : va_P D vwCl (oW cI a c x1) H := hP
          have hD : va_D _ (oW cI a c x1) := hD
          have er_143 : r_143 = kDe c j := er_143
          rw [er_143]
          refine lv_iconst (v := 1) hx hb dL_isSenseSo_146 (by decide) ?_
          refine lv_iadd hx hb dL_isSenseSo_147 ?_
          refine kx_top (show (kDe c j) + 1 = kdpt (kPa c i) (kDe c) (j + 1) from kdpt_b hbt c_137) ?_
          refine lv_goto (tgt := 153) hx hb dL_isSenseSo_148 (by decide) ?_
          refine lv_istore (lv' := [(6, .int (kdpt (kPa c i) (kDe c) (j + 1))), (5, .int (kdue (kPa c i) (kCo c) (j + 1))), (0, .ref (a 0)), (1, .int (nI i)), (2, .int (kPa c i)), (3, .int (kU (kCo c) i)), (4, .int (kB (kCo c) i)), (7, .int 1), (8, .int (nI j))]) hx hb dL_isSenseSo_153 hl (by decide) rfl (fun ls hl => ?_)
          refine W.widen (k := (0 + 1 + 1 + 1 + 0 + 1 + 1) + 6 * j + 3) (n := (0 + 6 + 6 + 6 + 0 + 6 + 6) + 36 * j + 18) (by omega) (by omega) ?_
          exact jn155 _ _ _ _ ⟨rfl, hP, hD, hS, (lv_sub hl [2, 3, 4, 5, 6, 1, 0, 7, 8] rfl)⟩
    · skip
      intro H locs ls hJ
      obtain ⟨hP, hD, hS, hl⟩ := hJ
      refine lv_iload hx hb dL_isSenseSo_99 (lv_at hl 8 rfl) ?_
      refine lv_bipush (v := 30) hx hb dL_isSenseSo_101 (by decide) ?_
      refine lv_icmp_ge (tgt := 211) hx hb dL_isSenseSo_103 (by decide) (fun _ => ?_) (fun hc => absurd (nI_le (Nat.le_refl 30) (by decide)) hc)
      refine lv_iload hx hb dL_isSenseSo_211 (lv_at hl 7 rfl) ?_
      refine lv_if_eq (tgt := 236) hx hb dL_isSenseSo_213 (by decide) (fun hc => absurd hc (by decide)) (fun _ => ?_)
      refine lv_iload hx hb dL_isSenseSo_216 (lv_at hl 5 rfl) ?_
      refine lv_iload_n hx hb dL_isSenseSo_218 rfl (lv_at hl 3 rfl) ?_
      refine lv_icmp_ne (tgt := 236) hx hb dL_isSenseSo_219 (by decide) (fun hc => absurd (kdue_e hn hs.1 hi hp) hc) (fun _ => ?_)
      refine lv_aload_n hx hb dL_isSenseSo_222 rfl (lv_at hl 0 rfl) ?_
      refine lv_iload_n hx hb dL_isSenseSo_223 rfl (lv_at hl 1 rfl) ?_
      refine kq_0 (px := fun _ => False) (vx_runV (As := [.int (nI i)]) (rest := []) ⟨hx, hb, hml, hown, hts⟩ (cG_depth l D cI a c x1 i hi hp hfl _) (cwV 1 hts gL_isSenseSo_X3_depth rfl rfl rfl (by decide +kernel) ⟨Nat.le_of_ble_eq_true rfl, Nat.le_of_ble_eq_true rfl⟩) (kp_0V hP hD hK hX hZ hS hA 0 3 rfl rfl) rfl rfl hl.1 rfl (lv_room (Nat.le_of_ble_eq_true rfl)) dL_isSenseSo_224 ⟨(show (0 + 1 + 1 + 1 + 0 + 1 + 1) + 6 * 30 + 1 ≤ 188 from by omega), (show (0 + 6 + 6 + 6 + 0 + 6 + 6) + 36 * 30 + 6 ≤ 1128 from by omega)⟩) hP hD hS hA (fun E ce q9 H locs hE hP hS hcell hv hcl => hE.elim) (fun r_224 _u H locs er_224 hP hD hS => ?_)
      have hP : va_P D vwCl (oW cI a c x1) H := hP
      have hD : va_D _ (oW cI a c x1) := hD
      have er_224 : r_224 = kDe c i := er_224
      rw [er_224]
      refine lv_iload hx hb dL_isSenseSo_227 (lv_at hl 6 rfl) ?_
      refine lv_icmp_ne (tgt := 236) hx hb dL_isSenseSo_229 (by decide) (fun hc => absurd (kdpt_e hn hs.1 hi hp) hc) (fun _ => ?_)
      refine lv_iconst (v := 1) hx hb dL_isSenseSo_232 (by decide) ?_
      refine lv_goto (tgt := 237) hx hb dL_isSenseSo_233 (by decide) ?_
      exact ke_XZ hx hb hr hlocks (x1) hP hD hS (show (0 + 1 + 1 + 1 + 0 + 1 + 1) + 6 * 30 + 1 ≤ 188 from by omega) (show (0 + 6 + 6 + 6 + 0 + 6 + 6) + 36 * 30 + 6 ≤ 1128 from by omega) dL_isSenseSo_237 true rfl (rfl)
  refine lv_if_ne (tgt := 30) hx hb dL_isSenseSo_23 (by decide) (fun c_23 => ?_) (fun c_23 => ?_)
  · skip
    refine lv_bipush (v := 99) hx hb dL_isSenseSo_30 (by decide) ?_
    refine kx_top (show 99 = kdpt (kPa c i) (kDe c) 0 from (if_neg c_23).symm) ?_
    refine W.widen (k := 0 + 1 + 1 + 1 + 0) (n := 0 + 6 + 6 + 6 + 0) (by omega) (by omega) ?_
    exact jn32 _ _ _ _ ⟨rfl, hP, hD, hS, (lv_sub hl [4, 5, 3, 2, 1, 0] rfl)⟩
  · skip
    refine lv_iconst (v := 0) hx hb dL_isSenseSo_26 (by decide) ?_
    refine kx_top (show 0 = kdpt (kPa c i) (kDe c) 0 from (if_pos c_23).symm) ?_
    refine lv_goto (tgt := 32) hx hb dL_isSenseSo_27 (by decide) ?_
    refine W.widen (k := 0 + 1 + 1 + 1 + 0) (n := 0 + 6 + 6 + 6 + 0) (by omega) (by omega) ?_
    exact jn32 _ _ _ _ ⟨rfl, hP, hD, hS, (lv_sub hl [4, 5, 3, 2, 1, 0] rfl)⟩
