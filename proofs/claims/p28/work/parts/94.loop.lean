def R_law : String := "SenseNetLaw"
def lw_P (b : Addr) (xs : List Int32) (args : Array Value) (s : State) : Prop := args = #[.ref b] ∧ s.IntsAt b xs ∧ xs.length ≤ 260 ∧ (Jvm.Cond.and given_1 narrow_1).before args s = true
def lw_Q (_ : Array Value) (s : State) (o : Outcome) (t : State) : Prop := o = .returned (some (.int 1)) ∧ Framed s o t [] 675454 7075105
def lw_Z (below : List Frame) (a : Array Value) (s : State) : State → Prop := fun t => ∃ o, t.status = .running ∧ Ended t below o ∧ lw_Q a s o t
/-- the law's own end, with 1 on the stack, nothing written that was there before, its room as the claim has it -/
theorem lw_ret {p : Program} {l : Launch} {e : Env} {s : State} {m : MethodId} {below : List Frame} {meth : Method} {c : Code} {b : Nat} (hx : p.tables.exec = Jvm.exec) (hb : c.code = code) (hr : meth.sig.returnType = ret) (hlocks : meth.locks = false) {pc : Nat} {H : Heap} {ls : Array Slot} (hdg : decode code pc = .ok (.ireturn, 1)) : W p l e room_1 s m #[Value.ref b] below meth c H [] 675454 7075105 (lw_Z below #[Value.ref b] s) (F0 m pc ls [.int 1]) := by
  intro T hT X
  obtain ⟨fs, hret, hrun, hended, hW, hframe⟩ := X.leave (v := some (.int 1)) (hlocks := hlocks) (fun h => by rw [hr] at h; cases h)
  have hmeth' : T.vm.method? m = some meth := X.method'
  refine ⟨T.setFrames fs, ?_, .returned (some (.int 1)), hrun, hended, rfl, ⟨_, rfl⟩, hW, hframe⟩
  jvm_step X.here [X.here.top, hx, hb, hdg, hmeth', hr, ret, narrow_b1]
  (try refine ⟨rfl, ?_⟩); (try refine ⟨rfl, ?_⟩)
  first | (intro acts; rw [hret _ acts rfl rfl rfl]) | rw [hret _ _ rfl rfl rfl]
  exact Steps.refl _
/-- what holds at the law's entry: the machine, the code, the tables' words (any of lw_tbl by 'hts w (by decide +kernel)'), the script of L ints xs at the cell b, what the Statement gives of the start (any of its parts by flat_of_before) -/
def lw_At (p : Program) (s : State) (m : MethodId) (meth : Method) (c : Code) (b L : Nat) (xs : Nat → Int32) : Prop :=
  p.tables.exec = Jvm.exec ∧ c.code = code ∧ meth.sig.returnType = ret ∧ c.maxLocals = 10 ∧ s.vm.findClass R_law = some m.cls ∧ (∀ w ∈ lw_tbl, w.before #[Value.ref b] s = true) ∧ va_X b L xs s s.heap ∧ b < s.heap.size ∧ meth.locks = false ∧ (Jvm.Cond.and given_1 narrow_1).before #[Value.ref b] s = true
def kLA (p : Program) (s : State) (m : MethodId) (meth : Method) (cd : Code) (b L : Nat) (xs : Nat → Int32) (D : va_G) (cI : ClassId) : Prop :=
  p.tables.exec = Jvm.exec ∧ cd.code = code ∧ meth.sig.returnType = ret ∧ cd.maxLocals = 10 ∧ s.vm.findClass RL = some m.cls ∧ (∀ w ∈ wsL_law, w.before #[Value.ref b] s = true) ∧ meth.locks = false ∧ kk_K D cI s ∧ kx_s s ∧ kx_z (fun q : Nat => s.heap.size ≤ q) s s.heap ∧ va_X b L xs s s.heap ∧ b < s.heap.size ∧ L ≤ 260
set_option maxHeartbeats 4000000 in
set_option maxRecDepth 100000 in
/-- the law's loop -/
theorem kc_loop {p : Program} {e : Env} {s : State} {m : MethodId} {below : List Frame} {meth : Method} {cd : Code} (l : Launch) (hfl : l.stackTraces = false) {D : va_G} {cI : ClassId} {b L : Nat} {xs : Nat → Int32} (a1 a2 : Nat → Nat) (w : Nat) (c : kCS) (x y : kXS) (f : Nat → Int32) (C0 : kLA p s m meth cd b L xs D cI) (hI : kInv c) {H : Heap} {locs : List Loc} {ls : Array Slot} (hP : va_P D vwCl (oW cI a1 c x ++ (oW cI a2 c y ++ [(w, .inl (cI, 8, .inl f))])) H) (hD : va_D (fun q : Nat => s.heap.size ≤ q) (oW cI a1 c x ++ (oW cI a2 c y ++ [(w, .inl (cI, 8, .inl f))]))) (hS : va_S (fun q : Nat => s.heap.size ≤ q) s.heap H locs) (hl : lv_has ls 10 [(0, .ref b), (1, .ref (a1 0)), (2, .ref (a2 0)), (3, .ref w), (4, .int (nI 0))]) : W p l e room_1 s m #[Value.ref b] below meth cd H locs 60 6000 (lw_Z below #[Value.ref b] s) (F0 m 24 ls []) := by
  obtain ⟨hx, hb, hr, hml, hown, hts, hlocks, hK, hX, hZ, hXs, hbl, hL⟩ := C0
  have hown : s.vm.findClass RL = some m.cls := hown
  have hA : ∀ q : Nat, s.heap.size ≤ q → (fun q : Nat => s.heap.size ≤ q) q := fun _ h => h
  have hbA : ¬ (fun q : Nat => s.heap.size ≤ q) b := Nat.not_le.mpr hbl
  refine kl_forc (head := 24) (N := 90) (kc := 480) (kn := 2880) (c0 := 60) (s0 := 6000) (fun (i : Nat) (H : Heap) (locs : List Loc) (ls : Array Slot) => ∃ (c : kCS), ∃ (x : kXS), ∃ (y : kXS), ∃ (f : Nat → Int32), (kInv c) ∧ va_P D vwCl (oW cI a1 c x ++ (oW cI a2 c y ++ [(w, .inl (cI, 8, .inl f))])) H ∧ va_D (fun q : Nat => s.heap.size ≤ q) (oW cI a1 c x ++ (oW cI a2 c y ++ [(w, .inl (cI, 8, .inl f))])) ∧ va_S (fun q : Nat => s.heap.size ≤ q) s.heap H locs ∧ lv_has ls 10 [(0, .ref b), (1, .ref (a1 0)), (2, .ref (a2 0)), (3, .ref w), (4, .int (nI i))]) ?_ ?_ ⟨c, x, y, f, (hI), hP, hD, hS, (lv_sub hl [0, 1, 2, 3, 4] rfl)⟩
  · skip
    intro i hi H locs ls hJ ih24
    obtain ⟨c, x, y, f, hI24, hP, hD, hS, hl⟩ := hJ
    refine lv_iload hx hb dL_law_24 (lv_at hl 4 rfl) ?_
    refine lv_bipush (v := 90) hx hb dL_law_26 (by decide) ?_
    refine lv_icmp_ge (tgt := 188) hx hb dL_law_28 (by decide) (fun hc => absurd hc (nI_ge hi (by decide))) (fun _ => ?_)
    refine lv_aload_n hx hb dL_law_31 rfl (lv_at hl 0 rfl) ?_
    refine lv_iload hx hb dL_law_32 (lv_at hl 4 rfl) ?_
    refine kq_R (va_runS (As := [.ref b, .int (nI i)]) (rest := []) ⟨hx, hb, hml, hown, hts⟩ (cw_cell l b L i xs (by omega) (by omega) _) (va_cwS 2 hts gL_law_L_cell rfl rfl rfl (by decide +kernel) ⟨Nat.le_of_ble_eq_true rfl, Nat.le_of_ble_eq_true rfl⟩) (kp_CS hXs hbl hbA hS) rfl rfl hl.1 rfl (lv_room (Nat.le_of_ble_eq_true rfl)) dL_law_34 ⟨(show (60) + 480 * i + 0 ≤ 675454 from by omega), (show (6000) + 2880 * i + 0 ≤ 7075105 from by omega)⟩) hP hS hA (fun r_34 H locs er_34 hP hS => ?_)
    refine lv_istore (lv' := [(5, .int r_34), (0, .ref b), (1, .ref (a1 0)), (2, .ref (a2 0)), (3, .ref w), (4, .int (nI i))]) hx hb dL_law_37 hl (by decide) rfl (fun ls hl => ?_)
    refine lv_aload_n hx hb dL_law_39 rfl (lv_at hl 2 rfl) ?_
    refine lv_iload hx hb dL_law_40 (lv_at hl 0 rfl) ?_
    refine kq_O (px := fun _ => False) (vx_runS (As := [.ref (a1 0), .int r_34]) (rest := []) ⟨hx, hb, hml, hown, hts⟩ (cw_act l D cI a1 c x r_34 hfl _) (va_cwS 2 hts gL_law_L_act rfl rfl rfl (by decide +kernel) ⟨Nat.le_of_ble_eq_true rfl, Nat.le_of_ble_eq_true rfl⟩) (kp_OS hP hD hK hX hZ hS hA) rfl rfl hl.1 rfl (lv_room (Nat.le_of_ble_eq_true rfl)) dL_law_42 ⟨(show (60) + 480 * i + 3 ≤ 675454 from by omega), (show (6000) + 2880 * i + 18 ≤ 7075105 from by omega)⟩) hP hD hS hA (fun E ce q9 H locs hE hP hS hcell hv hcl => hE.elim) (fun r_42 _u H locs er_42 hP hD hS => ?_)
    have hP : va_P D vwCl ((oW cI a1 (kAct c r_34).2 x) ++ (oW cI a2 c y ++ [(w, .inl (cI, 8, .inl f))])) H := hP
    have hD : va_D _ ((oW cI a1 (kAct c r_34).2 x) ++ (oW cI a2 c y ++ [(w, .inl (cI, 8, .inl f))])) := hD
    have hP : va_P D vwCl (oW cI a1 (kAct c r_34).2 x ++ (oW cI a2 c y ++ [(w, .inl (cI, 8, .inl f))])) H := hP
    have hD : va_D _ (oW cI a1 (kAct c r_34).2 x ++ (oW cI a2 c y ++ [(w, .inl (cI, 8, .inl f))])) := hD
    have er_42 : r_42 = (kAct c r_34).1 := er_42
    rw [er_42]
    have hk := kAct_i r_34 hI24
    refine lv_istore (lv' := [(6, .int ((kAct c r_34).1)), (5, .int r_34), (0, .ref b), (1, .ref (a1 0)), (2, .ref (a2 0)), (3, .ref w), (4, .int (nI i))]) hx hb dL_law_45 hl (by decide) rfl (fun ls hl => ?_)
    refine lv_iload hx hb dL_law_47 (lv_at hl 0 rfl) ?_
    refine lv_ldc (v := -99999) hx hb hown (hts (.constant RL 16 (-99999)) (List.mem_of_getElem? (i := 4) rfl)) dL_law_49 ?_
    refine lv_icmp_eq (tgt := 65) hx hb dL_law_51 (by decide) (fun c_51 => ?_) (fun c_51 => ?_)
    · skip
      rw [hk.2 c_51] at hP hD
      obtain ⟨c1, ec1⟩ : ∃ c1, c1 = c := ⟨_, rfl⟩
      rw [← ec1] at hP hD
      have hI1 : kInv c1 := by rw [ec1]; exact hI24
      obtain ⟨A, Wn, P, cn, rk, nf, wf, pa, hN, hW⟩ := id hI1
      have hP : va_P D vwCl (oW cI a1 c1 x ++ (oW cI a2 c1 y ++ [(w, .inl (cI, 8, .inl f))])) H := hP
      have hD : va_D _ (oW cI a1 c1 x ++ (oW cI a2 c1 y ++ [(w, .inl (cI, 8, .inl f))])) := hD
      refine lv_aload_n hx hb dL_law_65 rfl (lv_at hl 3 rfl) ?_
      refine lv_aload_n hx hb dL_law_66 rfl (lv_at hl 4 rfl) ?_
      have hP := kP_as hP
      have hD := kD_as hD
      refine kq_O (px := fun _ => False) (vx_runS (As := [.ref (a1 0), .ref (a2 0)]) (rest := []) ⟨hx, hb, hml, hown, hts⟩ (cw_areAlike l D cI a1 a2 c1 x y hfl _) (va_cwS 2 hts gL_law_L_areAlike rfl rfl rfl (by decide +kernel) ⟨Nat.le_of_ble_eq_true rfl, Nat.le_of_ble_eq_true rfl⟩) (kp_OS hP hD hK hX hZ hS hA) rfl rfl hl.1 rfl (lv_room (Nat.le_of_ble_eq_true rfl)) dL_law_67 ⟨(show (60) + 480 * i + 3 + 70 ≤ 675454 from by omega), (show (6000) + 2880 * i + 18 + 420 ≤ 7075105 from by omega)⟩) hP hD hS hA (fun E ce q9 H locs hE hP hS hcell hv hcl => hE.elim) (fun r_67 _u H locs er_67 hP hD hS => ?_)
      have hP : va_P D vwCl ((oW cI a1 c1 x ++ oW cI a2 c1 y) ++ ([(w, .inl (cI, 8, .inl f))])) H := hP
      have hD : va_D _ ((oW cI a1 c1 x ++ oW cI a2 c1 y) ++ ([(w, .inl (cI, 8, .inl f))])) := hD
      have hP := kP_sa hP
      have hD := kD_sa hD
      have hP : va_P D vwCl (oW cI a1 c1 x ++ (oW cI a2 c1 y ++ [(w, .inl (cI, 8, .inl f))])) H := hP
      have hD : va_D _ (oW cI a1 c1 x ++ (oW cI a2 c1 y ++ [(w, .inl (cI, 8, .inl f))])) := hD
      have er_67 : r_67 = 1 := er_67
      rw [er_67]
      refine lv_if_ne (tgt := 75) hx hb dL_law_70 (by decide) (fun _ => ?_) (fun hc => absurd hc (by decide))
      refine lv_iload hx hb dL_law_75 (lv_at hl 1 rfl) ?_
      refine lv_bipush (v := 6) hx hb dL_law_77 (by decide) ?_
      refine lv_ishr hx hb dL_law_79 ?_
      refine lv_bipush (v := 14) hx hb dL_law_80 (by decide) ?_
      refine kq_R (va_runS (As := [.int (r_34 >>> (6 &&& 31)), .int 14]) (rest := []) ⟨hx, hb, hml, hown, hts⟩ (cw_low l D cI (r_34 >>> (6 &&& 31)) 14 (by decide) _) (va_cwS 2 hts gL_law_L_low rfl rfl rfl (by decide +kernel) ⟨Nat.le_of_ble_eq_true rfl, Nat.le_of_ble_eq_true rfl⟩) (kp_RS (hP.sub (ws' := []) [] rfl) hK) rfl rfl hl.1 rfl (lv_room (Nat.le_of_ble_eq_true rfl)) dL_law_82 ⟨(show (60) + 480 * i + 3 + 70 + 0 ≤ 675454 from by omega), (show (6000) + 2880 * i + 18 + 420 + 0 ≤ 7075105 from by omega)⟩) hP hS hA (fun r_82 H locs er_82 hP hS => ?_)
      have er_82 : r_82 = klow (r_34 >>> (6 &&& 31)) 14 := er_82
      rw [er_82]
      obtain ⟨i7, hi7, ei7⟩ := klow_n (r_34 >>> (6 &&& 31)) (n := 14) (by decide) (by decide)
      refine kx_top (show klow (r_34 >>> (6 &&& 31)) 14 = nI i7 from ei7) ?_
      refine lv_istore (lv' := [(7, .int (nI i7)), (6, .int ((kAct c r_34).1)), (5, .int r_34), (0, .ref b), (1, .ref (a1 0)), (2, .ref (a2 0)), (3, .ref w), (4, .int (nI i))]) hx hb dL_law_85 hl (by decide) rfl (fun ls hl => ?_)
      refine lv_iload hx hb dL_law_87 (lv_at hl 2 rfl) ?_
      refine lv_bipush (v := 10) hx hb dL_law_89 (by decide) ?_
      refine lv_ishr hx hb dL_law_91 ?_
      refine lv_bipush (v := 14) hx hb dL_law_92 (by decide) ?_
      refine kq_R (va_runS (As := [.int (r_34 >>> (10 &&& 31)), .int 14]) (rest := []) ⟨hx, hb, hml, hown, hts⟩ (cw_low l D cI (r_34 >>> (10 &&& 31)) 14 (by decide) _) (va_cwS 2 hts gL_law_L_low rfl rfl rfl (by decide +kernel) ⟨Nat.le_of_ble_eq_true rfl, Nat.le_of_ble_eq_true rfl⟩) (kp_RS (hP.sub (ws' := []) [] rfl) hK) rfl rfl hl.1 rfl (lv_room (Nat.le_of_ble_eq_true rfl)) dL_law_94 ⟨(show (60) + 480 * i + 3 + 70 + 0 ≤ 675454 from by omega), (show (6000) + 2880 * i + 18 + 420 + 0 ≤ 7075105 from by omega)⟩) hP hS hA (fun r_94 H locs er_94 hP hS => ?_)
      have er_94 : r_94 = klow (r_34 >>> (10 &&& 31)) 14 := er_94
      rw [er_94]
      obtain ⟨i8, hi8, ei8⟩ := klow_n (r_34 >>> (10 &&& 31)) (n := 14) (by decide) (by decide)
      refine kx_top (show klow (r_34 >>> (10 &&& 31)) 14 = nI i8 from ei8) ?_
      refine lv_istore (lv' := [(8, .int (nI i8)), (7, .int (nI i7)), (6, .int ((kAct c r_34).1)), (5, .int r_34), (0, .ref b), (1, .ref (a1 0)), (2, .ref (a2 0)), (3, .ref w), (4, .int (nI i))]) hx hb dL_law_97 hl (by decide) rfl (fun ls hl => ?_)
      refine lv_aload_n hx hb dL_law_99 rfl (lv_at hl 5 rfl) ?_
      refine lv_iload hx hb dL_law_100 (lv_at hl 1 rfl) ?_
      refine kq_O (px := fun _ => False) (vx_runSX (As := [.ref (a1 0), .int (nI i7)]) (rest := []) ⟨hx, hb, hml, hown, hts⟩ (cw_mass l D cI a1 c1 x (nI i7) hfl _) (vx_cwSW 2 hts gL_law_L_mass rfl rfl rfl (by decide +kernel) ⟨Nat.le_of_ble_eq_true rfl, Nat.le_of_ble_eq_true rfl⟩) (kp_OS hP hD hK hX hZ hS hA) rfl rfl hl.1 rfl (lv_room (Nat.le_of_ble_eq_true rfl)) dL_law_102 ⟨(show (60) + 480 * i + 3 + 70 + 1 ≤ 675454 from by omega), (show (6000) + 2880 * i + 18 + 420 + 6 ≤ 7075105 from by omega)⟩) hP hD hS hA (fun E ce q9 H locs hE hP hS hcell hv hcl => hE.elim) (fun r_102 _u H locs er_102 hP hD hS => ?_)
      have hP : va_P D vwCl ((oW cI a1 c1 x) ++ (oW cI a2 c1 y ++ [(w, .inl (cI, 8, .inl f))])) H := hP
      have hD : va_D _ ((oW cI a1 c1 x) ++ (oW cI a2 c1 y ++ [(w, .inl (cI, 8, .inl f))])) := hD
      have hP : va_P D vwCl (oW cI a1 c1 x ++ (oW cI a2 c1 y ++ [(w, .inl (cI, 8, .inl f))])) H := hP
      have hD : va_D _ (oW cI a1 c1 x ++ (oW cI a2 c1 y ++ [(w, .inl (cI, 8, .inl f))])) := hD
      have er_102 : r_102 = kfMas c1 (nI i7) := er_102
      rw [er_102]
      refine lv_if_lt (tgt := 112) hx hb dL_law_105 (by decide) (fun c_105 => ?_) (fun c_105 => ?_)
      · skip
        refine lv_iconst (v := 0) hx hb dL_law_112 (by decide) ?_
        refine lv_istore (lv' := [(9, .int 0), (8, .int (nI i8)), (7, .int (nI i7)), (6, .int ((kAct c r_34).1)), (5, .int r_34), (0, .ref b), (1, .ref (a1 0)), (2, .ref (a2 0)), (3, .ref w), (4, .int (nI i))]) hx hb dL_law_113 hl (by decide) rfl (fun ls hl => ?_)
        refine lv_iload hx hb dL_law_115 (lv_at hl 0 rfl) ?_
        refine lv_if_eq (tgt := 129) hx hb dL_law_117 (by decide) (fun _ => ?_) (fun hc => absurd (by decide) hc)
        refine lv_iload hx hb dL_law_129 (lv_at hl 0 rfl) ?_
        refine lv_if_eq (tgt := 154) hx hb dL_law_131 (by decide) (fun _ => ?_) (fun hc => absurd (by decide) hc)
        refine lv_iload hx hb dL_law_154 (lv_at hl 9 rfl) ?_
        refine lv_bipush (v := 15) hx hb dL_law_156 (by decide) ?_
        refine lv_irem hx hb dL_law_158 (by decide) ?_
        refine lv_bipush (v := 14) hx hb dL_law_159 (by decide) ?_
        refine lv_icmp_ne (tgt := 182) hx hb dL_law_161 (by decide) (fun c_161 => ?_) (fun c_161 => ?_)
        · skip
          refine lv_iinc (v := nI (i + 1)) (lv' := [(4, .int (nI (i + 1))), (9, .int 0), (8, .int (nI i8)), (7, .int (nI i7)), (6, .int ((kAct c r_34).1)), (5, .int r_34), (0, .ref b), (1, .ref (a1 0)), (2, .ref (a2 0)), (3, .ref w)]) hx hb dL_law_182 hl (k := 9) rfl (nI_1 _) (by decide) rfl (fun ls hl => ?_)
          refine lv_goto (tgt := 24) hx hb dL_law_185 (by decide) ?_
          refine W.widen (k := (60) + 480 * (i + 1)) (n := (6000) + 2880 * (i + 1)) (by omega) (by omega) ?_
          exact ih24 _ _ _ ⟨c1, x, y, f, (hI1), hP, hD, hS, (lv_sub hl [6, 7, 8, 9, 0] rfl)⟩
        · skip
          refine lv_aload_n hx hb dL_law_164 rfl (lv_at hl 6 rfl) ?_
          refine lv_aload_n hx hb dL_law_165 rfl (lv_at hl 8 rfl) ?_
          refine lv_iload hx hb dL_law_166 (lv_at hl 4 rfl) ?_
          refine lv_iconst (v := 5) hx hb dL_law_168 (by decide) ?_
          refine lv_ishr hx hb dL_law_169 ?_
          refine lv_iconst (v := 3) hx hb dL_law_170 (by decide) ?_
          refine kq_R (va_runS (As := [.int (r_34 >>> (5 &&& 31)), .int 3]) (rest := [.ref w, .ref (a1 0)]) ⟨hx, hb, hml, hown, hts⟩ (cw_low l D cI (r_34 >>> (5 &&& 31)) 3 (by decide) _) (va_cwS 2 hts gL_law_L_low rfl rfl rfl (by decide +kernel) ⟨Nat.le_of_ble_eq_true rfl, Nat.le_of_ble_eq_true rfl⟩) (kp_RS (hP.sub (ws' := []) [] rfl) hK) rfl rfl hl.1 rfl (lv_room (Nat.le_of_ble_eq_true rfl)) dL_law_171 ⟨(show (60) + 480 * i + 3 + 70 + 1 + 0 ≤ 675454 from by omega), (show (6000) + 2880 * i + 18 + 420 + 6 + 0 ≤ 7075105 from by omega)⟩) hP hS hA (fun r_171 H locs er_171 hP hS => ?_)
          have er_171 : r_171 = klow (r_34 >>> (5 &&& 31)) 3 := er_171
          rw [er_171]
          obtain ⟨i9, hi9, ei9⟩ := klow_n (r_34 >>> (5 &&& 31)) (n := 3) (by decide) (by decide)
          refine kx_top (show klow (r_34 >>> (5 &&& 31)) 3 = nI i9 from ei9) ?_
          obtain ⟨z, hz, hF⟩ := kR_fin (nI i9) hN hW
          have hsf : ∀ k, k < P → ksN wf (kGv c1) (kLk c1) k (z k) < 30 ∧ bt (kPr c1) (ksN wf (kGv c1) (kLk c1) k (z k)) = true := fun k hk => by have q := (kRW_c hW).2.2 k (z k) hk (hz k hk); exact ⟨q.2.1, q.2.2.1⟩
          have hP := kP_o hP
          have hD := kD_o hD
          refine kq_O (px := fun _ => False) (vx_runS (As := [.ref (a1 0), .ref w, .int (nI i9)]) (rest := []) ⟨hx, hb, hml, hown, hts⟩ (cw_areChoicesSo l D cI a1 c1 x w f (nI i9) (kin_v hi9) (fun k => ksN wf (kGv c1) (kLk c1) k (z k)) hN hW hsf hF hfl _) (va_cwS 3 hts gL_law_L_areChoicesSo rfl rfl rfl (by decide +kernel) ⟨Nat.le_of_ble_eq_true rfl, Nat.le_of_ble_eq_true rfl⟩) (kp_OS hP hD hK hX hZ hS hA) rfl rfl hl.1 rfl (lv_room (Nat.le_of_ble_eq_true rfl)) dL_law_174 ⟨(show (60) + 480 * i + 3 + 70 + 1 + 120 ≤ 675454 from by omega), (show (6000) + 2880 * i + 18 + 420 + 6 + 720 ≤ 7075105 from by omega)⟩) hP hD hS hA (fun E ce q9 H locs hE hP hS hcell hv hcl => hE.elim) (fun r_174 u9 H locs er_174 hP hD hS => ?_)
          have hP : va_P D vwCl ((oW cI a1 c1 u9.1 ++ [(w, .inl (cI, 8, .inl u9.2))]) ++ (oW cI a2 c1 y)) H := hP
          have hD : va_D _ ((oW cI a1 c1 u9.1 ++ [(w, .inl (cI, 8, .inl u9.2))]) ++ (oW cI a2 c1 y)) := hD
          have hP := kP_q hP
          have hD := kD_q hD
          have hP : va_P D vwCl (oW cI a1 c1 u9.1 ++ (oW cI a2 c1 y ++ [(w, .inl (cI, 8, .inl u9.2))])) H := hP
          have hD : va_D _ (oW cI a1 c1 u9.1 ++ (oW cI a2 c1 y ++ [(w, .inl (cI, 8, .inl u9.2))])) := hD
          have er_174 : r_174 = 1 := er_174
          rw [er_174]
          refine lv_if_ne (tgt := 182) hx hb dL_law_177 (by decide) (fun _ => ?_) (fun hc => absurd hc (by decide))
          refine lv_iinc (v := nI (i + 1)) (lv' := [(4, .int (nI (i + 1))), (9, .int 0), (8, .int (nI i8)), (7, .int (nI i7)), (6, .int ((kAct c r_34).1)), (5, .int r_34), (0, .ref b), (1, .ref (a1 0)), (2, .ref (a2 0)), (3, .ref w)]) hx hb dL_law_182 hl (k := 9) rfl (nI_1 _) (by decide) rfl (fun ls hl => ?_)
          refine lv_goto (tgt := 24) hx hb dL_law_185 (by decide) ?_
          refine W.widen (k := (60) + 480 * (i + 1)) (n := (6000) + 2880 * (i + 1)) (by omega) (by omega) ?_
          exact ih24 _ _ _ ⟨c1, u9.1, y, u9.2, (hI1), hP, hD, hS, (lv_sub hl [6, 7, 8, 9, 0] rfl)⟩
      · skip
        have hp7 := kfMas_p (show i7 < 30 by omega) c_105
        refine lv_iconst (v := 1) hx hb dL_law_108 (by decide) ?_
        refine lv_goto (tgt := 113) hx hb dL_law_109 (by decide) ?_
        refine lv_istore (lv' := [(9, .int 1), (8, .int (nI i8)), (7, .int (nI i7)), (6, .int ((kAct c r_34).1)), (5, .int r_34), (0, .ref b), (1, .ref (a1 0)), (2, .ref (a2 0)), (3, .ref w), (4, .int (nI i))]) hx hb dL_law_113 hl (by decide) rfl (fun ls hl => ?_)
        refine lv_iload hx hb dL_law_115 (lv_at hl 0 rfl) ?_
        refine lv_if_eq (tgt := 129) hx hb dL_law_117 (by decide) (fun hc => absurd hc (by decide)) (fun _ => ?_)
        refine lv_aload_n hx hb dL_law_120 rfl (lv_at hl 6 rfl) ?_
        refine lv_iload hx hb dL_law_121 (lv_at hl 2 rfl) ?_
        refine kq_O (px := fun _ => False) (vx_runS (As := [.ref (a1 0), .int (nI i7)]) (rest := []) ⟨hx, hb, hml, hown, hts⟩ (cw_isSenseSo l D cI a1 c1 x i7 (by omega) hp7 hN hfl _) (va_cwS 2 hts gL_law_L_isSenseSo rfl rfl rfl (by decide +kernel) ⟨Nat.le_of_ble_eq_true rfl, Nat.le_of_ble_eq_true rfl⟩) (kp_OS hP hD hK hX hZ hS hA) rfl rfl hl.1 rfl (lv_room (Nat.le_of_ble_eq_true rfl)) dL_law_123 ⟨(show (60) + 480 * i + 3 + 70 + 1 + 188 ≤ 675454 from by omega), (show (6000) + 2880 * i + 18 + 420 + 6 + 1128 ≤ 7075105 from by omega)⟩) hP hD hS hA (fun E ce q9 H locs hE hP hS hcell hv hcl => hE.elim) (fun r_123 x2 H locs er_123 hP hD hS => ?_)
        have hP : va_P D vwCl ((oW cI a1 c1 x2) ++ (oW cI a2 c1 y ++ [(w, .inl (cI, 8, .inl f))])) H := hP
        have hD : va_D _ ((oW cI a1 c1 x2) ++ (oW cI a2 c1 y ++ [(w, .inl (cI, 8, .inl f))])) := hD
        have hP : va_P D vwCl (oW cI a1 c1 x2 ++ (oW cI a2 c1 y ++ [(w, .inl (cI, 8, .inl f))])) H := hP
        have hD : va_D _ (oW cI a1 c1 x2 ++ (oW cI a2 c1 y ++ [(w, .inl (cI, 8, .inl f))])) := hD
        have er_123 : r_123 = 1 := er_123
        rw [er_123]
        refine lv_if_eq (tgt := 180) hx hb dL_law_126 (by decide) (fun hc => absurd hc (by decide)) (fun _ => ?_)
        refine lv_iload hx hb dL_law_129 (lv_at hl 0 rfl) ?_
        refine lv_if_eq (tgt := 154) hx hb dL_law_131 (by decide) (fun hc => absurd hc (by decide)) (fun _ => ?_)
        refine lv_aload_n hx hb dL_law_134 rfl (lv_at hl 6 rfl) ?_
        refine lv_iload hx hb dL_law_135 (lv_at hl 1 rfl) ?_
        refine kq_O (px := fun _ => False) (vx_runSX (As := [.ref (a1 0), .int (nI i8)]) (rest := []) ⟨hx, hb, hml, hown, hts⟩ (cw_mass l D cI a1 c1 x2 (nI i8) hfl _) (vx_cwSW 2 hts gL_law_L_mass rfl rfl rfl (by decide +kernel) ⟨Nat.le_of_ble_eq_true rfl, Nat.le_of_ble_eq_true rfl⟩) (kp_OS hP hD hK hX hZ hS hA) rfl rfl hl.1 rfl (lv_room (Nat.le_of_ble_eq_true rfl)) dL_law_137 ⟨(show (60) + 480 * i + 3 + 70 + 1 + 188 + 1 ≤ 675454 from by omega), (show (6000) + 2880 * i + 18 + 420 + 6 + 1128 + 6 ≤ 7075105 from by omega)⟩) hP hD hS hA (fun E ce q9 H locs hE hP hS hcell hv hcl => hE.elim) (fun r_137 _u H locs er_137 hP hD hS => ?_)
        have hP : va_P D vwCl ((oW cI a1 c1 x2) ++ (oW cI a2 c1 y ++ [(w, .inl (cI, 8, .inl f))])) H := hP
        have hD : va_D _ ((oW cI a1 c1 x2) ++ (oW cI a2 c1 y ++ [(w, .inl (cI, 8, .inl f))])) := hD
        have hP : va_P D vwCl (oW cI a1 c1 x2 ++ (oW cI a2 c1 y ++ [(w, .inl (cI, 8, .inl f))])) H := hP
        have hD : va_D _ (oW cI a1 c1 x2 ++ (oW cI a2 c1 y ++ [(w, .inl (cI, 8, .inl f))])) := hD
        have er_137 : r_137 = kfMas c1 (nI i8) := er_137
        rw [er_137]
        refine lv_if_lt (tgt := 154) hx hb dL_law_140 (by decide) (fun c_140 => ?_) (fun c_140 => ?_)
        · skip
          refine lv_iload hx hb dL_law_154 (lv_at hl 9 rfl) ?_
          refine lv_bipush (v := 15) hx hb dL_law_156 (by decide) ?_
          refine lv_irem hx hb dL_law_158 (by decide) ?_
          refine lv_bipush (v := 14) hx hb dL_law_159 (by decide) ?_
          refine lv_icmp_ne (tgt := 182) hx hb dL_law_161 (by decide) (fun c_161 => ?_) (fun c_161 => ?_)
          · skip
            refine lv_iinc (v := nI (i + 1)) (lv' := [(4, .int (nI (i + 1))), (9, .int 1), (8, .int (nI i8)), (7, .int (nI i7)), (6, .int ((kAct c r_34).1)), (5, .int r_34), (0, .ref b), (1, .ref (a1 0)), (2, .ref (a2 0)), (3, .ref w)]) hx hb dL_law_182 hl (k := 9) rfl (nI_1 _) (by decide) rfl (fun ls hl => ?_)
            refine lv_goto (tgt := 24) hx hb dL_law_185 (by decide) ?_
            refine W.widen (k := (60) + 480 * (i + 1)) (n := (6000) + 2880 * (i + 1)) (by omega) (by omega) ?_
            exact ih24 _ _ _ ⟨c1, x2, y, f, (hI1), hP, hD, hS, (lv_sub hl [6, 7, 8, 9, 0] rfl)⟩
          · skip
            refine lv_aload_n hx hb dL_law_164 rfl (lv_at hl 6 rfl) ?_
            refine lv_aload_n hx hb dL_law_165 rfl (lv_at hl 8 rfl) ?_
            refine lv_iload hx hb dL_law_166 (lv_at hl 4 rfl) ?_
            refine lv_iconst (v := 5) hx hb dL_law_168 (by decide) ?_
            refine lv_ishr hx hb dL_law_169 ?_
            refine lv_iconst (v := 3) hx hb dL_law_170 (by decide) ?_
            refine kq_R (va_runS (As := [.int (r_34 >>> (5 &&& 31)), .int 3]) (rest := [.ref w, .ref (a1 0)]) ⟨hx, hb, hml, hown, hts⟩ (cw_low l D cI (r_34 >>> (5 &&& 31)) 3 (by decide) _) (va_cwS 2 hts gL_law_L_low rfl rfl rfl (by decide +kernel) ⟨Nat.le_of_ble_eq_true rfl, Nat.le_of_ble_eq_true rfl⟩) (kp_RS (hP.sub (ws' := []) [] rfl) hK) rfl rfl hl.1 rfl (lv_room (Nat.le_of_ble_eq_true rfl)) dL_law_171 ⟨(show (60) + 480 * i + 3 + 70 + 1 + 188 + 1 + 0 ≤ 675454 from by omega), (show (6000) + 2880 * i + 18 + 420 + 6 + 1128 + 6 + 0 ≤ 7075105 from by omega)⟩) hP hS hA (fun r_171 H locs er_171 hP hS => ?_)
            have er_171 : r_171 = klow (r_34 >>> (5 &&& 31)) 3 := er_171
            rw [er_171]
            obtain ⟨i9, hi9, ei9⟩ := klow_n (r_34 >>> (5 &&& 31)) (n := 3) (by decide) (by decide)
            refine kx_top (show klow (r_34 >>> (5 &&& 31)) 3 = nI i9 from ei9) ?_
            obtain ⟨z, hz, hF⟩ := kR_fin (nI i9) hN hW
            have hsf : ∀ k, k < P → ksN wf (kGv c1) (kLk c1) k (z k) < 30 ∧ bt (kPr c1) (ksN wf (kGv c1) (kLk c1) k (z k)) = true := fun k hk => by have q := (kRW_c hW).2.2 k (z k) hk (hz k hk); exact ⟨q.2.1, q.2.2.1⟩
            have hP := kP_o hP
            have hD := kD_o hD
            refine kq_O (px := fun _ => False) (vx_runS (As := [.ref (a1 0), .ref w, .int (nI i9)]) (rest := []) ⟨hx, hb, hml, hown, hts⟩ (cw_areChoicesSo l D cI a1 c1 x2 w f (nI i9) (kin_v hi9) (fun k => ksN wf (kGv c1) (kLk c1) k (z k)) hN hW hsf hF hfl _) (va_cwS 3 hts gL_law_L_areChoicesSo rfl rfl rfl (by decide +kernel) ⟨Nat.le_of_ble_eq_true rfl, Nat.le_of_ble_eq_true rfl⟩) (kp_OS hP hD hK hX hZ hS hA) rfl rfl hl.1 rfl (lv_room (Nat.le_of_ble_eq_true rfl)) dL_law_174 ⟨(show (60) + 480 * i + 3 + 70 + 1 + 188 + 1 + 120 ≤ 675454 from by omega), (show (6000) + 2880 * i + 18 + 420 + 6 + 1128 + 6 + 720 ≤ 7075105 from by omega)⟩) hP hD hS hA (fun E ce q9 H locs hE hP hS hcell hv hcl => hE.elim) (fun r_174 u9 H locs er_174 hP hD hS => ?_)
            have hP : va_P D vwCl ((oW cI a1 c1 u9.1 ++ [(w, .inl (cI, 8, .inl u9.2))]) ++ (oW cI a2 c1 y)) H := hP
            have hD : va_D _ ((oW cI a1 c1 u9.1 ++ [(w, .inl (cI, 8, .inl u9.2))]) ++ (oW cI a2 c1 y)) := hD
            have hP := kP_q hP
            have hD := kD_q hD
            have hP : va_P D vwCl (oW cI a1 c1 u9.1 ++ (oW cI a2 c1 y ++ [(w, .inl (cI, 8, .inl u9.2))])) H := hP
            have hD : va_D _ (oW cI a1 c1 u9.1 ++ (oW cI a2 c1 y ++ [(w, .inl (cI, 8, .inl u9.2))])) := hD
            have er_174 : r_174 = 1 := er_174
            rw [er_174]
            refine lv_if_ne (tgt := 182) hx hb dL_law_177 (by decide) (fun _ => ?_) (fun hc => absurd hc (by decide))
            refine lv_iinc (v := nI (i + 1)) (lv' := [(4, .int (nI (i + 1))), (9, .int 1), (8, .int (nI i8)), (7, .int (nI i7)), (6, .int ((kAct c r_34).1)), (5, .int r_34), (0, .ref b), (1, .ref (a1 0)), (2, .ref (a2 0)), (3, .ref w)]) hx hb dL_law_182 hl (k := 9) rfl (nI_1 _) (by decide) rfl (fun ls hl => ?_)
            refine lv_goto (tgt := 24) hx hb dL_law_185 (by decide) ?_
            refine W.widen (k := (60) + 480 * (i + 1)) (n := (6000) + 2880 * (i + 1)) (by omega) (by omega) ?_
            exact ih24 _ _ _ ⟨c1, u9.1, y, u9.2, (hI1), hP, hD, hS, (lv_sub hl [6, 7, 8, 9, 0] rfl)⟩
        · skip
          have hp8 := kfMas_p (show i8 < 30 by omega) c_140
          refine lv_aload_n hx hb dL_law_143 rfl (lv_at hl 6 rfl) ?_
          refine lv_iload hx hb dL_law_144 (lv_at hl 2 rfl) ?_
          refine lv_iload hx hb dL_law_146 (lv_at hl 1 rfl) ?_
          refine kq_O (px := fun _ => False) (vx_runS (As := [.ref (a1 0), .int (nI i7), .int (nI i8)]) (rest := []) ⟨hx, hb, hml, hown, hts⟩ (cw_arePairsSo l D cI a1 c1 x2 i7 i8 (by omega) (by omega) hp7 hp8 hN hfl _) (va_cwS 3 hts gL_law_L_arePairsSo rfl rfl rfl (by decide +kernel) ⟨Nat.le_of_ble_eq_true rfl, Nat.le_of_ble_eq_true rfl⟩) (kp_OS hP hD hK hX hZ hS hA) rfl rfl hl.1 rfl (lv_room (Nat.le_of_ble_eq_true rfl)) dL_law_148 ⟨(show (60) + 480 * i + 3 + 70 + 1 + 188 + 1 + 91 ≤ 675454 from by omega), (show (6000) + 2880 * i + 18 + 420 + 6 + 1128 + 6 + 546 ≤ 7075105 from by omega)⟩) hP hD hS hA (fun E ce q9 H locs hE hP hS hcell hv hcl => hE.elim) (fun r_148 _u H locs er_148 hP hD hS => ?_)
          have hP : va_P D vwCl ((oW cI a1 c1 x2) ++ (oW cI a2 c1 y ++ [(w, .inl (cI, 8, .inl f))])) H := hP
          have hD : va_D _ ((oW cI a1 c1 x2) ++ (oW cI a2 c1 y ++ [(w, .inl (cI, 8, .inl f))])) := hD
          have hP : va_P D vwCl (oW cI a1 c1 x2 ++ (oW cI a2 c1 y ++ [(w, .inl (cI, 8, .inl f))])) H := hP
          have hD : va_D _ (oW cI a1 c1 x2 ++ (oW cI a2 c1 y ++ [(w, .inl (cI, 8, .inl f))])) := hD
          have er_148 : r_148 = 1 := er_148
          rw [er_148]
          refine lv_if_eq (tgt := 180) hx hb dL_law_151 (by decide) (fun hc => absurd hc (by decide)) (fun _ => ?_)
          refine lv_iload hx hb dL_law_154 (lv_at hl 9 rfl) ?_
          refine lv_bipush (v := 15) hx hb dL_law_156 (by decide) ?_
          refine lv_irem hx hb dL_law_158 (by decide) ?_
          refine lv_bipush (v := 14) hx hb dL_law_159 (by decide) ?_
          refine lv_icmp_ne (tgt := 182) hx hb dL_law_161 (by decide) (fun c_161 => ?_) (fun c_161 => ?_)
          · skip
            refine lv_iinc (v := nI (i + 1)) (lv' := [(4, .int (nI (i + 1))), (9, .int 1), (8, .int (nI i8)), (7, .int (nI i7)), (6, .int ((kAct c r_34).1)), (5, .int r_34), (0, .ref b), (1, .ref (a1 0)), (2, .ref (a2 0)), (3, .ref w)]) hx hb dL_law_182 hl (k := 9) rfl (nI_1 _) (by decide) rfl (fun ls hl => ?_)
            refine lv_goto (tgt := 24) hx hb dL_law_185 (by decide) ?_
            refine W.widen (k := (60) + 480 * (i + 1)) (n := (6000) + 2880 * (i + 1)) (by omega) (by omega) ?_
            exact ih24 _ _ _ ⟨c1, x2, y, f, (hI1), hP, hD, hS, (lv_sub hl [6, 7, 8, 9, 0] rfl)⟩
          · skip
            refine lv_aload_n hx hb dL_law_164 rfl (lv_at hl 6 rfl) ?_
            refine lv_aload_n hx hb dL_law_165 rfl (lv_at hl 8 rfl) ?_
            refine lv_iload hx hb dL_law_166 (lv_at hl 4 rfl) ?_
            refine lv_iconst (v := 5) hx hb dL_law_168 (by decide) ?_
            refine lv_ishr hx hb dL_law_169 ?_
            refine lv_iconst (v := 3) hx hb dL_law_170 (by decide) ?_
            refine kq_R (va_runS (As := [.int (r_34 >>> (5 &&& 31)), .int 3]) (rest := [.ref w, .ref (a1 0)]) ⟨hx, hb, hml, hown, hts⟩ (cw_low l D cI (r_34 >>> (5 &&& 31)) 3 (by decide) _) (va_cwS 2 hts gL_law_L_low rfl rfl rfl (by decide +kernel) ⟨Nat.le_of_ble_eq_true rfl, Nat.le_of_ble_eq_true rfl⟩) (kp_RS (hP.sub (ws' := []) [] rfl) hK) rfl rfl hl.1 rfl (lv_room (Nat.le_of_ble_eq_true rfl)) dL_law_171 ⟨(show (60) + 480 * i + 3 + 70 + 1 + 188 + 1 + 91 + 0 ≤ 675454 from by omega), (show (6000) + 2880 * i + 18 + 420 + 6 + 1128 + 6 + 546 + 0 ≤ 7075105 from by omega)⟩) hP hS hA (fun r_171 H locs er_171 hP hS => ?_)
            have er_171 : r_171 = klow (r_34 >>> (5 &&& 31)) 3 := er_171
            rw [er_171]
            obtain ⟨i9, hi9, ei9⟩ := klow_n (r_34 >>> (5 &&& 31)) (n := 3) (by decide) (by decide)
            refine kx_top (show klow (r_34 >>> (5 &&& 31)) 3 = nI i9 from ei9) ?_
            obtain ⟨z, hz, hF⟩ := kR_fin (nI i9) hN hW
            have hsf : ∀ k, k < P → ksN wf (kGv c1) (kLk c1) k (z k) < 30 ∧ bt (kPr c1) (ksN wf (kGv c1) (kLk c1) k (z k)) = true := fun k hk => by have q := (kRW_c hW).2.2 k (z k) hk (hz k hk); exact ⟨q.2.1, q.2.2.1⟩
            have hP := kP_o hP
            have hD := kD_o hD
            refine kq_O (px := fun _ => False) (vx_runS (As := [.ref (a1 0), .ref w, .int (nI i9)]) (rest := []) ⟨hx, hb, hml, hown, hts⟩ (cw_areChoicesSo l D cI a1 c1 x2 w f (nI i9) (kin_v hi9) (fun k => ksN wf (kGv c1) (kLk c1) k (z k)) hN hW hsf hF hfl _) (va_cwS 3 hts gL_law_L_areChoicesSo rfl rfl rfl (by decide +kernel) ⟨Nat.le_of_ble_eq_true rfl, Nat.le_of_ble_eq_true rfl⟩) (kp_OS hP hD hK hX hZ hS hA) rfl rfl hl.1 rfl (lv_room (Nat.le_of_ble_eq_true rfl)) dL_law_174 ⟨(show (60) + 480 * i + 3 + 70 + 1 + 188 + 1 + 91 + 120 ≤ 675454 from by omega), (show (6000) + 2880 * i + 18 + 420 + 6 + 1128 + 6 + 546 + 720 ≤ 7075105 from by omega)⟩) hP hD hS hA (fun E ce q9 H locs hE hP hS hcell hv hcl => hE.elim) (fun r_174 u9 H locs er_174 hP hD hS => ?_)
            have hP : va_P D vwCl ((oW cI a1 c1 u9.1 ++ [(w, .inl (cI, 8, .inl u9.2))]) ++ (oW cI a2 c1 y)) H := hP
            have hD : va_D _ ((oW cI a1 c1 u9.1 ++ [(w, .inl (cI, 8, .inl u9.2))]) ++ (oW cI a2 c1 y)) := hD
            have hP := kP_q hP
            have hD := kD_q hD
            have hP : va_P D vwCl (oW cI a1 c1 u9.1 ++ (oW cI a2 c1 y ++ [(w, .inl (cI, 8, .inl u9.2))])) H := hP
            have hD : va_D _ (oW cI a1 c1 u9.1 ++ (oW cI a2 c1 y ++ [(w, .inl (cI, 8, .inl u9.2))])) := hD
            have er_174 : r_174 = 1 := er_174
            rw [er_174]
            refine lv_if_ne (tgt := 182) hx hb dL_law_177 (by decide) (fun _ => ?_) (fun hc => absurd hc (by decide))
            refine lv_iinc (v := nI (i + 1)) (lv' := [(4, .int (nI (i + 1))), (9, .int 1), (8, .int (nI i8)), (7, .int (nI i7)), (6, .int ((kAct c r_34).1)), (5, .int r_34), (0, .ref b), (1, .ref (a1 0)), (2, .ref (a2 0)), (3, .ref w)]) hx hb dL_law_182 hl (k := 9) rfl (nI_1 _) (by decide) rfl (fun ls hl => ?_)
            refine lv_goto (tgt := 24) hx hb dL_law_185 (by decide) ?_
            refine W.widen (k := (60) + 480 * (i + 1)) (n := (6000) + 2880 * (i + 1)) (by omega) (by omega) ?_
            exact ih24 _ _ _ ⟨c1, u9.1, y, u9.2, (hI1), hP, hD, hS, (lv_sub hl [6, 7, 8, 9, 0] rfl)⟩
    · skip
      refine lv_aload_n hx hb dL_law_54 rfl (lv_at hl 4 rfl) ?_
      refine lv_iload hx hb dL_law_55 (lv_at hl 1 rfl) ?_
      have hP := kP_t hP
      have hD := kD_t hD
      refine kq_O (px := fun _ => False) (vx_runS (As := [.ref (a2 0), .int r_34]) (rest := []) ⟨hx, hb, hml, hown, hts⟩ (cw_act l D cI a2 c y r_34 hfl _) (va_cwS 2 hts gL_law_L_act rfl rfl rfl (by decide +kernel) ⟨Nat.le_of_ble_eq_true rfl, Nat.le_of_ble_eq_true rfl⟩) (kp_OS hP hD hK hX hZ hS hA) rfl rfl hl.1 rfl (lv_room (Nat.le_of_ble_eq_true rfl)) dL_law_57 ⟨(show (60) + 480 * i + 3 + 3 ≤ 675454 from by omega), (show (6000) + 2880 * i + 18 + 18 ≤ 7075105 from by omega)⟩) hP hD hS hA (fun E ce q9 H locs hE hP hS hcell hv hcl => hE.elim) (fun r_57 _u H locs er_57 hP hD hS => ?_)
      have hP : va_P D vwCl ((oW cI a2 (kAct c r_34).2 y) ++ (oW cI a1 (kAct c r_34).2 x ++ [(w, .inl (cI, 8, .inl f))])) H := hP
      have hD : va_D _ ((oW cI a2 (kAct c r_34).2 y) ++ (oW cI a1 (kAct c r_34).2 x ++ [(w, .inl (cI, 8, .inl f))])) := hD
      have hP := kP_t hP
      have hD := kD_t hD
      have hP : va_P D vwCl (oW cI a1 (kAct c r_34).2 x ++ (oW cI a2 (kAct c r_34).2 y ++ [(w, .inl (cI, 8, .inl f))])) H := hP
      have hD : va_D _ (oW cI a1 (kAct c r_34).2 x ++ (oW cI a2 (kAct c r_34).2 y ++ [(w, .inl (cI, 8, .inl f))])) := hD
      have er_57 : r_57 = (kAct c r_34).1 := er_57
      rw [er_57]
      obtain ⟨c1, ec1⟩ : ∃ c1, c1 = (kAct c r_34).2 := ⟨_, rfl⟩
      rw [← ec1] at hP hD
      have hI1 : kInv c1 := by rw [ec1]; exact hk.1
      obtain ⟨A, Wn, P, cn, rk, nf, wf, pa, hN, hW⟩ := id hI1
      refine lv_iload hx hb dL_law_60 (lv_at hl 0 rfl) ?_
      refine lv_icmp_ne (tgt := 73) hx hb dL_law_62 (by decide) (fun hc => absurd (rfl) hc) (fun _ => ?_)
      refine lv_aload_n hx hb dL_law_65 rfl (lv_at hl 3 rfl) ?_
      refine lv_aload_n hx hb dL_law_66 rfl (lv_at hl 4 rfl) ?_
      have hP := kP_as hP
      have hD := kD_as hD
      refine kq_O (px := fun _ => False) (vx_runS (As := [.ref (a1 0), .ref (a2 0)]) (rest := []) ⟨hx, hb, hml, hown, hts⟩ (cw_areAlike l D cI a1 a2 c1 x y hfl _) (va_cwS 2 hts gL_law_L_areAlike rfl rfl rfl (by decide +kernel) ⟨Nat.le_of_ble_eq_true rfl, Nat.le_of_ble_eq_true rfl⟩) (kp_OS hP hD hK hX hZ hS hA) rfl rfl hl.1 rfl (lv_room (Nat.le_of_ble_eq_true rfl)) dL_law_67 ⟨(show (60) + 480 * i + 3 + 3 + 70 ≤ 675454 from by omega), (show (6000) + 2880 * i + 18 + 18 + 420 ≤ 7075105 from by omega)⟩) hP hD hS hA (fun E ce q9 H locs hE hP hS hcell hv hcl => hE.elim) (fun r_67 _u H locs er_67 hP hD hS => ?_)
      have hP : va_P D vwCl ((oW cI a1 c1 x ++ oW cI a2 c1 y) ++ ([(w, .inl (cI, 8, .inl f))])) H := hP
      have hD : va_D _ ((oW cI a1 c1 x ++ oW cI a2 c1 y) ++ ([(w, .inl (cI, 8, .inl f))])) := hD
      have hP := kP_sa hP
      have hD := kD_sa hD
      have hP : va_P D vwCl (oW cI a1 c1 x ++ (oW cI a2 c1 y ++ [(w, .inl (cI, 8, .inl f))])) H := hP
      have hD : va_D _ (oW cI a1 c1 x ++ (oW cI a2 c1 y ++ [(w, .inl (cI, 8, .inl f))])) := hD
      have er_67 : r_67 = 1 := er_67
      rw [er_67]
      refine lv_if_ne (tgt := 75) hx hb dL_law_70 (by decide) (fun _ => ?_) (fun hc => absurd hc (by decide))
      refine lv_iload hx hb dL_law_75 (lv_at hl 1 rfl) ?_
      refine lv_bipush (v := 6) hx hb dL_law_77 (by decide) ?_
      refine lv_ishr hx hb dL_law_79 ?_
      refine lv_bipush (v := 14) hx hb dL_law_80 (by decide) ?_
      refine kq_R (va_runS (As := [.int (r_34 >>> (6 &&& 31)), .int 14]) (rest := []) ⟨hx, hb, hml, hown, hts⟩ (cw_low l D cI (r_34 >>> (6 &&& 31)) 14 (by decide) _) (va_cwS 2 hts gL_law_L_low rfl rfl rfl (by decide +kernel) ⟨Nat.le_of_ble_eq_true rfl, Nat.le_of_ble_eq_true rfl⟩) (kp_RS (hP.sub (ws' := []) [] rfl) hK) rfl rfl hl.1 rfl (lv_room (Nat.le_of_ble_eq_true rfl)) dL_law_82 ⟨(show (60) + 480 * i + 3 + 3 + 70 + 0 ≤ 675454 from by omega), (show (6000) + 2880 * i + 18 + 18 + 420 + 0 ≤ 7075105 from by omega)⟩) hP hS hA (fun r_82 H locs er_82 hP hS => ?_)
      have er_82 : r_82 = klow (r_34 >>> (6 &&& 31)) 14 := er_82
      rw [er_82]
      obtain ⟨i7, hi7, ei7⟩ := klow_n (r_34 >>> (6 &&& 31)) (n := 14) (by decide) (by decide)
      refine kx_top (show klow (r_34 >>> (6 &&& 31)) 14 = nI i7 from ei7) ?_
      refine lv_istore (lv' := [(7, .int (nI i7)), (6, .int ((kAct c r_34).1)), (5, .int r_34), (0, .ref b), (1, .ref (a1 0)), (2, .ref (a2 0)), (3, .ref w), (4, .int (nI i))]) hx hb dL_law_85 hl (by decide) rfl (fun ls hl => ?_)
      refine lv_iload hx hb dL_law_87 (lv_at hl 2 rfl) ?_
      refine lv_bipush (v := 10) hx hb dL_law_89 (by decide) ?_
      refine lv_ishr hx hb dL_law_91 ?_
      refine lv_bipush (v := 14) hx hb dL_law_92 (by decide) ?_
      refine kq_R (va_runS (As := [.int (r_34 >>> (10 &&& 31)), .int 14]) (rest := []) ⟨hx, hb, hml, hown, hts⟩ (cw_low l D cI (r_34 >>> (10 &&& 31)) 14 (by decide) _) (va_cwS 2 hts gL_law_L_low rfl rfl rfl (by decide +kernel) ⟨Nat.le_of_ble_eq_true rfl, Nat.le_of_ble_eq_true rfl⟩) (kp_RS (hP.sub (ws' := []) [] rfl) hK) rfl rfl hl.1 rfl (lv_room (Nat.le_of_ble_eq_true rfl)) dL_law_94 ⟨(show (60) + 480 * i + 3 + 3 + 70 + 0 ≤ 675454 from by omega), (show (6000) + 2880 * i + 18 + 18 + 420 + 0 ≤ 7075105 from by omega)⟩) hP hS hA (fun r_94 H locs er_94 hP hS => ?_)
      have er_94 : r_94 = klow (r_34 >>> (10 &&& 31)) 14 := er_94
      rw [er_94]
      obtain ⟨i8, hi8, ei8⟩ := klow_n (r_34 >>> (10 &&& 31)) (n := 14) (by decide) (by decide)
      refine kx_top (show klow (r_34 >>> (10 &&& 31)) 14 = nI i8 from ei8) ?_
      refine lv_istore (lv' := [(8, .int (nI i8)), (7, .int (nI i7)), (6, .int ((kAct c r_34).1)), (5, .int r_34), (0, .ref b), (1, .ref (a1 0)), (2, .ref (a2 0)), (3, .ref w), (4, .int (nI i))]) hx hb dL_law_97 hl (by decide) rfl (fun ls hl => ?_)
      refine lv_aload_n hx hb dL_law_99 rfl (lv_at hl 5 rfl) ?_
      refine lv_iload hx hb dL_law_100 (lv_at hl 1 rfl) ?_
      refine kq_O (px := fun _ => False) (vx_runSX (As := [.ref (a1 0), .int (nI i7)]) (rest := []) ⟨hx, hb, hml, hown, hts⟩ (cw_mass l D cI a1 c1 x (nI i7) hfl _) (vx_cwSW 2 hts gL_law_L_mass rfl rfl rfl (by decide +kernel) ⟨Nat.le_of_ble_eq_true rfl, Nat.le_of_ble_eq_true rfl⟩) (kp_OS hP hD hK hX hZ hS hA) rfl rfl hl.1 rfl (lv_room (Nat.le_of_ble_eq_true rfl)) dL_law_102 ⟨(show (60) + 480 * i + 3 + 3 + 70 + 1 ≤ 675454 from by omega), (show (6000) + 2880 * i + 18 + 18 + 420 + 6 ≤ 7075105 from by omega)⟩) hP hD hS hA (fun E ce q9 H locs hE hP hS hcell hv hcl => hE.elim) (fun r_102 _u H locs er_102 hP hD hS => ?_)
      have hP : va_P D vwCl ((oW cI a1 c1 x) ++ (oW cI a2 c1 y ++ [(w, .inl (cI, 8, .inl f))])) H := hP
      have hD : va_D _ ((oW cI a1 c1 x) ++ (oW cI a2 c1 y ++ [(w, .inl (cI, 8, .inl f))])) := hD
      have hP : va_P D vwCl (oW cI a1 c1 x ++ (oW cI a2 c1 y ++ [(w, .inl (cI, 8, .inl f))])) H := hP
      have hD : va_D _ (oW cI a1 c1 x ++ (oW cI a2 c1 y ++ [(w, .inl (cI, 8, .inl f))])) := hD
      have er_102 : r_102 = kfMas c1 (nI i7) := er_102
      rw [er_102]
      refine lv_if_lt (tgt := 112) hx hb dL_law_105 (by decide) (fun c_105 => ?_) (fun c_105 => ?_)
      · skip
        refine lv_iconst (v := 0) hx hb dL_law_112 (by decide) ?_
        refine lv_istore (lv' := [(9, .int 0), (8, .int (nI i8)), (7, .int (nI i7)), (6, .int ((kAct c r_34).1)), (5, .int r_34), (0, .ref b), (1, .ref (a1 0)), (2, .ref (a2 0)), (3, .ref w), (4, .int (nI i))]) hx hb dL_law_113 hl (by decide) rfl (fun ls hl => ?_)
        refine lv_iload hx hb dL_law_115 (lv_at hl 0 rfl) ?_
        refine lv_if_eq (tgt := 129) hx hb dL_law_117 (by decide) (fun _ => ?_) (fun hc => absurd (by decide) hc)
        refine lv_iload hx hb dL_law_129 (lv_at hl 0 rfl) ?_
        refine lv_if_eq (tgt := 154) hx hb dL_law_131 (by decide) (fun _ => ?_) (fun hc => absurd (by decide) hc)
        refine lv_iload hx hb dL_law_154 (lv_at hl 9 rfl) ?_
        refine lv_bipush (v := 15) hx hb dL_law_156 (by decide) ?_
        refine lv_irem hx hb dL_law_158 (by decide) ?_
        refine lv_bipush (v := 14) hx hb dL_law_159 (by decide) ?_
        refine lv_icmp_ne (tgt := 182) hx hb dL_law_161 (by decide) (fun c_161 => ?_) (fun c_161 => ?_)
        · skip
          refine lv_iinc (v := nI (i + 1)) (lv' := [(4, .int (nI (i + 1))), (9, .int 0), (8, .int (nI i8)), (7, .int (nI i7)), (6, .int ((kAct c r_34).1)), (5, .int r_34), (0, .ref b), (1, .ref (a1 0)), (2, .ref (a2 0)), (3, .ref w)]) hx hb dL_law_182 hl (k := 9) rfl (nI_1 _) (by decide) rfl (fun ls hl => ?_)
          refine lv_goto (tgt := 24) hx hb dL_law_185 (by decide) ?_
          refine W.widen (k := (60) + 480 * (i + 1)) (n := (6000) + 2880 * (i + 1)) (by omega) (by omega) ?_
          exact ih24 _ _ _ ⟨c1, x, y, f, (hI1), hP, hD, hS, (lv_sub hl [6, 7, 8, 9, 0] rfl)⟩
        · skip
          refine lv_aload_n hx hb dL_law_164 rfl (lv_at hl 6 rfl) ?_
          refine lv_aload_n hx hb dL_law_165 rfl (lv_at hl 8 rfl) ?_
          refine lv_iload hx hb dL_law_166 (lv_at hl 4 rfl) ?_
          refine lv_iconst (v := 5) hx hb dL_law_168 (by decide) ?_
          refine lv_ishr hx hb dL_law_169 ?_
          refine lv_iconst (v := 3) hx hb dL_law_170 (by decide) ?_
          refine kq_R (va_runS (As := [.int (r_34 >>> (5 &&& 31)), .int 3]) (rest := [.ref w, .ref (a1 0)]) ⟨hx, hb, hml, hown, hts⟩ (cw_low l D cI (r_34 >>> (5 &&& 31)) 3 (by decide) _) (va_cwS 2 hts gL_law_L_low rfl rfl rfl (by decide +kernel) ⟨Nat.le_of_ble_eq_true rfl, Nat.le_of_ble_eq_true rfl⟩) (kp_RS (hP.sub (ws' := []) [] rfl) hK) rfl rfl hl.1 rfl (lv_room (Nat.le_of_ble_eq_true rfl)) dL_law_171 ⟨(show (60) + 480 * i + 3 + 3 + 70 + 1 + 0 ≤ 675454 from by omega), (show (6000) + 2880 * i + 18 + 18 + 420 + 6 + 0 ≤ 7075105 from by omega)⟩) hP hS hA (fun r_171 H locs er_171 hP hS => ?_)
          have er_171 : r_171 = klow (r_34 >>> (5 &&& 31)) 3 := er_171
          rw [er_171]
          obtain ⟨i9, hi9, ei9⟩ := klow_n (r_34 >>> (5 &&& 31)) (n := 3) (by decide) (by decide)
          refine kx_top (show klow (r_34 >>> (5 &&& 31)) 3 = nI i9 from ei9) ?_
          obtain ⟨z, hz, hF⟩ := kR_fin (nI i9) hN hW
          have hsf : ∀ k, k < P → ksN wf (kGv c1) (kLk c1) k (z k) < 30 ∧ bt (kPr c1) (ksN wf (kGv c1) (kLk c1) k (z k)) = true := fun k hk => by have q := (kRW_c hW).2.2 k (z k) hk (hz k hk); exact ⟨q.2.1, q.2.2.1⟩
          have hP := kP_o hP
          have hD := kD_o hD
          refine kq_O (px := fun _ => False) (vx_runS (As := [.ref (a1 0), .ref w, .int (nI i9)]) (rest := []) ⟨hx, hb, hml, hown, hts⟩ (cw_areChoicesSo l D cI a1 c1 x w f (nI i9) (kin_v hi9) (fun k => ksN wf (kGv c1) (kLk c1) k (z k)) hN hW hsf hF hfl _) (va_cwS 3 hts gL_law_L_areChoicesSo rfl rfl rfl (by decide +kernel) ⟨Nat.le_of_ble_eq_true rfl, Nat.le_of_ble_eq_true rfl⟩) (kp_OS hP hD hK hX hZ hS hA) rfl rfl hl.1 rfl (lv_room (Nat.le_of_ble_eq_true rfl)) dL_law_174 ⟨(show (60) + 480 * i + 3 + 3 + 70 + 1 + 120 ≤ 675454 from by omega), (show (6000) + 2880 * i + 18 + 18 + 420 + 6 + 720 ≤ 7075105 from by omega)⟩) hP hD hS hA (fun E ce q9 H locs hE hP hS hcell hv hcl => hE.elim) (fun r_174 u9 H locs er_174 hP hD hS => ?_)
          have hP : va_P D vwCl ((oW cI a1 c1 u9.1 ++ [(w, .inl (cI, 8, .inl u9.2))]) ++ (oW cI a2 c1 y)) H := hP
          have hD : va_D _ ((oW cI a1 c1 u9.1 ++ [(w, .inl (cI, 8, .inl u9.2))]) ++ (oW cI a2 c1 y)) := hD
          have hP := kP_q hP
          have hD := kD_q hD
          have hP : va_P D vwCl (oW cI a1 c1 u9.1 ++ (oW cI a2 c1 y ++ [(w, .inl (cI, 8, .inl u9.2))])) H := hP
          have hD : va_D _ (oW cI a1 c1 u9.1 ++ (oW cI a2 c1 y ++ [(w, .inl (cI, 8, .inl u9.2))])) := hD
          have er_174 : r_174 = 1 := er_174
          rw [er_174]
          refine lv_if_ne (tgt := 182) hx hb dL_law_177 (by decide) (fun _ => ?_) (fun hc => absurd hc (by decide))
          refine lv_iinc (v := nI (i + 1)) (lv' := [(4, .int (nI (i + 1))), (9, .int 0), (8, .int (nI i8)), (7, .int (nI i7)), (6, .int ((kAct c r_34).1)), (5, .int r_34), (0, .ref b), (1, .ref (a1 0)), (2, .ref (a2 0)), (3, .ref w)]) hx hb dL_law_182 hl (k := 9) rfl (nI_1 _) (by decide) rfl (fun ls hl => ?_)
          refine lv_goto (tgt := 24) hx hb dL_law_185 (by decide) ?_
          refine W.widen (k := (60) + 480 * (i + 1)) (n := (6000) + 2880 * (i + 1)) (by omega) (by omega) ?_
          exact ih24 _ _ _ ⟨c1, u9.1, y, u9.2, (hI1), hP, hD, hS, (lv_sub hl [6, 7, 8, 9, 0] rfl)⟩
      · skip
        have hp7 := kfMas_p (show i7 < 30 by omega) c_105
        refine lv_iconst (v := 1) hx hb dL_law_108 (by decide) ?_
        refine lv_goto (tgt := 113) hx hb dL_law_109 (by decide) ?_
        refine lv_istore (lv' := [(9, .int 1), (8, .int (nI i8)), (7, .int (nI i7)), (6, .int ((kAct c r_34).1)), (5, .int r_34), (0, .ref b), (1, .ref (a1 0)), (2, .ref (a2 0)), (3, .ref w), (4, .int (nI i))]) hx hb dL_law_113 hl (by decide) rfl (fun ls hl => ?_)
        refine lv_iload hx hb dL_law_115 (lv_at hl 0 rfl) ?_
        refine lv_if_eq (tgt := 129) hx hb dL_law_117 (by decide) (fun hc => absurd hc (by decide)) (fun _ => ?_)
        refine lv_aload_n hx hb dL_law_120 rfl (lv_at hl 6 rfl) ?_
        refine lv_iload hx hb dL_law_121 (lv_at hl 2 rfl) ?_
        refine kq_O (px := fun _ => False) (vx_runS (As := [.ref (a1 0), .int (nI i7)]) (rest := []) ⟨hx, hb, hml, hown, hts⟩ (cw_isSenseSo l D cI a1 c1 x i7 (by omega) hp7 hN hfl _) (va_cwS 2 hts gL_law_L_isSenseSo rfl rfl rfl (by decide +kernel) ⟨Nat.le_of_ble_eq_true rfl, Nat.le_of_ble_eq_true rfl⟩) (kp_OS hP hD hK hX hZ hS hA) rfl rfl hl.1 rfl (lv_room (Nat.le_of_ble_eq_true rfl)) dL_law_123 ⟨(show (60) + 480 * i + 3 + 3 + 70 + 1 + 188 ≤ 675454 from by omega), (show (6000) + 2880 * i + 18 + 18 + 420 + 6 + 1128 ≤ 7075105 from by omega)⟩) hP hD hS hA (fun E ce q9 H locs hE hP hS hcell hv hcl => hE.elim) (fun r_123 x2 H locs er_123 hP hD hS => ?_)
        have hP : va_P D vwCl ((oW cI a1 c1 x2) ++ (oW cI a2 c1 y ++ [(w, .inl (cI, 8, .inl f))])) H := hP
        have hD : va_D _ ((oW cI a1 c1 x2) ++ (oW cI a2 c1 y ++ [(w, .inl (cI, 8, .inl f))])) := hD
        have hP : va_P D vwCl (oW cI a1 c1 x2 ++ (oW cI a2 c1 y ++ [(w, .inl (cI, 8, .inl f))])) H := hP
        have hD : va_D _ (oW cI a1 c1 x2 ++ (oW cI a2 c1 y ++ [(w, .inl (cI, 8, .inl f))])) := hD
        have er_123 : r_123 = 1 := er_123
        rw [er_123]
        refine lv_if_eq (tgt := 180) hx hb dL_law_126 (by decide) (fun hc => absurd hc (by decide)) (fun _ => ?_)
        refine lv_iload hx hb dL_law_129 (lv_at hl 0 rfl) ?_
        refine lv_if_eq (tgt := 154) hx hb dL_law_131 (by decide) (fun hc => absurd hc (by decide)) (fun _ => ?_)
        refine lv_aload_n hx hb dL_law_134 rfl (lv_at hl 6 rfl) ?_
        refine lv_iload hx hb dL_law_135 (lv_at hl 1 rfl) ?_
        refine kq_O (px := fun _ => False) (vx_runSX (As := [.ref (a1 0), .int (nI i8)]) (rest := []) ⟨hx, hb, hml, hown, hts⟩ (cw_mass l D cI a1 c1 x2 (nI i8) hfl _) (vx_cwSW 2 hts gL_law_L_mass rfl rfl rfl (by decide +kernel) ⟨Nat.le_of_ble_eq_true rfl, Nat.le_of_ble_eq_true rfl⟩) (kp_OS hP hD hK hX hZ hS hA) rfl rfl hl.1 rfl (lv_room (Nat.le_of_ble_eq_true rfl)) dL_law_137 ⟨(show (60) + 480 * i + 3 + 3 + 70 + 1 + 188 + 1 ≤ 675454 from by omega), (show (6000) + 2880 * i + 18 + 18 + 420 + 6 + 1128 + 6 ≤ 7075105 from by omega)⟩) hP hD hS hA (fun E ce q9 H locs hE hP hS hcell hv hcl => hE.elim) (fun r_137 _u H locs er_137 hP hD hS => ?_)
        have hP : va_P D vwCl ((oW cI a1 c1 x2) ++ (oW cI a2 c1 y ++ [(w, .inl (cI, 8, .inl f))])) H := hP
        have hD : va_D _ ((oW cI a1 c1 x2) ++ (oW cI a2 c1 y ++ [(w, .inl (cI, 8, .inl f))])) := hD
        have hP : va_P D vwCl (oW cI a1 c1 x2 ++ (oW cI a2 c1 y ++ [(w, .inl (cI, 8, .inl f))])) H := hP
        have hD : va_D _ (oW cI a1 c1 x2 ++ (oW cI a2 c1 y ++ [(w, .inl (cI, 8, .inl f))])) := hD
        have er_137 : r_137 = kfMas c1 (nI i8) := er_137
        rw [er_137]
        refine lv_if_lt (tgt := 154) hx hb dL_law_140 (by decide) (fun c_140 => ?_) (fun c_140 => ?_)
        · skip
          refine lv_iload hx hb dL_law_154 (lv_at hl 9 rfl) ?_
          refine lv_bipush (v := 15) hx hb dL_law_156 (by decide) ?_
          refine lv_irem hx hb dL_law_158 (by decide) ?_
          refine lv_bipush (v := 14) hx hb dL_law_159 (by decide) ?_
          refine lv_icmp_ne (tgt := 182) hx hb dL_law_161 (by decide) (fun c_161 => ?_) (fun c_161 => ?_)
          · skip
            refine lv_iinc (v := nI (i + 1)) (lv' := [(4, .int (nI (i + 1))), (9, .int 1), (8, .int (nI i8)), (7, .int (nI i7)), (6, .int ((kAct c r_34).1)), (5, .int r_34), (0, .ref b), (1, .ref (a1 0)), (2, .ref (a2 0)), (3, .ref w)]) hx hb dL_law_182 hl (k := 9) rfl (nI_1 _) (by decide) rfl (fun ls hl => ?_)
            refine lv_goto (tgt := 24) hx hb dL_law_185 (by decide) ?_
            refine W.widen (k := (60) + 480 * (i + 1)) (n := (6000) + 2880 * (i + 1)) (by omega) (by omega) ?_
            exact ih24 _ _ _ ⟨c1, x2, y, f, (hI1), hP, hD, hS, (lv_sub hl [6, 7, 8, 9, 0] rfl)⟩
          · skip
            refine lv_aload_n hx hb dL_law_164 rfl (lv_at hl 6 rfl) ?_
            refine lv_aload_n hx hb dL_law_165 rfl (lv_at hl 8 rfl) ?_
            refine lv_iload hx hb dL_law_166 (lv_at hl 4 rfl) ?_
            refine lv_iconst (v := 5) hx hb dL_law_168 (by decide) ?_
            refine lv_ishr hx hb dL_law_169 ?_
            refine lv_iconst (v := 3) hx hb dL_law_170 (by decide) ?_
            refine kq_R (va_runS (As := [.int (r_34 >>> (5 &&& 31)), .int 3]) (rest := [.ref w, .ref (a1 0)]) ⟨hx, hb, hml, hown, hts⟩ (cw_low l D cI (r_34 >>> (5 &&& 31)) 3 (by decide) _) (va_cwS 2 hts gL_law_L_low rfl rfl rfl (by decide +kernel) ⟨Nat.le_of_ble_eq_true rfl, Nat.le_of_ble_eq_true rfl⟩) (kp_RS (hP.sub (ws' := []) [] rfl) hK) rfl rfl hl.1 rfl (lv_room (Nat.le_of_ble_eq_true rfl)) dL_law_171 ⟨(show (60) + 480 * i + 3 + 3 + 70 + 1 + 188 + 1 + 0 ≤ 675454 from by omega), (show (6000) + 2880 * i + 18 + 18 + 420 + 6 + 1128 + 6 + 0 ≤ 7075105 from by omega)⟩) hP hS hA (fun r_171 H locs er_171 hP hS => ?_)
            have er_171 : r_171 = klow (r_34 >>> (5 &&& 31)) 3 := er_171
            rw [er_171]
            obtain ⟨i9, hi9, ei9⟩ := klow_n (r_34 >>> (5 &&& 31)) (n := 3) (by decide) (by decide)
            refine kx_top (show klow (r_34 >>> (5 &&& 31)) 3 = nI i9 from ei9) ?_
            obtain ⟨z, hz, hF⟩ := kR_fin (nI i9) hN hW
            have hsf : ∀ k, k < P → ksN wf (kGv c1) (kLk c1) k (z k) < 30 ∧ bt (kPr c1) (ksN wf (kGv c1) (kLk c1) k (z k)) = true := fun k hk => by have q := (kRW_c hW).2.2 k (z k) hk (hz k hk); exact ⟨q.2.1, q.2.2.1⟩
            have hP := kP_o hP
            have hD := kD_o hD
            refine kq_O (px := fun _ => False) (vx_runS (As := [.ref (a1 0), .ref w, .int (nI i9)]) (rest := []) ⟨hx, hb, hml, hown, hts⟩ (cw_areChoicesSo l D cI a1 c1 x2 w f (nI i9) (kin_v hi9) (fun k => ksN wf (kGv c1) (kLk c1) k (z k)) hN hW hsf hF hfl _) (va_cwS 3 hts gL_law_L_areChoicesSo rfl rfl rfl (by decide +kernel) ⟨Nat.le_of_ble_eq_true rfl, Nat.le_of_ble_eq_true rfl⟩) (kp_OS hP hD hK hX hZ hS hA) rfl rfl hl.1 rfl (lv_room (Nat.le_of_ble_eq_true rfl)) dL_law_174 ⟨(show (60) + 480 * i + 3 + 3 + 70 + 1 + 188 + 1 + 120 ≤ 675454 from by omega), (show (6000) + 2880 * i + 18 + 18 + 420 + 6 + 1128 + 6 + 720 ≤ 7075105 from by omega)⟩) hP hD hS hA (fun E ce q9 H locs hE hP hS hcell hv hcl => hE.elim) (fun r_174 u9 H locs er_174 hP hD hS => ?_)
            have hP : va_P D vwCl ((oW cI a1 c1 u9.1 ++ [(w, .inl (cI, 8, .inl u9.2))]) ++ (oW cI a2 c1 y)) H := hP
            have hD : va_D _ ((oW cI a1 c1 u9.1 ++ [(w, .inl (cI, 8, .inl u9.2))]) ++ (oW cI a2 c1 y)) := hD
            have hP := kP_q hP
            have hD := kD_q hD
            have hP : va_P D vwCl (oW cI a1 c1 u9.1 ++ (oW cI a2 c1 y ++ [(w, .inl (cI, 8, .inl u9.2))])) H := hP
            have hD : va_D _ (oW cI a1 c1 u9.1 ++ (oW cI a2 c1 y ++ [(w, .inl (cI, 8, .inl u9.2))])) := hD
            have er_174 : r_174 = 1 := er_174
            rw [er_174]
            refine lv_if_ne (tgt := 182) hx hb dL_law_177 (by decide) (fun _ => ?_) (fun hc => absurd hc (by decide))
            refine lv_iinc (v := nI (i + 1)) (lv' := [(4, .int (nI (i + 1))), (9, .int 1), (8, .int (nI i8)), (7, .int (nI i7)), (6, .int ((kAct c r_34).1)), (5, .int r_34), (0, .ref b), (1, .ref (a1 0)), (2, .ref (a2 0)), (3, .ref w)]) hx hb dL_law_182 hl (k := 9) rfl (nI_1 _) (by decide) rfl (fun ls hl => ?_)
            refine lv_goto (tgt := 24) hx hb dL_law_185 (by decide) ?_
            refine W.widen (k := (60) + 480 * (i + 1)) (n := (6000) + 2880 * (i + 1)) (by omega) (by omega) ?_
            exact ih24 _ _ _ ⟨c1, u9.1, y, u9.2, (hI1), hP, hD, hS, (lv_sub hl [6, 7, 8, 9, 0] rfl)⟩
        · skip
          have hp8 := kfMas_p (show i8 < 30 by omega) c_140
          refine lv_aload_n hx hb dL_law_143 rfl (lv_at hl 6 rfl) ?_
          refine lv_iload hx hb dL_law_144 (lv_at hl 2 rfl) ?_
          refine lv_iload hx hb dL_law_146 (lv_at hl 1 rfl) ?_
          refine kq_O (px := fun _ => False) (vx_runS (As := [.ref (a1 0), .int (nI i7), .int (nI i8)]) (rest := []) ⟨hx, hb, hml, hown, hts⟩ (cw_arePairsSo l D cI a1 c1 x2 i7 i8 (by omega) (by omega) hp7 hp8 hN hfl _) (va_cwS 3 hts gL_law_L_arePairsSo rfl rfl rfl (by decide +kernel) ⟨Nat.le_of_ble_eq_true rfl, Nat.le_of_ble_eq_true rfl⟩) (kp_OS hP hD hK hX hZ hS hA) rfl rfl hl.1 rfl (lv_room (Nat.le_of_ble_eq_true rfl)) dL_law_148 ⟨(show (60) + 480 * i + 3 + 3 + 70 + 1 + 188 + 1 + 91 ≤ 675454 from by omega), (show (6000) + 2880 * i + 18 + 18 + 420 + 6 + 1128 + 6 + 546 ≤ 7075105 from by omega)⟩) hP hD hS hA (fun E ce q9 H locs hE hP hS hcell hv hcl => hE.elim) (fun r_148 _u H locs er_148 hP hD hS => ?_)
          have hP : va_P D vwCl ((oW cI a1 c1 x2) ++ (oW cI a2 c1 y ++ [(w, .inl (cI, 8, .inl f))])) H := hP
          have hD : va_D _ ((oW cI a1 c1 x2) ++ (oW cI a2 c1 y ++ [(w, .inl (cI, 8, .inl f))])) := hD
          have hP : va_P D vwCl (oW cI a1 c1 x2 ++ (oW cI a2 c1 y ++ [(w, .inl (cI, 8, .inl f))])) H := hP
          have hD : va_D _ (oW cI a1 c1 x2 ++ (oW cI a2 c1 y ++ [(w, .inl (cI, 8, .inl f))])) := hD
          have er_148 : r_148 = 1 := er_148
          rw [er_148]
          refine lv_if_eq (tgt := 180) hx hb dL_law_151 (by decide) (fun hc => absurd hc (by decide)) (fun _ => ?_)
          refine lv_iload hx hb dL_law_154 (lv_at hl 9 rfl) ?_
          refine lv_bipush (v := 15) hx hb dL_law_156 (by decide) ?_
          refine lv_irem hx hb dL_law_158 (by decide) ?_
          refine lv_bipush (v := 14) hx hb dL_law_159 (by decide) ?_
          refine lv_icmp_ne (tgt := 182) hx hb dL_law_161 (by decide) (fun c_161 => ?_) (fun c_161 => ?_)
          · skip
            refine lv_iinc (v := nI (i + 1)) (lv' := [(4, .int (nI (i + 1))), (9, .int 1), (8, .int (nI i8)), (7, .int (nI i7)), (6, .int ((kAct c r_34).1)), (5, .int r_34), (0, .ref b), (1, .ref (a1 0)), (2, .ref (a2 0)), (3, .ref w)]) hx hb dL_law_182 hl (k := 9) rfl (nI_1 _) (by decide) rfl (fun ls hl => ?_)
            refine lv_goto (tgt := 24) hx hb dL_law_185 (by decide) ?_
            refine W.widen (k := (60) + 480 * (i + 1)) (n := (6000) + 2880 * (i + 1)) (by omega) (by omega) ?_
            exact ih24 _ _ _ ⟨c1, x2, y, f, (hI1), hP, hD, hS, (lv_sub hl [6, 7, 8, 9, 0] rfl)⟩
          · skip
            refine lv_aload_n hx hb dL_law_164 rfl (lv_at hl 6 rfl) ?_
            refine lv_aload_n hx hb dL_law_165 rfl (lv_at hl 8 rfl) ?_
            refine lv_iload hx hb dL_law_166 (lv_at hl 4 rfl) ?_
            refine lv_iconst (v := 5) hx hb dL_law_168 (by decide) ?_
            refine lv_ishr hx hb dL_law_169 ?_
            refine lv_iconst (v := 3) hx hb dL_law_170 (by decide) ?_
            refine kq_R (va_runS (As := [.int (r_34 >>> (5 &&& 31)), .int 3]) (rest := [.ref w, .ref (a1 0)]) ⟨hx, hb, hml, hown, hts⟩ (cw_low l D cI (r_34 >>> (5 &&& 31)) 3 (by decide) _) (va_cwS 2 hts gL_law_L_low rfl rfl rfl (by decide +kernel) ⟨Nat.le_of_ble_eq_true rfl, Nat.le_of_ble_eq_true rfl⟩) (kp_RS (hP.sub (ws' := []) [] rfl) hK) rfl rfl hl.1 rfl (lv_room (Nat.le_of_ble_eq_true rfl)) dL_law_171 ⟨(show (60) + 480 * i + 3 + 3 + 70 + 1 + 188 + 1 + 91 + 0 ≤ 675454 from by omega), (show (6000) + 2880 * i + 18 + 18 + 420 + 6 + 1128 + 6 + 546 + 0 ≤ 7075105 from by omega)⟩) hP hS hA (fun r_171 H locs er_171 hP hS => ?_)
            have er_171 : r_171 = klow (r_34 >>> (5 &&& 31)) 3 := er_171
            rw [er_171]
            obtain ⟨i9, hi9, ei9⟩ := klow_n (r_34 >>> (5 &&& 31)) (n := 3) (by decide) (by decide)
            refine kx_top (show klow (r_34 >>> (5 &&& 31)) 3 = nI i9 from ei9) ?_
            obtain ⟨z, hz, hF⟩ := kR_fin (nI i9) hN hW
            have hsf : ∀ k, k < P → ksN wf (kGv c1) (kLk c1) k (z k) < 30 ∧ bt (kPr c1) (ksN wf (kGv c1) (kLk c1) k (z k)) = true := fun k hk => by have q := (kRW_c hW).2.2 k (z k) hk (hz k hk); exact ⟨q.2.1, q.2.2.1⟩
            have hP := kP_o hP
            have hD := kD_o hD
            refine kq_O (px := fun _ => False) (vx_runS (As := [.ref (a1 0), .ref w, .int (nI i9)]) (rest := []) ⟨hx, hb, hml, hown, hts⟩ (cw_areChoicesSo l D cI a1 c1 x2 w f (nI i9) (kin_v hi9) (fun k => ksN wf (kGv c1) (kLk c1) k (z k)) hN hW hsf hF hfl _) (va_cwS 3 hts gL_law_L_areChoicesSo rfl rfl rfl (by decide +kernel) ⟨Nat.le_of_ble_eq_true rfl, Nat.le_of_ble_eq_true rfl⟩) (kp_OS hP hD hK hX hZ hS hA) rfl rfl hl.1 rfl (lv_room (Nat.le_of_ble_eq_true rfl)) dL_law_174 ⟨(show (60) + 480 * i + 3 + 3 + 70 + 1 + 188 + 1 + 91 + 120 ≤ 675454 from by omega), (show (6000) + 2880 * i + 18 + 18 + 420 + 6 + 1128 + 6 + 546 + 720 ≤ 7075105 from by omega)⟩) hP hD hS hA (fun E ce q9 H locs hE hP hS hcell hv hcl => hE.elim) (fun r_174 u9 H locs er_174 hP hD hS => ?_)
            have hP : va_P D vwCl ((oW cI a1 c1 u9.1 ++ [(w, .inl (cI, 8, .inl u9.2))]) ++ (oW cI a2 c1 y)) H := hP
            have hD : va_D _ ((oW cI a1 c1 u9.1 ++ [(w, .inl (cI, 8, .inl u9.2))]) ++ (oW cI a2 c1 y)) := hD
            have hP := kP_q hP
            have hD := kD_q hD
            have hP : va_P D vwCl (oW cI a1 c1 u9.1 ++ (oW cI a2 c1 y ++ [(w, .inl (cI, 8, .inl u9.2))])) H := hP
            have hD : va_D _ (oW cI a1 c1 u9.1 ++ (oW cI a2 c1 y ++ [(w, .inl (cI, 8, .inl u9.2))])) := hD
            have er_174 : r_174 = 1 := er_174
            rw [er_174]
            refine lv_if_ne (tgt := 182) hx hb dL_law_177 (by decide) (fun _ => ?_) (fun hc => absurd hc (by decide))
            refine lv_iinc (v := nI (i + 1)) (lv' := [(4, .int (nI (i + 1))), (9, .int 1), (8, .int (nI i8)), (7, .int (nI i7)), (6, .int ((kAct c r_34).1)), (5, .int r_34), (0, .ref b), (1, .ref (a1 0)), (2, .ref (a2 0)), (3, .ref w)]) hx hb dL_law_182 hl (k := 9) rfl (nI_1 _) (by decide) rfl (fun ls hl => ?_)
            refine lv_goto (tgt := 24) hx hb dL_law_185 (by decide) ?_
            refine W.widen (k := (60) + 480 * (i + 1)) (n := (6000) + 2880 * (i + 1)) (by omega) (by omega) ?_
            exact ih24 _ _ _ ⟨c1, u9.1, y, u9.2, (hI1), hP, hD, hS, (lv_sub hl [6, 7, 8, 9, 0] rfl)⟩
  · skip
    intro H locs ls hJ
    obtain ⟨c, x, y, f, hI24, hP, hD, hS, hl⟩ := hJ
    refine lv_iload hx hb dL_law_24 (lv_at hl 4 rfl) ?_
    refine lv_bipush (v := 90) hx hb dL_law_26 (by decide) ?_
    refine lv_icmp_ge (tgt := 188) hx hb dL_law_28 (by decide) (fun _ => ?_) (fun hc => absurd (nI_le (Nat.le_refl 90) (by decide)) hc)
    refine lv_iconst (v := 1) hx hb dL_law_188 (by decide) ?_
    refine va_forget (fun q hq => hS.2.2 q hq) ?_
    refine W.widen (k := 675454) (n := 7075105) (by omega) (by omega) ?_
    exact lw_ret hx hb hr hlocks dL_law_189
