def R_law : String := "SenseNetLaw"
def lw_P (b : Addr) (xs : List Int32) (args : Array Value) (s : State) : Prop := args = #[.ref b] ∧ s.IntsAt b xs ∧ xs.length ≤ 2048 ∧ (Jvm.Cond.and given_1 narrow_1).before args s = true
def lw_Q (_ : Array Value) (s : State) (o : Outcome) (t : State) : Prop := o = .returned (some (.int 1)) ∧ Framed s o t [] 601024 7293034
def lw_Z (below : List Frame) (a : Array Value) (s : State) : State → Prop := fun t => ∃ o, t.status = .running ∧ Ended t below o ∧ lw_Q a s o t
/-- the law's own end, with 1 on the stack, nothing written that was there before, its room as the claim has it -/
theorem lw_ret {p : Program} {l : Launch} {e : Env} {s : State} {m : MethodId} {below : List Frame} {meth : Method} {c : Code} {b : Nat} (hx : p.tables.exec = Jvm.exec) (hb : c.code = code) (hr : meth.sig.returnType = ret) (hlocks : meth.locks = false) {pc : Nat} {H : Heap} {ls : Array Slot} (hdg : decode code pc = .ok (.ireturn, 1)) : W p l e room_1 s m #[Value.ref b] below meth c H [] 601024 7293034 (lw_Z below #[Value.ref b] s) (F0 m pc ls [.int 1]) := by
  intro T hT X
  obtain ⟨fs, hret, hrun, hended, hW, hframe⟩ := X.leave (v := some (.int 1)) (hlocks := hlocks) (fun h => by rw [hr] at h; cases h)
  have hmeth' : T.vm.method? m = some meth := X.method'
  refine ⟨T.setFrames fs, ?_, .returned (some (.int 1)), hrun, hended, rfl, ⟨_, rfl⟩, hW, hframe⟩
  jvm_step X.here [X.here.top, hx, hb, hdg, hmeth', hr, ret, narrow_b1]
  (try refine ⟨rfl, ?_⟩); (try refine ⟨rfl, ?_⟩)
  first | (intro acts; rw [hret _ acts rfl rfl rfl]) | rw [hret _ _ rfl rfl rfl]
  exact Steps.refl _
/-- what holds at the law's entry: the machine, the code, the tables' words (any of lw_tbl by 'hts w (by decide +kernel)'), the script of L ints xs at the cell b, what the Statement gives of the start (any of its parts by flat_of_before) -/
def lw_At (p : Program) (s : State) (m : MethodId) (meth : Method) (c : Code) (b L : Nat) (xs : Nat → Int32) : Prop :=
  p.tables.exec = Jvm.exec ∧ c.code = code ∧ meth.sig.returnType = ret ∧ c.maxLocals = 7 ∧ s.vm.findClass R_law = some m.cls ∧ (∀ w ∈ lw_tbl, w.before #[Value.ref b] s = true) ∧ va_X b L xs s s.heap ∧ b < s.heap.size ∧ meth.locks = false ∧ (Jvm.Cond.and given_1 narrow_1).before #[Value.ref b] s = true
theorem kLI_f {D : va_G} {cI cL : ClassId} {s : State} {b x0 h0 w0 o0 h2 h3 h4 h5 h6 h7 h8 w2 w3 w4 w5 o2 o3 o4 o5 o6 o7 ou m0 m3 m4 m5 m6 m7 m9 m11 m12 m13 m14 i : Nat} {H : Heap} {locs : List Loc} {ls : Array Slot} (h : kLI D cI cL s b x0 h0 w0 o0 h2 h3 h4 h5 h6 h7 h8 w2 w3 w4 w5 o2 o3 o4 o5 o6 o7 ou m0 m3 m4 m5 m6 m7 m9 m11 m12 m13 m14 i H locs ls) : va_S (fun q : Nat => s.heap.size ≤ q) s.heap H locs ∧ lv_has ls 7 [(0, .ref b), (1, .ref x0), (2, .ref m0), (3, .ref ou), (4, .int (nI i))] := by
  obtain ⟨A, Wn, Pn, cn, rk, nf, wf, ad, pr, ps, cs, cv, ms, dp, sx, wk, kn, pl, gv, sz, lk, se, cp, cb, zs, op, al, ho, pk, bp, th, pa, up, li, td, be, lo, hN, hW, hP, hD, hS, hl⟩ := h
  exact ⟨hS, hl⟩
theorem kLI_g {D : va_G} {cI cL : ClassId} {s : State} {b x0 h0 w0 o0 h2 h3 h4 h5 h6 h7 h8 w2 w3 w4 w5 o2 o3 o4 o5 o6 o7 ou m0 m3 m4 m5 m6 m7 m9 m11 m12 m13 m14 i i2 : Nat} {H : Heap} {locs : List Loc} {ls ls2 : Array Slot} (h : kLI D cI cL s b x0 h0 w0 o0 h2 h3 h4 h5 h6 h7 h8 w2 w3 w4 w5 o2 o3 o4 o5 o6 o7 ou m0 m3 m4 m5 m6 m7 m9 m11 m12 m13 m14 i H locs ls) (hl2 : lv_has ls2 7 [(0, .ref b), (1, .ref x0), (2, .ref m0), (3, .ref ou), (4, .int (nI i2))]) : kLI D cI cL s b x0 h0 w0 o0 h2 h3 h4 h5 h6 h7 h8 w2 w3 w4 w5 o2 o3 o4 o5 o6 o7 ou m0 m3 m4 m5 m6 m7 m9 m11 m12 m13 m14 i2 H locs ls2 := by
  obtain ⟨A, Wn, Pn, cn, rk, nf, wf, ad, pr, ps, cs, cv, ms, dp, sx, wk, kn, pl, gv, sz, lk, se, cp, cb, zs, op, al, ho, pk, bp, th, pa, up, li, td, be, lo, hN, hW, hP, hD, hS, hl⟩ := h
  exact ⟨A, Wn, Pn, cn, rk, nf, wf, ad, pr, ps, cs, cv, ms, dp, sx, wk, kn, pl, gv, sz, lk, se, cp, cb, zs, op, al, ho, pk, bp, th, pa, up, li, td, be, lo, hN, hW, hP, hD, hS, hl2⟩
theorem kw_cmp {i L : Nat} (hL : L ≤ 2048) (hi : i ≤ L) : (Int32.ofNat L - 4 < nI i) ↔ L < i + 4 := by
  have h4 : (4 : Int32).toInt = 4 := by decide
  have h : (Int32.ofNat L - 4).toInt = (L : Int) - 4 := by
    rw [Int32.toInt_sub, show (Int32.ofNat L).toInt = (L : Int) from nI_toInt (by omega), h4]
    exact Int.bmod_eq_of_le (by omega) (by omega)
  rw [Int32.lt_iff_toInt_lt, h, nI_toInt (by omega)]
  omega
set_option maxHeartbeats 4000000 in
set_option maxRecDepth 100000 in
/-- the loop of the law -/
theorem kc_loop {p : Program} {e : Env} {s : State} {m : MethodId} {below : List Frame} {meth : Method} {c : Code} (l : Launch) (hfl : l.stackTraces = false) {D : va_G} {cI cL : ClassId} {b L : Nat} {xs : Nat → Int32} {x0 h0 w0 o0 h2 h3 h4 h5 h6 h7 h8 w2 w3 w4 w5 o2 o3 o4 o5 o6 o7 ou m0 m3 m4 m5 m6 m7 m9 m11 m12 m13 m14 : Nat} (C0 : kLA p s m meth c b L xs D cI cL) : ∀ (n i cells slots : Nat), L < i + 4 * n → i ≤ L → cells + 3 * n ≤ 601024 → slots + 18 * n ≤ 7293034 → ∀ (H : Heap) (locs : List Loc) (ls : Array Slot), kLI D cI cL s b x0 h0 w0 o0 h2 h3 h4 h5 h6 h7 h8 w2 w3 w4 w5 o2 o3 o4 o5 o6 o7 ou m0 m3 m4 m5 m6 m7 m9 m11 m12 m13 m14 i H locs ls → W p l e room_1 s m #[Value.ref b] below meth c H locs cells slots (lw_Z below #[Value.ref b] s) (F0 m 23 ls []) := by
  have hx := C0.1
  have hb := C0.2.1
  have hr := C0.2.2.1
  have hlocks := C0.2.2.2.2.2.2.1
  have hXs := C0.2.2.2.2.2.2.2.2.2.2.2.1
  have hbl := C0.2.2.2.2.2.2.2.2.2.2.2.2.1
  have hL8 := C0.2.2.2.2.2.2.2.2.2.2.2.2.2
  have hbA : ¬ (fun q : Nat => s.heap.size ≤ q) b := Nat.not_le.mpr hbl
  intro n
  induction n with
  | zero => intro i cells slots q1 q2; exact absurd q1 (by omega)
  | succ n ih =>
    intro i cells slots q1 q2 q3 q5 H locs ls hI
    obtain ⟨hS, hl⟩ := kLI_f hI
    refine lv_iload hx hb dL_law_23 (lv_at hl 4 rfl) ?_
    refine lv_aload_n hx hb dL_law_25 rfl (lv_at hl 0 rfl) ?_
    refine va_slen hx hb hXs hbl hbA hS dL_law_26 ?_
    refine lv_iconst (v := 4) hx hb dL_law_27 (by decide) ?_
    refine lv_isub hx hb dL_law_28 ?_
    refine lv_icmp_gt (tgt := 1537) hx hb dL_law_29 (by decide) (fun hc => ?_) (fun hc => ?_)
    · refine lv_iconst (v := 1) hx hb dL_law_1537 (by decide) ?_
      refine va_forget (fun q hq => hS.2.2 q hq) ?_
      refine W.widen (k := 601024) (n := 7293034) (by omega) (by omega) ?_
      exact lw_ret hx hb hr hlocks dL_law_1538
    have q4 : i + 4 ≤ L := by
      rcases Nat.lt_or_ge L (i + 4) with q | q
      · exact absurd ((kw_cmp hL8 q2).mpr q) hc
      · exact q
    have kk : ∀ (H : Heap) (locs : List Loc) (ls : Array Slot), kLI D cI cL s b x0 h0 w0 o0 h2 h3 h4 h5 h6 h7 h8 w2 w3 w4 w5 o2 o3 o4 o5 o6 o7 ou m0 m3 m4 m5 m6 m7 m9 m11 m12 m13 m14 i H locs ls → W p l e room_1 s m #[Value.ref b] below meth c H locs (cells + 3) (slots + 18) (lw_Z below #[Value.ref b] s) (F0 m 1531 ls []) := by
      intro H locs ls hI
      obtain ⟨hS, hl⟩ := kLI_f hI
      refine lv_iinc (v := nI (i + 4)) (lv' := [(4, .int (nI (i + 4))), (0, .ref b), (1, .ref x0), (2, .ref m0), (3, .ref ou)]) hx hb dL_law_1531 hl (k := 4) rfl (nI_add i 4) (by decide) rfl (fun ls hl => ?_)
      refine lv_goto (tgt := 23) hx hb dL_law_1534 (by decide) ?_
      exact ih (i + 4) (cells + 3) (slots + 18) (by omega) q4 (by omega) (by omega) H locs ls (kLI_g hI (lv_sub hl [1, 2, 3, 4, 0] rfl))
    refine lv_aload_n hx hb dL_law_32 rfl (lv_at hl 0 rfl) ?_
    refine lv_iload hx hb dL_law_33 (lv_at hl 4 rfl) ?_
    refine va_sld hx hb hXs hbl hbA hS (vp_in_nI (show i < L by omega) (by omega)) dL_law_35 ?_
    refine lv_bipush (v := 31) hx hb dL_law_36 (by decide) ?_
    refine lv_iand hx hb dL_law_38 ?_
    obtain ⟨j, hj, ej⟩ := vp_in_of (pk_andIn (xs (nI i).toNatClampNeg) (m := 31) 5 (by decide) (by decide)) (by decide)
    refine kx_top ej ?_
    have hj : j < 32 := hj
    clear ej
    rcases (show j = 0 ∨ j = 1 ∨ j = 2 ∨ j = 3 ∨ j = 4 ∨ j = 5 ∨ j = 6 ∨ j = 7 ∨ j = 8 ∨ j = 9 ∨ j = 10 ∨ j = 11 ∨ j = 12 ∨ j = 13 ∨ j = 14 ∨ j = 15 ∨ j = 16 ∨ j = 17 ∨ j = 18 ∨ j = 19 ∨ j = 20 ∨ j = 21 ∨ j = 22 ∨ j = 23 ∨ j = 24 ∨ j = 25 ∨ j = 26 ∨ j = 27 ∨ j = 28 ∨ j = 29 ∨ j = 30 ∨ j = 31 by omega) with rfl | rfl | rfl | rfl | rfl | rfl | rfl | rfl | rfl | rfl | rfl | rfl | rfl | rfl | rfl | rfl | rfl | rfl | rfl | rfl | rfl | rfl | rfl | rfl | rfl | rfl | rfl | rfl | rfl | rfl | rfl | rfl
    · exact lv_tableIn (tgt := 152) (off := 113) hx hb dL_law_39 (by decide +kernel) (by decide +kernel) (by decide +kernel) (by decide +kernel) (kc_law_addSense l hfl C0 q4 (by omega) (by omega) hI kk)
    · exact lv_tableIn (tgt := 196) (off := 157) hx hb dL_law_39 (by decide +kernel) (by decide +kernel) (by decide +kernel) (by decide +kernel) (kc_law_link l hfl C0 q4 (by omega) (by omega) hI kk)
    · exact lv_tableIn (tgt := 264) (off := 225) hx hb dL_law_39 (by decide +kernel) (by decide +kernel) (by decide +kernel) (by decide +kernel) (kc_law_unlink l hfl C0 q4 (by omega) (by omega) hI kk)
    · exact lv_tableIn (tgt := 332) (off := 293) hx hb dL_law_39 (by decide +kernel) (by decide +kernel) (by decide +kernel) (by decide +kernel) (kc_law_remove l hfl C0 q4 (by omega) (by omega) hI kk)
    · exact lv_tableIn (tgt := 388) (off := 349) hx hb dL_law_39 (by decide +kernel) (by decide +kernel) (by decide +kernel) (by decide +kernel) (kc_law_setCount l hfl C0 q4 (by omega) (by omega) hI kk)
    · exact lv_tableIn (tgt := 456) (off := 417) hx hb dL_law_39 (by decide +kernel) (by decide +kernel) (by decide +kernel) (by decide +kernel) (kc_law_addWord l hfl C0 q4 (by omega) (by omega) hI kk)
    · exact lv_tableIn (tgt := 500) (off := 461) hx hb dL_law_39 (by decide +kernel) (by decide +kernel) (by decide +kernel) (by decide +kernel) (kc_law_give l hfl C0 q4 (by omega) (by omega) hI kk)
    · exact lv_tableIn (tgt := 568) (off := 529) hx hb dL_law_39 (by decide +kernel) (by decide +kernel) (by decide +kernel) (by decide +kernel) (kc_law_take l hfl C0 q4 (by omega) (by omega) hI kk)
    · exact lv_tableIn (tgt := 636) (off := 597) hx hb dL_law_39 (by decide +kernel) (by decide +kernel) (by decide +kernel) (by decide +kernel) (kc_law_lock l hfl C0 q4 (by omega) (by omega) hI kk)
    · exact lv_tableIn (tgt := 704) (off := 665) hx hb dL_law_39 (by decide +kernel) (by decide +kernel) (by decide +kernel) (by decide +kernel) (kc_law_say l hfl C0 q4 (by omega) (by omega) hI kk)
    · exact lv_tableIn (tgt := 760) (off := 721) hx hb dL_law_39 (by decide +kernel) (by decide +kernel) (by decide +kernel) (by decide +kernel) (kc_law_hush l hfl C0 q4 (by omega) (by omega) hI kk)
    · exact lv_tableIn (tgt := 773) (off := 734) hx hb dL_law_39 (by decide +kernel) (by decide +kernel) (by decide +kernel) (by decide +kernel) (kc_law_senses l hfl C0 q4 (by omega) (by omega) hI kk)
    · exact lv_tableIn (tgt := 786) (off := 747) hx hb dL_law_39 (by decide +kernel) (by decide +kernel) (by decide +kernel) (by decide +kernel) (kc_law_parents l hfl C0 q4 (by omega) (by omega) hI kk)
    · exact lv_tableIn (tgt := 842) (off := 803) hx hb dL_law_39 (by decide +kernel) (by decide +kernel) (by decide +kernel) (by decide +kernel) (kc_law_above l hfl C0 q4 (by omega) (by omega) hI kk)
    · exact lv_tableIn (tgt := 898) (off := 859) hx hb dL_law_39 (by decide +kernel) (by decide +kernel) (by decide +kernel) (by decide +kernel) (kc_law_below l hfl C0 q4 (by omega) (by omega) hI kk)
    · exact lv_tableIn (tgt := 954) (off := 915) hx hb dL_law_39 (by decide +kernel) (by decide +kernel) (by decide +kernel) (by decide +kernel) (kc_law_mass l hfl C0 q4 (by omega) (by omega) hI kk)
    · exact lv_tableIn (tgt := 1010) (off := 971) hx hb dL_law_39 (by decide +kernel) (by decide +kernel) (by decide +kernel) (by decide +kernel) (kc_law_massByWalks l hfl C0 q4 (by omega) (by omega) hI kk)
    · exact lv_tableIn (tgt := 1066) (off := 1027) hx hb dL_law_39 (by decide +kernel) (by decide +kernel) (by decide +kernel) (by decide +kernel) (kc_law_depth l hfl C0 q4 (by omega) (by omega) hI kk)
    · exact lv_tableIn (tgt := 1122) (off := 1083) hx hb dL_law_39 (by decide +kernel) (by decide +kernel) (by decide +kernel) (by decide +kernel) (kc_law_shared l hfl C0 q4 (by omega) (by omega) hI kk)
    · exact lv_tableIn (tgt := 1190) (off := 1151) hx hb dL_law_39 (by decide +kernel) (by decide +kernel) (by decide +kernel) (by decide +kernel) (kc_law_distance l hfl C0 q4 (by omega) (by omega) hI kk)
    · exact lv_tableIn (tgt := 1258) (off := 1219) hx hb dL_law_39 (by decide +kernel) (by decide +kernel) (by decide +kernel) (by decide +kernel) (kc_law_likeness l hfl C0 q4 (by omega) (by omega) hI kk)
    · exact lv_tableIn (tgt := 1338) (off := 1299) hx hb dL_law_39 (by decide +kernel) (by decide +kernel) (by decide +kernel) (by decide +kernel) (kc_law_choices l hfl C0 q4 (by omega) (by omega) hI kk)
    · exact lv_tableIn (tgt := 1351) (off := 1312) hx hb dL_law_39 (by decide +kernel) (by decide +kernel) (by decide +kernel) (by decide +kernel) (kc_law_bestWorth l hfl C0 q4 (by omega) (by omega) hI kk)
    · exact lv_tableIn (tgt := 1407) (off := 1368) hx hb dL_law_39 (by decide +kernel) (by decide +kernel) (by decide +kernel) (by decide +kernel) (kc_law_greatestWorth l hfl C0 q4 (by omega) (by omega) hI kk)
    · exact lv_tableIn (tgt := 1463) (off := 1424) hx hb dL_law_39 (by decide +kernel) (by decide +kernel) (by decide +kernel) (by decide +kernel) (kc_law_chosen l hfl C0 q4 (by omega) (by omega) hI kk)
    · exact lv_tableOut (tgt := 1531) hx hb dL_law_39 (by decide +kernel) (by decide +kernel) (W.widen (k := cells + 3) (n := slots + 18) (by omega) (by omega) (kk _ _ _ hI))
    · exact lv_tableOut (tgt := 1531) hx hb dL_law_39 (by decide +kernel) (by decide +kernel) (W.widen (k := cells + 3) (n := slots + 18) (by omega) (by omega) (kk _ _ _ hI))
    · exact lv_tableOut (tgt := 1531) hx hb dL_law_39 (by decide +kernel) (by decide +kernel) (W.widen (k := cells + 3) (n := slots + 18) (by omega) (by omega) (kk _ _ _ hI))
    · exact lv_tableOut (tgt := 1531) hx hb dL_law_39 (by decide +kernel) (by decide +kernel) (W.widen (k := cells + 3) (n := slots + 18) (by omega) (by omega) (kk _ _ _ hI))
    · exact lv_tableOut (tgt := 1531) hx hb dL_law_39 (by decide +kernel) (by decide +kernel) (W.widen (k := cells + 3) (n := slots + 18) (by omega) (by omega) (kk _ _ _ hI))
    · exact lv_tableOut (tgt := 1531) hx hb dL_law_39 (by decide +kernel) (by decide +kernel) (W.widen (k := cells + 3) (n := slots + 18) (by omega) (by omega) (kk _ _ _ hI))
    · exact lv_tableOut (tgt := 1531) hx hb dL_law_39 (by decide +kernel) (by decide +kernel) (W.widen (k := cells + 3) (n := slots + 18) (by omega) (by omega) (kk _ _ _ hI))
