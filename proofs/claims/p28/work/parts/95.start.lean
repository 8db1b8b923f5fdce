set_option maxHeartbeats 4000000 in
set_option maxRecDepth 100000 in
/-- the law, from its entry -/
theorem whole_start {p : Program} {e : Env} {s : State} {m : MethodId} {below : List Frame} {meth : Method} {c : Code} (l : Launch) (hflags : l.flags = flags0) {b L : Nat} {xs : Nat → Int32} (hL : L ≤ 260) (C0 : lw_At p s m meth c b L xs) : W p l e room_1 s m #[Value.ref b] below meth c s.heap [] 0 0 (lw_Z below #[Value.ref b] s) (entryFrame m ([Value.ref b] : List Value).toArray 10) := by
  obtain ⟨hx, hb, hr, hml, hown, htl, hXs, hbl, hlocks, hgv⟩ := C0
  have hown : s.vm.findClass RL = some m.cls := hown
  have hq : ∀ w ∈ tables_1, w.before #[Value.ref b] s = true := fun w h => htl w (List.mem_append_right _ h)
  have hg : ∀ w ∈ flatC (Jvm.Cond.and given_1 narrow_1), w.before #[Value.ref b] s = true := flat_of_before _ hgv
  have hfl : l.stackTraces = false := kw_fl hflags
  have hts : ∀ w ∈ wsL_law, w.before #[Value.ref b] s = true := fun w h => htl w (wsL_law_in w h)
  obtain ⟨D, hKc⟩ := kw_D htl hq
  obtain ⟨cI, hAr, hRA⟩ := kw_arr (hq (.arrayClass .int) (List.mem_of_getElem? (i := 57) (by decide +kernel)))
  have hK : kk_K D cI s := ⟨⟨hKc, fun k q hk => match k, hk with | 0, hk => (by cases hk; exact ⟨hAr, hRA⟩) | k + 1, hk => (by simp at hk)⟩, kw_n hq⟩
  have hX : kx_s s := kw_s hq hg
  have hZ : kx_z (fun q : Nat => s.heap.size ≤ q) s s.heap := kw_z hq hg
  have hA : ∀ q : Nat, s.heap.size ≤ q → (fun q : Nat => s.heap.size ≤ q) q := fun _ h => h
  have hS : va_S (fun q : Nat => s.heap.size ≤ q) s.heap s.heap [] := va_S.rf
  have hP : va_P D vwCl [] s.heap := fun k q h => by simp at h
  have hD : va_D (fun q : Nat => s.heap.size ≤ q) [] := ⟨fun i j p q h => by simp at h, fun k q h => by simp at h⟩
  have hl := lv_entry ([.ref b]) (n := 10) (Nat.le_of_ble_eq_true rfl)
  rw [lg_entry_eq]
  generalize (lg_sl ([.ref b]) ++ List.replicate (10 - (lg_sl ([.ref b])).length) Slot.unset).toArray = ls at hl ⊢
  have hl : lv_has ls 10 [(0, .ref b)] := hl
  refine va_new (D := D) (ci := 3) (C := RX3) (T := TX3) (N := 3) hx hb hts inlX3 tyX3 tyX3_ok hown (hq (.classLink RL 9 RX3) (List.mem_of_getElem? (i := 13) (by decide +kernel))) (hq (.instantiable RX3 3) (List.mem_of_getElem? (i := 14) (by decide +kernel))) (hq (.initialized RX3) (List.mem_of_getElem? (i := 1) (by decide +kernel))) hK.1 hP hD hS hA rfl (fs := [.null, .null, .null]) (fun j hj => match j, hj with | 0, _ => rfl | 1, _ => rfl | 2, _ => rfl | (n + 3), h => absurd h (by omega)) (Nat.le_of_ble_eq_true rfl) (Nat.le_of_ble_eq_true rfl) dL_law_0 (fun x0 H hP hD hS => ?_)
  have hP : va_P D vwCl [(x0, .inr (3, [.null, .null, .null]))] H := hP
  have hD : va_D (fun q : Nat => s.heap.size ≤ q) [(x0, .inr (3, [.null, .null, .null]))] := hD
  refine lv_dup hx hb dL_law_3 rfl ?_
  refine kq_I (wr := []) (va_runI (As := []) (rest := [.ref x0]) ⟨hx, hb, hml, hown, hts⟩ (c_X3_init l D cI x0 _) (cwI 0 hts gL_law_X3_init rfl rfl rfl (hq (.initialized RX3) (List.mem_of_getElem? (i := 1) (by decide +kernel))) (hq (.methodLink RL 131 yX3_init) (List.mem_of_getElem? (i := 15) (by decide +kernel))) (hq (.instanceMethod yX3_init) (List.mem_of_getElem? (i := 16) (by decide +kernel))) rfl (by decide +kernel) ⟨Nat.le_of_ble_eq_true rfl, Nat.le_of_ble_eq_true rfl⟩) (kp_WS hP hD hK) rfl rfl hl.1 rfl (lv_room (Nat.le_of_ble_eq_true rfl)) dL_law_4 ⟨Nat.le_of_ble_eq_true rfl, Nat.le_of_ble_eq_true rfl⟩) hP hD hS hA [0] [] rfl rfl (by decide) (by decide) (fun u0 H locs hP hD hS => ?_)
  have hP : va_P D vwCl (oW cI (kA0 x0 u0) kC0 kX0) H := hP
  have hD : va_D (fun q : Nat => s.heap.size ≤ q) (oW cI (kA0 x0 u0) kC0 kX0) := hD
  refine lv_astore_n (lv' := [(1, .ref x0), (0, .ref b)]) hx hb dL_law_7 rfl hl (by decide) rfl (fun ls hl => ?_)
  refine va_new (D := D) (ci := 3) (C := RX3) (T := TX3) (N := 3) hx hb hts inlX3 tyX3 tyX3_ok hown (hq (.classLink RL 9 RX3) (List.mem_of_getElem? (i := 13) (by decide +kernel))) (hq (.instantiable RX3 3) (List.mem_of_getElem? (i := 14) (by decide +kernel))) (hq (.initialized RX3) (List.mem_of_getElem? (i := 1) (by decide +kernel))) hK.1 hP hD hS hA rfl (fs := [.null, .null, .null]) (fun j hj => match j, hj with | 0, _ => rfl | 1, _ => rfl | 2, _ => rfl | (n + 3), h => absurd h (by omega)) (Nat.le_of_ble_eq_true rfl) (Nat.le_of_ble_eq_true rfl) dL_law_8 (fun x1 H hP hD hS => ?_)
  have hP : va_P D vwCl ((oW cI (kA0 x0 u0) kC0 kX0) ++ [(x1, .inr (3, [.null, .null, .null]))]) H := hP
  have hD : va_D (fun q : Nat => s.heap.size ≤ q) ((oW cI (kA0 x0 u0) kC0 kX0) ++ [(x1, .inr (3, [.null, .null, .null]))]) := hD
  refine lv_dup hx hb dL_law_11 rfl ?_
  refine kq_I (wr := (oW cI (kA0 x0 u0) kC0 kX0)) (va_runI (As := []) (rest := [.ref x1]) ⟨hx, hb, hml, hown, hts⟩ (c_X3_init l D cI x1 _) (cwI 0 hts gL_law_X3_init rfl rfl rfl (hq (.initialized RX3) (List.mem_of_getElem? (i := 1) (by decide +kernel))) (hq (.methodLink RL 131 yX3_init) (List.mem_of_getElem? (i := 15) (by decide +kernel))) (hq (.instanceMethod yX3_init) (List.mem_of_getElem? (i := 16) (by decide +kernel))) rfl (by decide +kernel) ⟨Nat.le_of_ble_eq_true rfl, Nat.le_of_ble_eq_true rfl⟩) (kp_WS (kP_r hP) (kD_r hD) hK) rfl rfl hl.1 rfl (lv_room (Nat.le_of_ble_eq_true rfl)) dL_law_12 ⟨Nat.le_of_ble_eq_true rfl, Nat.le_of_ble_eq_true rfl⟩) hP hD hS hA [21] [0, 1, 2, 3, 4, 5, 6, 7, 8, 9, 10, 11, 12, 13, 14, 15, 16, 17, 18, 19, 20] rfl rfl (by decide) (by decide) (fun u1 H locs hP hD hS => ?_)
  have hP : va_P D vwCl ((oW cI (kA0 x0 u0) kC0 kX0) ++ (oW cI (kA0 x1 u1) kC0 kX0)) H := hP
  have hD : va_D (fun q : Nat => s.heap.size ≤ q) ((oW cI (kA0 x0 u0) kC0 kX0) ++ (oW cI (kA0 x1 u1) kC0 kX0)) := hD
  refine lv_astore_n (lv' := [(2, .ref x1), (1, .ref x0), (0, .ref b)]) hx hb dL_law_15 rfl hl (by decide) rfl (fun ls hl => ?_)
  refine lv_bipush (v := 8) hx hb dL_law_16 (by decide) ?_
  refine va_newa (atype := .int) hx hb (hq (.arrayClass .int) (List.mem_of_getElem? (i := 57) (by decide +kernel))) rfl hK.1 hP hD hS hA (N' := 8) (a0 := (8, .inl (fun _ => 0))) (fun _ => rfl) (by decide) rfl (Nat.le_of_ble_eq_true rfl) (Nat.le_of_ble_eq_true rfl) (Nat.le_of_ble_eq_true rfl) dL_law_18 (fun w cA H hKA hP hD hS => ?_)
  have eA : cI = cA := kcA hKA
  rw [← eA] at hP hD
  have hP := kP_sa (show va_P D vwCl (((oW cI (kA0 x0 u0) kC0 kX0) ++ (oW cI (kA0 x1 u1) kC0 kX0)) ++ [(w, .inl (cI, 8, .inl (fun _ => 0)))]) H from hP)
  have hD := kD_sa (show va_D (fun q : Nat => s.heap.size ≤ q) (((oW cI (kA0 x0 u0) kC0 kX0) ++ (oW cI (kA0 x1 u1) kC0 kX0)) ++ [(w, .inl (cI, 8, .inl (fun _ => 0)))]) from hD)
  refine lv_astore_n (lv' := [(3, .ref w), (2, .ref x1), (1, .ref x0), (0, .ref b)]) hx hb dL_law_20 rfl hl (by decide) rfl (fun ls hl => ?_)
  refine lv_iconst (v := nI 0) hx hb dL_law_21 (by decide) ?_
  refine lv_istore (lv' := [(4, .int (nI 0)), (3, .ref w), (2, .ref x1), (1, .ref x0), (0, .ref b)]) hx hb dL_law_22 hl (by decide) rfl (fun ls hl => ?_)
  have C1 : kLA p s m meth c b L xs D cI := ⟨hx, hb, hr, hml, hown, hts, hlocks, hK, hX, hZ, hXs, hbl, hL⟩
  refine W.widen (k := 60) (n := 6000) (Nat.le_of_ble_eq_true rfl) (Nat.le_of_ble_eq_true rfl) ?_
  exact kc_loop l hfl (kA0 x0 u0) (kA0 x1 u1) w kC0 kX0 kX0 (fun _ => 0) C1 kC0_i hP hD hS (lv_sub hl [4, 3, 2, 1, 0] rfl)
