/-! p28: the law's small methods: low, bits, cell. -/
theorem kb_and2 (a b : Nat) : (a &&& b) / 2 = a / 2 &&& b / 2 := by
  apply Nat.eq_of_testBit_eq
  intro i
  rw [← Nat.testBit_add_one, Nat.testBit_and, Nat.testBit_and, Nat.testBit_add_one, Nat.testBit_add_one]
theorem kb_ct (x n : Nat) : kct x.testBit (n + 1) = (if x % 2 = 1 then 1 else 0) + kct (x / 2).testBit n := by
  rw [Nat.add_comm n 1, kct_add]
  have h1 : kct x.testBit 1 = if x % 2 = 1 then 1 else 0 := by
    show 0 + (if x.testBit 0 = true then 1 else 0) = _
    rw [Nat.testBit_zero, Nat.zero_add]
    by_cases e : x % 2 = 1
    · rw [if_pos (decide_eq_true e), if_pos e]
    · rw [if_neg (fun z => e (of_decide_eq_true z)), if_neg e]
  rw [h1, kct_c n (fun k _ => show x.testBit (1 + k) = (x / 2).testBit k by rw [Nat.add_comm 1 k, Nat.testBit_add_one])]
theorem kb_n : ∀ n m, 0 < m → m < 2 ^ n → kct (m &&& (m - 1)).testBit n + 1 = kct m.testBit n := by
  intro n
  induction n with
  | zero => intro m h1 h2; omega
  | succ n ih =>
    intro m h1 h2
    rw [kb_ct, kb_ct, kb_and2]
    have hlow : (m &&& (m - 1)) % 2 = 0 := by
      have h : (m &&& (m - 1)).testBit 0 = false := by
        rw [Nat.testBit_and, Nat.testBit_zero, Nat.testBit_zero]
        by_cases e : m % 2 = 1
        · rw [decide_eq_false (show ¬ (m - 1) % 2 = 1 by omega), Bool.and_false]
        · rw [decide_eq_false e, Bool.false_and]
      rw [Nat.testBit_zero] at h
      have := of_decide_eq_false h
      omega
    rw [if_neg (show ¬ (m &&& (m - 1)) % 2 = 1 by omega)]
    rw [Nat.pow_succ] at h2
    by_cases e : m % 2 = 1
    · rw [if_pos e, show (m - 1) / 2 = m / 2 by omega, Nat.and_self]
      omega
    · rw [if_neg e, show (m - 1) / 2 = m / 2 - 1 by omega]
      have := ih (m / 2) (by omega) (by omega)
      omega
theorem kb_x {x : Int32} (h : ¬ x = 0) : kcnt (x &&& (x - 1)) 32 + 1 = kcnt x 32 := by
  obtain ⟨m, hm, rfl⟩ := kp_of x
  have h0 : 0 < m := by
    rcases Nat.eq_zero_or_pos m with z | z
    · subst z; exact absurd rfl h
    · exact z
  have e : ∀ q, q < 2 ^ 32 → kcnt (nI q) 32 = kct q.testBit 32 := fun q _ => by
    rw [kcnt_c]
    exact kct_c 32 (fun k hk => kp_bt hk)
  rw [show (1 : Int32) = nI 1 from rfl, pk_sub h0, kp_ad, e m hm, e _ (Nat.lt_of_le_of_lt (Nat.and_le_left) hm)]
  exact kb_n 32 m h0 hm
set_option maxHeartbeats 4000000 in
set_option maxRecDepth 100000 in
theorem cw_bits (l : Launch) (D : va_G) (cI : ClassId) (z : Int32) : kc_R l yL_bits wsL_bits 0 0 D cI [.int z] [] (fun r => r = nI (kcnt z 32)) := by
  refine ks_R (cc := cL_bits) (nL := 3) (ret := (some .int)) (by decide) rfl (Nat.le_of_ble_eq_true rfl) ?_
  intro p e s m below meth c ls hF hP hK hS hA hl
  obtain ⟨hx, hb, hr, hml, hown, hts, hlocks⟩ := hF
  have hl : lv_has ls 3 [(0, .int z)] := hl
  refine lv_iconst (v := 0) hx hb dL_bits_0 (by decide) ?_
  refine lv_istore_n (lv' := [(1, .int 0), (0, .int z)]) hx hb dL_bits_1 rfl hl (by decide) rfl (fun ls hl => ?_)
  refine lv_iload_n hx hb dL_bits_2 rfl (lv_at hl 1 rfl) ?_
  refine lv_istore_n (lv' := [(2, .int z), (1, .int 0), (0, .int z)]) hx hb dL_bits_3 rfl hl (by decide) rfl (fun ls hl => ?_)
  refine kl_while (head := 4) (fun (x : Nat × Int32) (H : Heap) (locs : List Loc) (ls : Array Slot) => x.1 + kcnt x.2 32 = kcnt z 32 ∧ va_P D vwCl [] H ∧ va_S (va_A [] s.heap.size) s.heap H locs ∧ lv_has ls 3 [(2, .int x.2), (1, .int (nI x.1)), (0, .int z)]) (fun x => kcnt x.2 32) ?_ (0, z) ⟨Nat.zero_add _, hP, hS, hl⟩
  intro x H locs ls hI ih
  obtain ⟨h1, hP, hS, hl⟩ := hI
  refine lv_iload_n hx hb dL_bits_4 rfl (lv_at hl 0 rfl) ?_
  refine lv_if_eq (tgt := 20) hx hb dL_bits_5 (by decide) (fun c_5 => ?_) (fun c_5 => ?_)
  · refine lv_iload_n hx hb dL_bits_20 rfl (lv_at hl 1 rfl) ?_
    exact ke_R hx hb hr hlocks hS dL_bits_21 (by
      rw [c_5] at h1
      have : kcnt 0 32 = 0 := by decide +kernel
      rw [← h1, this]; rfl)
  · refine lv_iinc (v := nI (x.1 + 1)) (lv' := [(1, .int (nI (x.1 + 1))), (2, .int x.2), (0, .int z)]) hx hb dL_bits_8 hl (k := 1) rfl (nI_1 _) (by decide) rfl (fun ls hl => ?_)
    refine lv_iload_n hx hb dL_bits_11 rfl (lv_at hl 1 rfl) ?_
    refine lv_iload_n hx hb dL_bits_12 rfl (lv_at hl 1 rfl) ?_
    refine lv_iconst (v := 1) hx hb dL_bits_13 (by decide) ?_
    refine lv_isub hx hb dL_bits_14 ?_
    refine lv_iand hx hb dL_bits_15 ?_
    refine lv_istore_n (lv' := [(2, .int (x.2 &&& (x.2 - 1))), (1, .int (nI (x.1 + 1))), (0, .int z)]) hx hb dL_bits_16 rfl hl (by decide) rfl (fun ls hl => ?_)
    refine lv_goto (tgt := 4) hx hb dL_bits_17 (by decide) ?_
    have k := kb_x c_5
    exact ih (x.1 + 1, x.2 &&& (x.2 - 1)) _ _ _ (by show kcnt (x.2 &&& (x.2 - 1)) 32 < kcnt x.2 32; omega) ⟨by show x.1 + 1 + kcnt (x.2 &&& (x.2 - 1)) 32 = _; omega, hP, hS, hl⟩
set_option maxHeartbeats 4000000 in
set_option maxRecDepth 100000 in
theorem cw_low (l : Launch) (D : va_G) (cI : ClassId) (v n : Int32) (hn : ¬ n = 0) : kc_R l yL_low wsL_low 0 0 D cI [.int v, .int n] [] (fun r => r = klow v n) := by
  refine ks_R (cc := cL_low) (nL := 2) (ret := (some .int)) (by decide) rfl (Nat.le_of_ble_eq_true rfl) ?_
  intro p e s m below meth c ls hF hP hK hS hA hl
  obtain ⟨hx, hb, hr, hml, hown, hts, hlocks⟩ := hF
  have hown : s.vm.findClass RL = some m.cls := hown
  have hl : lv_has ls 2 [(0, .int v), (1, .int n)] := hl
  refine lv_iload_n hx hb dL_low_0 rfl (lv_at hl 0 rfl) ?_
  refine lv_ldc (v := 2147483647) hx hb hown (hts (.constant RL 7 (2147483647)) (List.mem_of_getElem? (i := 1) rfl)) dL_low_1 ?_
  refine lv_iand hx hb dL_low_3 ?_
  refine lv_iload_n hx hb dL_low_4 rfl (lv_at hl 1 rfl) ?_
  refine lv_irem hx hb dL_low_5 hn ?_
  exact ke_R hx hb hr hlocks hS dL_low_6 rfl
def kp_C (b L sz : Nat) (xs : Nat → Int32) (k : Int32) : Array Value → State → Prop := va_Pc [.ref b, .int k] (fun U => U.heap.size = sz ∧ b < sz ∧ va_X b L xs U U.heap)
theorem kp_CS {s : State} {H : Heap} {A : Nat → Prop} {locs : List Loc} {b L : Nat} {xs : Nat → Int32} {k : Int32} (hX : va_X b L xs s s.heap) (hbl : b < s.heap.size) (hbA : ¬ A b) (hS : va_S A s.heap H locs) : PreS s H (kp_C b L H.size xs k) [.ref b, .int k] :=
  ⟨fun a U g mk q => ⟨q.1, q.2.1, q.2.2.1, va_X.moved (u := U) (U := U.calling g mk a) (Vm.Alike.refl U.vm) q.2.2.2⟩, fun U hU hW => ⟨rfl, by rw [hU], Nat.lt_of_lt_of_le hbl hS.1, by rw [hU]; exact (va_X.moved hW.alike hX).kept (hS.2.1 b hbl hbA)⟩⟩
set_option maxHeartbeats 4000000 in
set_option maxRecDepth 100000 in
theorem cw_cell (l : Launch) (b L k : Nat) (xs : Nat → Int32) (hL : L < 2 ^ 31) (hk : k < 2 ^ 31) (sz : Nat) : Met l yL_cell wsL_cell (kr_m 0 0) (kp_C b L sz xs (nI k)) (va_Qi (fun (_ : Int32) (_ : Unit) => True) (fun _ _ => True) (va_A [] sz)) 0 0 (va_A [] sz) := by
  refine Met.ofW (cc := cL_cell) (maxL := 2) (ret := some .int) (by decide) rfl ?_
  intro p e s m args below meth c s₁ B hml hv
  obtain ⟨rfl, hsz, hbl, hX⟩ := hv
  subst hsz
  have hl := lv_entry [.ref b, .int (nI k)] (n := 2) (Nat.le_of_ble_eq_true rfl)
  rw [lg_entry_eq]
  have hx := B.exec
  have hb := B.bytes
  have hr := B.returns
  have hlocks := B.notSynchronized
  have hS : va_S (va_A [] s.heap.size) s.heap s.heap [] := va_S.rf
  have hbA : ¬ va_A [] s.heap.size b := kx_A0 hbl
  generalize ([Value.ref b, .int (nI k)] : List Value).toArray = as9 at *
  have hl : lv_has _ 2 [(0, .ref b), (1, .int (nI k))] := hl
  refine lv_iload_n hx hb dL_cell_0 rfl (lv_at hl 1 rfl) ?_
  refine lv_aload_n hx hb dL_cell_1 rfl (lv_at hl 0 rfl) ?_
  refine va_slen hx hb hX hbl hbA hS dL_cell_2 ?_
  refine lv_icmp_ge (tgt := 12) hx hb dL_cell_3 (by decide) (fun c_3 => ?_) (fun c_3 => ?_)
  · refine lv_sipush (v := 7919) hx hb dL_cell_12 (by decide) ?_
    refine lv_iload_n hx hb dL_cell_15 rfl (lv_at hl 1 rfl) ?_
    refine lv_sipush (v := 443) hx hb dL_cell_16 (by decide) ?_
    refine lv_iadd hx hb dL_cell_19 ?_
    refine lv_imul hx hb dL_cell_20 ?_
    refine lv_iload_n hx hb dL_cell_21 rfl (lv_at hl 1 rfl) ?_
    refine lv_sipush (v := 1439) hx hb dL_cell_22 (by decide) ?_
    refine lv_iadd hx hb dL_cell_25 ?_
    refine lv_imul hx hb dL_cell_26 ?_
    exact ke_R hx hb hr hlocks hS dL_cell_27 trivial
  · refine lv_aload_n hx hb dL_cell_6 rfl (lv_at hl 0 rfl) ?_
    refine lv_iload_n hx hb dL_cell_7 rfl (lv_at hl 1 rfl) ?_
    have hkL : k < L := by
      rcases Nat.lt_or_ge k L with z | z
      · exact z
      · exact absurd (nI_le z hk) c_3
    refine va_sld hx hb hX hbl hbA hS (vp_in_nI hkL hL) dL_cell_8 ?_
    refine lv_goto (tgt := 27) hx hb dL_cell_9 (by decide) ?_
    exact ke_R hx hb hr hlocks hS dL_cell_27 trivial
