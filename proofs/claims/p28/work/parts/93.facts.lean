/-! p28: what the start gives. -/
theorem kw_fl {l : Launch} (h : l.flags = flags0) : l.stackTraces = false := by
  unfold Launch.stackTraces
  rw [h]
  decide +kernel
theorem kw_arr {args : Array Value} {s : State} {ty : FieldType} (h : (Cond.arrayClass ty).before args s = true) : ∃ cA : ClassId, ArrOfT s cA ty ∧ s.vm.findClass ("[" ++ ty.toString) = some cA := by
  obtain ⟨cA, k, comp, h1, h2, h3⟩ := Cond.arrayClass_spec h
  exact ⟨cA, fun n z => ⟨fun k h => (by cases h), k, h2, comp, h3⟩, h1⟩
theorem kw_D {args : Array Value} {s : State} (htl : ∀ w ∈ lw_tbl, w.before args s = true) (hq : ∀ w ∈ tables_1, w.before args s = true) : ∃ D : va_G, ∀ (k : Nat) (q : vw_C), vwCl[k]? = some q → u_Kn s q.1 q.2.1 q.2.2 (D.1 k) (D.2 k) := by
  obtain ⟨c0, i0, h0⟩ := u_known (C := RX0) (T := TX0) (N := 8) (n := 8) htl inX0 (hq (.instantiable RX0 8) (List.mem_of_getElem? (i := 87) (by decide +kernel)))
  obtain ⟨c1, i1, h1⟩ := u_known (C := RX1) (T := TX1) (N := 9) (n := 9) htl inX1 (hq (.instantiable RX1 9) (List.mem_of_getElem? (i := 22) (by decide +kernel)))
  obtain ⟨c2, i2, h2⟩ := u_known (C := RX2) (T := TX2) (N := 6) (n := 6) htl inX2 (hq (.instantiable RX2 6) (List.mem_of_getElem? (i := 59) (by decide +kernel)))
  obtain ⟨c3, i3, h3⟩ := u_known (C := RX3) (T := TX3) (N := 3) (n := 3) htl inX3 (hq (.instantiable RX3 3) (List.mem_of_getElem? (i := 14) (by decide +kernel)))
  refine ⟨(fun k => if k = 0 then c0 else if k = 1 then c1 else if k = 2 then c2 else c3, fun k => if k = 0 then i0 else if k = 1 then i1 else if k = 2 then i2 else i3), ?_⟩
  intro k q hq
  match k, hq with
  | 0, hq => cases hq; exact h0
  | 1, hq => cases hq; exact h1
  | 2, hq => cases hq; exact h2
  | 3, hq => cases hq; exact h3
  | k + 4, hq => simp [vwCl] at hq
theorem kw_n {args : Array Value} {s : State} (hq : ∀ w ∈ tables_1, w.before args s = true) : kn_s s :=
  ⟨va_Nw.of rfl (hq (.methodLinkNest RX0 50 yX3_put RX3) (List.mem_of_getElem? (i := 629) (by decide +kernel))), va_Nw.of rfl (hq (.methodLinkNest RX0 58 yX3_at RX3) (List.mem_of_getElem? (i := 638) (by decide +kernel))), va_Nw.of rfl (hq (.methodLinkNest RX1 40 yX3_holds RX3) (List.mem_of_getElem? (i := 150) (by decide +kernel))), va_Nw.of rfl (hq (.methodLinkNest RX1 44 yX3_at RX3) (List.mem_of_getElem? (i := 228) (by decide +kernel))), va_Nw.of rfl (hq (.methodLinkNest RX1 54 yX3_bit RX3) (List.mem_of_getElem? (i := 262) (by decide +kernel))), va_Nw.of rfl (hq (.methodLinkNest RX1 60 yX3_put RX3) (List.mem_of_getElem? (i := 276) (by decide +kernel))), va_Nw.of rfl (hq (.methodLinkNest RX2 31 yX3_at RX3) (List.mem_of_getElem? (i := 392) (by decide +kernel))), va_Nw.of rfl (hq (.methodLinkNest RX2 43 yX3_put RX3) (List.mem_of_getElem? (i := 420) (by decide +kernel)))⟩
theorem kw_str {args : Array Value} {s : State} {k : Nat} {tx : String} (h1 : (Cond.stringRef RX3 k tx).before args s = true) (h2 : (Cond.exactly (.string RX3 k) "java/lang/String").before args s = true) : ∃ sa, vk_R RX3 k tx sa s := by
  obtain ⟨a, c, cell, kk, e, -⟩ := Cond.exactly_spec h2
  exact ⟨a, vk_R.of h1 e⟩
set_option maxRecDepth 20000 in
theorem kw_s0 {args : Array Value} {s : State} (hq : ∀ w ∈ tables_1, w.before args s = true) (hg : ∀ w ∈ flatC (Jvm.Cond.and given_1 narrow_1), w.before args s = true) : ∀ q ∈ kxs_, ∃ sa, vk_R RX3 q.1 q.2 sa s := List.forall_mem_cons.mpr ⟨kw_str (k := 36) (tx := "30 senses were added") (hq (.stringRef RX3 36 "30 senses were added") (List.mem_of_getElem? (i := 251) (by decide +kernel))) (hg (.exactly (.string RX3 36) "java/lang/String") (List.mem_of_getElem? (i := 41) (by decide +kernel))), List.forall_mem_cons.mpr ⟨kw_str (k := 53) (tx := "it is a parent already") (hq (.stringRef RX3 53 "it is a parent already") (List.mem_of_getElem? (i := 339) (by decide +kernel))) (hg (.exactly (.string RX3 53) "java/lang/String") (List.mem_of_getElem? (i := 93) (by decide +kernel))), List.forall_mem_cons.mpr ⟨kw_str (k := 59) (tx := "the sense has 4 parents") (hq (.stringRef RX3 59 "the sense has 4 parents") (List.mem_of_getElem? (i := 350) (by decide +kernel))) (hg (.exactly (.string RX3 59) "java/lang/String") (List.mem_of_getElem? (i := 122) (by decide +kernel))), List.forall_mem_cons.mpr ⟨kw_str (k := 64) (tx := "a sense would be above itself") (hq (.stringRef RX3 64 "a sense would be above itself") (List.mem_of_getElem? (i := 355) (by decide +kernel))) (hg (.exactly (.string RX3 64) "java/lang/String") (List.mem_of_getElem? (i := 153) (by decide +kernel))), List.forall_mem_cons.mpr ⟨kw_str (k := 70) (tx := "it is no parent of the sense") (hq (.stringRef RX3 70 "it is no parent of the sense") (List.mem_of_getElem? (i := 368) (by decide +kernel))) (hg (.exactly (.string RX3 70) "java/lang/String") (List.mem_of_getElem? (i := 191) (by decide +kernel))), List.forall_mem_cons.mpr ⟨kw_str (k := 79) (tx := "a word has the sense") (hq (.stringRef RX3 79 "a word has the sense") (List.mem_of_getElem? (i := 393) (by decide +kernel))) (hg (.exactly (.string RX3 79) "java/lang/String") (List.mem_of_getElem? (i := 229) (by decide +kernel))), List.forall_mem_cons.mpr ⟨kw_str (k := 84) (tx := "a sense would have more than 4 parents") (hq (.stringRef RX3 84 "a sense would have more than 4 parents") (List.mem_of_getElem? (i := 403) (by decide +kernel))) (hg (.exactly (.string RX3 84) "java/lang/String") (List.mem_of_getElem? (i := 260) (by decide +kernel))), List.forall_mem_cons.mpr ⟨kw_str (k := 91) (tx := "count is out of range") (hq (.stringRef RX3 91 "count is out of range") (List.mem_of_getElem? (i := 317) (by decide +kernel))) (hg (.exactly (.string RX3 91) "java/lang/String") (List.mem_of_getElem? (i := 66) (by decide +kernel))), List.forall_mem_cons.mpr ⟨kw_str (k := 100) (tx := "there are 10 words") (hq (.stringRef RX3 100 "there are 10 words") (List.mem_of_getElem? (i := 415) (by decide +kernel))) (hg (.exactly (.string RX3 100) "java/lang/String") (List.mem_of_getElem? (i := 310) (by decide +kernel))), List.forall_mem_cons.mpr ⟨kw_str (k := 109) (tx := "the word has the sense") (hq (.stringRef RX3 109 "the word has the sense") (List.mem_of_getElem? (i := 438) (by decide +kernel))) (hg (.exactly (.string RX3 109) "java/lang/String") (List.mem_of_getElem? (i := 367) (by decide +kernel))), List.forall_mem_cons.mpr ⟨kw_str (k := 114) (tx := "the word has 5 senses") (hq (.stringRef RX3 114 "the word has 5 senses") (List.mem_of_getElem? (i := 443) (by decide +kernel))) (hg (.exactly (.string RX3 114) "java/lang/String") (List.mem_of_getElem? (i := 404) (by decide +kernel))), List.forall_mem_cons.mpr ⟨kw_str (k := 119) (tx := "the word does not have the sense") (hq (.stringRef RX3 119 "the word does not have the sense") (List.mem_of_getElem? (i := 455) (by decide +kernel))) (hg (.exactly (.string RX3 119) "java/lang/String") (List.mem_of_getElem? (i := 441) (by decide +kernel))), List.forall_mem_cons.mpr ⟨kw_str (k := 124) (tx := "it is the only sense of a word of the sentence") (hq (.stringRef RX3 124 "it is the only sense of a word of the sentence") (List.mem_of_getElem? (i := 460) (by decide +kernel))) (hg (.exactly (.string RX3 124) "java/lang/String") (List.mem_of_getElem? (i := 490) (by decide +kernel))), List.forall_mem_cons.mpr ⟨kw_str (k := 135) (tx := "the sentence has 6 places") (hq (.stringRef RX3 135 "the sentence has 6 places") (List.mem_of_getElem? (i := 483) (by decide +kernel))) (hg (.exactly (.string RX3 135) "java/lang/String") (List.mem_of_getElem? (i := 554) (by decide +kernel))), List.forall_mem_cons.mpr ⟨kw_str (k := 137) (tx := "the word has no senses") (hq (.stringRef RX3 137 "the word has no senses") (List.mem_of_getElem? (i := 484) (by decide +kernel))) (hg (.exactly (.string RX3 137) "java/lang/String") (List.mem_of_getElem? (i := 598) (by decide +kernel))), List.forall_mem_cons.mpr ⟨kw_str (k := 200) (tx := "no such place") (hq (.stringRef RX3 200 "no such place") (List.mem_of_getElem? (i := 617) (by decide +kernel))) (hg (.exactly (.string RX3 200) "java/lang/String") (List.mem_of_getElem? (i := 684) (by decide +kernel))), List.forall_mem_cons.mpr ⟨kw_str (k := 209) (tx := "no such sense") (hq (.stringRef RX3 209 "no such sense") (List.mem_of_getElem? (i := 197) (by decide +kernel))) (hg (.exactly (.string RX3 209) "java/lang/String") (List.mem_of_getElem? (i := 24) (by decide +kernel))), List.forall_mem_cons.mpr ⟨kw_str (k := 212) (tx := "no such word") (hq (.stringRef RX3 212 "no such word") (List.mem_of_getElem? (i := 436) (by decide +kernel))) (hg (.exactly (.string RX3 212) "java/lang/String") (List.mem_of_getElem? (i := 341) (by decide +kernel))), List.forall_mem_cons.mpr ⟨kw_str (k := 214) (tx := "measure is out of range") (hq (.stringRef RX3 214 "measure is out of range") (List.mem_of_getElem? (i := 597) (by decide +kernel))) (hg (.exactly (.string RX3 214) "java/lang/String") (List.mem_of_getElem? (i := 640) (by decide +kernel))), fun _ h => absurd h List.not_mem_nil⟩⟩⟩⟩⟩⟩⟩⟩⟩⟩⟩⟩⟩⟩⟩⟩⟩⟩⟩
set_option maxRecDepth 20000 in
theorem kw_s {args : Array Value} {s : State} (hq : ∀ w ∈ tables_1, w.before args s = true) (hg : ∀ w ∈ flatC (Jvm.Cond.and given_1 narrow_1), w.before args s = true) : kx_s s :=
  ⟨⟨kw_s0 hq hg, va_Nw.of rfl (hq (.declares (Bundle.initS "java/lang/RuntimeException")) (List.mem_of_getElem? (i := 160) (by decide +kernel))), va_Nw.of rfl (hq (.declares (Bundle.initS "java/lang/Exception")) (List.mem_of_getElem? (i := 162) (by decide +kernel))), va_Nw.of rfl (hq (.declares (Bundle.initS Bundle.tN)) (List.mem_of_getElem? (i := 164) (by decide +kernel)))⟩, va_Nw.of rfl (hq (.castable "java/lang/IllegalStateException" "java/lang/IllegalStateException") (List.mem_of_getElem? (i := 244) (by decide +kernel))), va_Nw.of rfl (hq (.castable "java/lang/IllegalArgumentException" "java/lang/IllegalArgumentException") (List.mem_of_getElem? (i := 310) (by decide +kernel))), va_Nw.of rfl (hq (.castable "java/lang/IndexOutOfBoundsException" "java/lang/IndexOutOfBoundsException") (List.mem_of_getElem? (i := 158) (by decide +kernel))), va_Nc.of (hg (.not (.castable "java/lang/IllegalStateException" "java/lang/IndexOutOfBoundsException")) (List.mem_of_getElem? (i := 10) (by decide +kernel))), va_Nc.of (hg (.not (.castable "java/lang/IllegalArgumentException" "java/lang/IndexOutOfBoundsException")) (List.mem_of_getElem? (i := 11) (by decide +kernel)))⟩
set_option maxRecDepth 20000 in
theorem kw_z {args : Array Value} {s : State} (hq : ∀ w ∈ tables_1, w.before args s = true) (hg : ∀ w ∈ flatC (Jvm.Cond.and given_1 narrow_1), w.before args s = true) : kx_z (fun q : Nat => s.heap.size ≤ q) s s.heap :=
  ⟨vx_Zqof (hq (.laysStatic Bundle.tN "UNASSIGNED_STACK" Bundle.steD) (List.mem_of_getElem? (i := 183) (by decide +kernel))) (hq (.initialized Bundle.tN) (List.mem_of_getElem? (i := 5) (by decide +kernel))) (hg (.isRef (.static Bundle.tN "UNASSIGNED_STACK" Bundle.steD)) (List.mem_of_getElem? (i := 4) (by decide +kernel))) (fun a h z => absurd z (Nat.not_le.mpr h)), vx_Zqof (hq (.laysStatic Bundle.tN "SUPPRESSED_SENTINEL" Bundle.listD) (List.mem_of_getElem? (i := 185) (by decide +kernel))) (hq (.initialized Bundle.tN) (List.mem_of_getElem? (i := 5) (by decide +kernel))) (hg (.isRef (.static Bundle.tN "SUPPRESSED_SENTINEL" Bundle.listD)) (List.mem_of_getElem? (i := 5) (by decide +kernel))) (fun a h z => absurd z (Nat.not_le.mpr h))⟩
theorem kw_Su {p : Nat → Bool} : ∀ n, kSu p (fun _ => 0) n = 0 := by
  intro n
  induction n with
  | zero => rfl
  | succ n ih => show kSu p (fun _ => 0) n + (if p n = true then 0 else 0) = 0; rw [ih]; split <;> rfl
theorem kw_RN : kRN 0 (fun _ => 0) (fun _ => 0) 0 0 (fun _ => 0) (fun _ => 0) (fun _ => 0) (fun _ => 0) (fun _ => 0) (fun _ => 0) (fun _ => 0) := by
  have z : ∀ k, ¬ bt 0 k = true := fun k h => by rw [b_0] at h; cases h
  refine ⟨⟨nI_0.symm, by decide⟩, fun k h => absurd h (z k), ⟨⟨fun k h => absurd h (z k), fun s _ t h => absurd h (z t)⟩, fun s q _ h => absurd h (z q), fun k _ => ⟨nI_0.symm, Nat.zero_le _⟩⟩, ⟨fun i _ => ⟨fun t => ?_, fun h => absurd h (z i), fun h => absurd h (z i)⟩, fun a _ => ?_⟩, fun k _ _ => rfl, fun k _ => by show kcnt 0 30 ≤ 4; rw [kcnt_0]; decide, fun k _ _ => ⟨rfl, rfl⟩⟩
  · show bt 0 t = kCv 0 _ i t
    unfold kCv
    rw [b_0, b_0]; rfl
  · show (0 : Int32) = nI (kSu _ (fun _ => 0) 30)
    rw [kw_Su]; exact nI_0.symm
theorem kw_RW : kRW 0 0 (fun _ => 0) (fun _ => 0) 0 0 0 (fun _ => 0) (fun _ => 0) (fun _ => 0) (fun _ => 0) :=
  ⟨⟨nI_0.symm, by decide⟩, ⟨nI_0.symm, by decide⟩, fun w h => absurd h (by omega), fun k h => absurd h (by omega)⟩
/-- a new object's core and scratch, and its addresses -/
def kC0 : kCS := (0, 0, 0, 0, fun _ => 0, fun _ => 0, fun _ => 0, fun _ => 0, fun _ => 0, fun _ => 0, fun _ => 0, fun _ => 0, fun _ => 0, fun _ => 0)
def kX0 : kXS := (0, -1, fun _ => 0, fun _ => 0, fun _ => 0, fun _ => 0, fun _ => 0, fun _ => 0, fun _ => 0)
theorem kC0_i : kInv kC0 := kInv_mk kw_RN kw_RW
def kA0 (x0 : Nat) (u : Nat × Nat × Nat × Nat × Nat × Nat × Nat × Nat × Nat × Nat × Nat × Nat × Nat × Nat × Nat × Nat × Nat × Nat × Nat × Nat) : Nat → Nat
  | 0 => x0
  | 1 => u.1
  | 2 => u.2.1
  | 3 => u.2.2.1
  | 4 => u.2.2.2.1
  | 5 => u.2.2.2.2.1
  | 6 => u.2.2.2.2.2.1
  | 7 => u.2.2.2.2.2.2.1
  | 8 => u.2.2.2.2.2.2.2.1
  | 9 => u.2.2.2.2.2.2.2.2.1
  | 10 => u.2.2.2.2.2.2.2.2.2.1
  | 11 => u.2.2.2.2.2.2.2.2.2.2.1
  | 12 => u.2.2.2.2.2.2.2.2.2.2.2.1
  | 13 => u.2.2.2.2.2.2.2.2.2.2.2.2.1
  | 14 => u.2.2.2.2.2.2.2.2.2.2.2.2.2.1
  | 15 => u.2.2.2.2.2.2.2.2.2.2.2.2.2.2.1
  | 16 => u.2.2.2.2.2.2.2.2.2.2.2.2.2.2.2.1
  | 17 => u.2.2.2.2.2.2.2.2.2.2.2.2.2.2.2.2.1
  | 18 => u.2.2.2.2.2.2.2.2.2.2.2.2.2.2.2.2.2.1
  | 19 => u.2.2.2.2.2.2.2.2.2.2.2.2.2.2.2.2.2.2.1
  | _ => u.2.2.2.2.2.2.2.2.2.2.2.2.2.2.2.2.2.2.2
