/-! Methods of the face: they return, or throw a new exception of a class; nothing old changes where they throw. -/
def kISE : String := "java/lang/IllegalStateException"
def kIAE : String := "java/lang/IllegalArgumentException"
def kIOB : String := "java/lang/IndexOutOfBoundsException"
def kUps : List String := ["java/lang/RuntimeException", "java/lang/Exception"]
def kxs_ : List (Nat × String) := [(36, "30 senses were added"), (53, "it is a parent already"), (59, "the sense has 4 parents"), (64, "a sense would be above itself"), (70, "it is no parent of the sense"), (79, "a word has the sense"), (84, "a sense would have more than 4 parents"), (91, "count is out of range"), (100, "there are 10 words"), (109, "the word has the sense"), (114, "the word has 5 senses"), (119, "the word does not have the sense"), (124, "it is the only sense of a word of the sentence"), (135, "the sentence has 6 places"), (137, "the word has no senses"), (200, "no such place"), (209, "no such sense"), (212, "no such word"), (214, "measure is out of range")]
/-- the texts, and what of the exceptions' classes isn't in the lists of words -/
def kx_s (U : State) : Prop := ((∀ q ∈ kxs_, ∃ sa, vk_R RX3 q.1 q.2 sa U) ∧ va_Nw (.declares (Bundle.initS "java/lang/RuntimeException")) U ∧ va_Nw (.declares (Bundle.initS "java/lang/Exception")) U ∧ va_Nw (.declares (Bundle.initS Bundle.tN)) U) ∧ va_Nw (.castable "java/lang/IllegalStateException" "java/lang/IllegalStateException") U ∧ va_Nw (.castable "java/lang/IllegalArgumentException" "java/lang/IllegalArgumentException") U ∧ va_Nw (.castable "java/lang/IndexOutOfBoundsException" "java/lang/IndexOutOfBoundsException") U ∧ va_Nc "java/lang/IllegalStateException" "java/lang/IndexOutOfBoundsException" U ∧ va_Nc "java/lang/IllegalArgumentException" "java/lang/IndexOutOfBoundsException" U
theorem kx_swarm {s U : State} (hW : s.WarmedH U.vm) (h : kx_s s) : kx_s U := by
  obtain ⟨⟨h1, h7, h8, h9⟩, h2, h3, h4, h5, h6⟩ := h
  refine ⟨⟨fun q hq => ?_, va_Nw.warmD hW h7, va_Nw.warmD hW h8, va_Nw.warmD hW h9⟩, va_Nw.warmC hW h2, va_Nw.warmC hW h3, va_Nw.warmC hW h4, va_Nc.moved hW.alike h5, va_Nc.moved hW.alike h6⟩
  obtain ⟨sa, h⟩ := h1 q hq
  exact ⟨sa, vk_R.warm hW h⟩
theorem kx_sblind {U : State} (g : JFrame) (mk : MethodId) (a : Array Value) (h : kx_s U) : kx_s (U.calling g mk a) := by
  obtain ⟨⟨h1, h7, h8, h9⟩, h2, h3, h4, h5, h6⟩ := h
  refine ⟨⟨fun q hq => ?_, va_Nw.same rfl rfl h7, va_Nw.same rfl rfl h8, va_Nw.same rfl rfl h9⟩, va_Nw.same rfl rfl h2, va_Nw.same rfl rfl h3, va_Nw.same rfl rfl h4, va_Nc.moved (u := U) (U := U.calling g mk a) (Vm.Alike.refl U.vm) h5, va_Nc.moved (u := U) (U := U.calling g mk a) (Vm.Alike.refl U.vm) h6⟩
  obtain ⟨sa, h⟩ := h1 q hq
  exact ⟨sa, vk_R.same (u := U) (U := U.calling g mk a) rfl h⟩
/-- the two statics that a Throwable's making reads, outside the region A -/
def kx_z (A : Nat → Prop) (U : State) (H : Heap) : Prop := vx_Zq Bundle.tN "UNASSIGNED_STACK" Bundle.steD A U H ∧ vx_Zq Bundle.tN "SUPPRESSED_SENTINEL" Bundle.listD A U H
theorem kx_zkept {A : Nat → Prop} {U : State} {H H1 : Heap} (h : kx_z A U H) (hq : ∀ a : Nat, a < H.size → ¬ A a → H1[a]? = H[a]?) : kx_z A U H1 := ⟨h.1.kept hq, h.2.kept hq⟩
theorem kx_znarrow {A B : Nat → Prop} {U : State} {H : Heap} (h : kx_z A U H) (hAB : ∀ q, B q → A q) : kx_z B U H := ⟨h.1.narrow hAB, h.2.narrow hAB⟩
theorem kx_zmoved {A : Nat → Prop} {u U : State} {H : Heap} (hvm : u.vm.Alike U.vm) (h : kx_z A u H) : kx_z A U H := ⟨h.1.moved hvm, h.2.moved hvm⟩
def kp_X (D : va_G) (cI : ClassId) (as : List Value) (sz : Nat) (ws : va_W) : Array Value → State → Prop := va_Pc as (fun U => U.heap.size = sz ∧ va_P D vwCl ws U.heap ∧ kk_K D cI U ∧ va_D (fun _ => True) ws ∧ kx_s U ∧ kx_z (va_A ws sz) U U.heap)
theorem kp_XS {D : va_G} {cI : ClassId} {s : State} {H : Heap} {as : List Value} {ws : va_W} {A : Nat → Prop} (hP : va_P D vwCl ws H) (hD : va_D A ws) (hK : kk_K D cI s) (hX : kx_s s) (hZ : kx_z (va_A ws H.size) s H) : PreS s H (kp_X D cI as H.size ws) as :=
  ⟨fun a U g mk q => ⟨q.1, q.2.1, q.2.2.1, kk_blind g mk a q.2.2.2.1, q.2.2.2.2.1, kx_sblind g mk a q.2.2.2.2.2.1, kx_zmoved (u := U) (U := U.calling g mk a) (Vm.Alike.refl U.vm) q.2.2.2.2.2.2⟩,
   fun U hU hW => ⟨rfl, by rw [hU], by rw [hU]; exact hP, kk_mv hK hW, hD.weaken (fun _ _ _ _ => trivial), kx_swarm hW hX, by rw [hU]; exact kx_zmoved hW.alike hZ⟩⟩
theorem kp_XV {D : va_G} {cI : ClassId} {s : State} {H : Heap} {b : Nat} {as : List Value} {ws : va_W} {A : Nat → Prop} (hP : va_P D vwCl ws H) (hD : va_D A ws) (hK : kk_K D cI s) (hX : kx_s s) (hZ : kx_z (va_A ws H.size) s H) (q0 ci : Nat) {C : String} {T : u_T} {N : Nat} {fs : List Value} (hc : vwCl[ci]? = some (C, T, N)) (he : ws[q0]? = some (b, .inr (ci, fs))) : PreV s H C b (kp_X D cI (.ref b :: as) H.size ws) as :=
  ⟨(kp_XS (as := .ref b :: as) hP hD hK hX hZ).1, va_recv hK.1 hP hc he, (kp_XS (as := .ref b :: as) hP hD hK hX hZ).2⟩
/-- the statics for a callee: its cells are among the caller's -/
theorem kx_zfor {A : Nat → Prop} {s : State} {H : Heap} {locs : List Loc} {wc : va_W} (hZ : kx_z A s s.heap) (hS : va_S A s.heap H locs) (hF : ∀ q, va_A wc H.size q → A q) : kx_z (va_A wc H.size) s H := kx_znarrow (kx_zkept hZ (fun a h1 h2 => hS.2.1 a h1 h2)) hF
abbrev kr_x (fr lo mc ms : Nat) : Room := { frames := fr, cells := mc, slots := ms, locals := lo }
/-- a method of the face with an answer -/
def kc_X {S : Type} (l : Launch) (y : MethodName) (wl : List Cond) (fr lo mc ms : Nat) (D : va_G) (cI : ClassId) (as : List Value) (ws : va_W) (post : Int32 → S → Prop) (w1 : S → va_W) (px : String → Prop) : Prop :=
  ∀ sz : Nat, vx_Met l y wl (kr_x fr lo mc ms) (kp_X D cI as sz ws) (va_Qi post (fun u t => va_P D vwCl (w1 u) t.heap ∧ va_D (va_A ws sz) (w1 u)) (va_A ws sz)) (vx_X (fun (_ : Unit) => True) (fun E _ _ => px E) (va_A [] sz)) mc ms (va_A ws sz)
/-- a check: it returns, or throws; nothing old changes -/
def kc_N (l : Launch) (y : MethodName) (wl : List Cond) (fr lo mc ms : Nat) (D : va_G) (cI : ClassId) (as : List Value) (ws : va_W) (post : Prop) (px : String → Prop) : Prop :=
  ∀ sz : Nat, vx_Met l y wl (kr_x fr lo mc ms) (kp_X D cI as sz ws) (va_Qv (fun (_ : Unit) => post) (fun _ _ => True) (va_A [] sz)) (vx_X (fun (_ : Unit) => True) (fun E _ _ => px E) (va_A [] sz)) mc ms (va_A [] sz)
section KXS
variable {l : Launch} {y : MethodName} {wl ws' : List Cond} {fr lo nL mc ms : Nat} {D : va_G} {cI : ClassId} {as : List Value} {ws : va_W} {cc : ByteArray} {ret : Option FieldType} {px : String → Prop}
theorem ks_X {S : Type} {post : Int32 → S → Prop} {w1 : S → va_W} (hy : plainName y.cls = true) (hw : wl = Cond.code y cc nL ret :: ws') (hn : (lg_sl as).length ≤ nL)
    (body : ∀ (p : Program) (e : Env) (s : State) (m : MethodId) (below : List Frame) (meth : Method) (c : Code) (ls : Array Slot), kf_At p s m meth c y cc nL ret wl as.toArray → (∀ x ∈ c.exceptionTable.toList, False) → va_P D vwCl ws s.heap → kk_K D cI s → kx_s s → kx_z (va_A ws s.heap.size) s s.heap → va_S (va_A [] s.heap.size) s.heap s.heap [] → (∀ q, s.heap.size ≤ q → va_A ws s.heap.size q) → va_D (va_A ws s.heap.size) ws → lv_has ls nL (lv_args 0 as) →
      W p l e (kr_x fr lo mc ms) s m as.toArray below meth c s.heap [] 0 0 (vx_MQ below (va_Qi post (fun u t => va_P D vwCl (w1 u) t.heap ∧ va_D (va_A ws s.heap.size) (w1 u)) (va_A ws s.heap.size)) (vx_X (fun (_ : Unit) => True) (fun E _ _ => px E) (va_A [] s.heap.size)) as.toArray s mc ms (va_A ws s.heap.size)) (F0 m 0 ls [])) : kc_X l y wl fr lo mc ms D cI as ws post w1 px := by
  intro sz
  refine vx_ofW (cc := cc) (maxL := nL) (ret := ret) hy hw ?_
  intro p e s m args below meth c s₁ B hml ht hv
  obtain ⟨rfl, hsz, hP, hK, hD, hX, hZ⟩ := hv
  subst hsz
  have hl := lv_entry as (n := nL) hn
  rw [lg_entry_eq]
  exact body p e s m below meth c _ ⟨B.exec, B.bytes, B.returns, hml, findClass_of_methodNamed B.named, atoms_spec (ws := wl) B.pre, B.notSynchronized⟩ ht hP hK hX hZ va_S.rf (fun q h => Or.inr h) hD.self hl
theorem ks_N {post : Prop} (hy : plainName y.cls = true) (hw : wl = Cond.code y cc nL ret :: ws') (hn : (lg_sl as).length ≤ nL)
    (body : ∀ (p : Program) (e : Env) (s : State) (m : MethodId) (below : List Frame) (meth : Method) (c : Code) (ls : Array Slot), kf_At p s m meth c y cc nL ret wl as.toArray → (∀ x ∈ c.exceptionTable.toList, False) → va_P D vwCl ws s.heap → kk_K D cI s → kx_s s → kx_z (va_A ws s.heap.size) s s.heap → va_S (va_A [] s.heap.size) s.heap s.heap [] → (∀ q, s.heap.size ≤ q → va_A ws s.heap.size q) → va_D (va_A ws s.heap.size) ws → lv_has ls nL (lv_args 0 as) →
      W p l e (kr_x fr lo mc ms) s m as.toArray below meth c s.heap [] 0 0 (vx_MQ below (va_Qv (fun (_ : Unit) => post) (fun _ _ => True) (va_A [] s.heap.size)) (vx_X (fun (_ : Unit) => True) (fun E _ _ => px E) (va_A [] s.heap.size)) as.toArray s mc ms (va_A [] s.heap.size)) (F0 m 0 ls [])) : kc_N l y wl fr lo mc ms D cI as ws post px := by
  intro sz
  refine vx_ofW (cc := cc) (maxL := nL) (ret := ret) hy hw ?_
  intro p e s m args below meth c s₁ B hml ht hv
  obtain ⟨rfl, hsz, hP, hK, hD, hX, hZ⟩ := hv
  subst hsz
  have hl := lv_entry as (n := nL) hn
  rw [lg_entry_eq]
  exact body p e s m below meth c _ ⟨B.exec, B.bytes, B.returns, hml, findClass_of_methodNamed B.named, atoms_spec (ws := wl) B.pre, B.notSynchronized⟩ ht hP hK hX hZ va_S.rf (fun q h => Or.inr h) hD.self hl
end KXS
theorem kx_A0 {sz q : Nat} (h : q < sz) : ¬ va_A [] sz q := fun z => by
  rcases z with ⟨k, x, z⟩ | z
  · simp at z
  · omega
theorem kx_A1 {sz q : Nat} {ws : va_W} (h : va_A [] sz q) : va_A ws sz q := by
  rcases h with ⟨k, x, z⟩ | z
  · simp at z
  · exact Or.inr z
theorem kx_wk {ws : va_W} {sz : Nat} {H0 H : Heap} {locs : List Loc} (h : va_S (va_A [] sz) H0 H locs) : va_S (va_A ws sz) H0 H locs := ⟨h.1, fun q h1 h2 => h.2.1 q h1 (fun z => h2 (kx_A1 z)), fun x hx => kx_A1 (h.2.2 x hx)⟩
section KXE
variable {p : Program} {l : Launch} {e : Env} {R : Room} {s : State} {m : MethodId} {args : Array Value} {below : List Frame} {meth : Method} {c : Code} {H : Heap} {locs : List Loc} {D : va_G} {ws : va_W} {cc : ByteArray} {pc : Nat} {ls : Array Slot} {v : Int32} {cells slots mc ms : Nat} {XC : String → State → State → Prop}
theorem ke_X {S : Type} {post : Int32 → S → Prop} {w1 : S → va_W} (hx : p.tables.exec = Jvm.exec) (hb : c.code = cc) (hr : meth.sig.returnType = some .int) (hlocks : meth.locks = false) (u : S) (hP : va_P D vwCl (w1 u) H) (hD : va_D (va_A ws s.heap.size) (w1 u)) (hS : va_S (va_A ws s.heap.size) s.heap H locs) (hc : cells ≤ mc) (hs : slots ≤ ms) (hdg : decode cc pc = .ok (.ireturn, 1)) (hq : post v u) :
    W p l e R s m args below meth c H locs cells slots (vx_MQ below (va_Qi post (fun u t => va_P D vwCl (w1 u) t.heap ∧ va_D (va_A ws s.heap.size) (w1 u)) (va_A ws s.heap.size)) XC args s mc ms (va_A ws s.heap.size)) (F0 m pc ls [.int v]) :=
  vx_ret (W.widen hc hs (W.iret (v := v) hx hb hr (fun t ht hW => ⟨⟨v, u, rfl, hq, by rw [ht]; exact hP, hD⟩, hS.F ht⟩) hS.2.2 hdg hlocks))
theorem ke_N {post : Prop} (hx : p.tables.exec = Jvm.exec) (hb : c.code = cc) (hr : meth.sig.returnType = none) (hlocks : meth.locks = false) (hS : va_S (va_A [] s.heap.size) s.heap H locs) (hc : cells ≤ mc) (hs : slots ≤ ms) (hdg : decode cc pc = .ok (.return_, 1)) (hq : post) :
    W p l e R s m args below meth c H locs cells slots (vx_MQ below (va_Qv (fun (_ : Unit) => post) (fun _ _ => True) (va_A [] s.heap.size)) XC args s mc ms (va_A [] s.heap.size)) (F0 m pc ls []) :=
  vx_ret (W.widen hc hs (W.vret hx hb hr (fun t ht hW => ⟨⟨(), rfl, hq, trivial⟩, hS.F ht⟩) hS.2.2 hdg hlocks))
theorem kx_F {px : String → Prop} {E : String} (hS : va_S (va_A [] s.heap.size) s.heap H locs) (hp : px E) : ∀ t : State, s.vm.Alike t.vm → H.size ≤ t.heap.size → (∀ q : Nat, q < H.size → t.heap[q]? = H[q]?) → vx_X (fun (_ : Unit) => True) (fun E _ _ => px E) (va_A [] s.heap.size) E s t :=
  fun t _ h2 h3 => ⟨(), trivial, hp, Nat.le_trans hS.1 h2, fun q h4 h5 => (h3 q (Nat.lt_of_lt_of_le h4 hS.1)).trans (hS.2.1 q h4 h5)⟩
/-- a check's call in a method of the face: where it throws, so does the face -/
theorem kq_N {Qc : Array Value → State → Outcome → State → Prop} {a : Array Value} {rest st0 : List Value} {cl : List vw_C} {cond : Prop} {pxN px : String → Prop} {free : Addr → Prop} {k n : Nat} (hr : vx_Run p l e R s m args below meth c H locs cells slots k n (F0 m pc ls st0) rest (va_Qv (fun (_ : Unit) => cond) (fun _ _ => True) (va_A [] H.size) a) (vx_X (fun (_ : Unit) => True) (fun E _ _ => pxN E) (va_A [] H.size)) (va_A [] H.size)) (hP : va_P D cl ws H) (hS : va_S (va_A [] s.heap.size) s.heap H locs) (ht : ∀ x ∈ c.exceptionTable.toList, False) (hlocks : meth.locks = false) (hfree : ∀ q, va_A [] s.heap.size q → free q) (hxe : ∀ E, pxN E → px E) (hc : cells + k ≤ mc) (hs : slots + n ≤ ms)
    (kk : ∀ (H1 : Heap) (locs1 : List Loc), cond → va_P D cl ws H1 → va_S (va_A [] s.heap.size) s.heap H1 locs1 → W p l e R s m args below meth c H1 locs1 (cells + k) (slots + n) (vx_MQ below Qc (vx_X (fun (_ : Unit) => True) (fun E _ _ => px E) (va_A [] s.heap.size)) args s mc ms free) (F0 m (pc + 3) ls rest)) :
    W p l e R s m args below meth c H locs cells slots (vx_MQ below Qc (vx_X (fun (_ : Unit) => True) (fun E _ _ => px E) (va_A [] s.heap.size)) args s mc ms free) (F0 m pc ls st0) := by
  have hA0 : ∀ q, va_A [] H.size q → va_A [] s.heap.size q := fun q h => by
    rcases h with ⟨k, x, z⟩ | z
    · simp at z
    · exact Or.inr (Nat.le_trans hS.1 z)
  refine vx_callv hr hS (fun q h z => absurd z (kx_A0 h)) hA0 (fun q h z => absurd z (kx_A0 h)) (fun E ce q9 u t H1 locs1 ht1 hvm hu hB hz hk hS1 hcell hv hcl => ?_) (fun u t H1 locs1 ht1 hvm hw hB hz hk hS1 => ?_)
  · exact vx_out (fun x hx => (ht x hx).elim) hlocks hcell hv hcl (fun t2 h2 _ => ⟨(), trivial, hxe E hB, hS1.F h2⟩) (fun z hz2 => hfree _ (hS1.2.2 z hz2)) hc hs
  · exact kk H1 locs1 hw (hP.kept fun k q hq => hk q.1 ((hP k q hq).lt) (kx_A0 ((hP k q hq).lt))) hS1
end KXE
theorem kxh_ISE : ∀ w ∈ (vx_atS RX3 38 "java/lang/IllegalStateException" ["java/lang/RuntimeException", "java/lang/Exception"]).filter (fun w => !goodWord w), w ∈ [Cond.castable "java/lang/IllegalStateException" "java/lang/IllegalStateException", .declares (Bundle.initS "java/lang/RuntimeException"), .declares (Bundle.initS "java/lang/Exception"), .declares (Bundle.initS Bundle.tN)] := by decide +kernel
theorem kxh_IOB : ∀ w ∈ (vx_atS RX3 202 "java/lang/IndexOutOfBoundsException" ["java/lang/RuntimeException", "java/lang/Exception"]).filter (fun w => !goodWord w), w ∈ [Cond.castable "java/lang/IndexOutOfBoundsException" "java/lang/IndexOutOfBoundsException", .declares (Bundle.initS "java/lang/RuntimeException"), .declares (Bundle.initS "java/lang/Exception"), .declares (Bundle.initS Bundle.tN)] := by decide +kernel
theorem kxh_IAE : ∀ w ∈ (vx_atS RX3 93 "java/lang/IllegalArgumentException" ["java/lang/RuntimeException", "java/lang/Exception"]).filter (fun w => !goodWord w), w ∈ [Cond.castable "java/lang/IllegalArgumentException" "java/lang/IllegalArgumentException", .declares (Bundle.initS "java/lang/RuntimeException"), .declares (Bundle.initS "java/lang/Exception"), .declares (Bundle.initS Bundle.tN)] := by decide +kernel
theorem kxg_ISE : ∀ w ∈ Cond.classLink RX3 34 "java/lang/IllegalStateException" :: Cond.initialized "java/lang/IllegalStateException" :: vx_atS RX3 38 "java/lang/IllegalStateException" ["java/lang/RuntimeException", "java/lang/Exception"], vx_ot w = true := by decide +kernel
theorem kxg_IOB : ∀ w ∈ Cond.classLink RX3 198 "java/lang/IndexOutOfBoundsException" :: Cond.initialized "java/lang/IndexOutOfBoundsException" :: vx_atS RX3 202 "java/lang/IndexOutOfBoundsException" ["java/lang/RuntimeException", "java/lang/Exception"], vx_ot w = true := by decide +kernel
theorem kxg_IAE : ∀ w ∈ Cond.classLink RX3 89 "java/lang/IllegalArgumentException" :: Cond.initialized "java/lang/IllegalArgumentException" :: vx_atS RX3 93 "java/lang/IllegalArgumentException" ["java/lang/RuntimeException", "java/lang/Exception"], vx_ot w = true := by decide +kernel
theorem kxf_ : ∀ n ∈ ["java/lang/RuntimeException", "java/lang/Exception"], Bundle.fit n = true := by decide +kernel
