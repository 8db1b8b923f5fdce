/-! Rows of mine: the links between nest mates that the worlds carry; contracts that only read (kc_R), that write (kc_W, kc_V); loops and joins. -/
def kn_s (U : State) : Prop := va_Nw (.methodLinkNest RX0 50 yX3_put RX3) U ∧ va_Nw (.methodLinkNest RX0 58 yX3_at RX3) U ∧ va_Nw (.methodLinkNest RX1 40 yX3_holds RX3) U ∧ va_Nw (.methodLinkNest RX1 44 yX3_at RX3) U ∧ va_Nw (.methodLinkNest RX1 54 yX3_bit RX3) U ∧ va_Nw (.methodLinkNest RX1 60 yX3_put RX3) U ∧ va_Nw (.methodLinkNest RX2 31 yX3_at RX3) U ∧ va_Nw (.methodLinkNest RX2 43 yX3_put RX3) U
theorem kn_warm {s U : State} (hW : s.WarmedH U.vm) (h : kn_s s) : kn_s U := by
  obtain ⟨h1, h2, h3, h4, h5, h6, h7, h8⟩ := h
  exact ⟨va_Nw.warmM hW h1, va_Nw.warmM hW h2, va_Nw.warmM hW h3, va_Nw.warmM hW h4, va_Nw.warmM hW h5, va_Nw.warmM hW h6, va_Nw.warmM hW h7, va_Nw.warmM hW h8⟩
theorem kn_same {s U : State} (hv : s.vm = U.vm) (h : kn_s s) : kn_s U := by
  obtain ⟨h1, h2, h3, h4, h5, h6, h7, h8⟩ := h
  exact ⟨va_Nw.same rfl hv h1, va_Nw.same rfl hv h2, va_Nw.same rfl hv h3, va_Nw.same rfl hv h4, va_Nw.same rfl hv h5, va_Nw.same rfl hv h6, va_Nw.same rfl hv h7, va_Nw.same rfl hv h8⟩
def kk_K (D : va_G) (cI : ClassId) (U : State) : Prop := va_K D vwCl [(cI, .int)] U ∧ kn_s U
theorem kk_mv {D : va_G} {cI : ClassId} {s U : State} (h : kk_K D cI s) (hW : s.WarmedH U.vm) : kk_K D cI U := ⟨va_K.moved hW.alike h.1, kn_warm hW h.2⟩
theorem kk_blind {D : va_G} {cI : ClassId} {U : State} (g : JFrame) (mk : MethodId) (a : Array Value) (h : kk_K D cI U) : kk_K D cI (U.calling g mk a) := ⟨va_K.moved (u := U) (U := U.calling g mk a) (Vm.Alike.refl U.vm) h.1, kn_same (s := U) (U := U.calling g mk a) rfl h.2⟩
/-- a start: the world's cells; and apart, where the method writes -/
def kp_R (D : va_G) (cI : ClassId) (as : List Value) (sz : Nat) (ws : va_W) : Array Value → State → Prop := va_Pc as (fun U => U.heap.size = sz ∧ va_P D vwCl ws U.heap ∧ kk_K D cI U)
def kp_W (D : va_G) (cI : ClassId) (as : List Value) (sz : Nat) (ws : va_W) : Array Value → State → Prop := va_Pc as (fun U => U.heap.size = sz ∧ va_P D vwCl ws U.heap ∧ kk_K D cI U ∧ va_D (fun _ => True) ws)
theorem kp_RS {D : va_G} {cI : ClassId} {s : State} {H : Heap} {as : List Value} {ws : va_W} (hP : va_P D vwCl ws H) (hK : kk_K D cI s) : PreS s H (kp_R D cI as H.size ws) as :=
  ⟨fun a U g mk q => ⟨q.1, q.2.1, q.2.2.1, kk_blind g mk a q.2.2.2⟩, fun U hU hW => ⟨rfl, by rw [hU], by rw [hU]; exact hP, kk_mv hK hW⟩⟩
theorem kp_WS {D : va_G} {cI : ClassId} {s : State} {H : Heap} {as : List Value} {ws : va_W} {A : Nat → Prop} (hP : va_P D vwCl ws H) (hD : va_D A ws) (hK : kk_K D cI s) : PreS s H (kp_W D cI as H.size ws) as :=
  ⟨fun a U g mk q => ⟨q.1, q.2.1, q.2.2.1, kk_blind g mk a q.2.2.2.1, q.2.2.2.2⟩, fun U hU hW => ⟨rfl, by rw [hU], by rw [hU]; exact hP, kk_mv hK hW, hD.weaken (fun _ _ _ _ => trivial)⟩⟩
theorem kp_RV {D : va_G} {cI : ClassId} {s : State} {H : Heap} {b : Nat} {as : List Value} {ws : va_W} (hP : va_P D vwCl ws H) (hK : kk_K D cI s) (q0 ci : Nat) {C : String} {T : u_T} {N : Nat} {fs : List Value} (hc : vwCl[ci]? = some (C, T, N)) (he : ws[q0]? = some (b, .inr (ci, fs))) : PreV s H C b (kp_R D cI (.ref b :: as) H.size ws) as :=
  ⟨(kp_RS (as := .ref b :: as) hP hK).1, va_recv hK.1 hP hc he, (kp_RS (as := .ref b :: as) hP hK).2⟩
theorem kp_WV {D : va_G} {cI : ClassId} {s : State} {H : Heap} {b : Nat} {as : List Value} {ws : va_W} {A : Nat → Prop} (hP : va_P D vwCl ws H) (hD : va_D A ws) (hK : kk_K D cI s) (q0 ci : Nat) {C : String} {T : u_T} {N : Nat} {fs : List Value} (hc : vwCl[ci]? = some (C, T, N)) (he : ws[q0]? = some (b, .inr (ci, fs))) : PreV s H C b (kp_W D cI (.ref b :: as) H.size ws) as :=
  ⟨(kp_WS (as := .ref b :: as) hP hD hK).1, va_recv hK.1 hP hc he, (kp_WS (as := .ref b :: as) hP hD hK).2⟩
/-- the room of a method that makes nothing -/
abbrev kr_m (fr lo : Nat) : Room := { frames := fr, cells := 0, slots := 0, locals := lo }
def kc_R (l : Launch) (y : MethodName) (wl : List Cond) (fr lo : Nat) (D : va_G) (cI : ClassId) (as : List Value) (ws : va_W) (Q : Int32 → Prop) : Prop :=
  ∀ sz : Nat, Met l y wl (kr_m fr lo) (kp_R D cI as sz ws) (va_Qi (fun r (_ : Unit) => Q r) (fun _ _ => True) (va_A [] sz)) 0 0 (va_A [] sz)
def kc_W {S : Type} (l : Launch) (y : MethodName) (wl : List Cond) (fr lo : Nat) (D : va_G) (cI : ClassId) (as : List Value) (ws : va_W) (post : Int32 → S → Prop) (w1 : S → va_W) : Prop :=
  ∀ sz : Nat, Met l y wl (kr_m fr lo) (kp_W D cI as sz ws) (va_Qi post (fun u t => va_P D vwCl (w1 u) t.heap ∧ va_D (va_A ws sz) (w1 u)) (va_A ws sz)) 0 0 (va_A ws sz)
def kc_V {S : Type} (l : Launch) (y : MethodName) (wl : List Cond) (fr lo : Nat) (D : va_G) (cI : ClassId) (as : List Value) (ws : va_W) (post : S → Prop) (w1 : S → va_W) : Prop :=
  ∀ sz : Nat, Met l y wl (kr_m fr lo) (kp_W D cI as sz ws) (va_Qv post (fun u t => va_P D vwCl (w1 u) t.heap ∧ va_D (va_A ws sz) (w1 u)) (va_A ws sz)) 0 0 (va_A ws sz)
/-- what stands all along a walk -/
def kf_At (p : Program) (s : State) (m : MethodId) (meth : Method) (c : Code) (y : MethodName) (cc : ByteArray) (nL : Nat) (ret : Option FieldType) (wl : List Cond) (as : Array Value) : Prop :=
  p.tables.exec = Jvm.exec ∧ c.code = cc ∧ meth.sig.returnType = ret ∧ c.maxLocals = nL ∧ s.vm.findClass y.cls = some m.cls ∧ (∀ w ∈ wl, w.before as s = true) ∧ meth.locks = false
section KS
variable {l : Launch} {y : MethodName} {wl ws' : List Cond} {fr lo nL : Nat} {D : va_G} {cI : ClassId} {as : List Value} {ws : va_W} {cc : ByteArray} {ret : Option FieldType}
theorem ks_R {Q : Int32 → Prop} (hy : plainName y.cls = true) (hw : wl = Cond.code y cc nL ret :: ws') (hn : (lg_sl as).length ≤ nL)
    (body : ∀ (p : Program) (e : Env) (s : State) (m : MethodId) (below : List Frame) (meth : Method) (c : Code) (ls : Array Slot), kf_At p s m meth c y cc nL ret wl as.toArray → va_P D vwCl ws s.heap → kk_K D cI s → va_S (va_A [] s.heap.size) s.heap s.heap [] → (∀ q, s.heap.size ≤ q → va_A [] s.heap.size q) → lv_has ls nL (lv_args 0 as) →
      W p l e (kr_m fr lo) s m as.toArray below meth c s.heap [] 0 0 (MQ below (va_Qi (fun r (_ : Unit) => Q r) (fun _ _ => True) (va_A [] s.heap.size)) as.toArray s 0 0 (va_A [] s.heap.size)) (F0 m 0 ls [])) : kc_R l y wl fr lo D cI as ws Q := by
  intro sz
  refine Met.ofW (cc := cc) (maxL := nL) (ret := ret) hy hw ?_
  intro p e s m args below meth c s₁ B hml hv
  obtain ⟨rfl, hsz, hP, hK⟩ := hv
  subst hsz
  have hl := lv_entry as (n := nL) hn
  rw [lg_entry_eq]
  exact body p e s m below meth c _ ⟨B.exec, B.bytes, B.returns, hml, findClass_of_methodNamed B.named, atoms_spec (ws := wl) B.pre, B.notSynchronized⟩ hP hK va_S.rf (fun q h => Or.inr h) hl
theorem ks_W {S : Type} {post : Int32 → S → Prop} {w1 : S → va_W} (hy : plainName y.cls = true) (hw : wl = Cond.code y cc nL ret :: ws') (hn : (lg_sl as).length ≤ nL)
    (body : ∀ (p : Program) (e : Env) (s : State) (m : MethodId) (below : List Frame) (meth : Method) (c : Code) (ls : Array Slot), kf_At p s m meth c y cc nL ret wl as.toArray → va_P D vwCl ws s.heap → kk_K D cI s → va_S (va_A ws s.heap.size) s.heap s.heap [] → (∀ q, s.heap.size ≤ q → va_A ws s.heap.size q) → va_D (va_A ws s.heap.size) ws → lv_has ls nL (lv_args 0 as) →
      W p l e (kr_m fr lo) s m as.toArray below meth c s.heap [] 0 0 (MQ below (va_Qi post (fun u t => va_P D vwCl (w1 u) t.heap ∧ va_D (va_A ws s.heap.size) (w1 u)) (va_A ws s.heap.size)) as.toArray s 0 0 (va_A ws s.heap.size)) (F0 m 0 ls [])) : kc_W l y wl fr lo D cI as ws post w1 := by
  intro sz
  refine Met.ofW (cc := cc) (maxL := nL) (ret := ret) hy hw ?_
  intro p e s m args below meth c s₁ B hml hv
  obtain ⟨rfl, hsz, hP, hK, hD⟩ := hv
  subst hsz
  have hl := lv_entry as (n := nL) hn
  rw [lg_entry_eq]
  exact body p e s m below meth c _ ⟨B.exec, B.bytes, B.returns, hml, findClass_of_methodNamed B.named, atoms_spec (ws := wl) B.pre, B.notSynchronized⟩ hP hK va_S.rf (fun q h => Or.inr h) hD.self hl
theorem ks_V {S : Type} {post : S → Prop} {w1 : S → va_W} (hy : plainName y.cls = true) (hw : wl = Cond.code y cc nL ret :: ws') (hn : (lg_sl as).length ≤ nL)
    (body : ∀ (p : Program) (e : Env) (s : State) (m : MethodId) (below : List Frame) (meth : Method) (c : Code) (ls : Array Slot), kf_At p s m meth c y cc nL ret wl as.toArray → va_P D vwCl ws s.heap → kk_K D cI s → va_S (va_A ws s.heap.size) s.heap s.heap [] → (∀ q, s.heap.size ≤ q → va_A ws s.heap.size q) → va_D (va_A ws s.heap.size) ws → lv_has ls nL (lv_args 0 as) →
      W p l e (kr_m fr lo) s m as.toArray below meth c s.heap [] 0 0 (MQ below (va_Qv post (fun u t => va_P D vwCl (w1 u) t.heap ∧ va_D (va_A ws s.heap.size) (w1 u)) (va_A ws s.heap.size)) as.toArray s 0 0 (va_A ws s.heap.size)) (F0 m 0 ls [])) : kc_V l y wl fr lo D cI as ws post w1 := by
  intro sz
  refine Met.ofW (cc := cc) (maxL := nL) (ret := ret) hy hw ?_
  intro p e s m args below meth c s₁ B hml hv
  obtain ⟨rfl, hsz, hP, hK, hD⟩ := hv
  subst hsz
  have hl := lv_entry as (n := nL) hn
  rw [lg_entry_eq]
  exact body p e s m below meth c _ ⟨B.exec, B.bytes, B.returns, hml, findClass_of_methodNamed B.named, atoms_spec (ws := wl) B.pre, B.notSynchronized⟩ hP hK va_S.rf (fun q h => Or.inr h) hD.self hl
end KS
/-- a truth as the machine has it -/
def nB (b : Bool) : Int32 := if b then 1 else 0
theorem nB_nar (b : Bool) : narrow .boolean (.int (nB b)) = .int (nB b) := by cases b <;> rfl
theorem nB_0 {b : Bool} : nB b = 0 ↔ b = false := by cases b <;> decide
theorem nB_n0 {b : Bool} : ¬ nB b = 0 ↔ b = true := by cases b <;> decide
theorem nB_1 {b : Bool} : nB b = 1 ↔ b = true := by cases b <;> decide
section KE
variable {p : Program} {l : Launch} {e : Env} {R : Room} {s : State} {m : MethodId} {args : Array Value} {below : List Frame} {meth : Method} {c : Code} {H : Heap} {locs : List Loc} {D : va_G} {ws : va_W} {cc : ByteArray} {pc : Nat} {ls : Array Slot} {v : Int32}
theorem ke_R {Q : Int32 → Prop} (hx : p.tables.exec = Jvm.exec) (hb : c.code = cc) (hr : meth.sig.returnType = some .int) (hlocks : meth.locks = false) (hS : va_S (va_A [] s.heap.size) s.heap H locs) (hdg : decode cc pc = .ok (.ireturn, 1)) (hq : Q v) :
    W p l e R s m args below meth c H locs 0 0 (MQ below (va_Qi (fun r (_ : Unit) => Q r) (fun _ _ => True) (va_A [] s.heap.size)) args s 0 0 (va_A [] s.heap.size)) (F0 m pc ls [.int v]) :=
  W.iret (v := v) hx hb hr (fun t ht hW => ⟨⟨v, (), rfl, hq, trivial⟩, hS.F ht⟩) hS.2.2 hdg hlocks
theorem ke_Z {Q : Int32 → Prop} (hx : p.tables.exec = Jvm.exec) (hb : c.code = cc) (hr : meth.sig.returnType = some .boolean) (hlocks : meth.locks = false) (hS : va_S (va_A [] s.heap.size) s.heap H locs) (hdg : decode cc pc = .ok (.ireturn, 1)) (b : Bool) (hv : v = nB b) (hq : Q (nB b)) :
    W p l e R s m args below meth c H locs 0 0 (MQ below (va_Qi (fun r (_ : Unit) => Q r) (fun _ _ => True) (va_A [] s.heap.size)) args s 0 0 (va_A [] s.heap.size)) (F0 m pc ls [.int v]) := by
  subst hv
  exact W.zret hx hb hr (nB_nar b) (fun t ht hW => ⟨⟨nB b, (), rfl, hq, trivial⟩, hS.F ht⟩) hS.2.2 hdg hlocks
theorem ke_W {S : Type} {post : Int32 → S → Prop} {w1 : S → va_W} (hx : p.tables.exec = Jvm.exec) (hb : c.code = cc) (hr : meth.sig.returnType = some .int) (hlocks : meth.locks = false) (u : S) (hP : va_P D vwCl (w1 u) H) (hD : va_D (va_A ws s.heap.size) (w1 u)) (hS : va_S (va_A ws s.heap.size) s.heap H locs) (hdg : decode cc pc = .ok (.ireturn, 1)) (hq : post v u) :
    W p l e R s m args below meth c H locs 0 0 (MQ below (va_Qi post (fun u t => va_P D vwCl (w1 u) t.heap ∧ va_D (va_A ws s.heap.size) (w1 u)) (va_A ws s.heap.size)) args s 0 0 (va_A ws s.heap.size)) (F0 m pc ls [.int v]) :=
  W.iret (v := v) hx hb hr (fun t ht hW => ⟨⟨v, u, rfl, hq, by rw [ht]; exact hP, hD⟩, hS.F ht⟩) hS.2.2 hdg hlocks
theorem ke_WZ {S : Type} {post : Int32 → S → Prop} {w1 : S → va_W} (hx : p.tables.exec = Jvm.exec) (hb : c.code = cc) (hr : meth.sig.returnType = some .boolean) (hlocks : meth.locks = false) (u : S) (hP : va_P D vwCl (w1 u) H) (hD : va_D (va_A ws s.heap.size) (w1 u)) (hS : va_S (va_A ws s.heap.size) s.heap H locs) (hdg : decode cc pc = .ok (.ireturn, 1)) (b : Bool) (hv : v = nB b) (hq : post (nB b) u) :
    W p l e R s m args below meth c H locs 0 0 (MQ below (va_Qi post (fun u t => va_P D vwCl (w1 u) t.heap ∧ va_D (va_A ws s.heap.size) (w1 u)) (va_A ws s.heap.size)) args s 0 0 (va_A ws s.heap.size)) (F0 m pc ls [.int v]) := by
  subst hv
  exact W.zret hx hb hr (nB_nar b) (fun t ht hW => ⟨⟨nB b, u, rfl, hq, by rw [ht]; exact hP, hD⟩, hS.F ht⟩) hS.2.2 hdg hlocks
theorem ke_V {S : Type} {post : S → Prop} {w1 : S → va_W} (hx : p.tables.exec = Jvm.exec) (hb : c.code = cc) (hr : meth.sig.returnType = none) (hlocks : meth.locks = false) (u : S) (hP : va_P D vwCl (w1 u) H) (hD : va_D (va_A ws s.heap.size) (w1 u)) (hS : va_S (va_A ws s.heap.size) s.heap H locs) (hdg : decode cc pc = .ok (.return_, 1)) (hq : post u) :
    W p l e R s m args below meth c H locs 0 0 (MQ below (va_Qv post (fun u t => va_P D vwCl (w1 u) t.heap ∧ va_D (va_A ws s.heap.size) (w1 u)) (va_A ws s.heap.size)) args s 0 0 (va_A ws s.heap.size)) (F0 m pc ls []) :=
  W.vret hx hb hr (fun t ht hW => ⟨⟨u, rfl, hq, by rw [ht]; exact hP, hD⟩, hS.F ht⟩) hS.2.2 hdg hlocks
end KE
section KQ
variable {p : Program} {l : Launch} {e : Env} {R : Room} {s : State} {m : MethodId} {args : Array Value} {below : List Frame} {meth : Method} {c : Code} {H : Heap} {locs : List Loc} {cells slots : Nat} {Q : State → Prop} {pc : Nat} {ls : Array Slot} {rest st0 : List Value} {a : Array Value} {A : Nat → Prop} {H0 : Heap} {D : va_G} {cl : List vw_C} {ws wc wr : va_W}
theorem kq_R {Qr : Int32 → Prop} (hr : va_Run p l e R s m args below meth c H locs cells slots 0 0 (F0 m pc ls st0) rest (va_Qi (fun r (_ : Unit) => Qr r) (fun _ _ => True) (va_A [] H.size) a) (va_A [] H.size)) (hP : va_P D cl ws H) (hS : va_S A H0 H locs) (hA : ∀ q, H0.size ≤ q → A q)
    (kk : ∀ (r : Int32) (H1 : Heap) (locs1 : List Loc), Qr r → va_P D cl ws H1 → va_S A H0 H1 locs1 → W p l e R s m args below meth c H1 locs1 cells slots Q (F0 m (pc + 3) ls (.int r :: rest))) : W p l e R s m args below meth c H locs cells slots Q (F0 m pc ls st0) := by
  have hn : ∀ q : Nat, q < H.size → ¬ va_A [] H.size q := fun q h z => by
    rcases z with ⟨k, x, z⟩ | z
    · simp at z
    · omega
  refine va_calli hr hS (fun q hq h => absurd h (hn q hq)) (fun q h => ?_) (fun r u t H1 locs1 ht hvm hw hB hz hk hS => kk r H1 locs1 hw (hP.kept fun k q hq => hk q.1 ((hP k q hq).lt) (hn q.1 ((hP k q hq).lt))) hS)
  rcases h with ⟨k, x, h⟩ | h
  · simp at h
  · exact hA q (Nat.le_trans hS.1 h)
theorem kq_W {S : Type} {post : Int32 → S → Prop} {w1 : S → va_W} (hr : va_Run p l e R s m args below meth c H locs cells slots 0 0 (F0 m pc ls st0) rest (va_Qi post (fun u t => va_P D cl (w1 u) t.heap ∧ va_D (va_A wc H.size) (w1 u)) (va_A wc H.size) a) (va_A wc H.size)) (hP : va_P D cl ws H) (hD : va_D A ws) (hS : va_S A H0 H locs) (hA : ∀ q, H0.size ≤ q → A q)
    (isC isR : List Nat) (hC : isC.map (fun i => ws[i]?) = wc.map some) (hR : isR.map (fun i => ws[i]?) = wr.map some) (hn : va_nd isR = true) (hdis : ∀ i ∈ isR, i ∉ isC)
    (kk : ∀ (r : Int32) (u : S) (H1 : Heap) (locs1 : List Loc), post r u → va_P D cl (wr ++ w1 u) H1 → va_D A (wr ++ w1 u) → va_S A H0 H1 locs1 → W p l e R s m args below meth c H1 locs1 cells slots Q (F0 m (pc + 3) ls (.int r :: rest))) : W p l e R s m args below meth c H locs cells slots Q (F0 m pc ls st0) := by
  have hF := va_free (wc := wc) hD hS hA isC hC
  refine va_calli hr hS (fun q _ h => hF q h) hF (fun r u t H1 locs1 ht hvm hw hB hz hk hS => ?_)
  obtain ⟨hP1, hD1⟩ := hB
  rw [ht] at hP1
  obtain ⟨hP2, hD2⟩ := va_join (wr := wr) (w1 := w1 u) hP hD isC isR hC hR hn hdis hk hF hP1 hD1
  exact kk r u H1 locs1 hw hP2 hD2 hS
theorem kq_V {S : Type} {post : S → Prop} {w1 : S → va_W} (hr : va_Run p l e R s m args below meth c H locs cells slots 0 0 (F0 m pc ls st0) rest (va_Qv post (fun u t => va_P D cl (w1 u) t.heap ∧ va_D (va_A wc H.size) (w1 u)) (va_A wc H.size) a) (va_A wc H.size)) (hP : va_P D cl ws H) (hD : va_D A ws) (hS : va_S A H0 H locs) (hA : ∀ q, H0.size ≤ q → A q)
    (isC isR : List Nat) (hC : isC.map (fun i => ws[i]?) = wc.map some) (hR : isR.map (fun i => ws[i]?) = wr.map some) (hn : va_nd isR = true) (hdis : ∀ i ∈ isR, i ∉ isC)
    (kk : ∀ (u : S) (H1 : Heap) (locs1 : List Loc), post u → va_P D cl (wr ++ w1 u) H1 → va_D A (wr ++ w1 u) → va_S A H0 H1 locs1 → W p l e R s m args below meth c H1 locs1 cells slots Q (F0 m (pc + 3) ls rest)) : W p l e R s m args below meth c H locs cells slots Q (F0 m pc ls st0) := by
  have hF := va_free (wc := wc) hD hS hA isC hC
  refine va_callv hr hS (fun q _ h => hF q h) hF (fun u t H1 locs1 ht hvm hw hB hz hk hS => ?_)
  obtain ⟨hP1, hD1⟩ := hB
  rw [ht] at hP1
  obtain ⟨hP2, hD2⟩ := va_join (wr := wr) (w1 := w1 u) hP hD isC isR hC hR hn hdis hk hF hP1 hD1
  exact kk u H1 locs1 hw hP2 hD2 hS
end KQ
section KL
variable {p : Program} {l : Launch} {e : Env} {R : Room} {s : State} {m : MethodId} {args : Array Value} {below : List Frame} {meth : Method} {c : Code} {cells slots : Nat} {Q : State → Prop}
/-- a loop that counts from j0 to N -/
theorem kl_for {head N : Nat} (I : Nat → Heap → List Loc → Array Slot → Prop) (j0 : Nat) (h0 : j0 ≤ N)
    (step : ∀ j : Nat, j < N → ∀ (H : Heap) (locs : List Loc) (ls : Array Slot), I j H locs ls → (∀ (H1 : Heap) (locs1 : List Loc) (ls1 : Array Slot), I (j + 1) H1 locs1 ls1 → W p l e R s m args below meth c H1 locs1 cells slots Q (F0 m head ls1 [])) → W p l e R s m args below meth c H locs cells slots Q (F0 m head ls []))
    (exit : ∀ (H : Heap) (locs : List Loc) (ls : Array Slot), I N H locs ls → W p l e R s m args below meth c H locs cells slots Q (F0 m head ls []))
    {H : Heap} {locs : List Loc} {ls : Array Slot} (h : I j0 H locs ls) : W p l e R s m args below meth c H locs cells slots Q (F0 m head ls []) := by
  have key : ∀ (n j : Nat), j + n = N → ∀ (H : Heap) (locs : List Loc) (ls : Array Slot), I j H locs ls → W p l e R s m args below meth c H locs cells slots Q (F0 m head ls []) := by
    intro n
    induction n with
    | zero => intro j hj H locs ls h; have : j = N := by omega
              subst this; exact exit H locs ls h
    | succ n ih => intro j hj H locs ls h; exact step j (by omega) H locs ls h (fun H1 l1 s1 h1 => ih (j + 1) (by omega) H1 l1 s1 h1)
  exact key (N - j0) j0 (by omega) H locs ls h
/-- a loop with a measure that falls -/
theorem kl_while {α : Type} {head : Nat} (I : α → Heap → List Loc → Array Slot → Prop) (μ : α → Nat)
    (step : ∀ (x : α) (H : Heap) (locs : List Loc) (ls : Array Slot), I x H locs ls → (∀ (x1 : α) (H1 : Heap) (locs1 : List Loc) (ls1 : Array Slot), μ x1 < μ x → I x1 H1 locs1 ls1 → W p l e R s m args below meth c H1 locs1 cells slots Q (F0 m head ls1 [])) → W p l e R s m args below meth c H locs cells slots Q (F0 m head ls []))
    (x0 : α) {H : Heap} {locs : List Loc} {ls : Array Slot} (h : I x0 H locs ls) : W p l e R s m args below meth c H locs cells slots Q (F0 m head ls []) := by
  have key : ∀ (n : Nat) (x : α), μ x < n → ∀ (H : Heap) (locs : List Loc) (ls : Array Slot), I x H locs ls → W p l e R s m args below meth c H locs cells slots Q (F0 m head ls []) := by
    intro n
    induction n with
    | zero => intro x hx; omega
    | succ n ih => intro x hx H locs ls h; exact step x H locs ls h (fun x1 H1 l1 s1 hm h1 => ih x1 (by omega) H1 l1 s1 h1)
  exact key (μ x0 + 1) x0 (by omega) H locs ls h
/-- a place where ways meet -/
theorem kl_cut {pc : Nat} {H0 : Heap} {locs0 : List Loc} {g : JFrame} (I : Heap → List Loc → Array Slot → List Value → Prop)
    (k : ∀ (H : Heap) (locs : List Loc) (ls : Array Slot) (st : List Value), I H locs ls st → W p l e R s m args below meth c H locs cells slots Q (F0 m pc ls st))
    (kk : (∀ (H : Heap) (locs : List Loc) (ls : Array Slot) (st : List Value), I H locs ls st → W p l e R s m args below meth c H locs cells slots Q (F0 m pc ls st)) → W p l e R s m args below meth c H0 locs0 cells slots Q g) : W p l e R s m args below meth c H0 locs0 cells slots Q g := kk k
end KL
