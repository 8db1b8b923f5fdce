/-! ===== BEGIN words of one list among another's, by their places ===== -/
theorem goodIn_r {big : List Cond} (ws : List Cond) (ps : List Nat) (hp : ws = ps.filterMap (fun i => big[i]?)) (h : ws.all goodWord = true) : GoodIn big ws := by
  intro w hw
  have h1 := List.all_eq_true.mp h w hw
  rw [hp] at hw
  obtain ⟨i, -, hi⟩ := List.mem_filterMap.mp hw
  have hm : w ∈ big := by first | exact List.mem_of_getElem? hi | exact List.getElem?_mem hi
  exact ⟨hm, good_of_word h1⟩
theorem goodIn_app {big a b : List Cond} (ha : GoodIn big a) (hb : GoodIn big b) : GoodIn big (a ++ b) := fun w h => (List.mem_append.mp h).elim (ha w) (hb w)
theorem goodIn_ca {big a b : List Cond} {c : Cond} (ha : GoodIn big (c :: a)) (hb : GoodIn big b) : GoodIn big (c :: (a ++ b)) := fun w h => (List.mem_cons.mp h).elim (fun e => ha w (List.mem_cons.mpr (Or.inl e))) (fun h => (List.mem_append.mp h).elim (fun h => ha w (List.mem_cons.mpr (Or.inr h))) (hb w))
theorem goodIn_sub {big ws : List Cond} (hm : ∀ w ∈ ws, w ∈ big) (h : ws.all goodWord = true) : GoodIn big ws := fun w hw => ⟨hm w hw, good_of_word (List.all_eq_true.mp h w hw)⟩
/-! ===== END ===== -/

/-! ===== BEGIN exceptions that leave a method, and their catching by the caller (launches without stack traces) ===== -/
section VXA
/-! The laws vx_back, vx_callV, vx_callS, vx_callSW, vx_throw0, vx_throwS follow proofs of the library, with one case more: JvmDerived/Free/Laws.lean (Back.of_free), Shelf42/LK1.lean (callV, callS), Shelf/KitTraced.lean (throwNew0V, throwNewS). -/
/-- where a method has thrown q: the class by its name, the cell, what was written, the world -/
def vx_T (XC : String → State → State → Prop) (st : State) (q : Addr) (t : State) (mc ms : Nat) (free : Addr → Prop) : Prop :=
  ∃ (E : String) (ce : Cell) (L : List Loc), XC E st t ∧ t.heap[q]? = some ce ∧ ce.vm = .none ∧ st.vm.findClass E = some ce.cls ∧ st.WarmedH t.vm ∧ st.sameButNew ({ t with vm := st.vm } : State) L mc ms ∧ ∀ z ∈ L, free z.base
def vx_Q (Qc : Array Value → State → Outcome → State → Prop) (XC : String → State → State → Prop) (mc ms : Nat) (free : Addr → Prop) : Array Value → State → Outcome → State → Prop := fun a st o t =>
  (Qc a st o t ∧ ∃ L, FrameEnd st o t L mc ms ∧ ∀ q ∈ L, free q.base) ∨ ∃ q, o = .threw q ∧ vx_T XC st q t mc ms free
/-- a callee that returns or throws -/
def vx_Met (l : Launch) (y : MethodName) (ws : List Cond) (rm : Room) (Pc : Array Value → State → Prop) (Qc : Array Value → State → Outcome → State → Prop) (XC : String → State → State → Prop) (mc ms : Nat) (free : Addr → Prop) : Prop :=
  MetFree l y (headSpec ws rm) Pc (fun _ _ _ _ _ => True) (vx_Q Qc XC mc ms free)
def vx_Post (XC : String → State → State → Prop) (mc ms : Nat) (free : Addr → Prop) : Pt → Array Value → Addr → Pt → Prop := fun A a q B =>
  ∃ (g : JFrame) (mk : MethodId) (t : State) (L : List Loc) (E : String) (ce : Cell), B.U.heap = t.heap ∧ B.U.vm = t.vm ∧ XC E (A.U.calling g mk a) t ∧ t.heap[q]? = some ce ∧ ce.vm = .none ∧ A.U.vm.findClass E = some ce.cls ∧ B.locs = A.locs ++ L ∧ (∀ z ∈ L, free z.base) ∧ B.cells = A.cells + mc ∧ B.slots = A.slots + ms
def vx_Back (l : Launch) (R : Room) (p : Program) (e : Env) (below : List Frame) (s : State) (sargs : Array Value) (y : MethodName) (len W9 : Nat)
    (Pre : Pt → Array Value → Prop) (Post : Pt → Array Value → Option Value → Pt → Prop) (PostX : Pt → Array Value → Addr → Pt → Prop) : Prop :=
  ∀ (m : MethodId) (meth : Method) (c : Code) (A : Pt) (g : JFrame) (ig : Instr) (mk : MethodId) (a : Array Value),
    Stand p l e R s m sargs below meth c A.U A.locs A.cells A.slots → g.method = m → g.locals.size = c.maxLocals → decode c.code g.pc = .ok (ig, len) →
    2 * g.monitorRoom + (g.stack.map fun v => v.category).sum ≤ W9 → A.U.methodNamed? y = some mk → Pre A a →
    (∃ (v : Option Value) (B : Pt), Stand p l e R s m sargs below meth c B.U B.locs B.cells B.slots ∧ Post A a v B ∧
      Steps p.tables e below (doInvoke e (A.U.setTop g) [] mk a).1 (B.U.setTop { g with pc := g.pc + len, stack := v.toList ++ g.stack })) ∨
    (∃ (q : Addr) (B : Pt), Stand p l e R s m sargs below meth c B.U B.locs B.cells B.slots ∧ PostX A a q B ∧
      Steps p.tables e below (doInvoke e (A.U.setTop g) [] mk a).1 ((B.U.setTop g).pushFrame (.throwing q)))
section Payer
variable {l : Launch} {R : Room} {p : Program} {e : Env} {below : List Frame} {s : State} {sargs : Array Value} {y : MethodName} {len W9 : Nat}
theorem vx_back {ws : List Cond} {rm : Room} {Pc : Array Value → State → Prop} {Qc : Array Value → State → Outcome → State → Prop} {XC : String → State → State → Prop} {mc ms : Nat} {free : Addr → Prop} {bytes : ByteArray} {maxL : Nat} {ret : Option FieldType}
    (hM : vx_Met l y ws rm Pc Qc XC mc ms free) (hblind : FrameBlind Pc) (hrc : rm.cells = mc) (hrs : rm.slots = ms)
    (hframes : rm.frames + 1 ≤ R.frames) (hlocals : W9 + (maxL + 11) + rm.locals ≤ R.locals)
    (hws : ∀ w ∈ ws, ∀ a' U, s.WarmedH U.vm → w.before a' U = true) (hcode : Cond.code y bytes maxL ret ∈ ws) (hinit : ∀ a' U, s.WarmedH U.vm → (Cond.initialized y.cls).before a' U = true) :
    vx_Back l R p e below s sargs y len W9 (PreOf R mc ms Pc) (PostOf Qc mc ms free) (vx_Post XC mc ms free) := by
  intro m meth c A g ig mk a X hg hsize hdg hW hn hp
  have h1 : (headSpec ws rm).pre.before a A.U = true := atoms_intro fun w hw => hws w hw _ _ X.warmed
  have h2 : (Cond.code y bytes maxL ret).before a A.U = true := hws _ hcode _ _ X.warmed
  have h3 : (Cond.initialized y.cls).before a A.U = true := hinit _ _ X.warmed
  have h4 : A.cells + (headSpec ws rm).room.cells ≤ R.cells := by rw [show (headSpec ws rm).room.cells = mc from hrc]; exact hp.1
  have h5 : A.slots + (headSpec ws rm).room.slots ≤ R.slots := by rw [show (headSpec ws rm).room.slots = ms from hrs]; exact hp.2.1
  have hPc : Pc a (A.U.calling g mk a) := hblind _ _ _ _ hp.2.2
  obtain ⟨U, Ls, c0, s0⟩ := A
  dsimp only [Pt.U, Pt.locs, Pt.cells, Pt.slots] at h1 h2 h3 h4 h5 X hn hPc ⊢
  obtain ⟨methY, cY, hmY, hcY, -, hlY, -, -, -, -⟩ := Cond.code_spec hn h2
  obtain ⟨kY, hkY, -⟩ := className_of_methodNamed hn
  have hinitY : kY.init = .initialized := Cond.initialized_spec (findClass_of_methodNamed hn) hkY h3
  have h : At U g.method c below := by rw [hg]; exact X.here
  have hlocals9 : W9 + (maxL + 11) + (headSpec ws rm).room.locals ≤ R.locals := hlocals
  have happ : (headSpec ws rm).appliesLoose y e.platform (U.calling g mk a) = true :=
    Spec.appliesLoose_calling (g := g) h hdg hn hkY hinitY
      (X.room_calling (g := g) (R' := (headSpec ws rm).room) hsize hmY hcY hframes (by rw [hlY]; omega) h4 h5) h1
  obtain ⟨mid, hmid⟩ := h.above
  have hfr : (U.setTop g).frames = (.java g :: mid) ++ below := by rw [State.frames_setTop' g h.top, hmid]; rfl
  obtain ⟨o, s₂, hsteps, -, hend, hq⟩ := Steps.callFree hM p X.admits X.cas X.clock (acts := []) hfr happ hPc trivial
  have hq' : vx_Q Qc XC mc ms free a (U.calling g mk a) o s₂ := hq
  rw [State.frames_setTop' g h.top] at hend
  obtain ⟨g₀, hg0⟩ := Option.isSome_iff_exists.mp h.top
  obtain ⟨r, hr⟩ := State.topJava?_eq_some.mp hg0
  have hr' : (({ U with heap := s₂.heap, slotsUsed := s₂.slotsUsed } : State).setVm s₂.vm).frames = .java g₀ :: r := hr
  rcases hq' with ⟨hqc, L, hfe, hL⟩ | ⟨q, rfl, E, ce, L, hx, hce, hcv, hcl, hW₂, hsm, hL⟩
  · obtain ⟨⟨v, rfl⟩, hW₂, e2, q2, q3, q4, q5, q6⟩ := id hfe
    have e3 : s₂ = ({ (U.calling g mk a).setFrames s₂.frames with heap := s₂.heap, slotsUsed := s₂.slotsUsed } : State).setVm s₂.vm := by
      have : s₂ = ({ s₂ with vm := (U.calling g mk a).vm } : State).setVm s₂.vm := rfl
      rw [e2] at this
      exact this
    obtain ⟨c₂, i₂, len₂, hc₂, hd₂, hf₂⟩ := hend
    have hW' : U.WarmedH s₂.vm := hW₂
    have hcc : c₂ = c := by
      have h1 : s₂.code? g.method = U.code? g.method := by
        rw [State.code?_eq, State.code?_eq, hW'.alike.method?]
      exact Option.some.inj (hc₂.symm.trans (h1.trans h.code))
    subst hcc
    have hlen : len₂ = len := by rw [hdg] at hd₂; cases hd₂; rfl
    subst hlen
    have hs₂ : s₂ = (({ U with heap := s₂.heap, slotsUsed := s₂.slotsUsed } : State).setVm s₂.vm).setTop { g with pc := g.pc + len₂, stack := v.toList ++ g.stack } := by
      refine e3.trans ?_
      rw [hf₂, State.calling_eq h.top, State.setFrames_setFrames, State.setTop_of_frames _ hr', hr]
      rfl
    have hsame : U.sameButNew ({ U with heap := s₂.heap, slotsUsed := s₂.slotsUsed } : State) L mc ms := by
      refine ⟨?_, q2, q3, q4, q5, q6⟩
      obtain ⟨t, ht, -⟩ := State.frames_cons hr
      show ({ U with heap := s₂.heap, slotsUsed := s₂.slotsUsed } : State) = { U.setFrames U.frames with heap := s₂.heap, slotsUsed := s₂.slotsUsed }
      rw [State.setFrames_self ht]
    subst hg
    refine Or.inl ⟨v, ⟨(({ U with heap := s₂.heap, slotsUsed := s₂.slotsUsed } : State).setVm s₂.vm), Ls ++ L, c0 + mc, s0 + ms⟩,
      ⟨X.admits, X.cas, X.clock, X.frames, X.room, X.hears, X.method, X.code, (X.here.setHeapUsed s₂.heap s₂.slotsUsed).setVm hW'.alike, X.tail, State.WarmedH.trans X.warmed hW', X.limits, X.bytes, X.same.trans (hsame.setVm s.vm)⟩,
      ⟨g, mk, s₂, L, rfl, rfl, hqc, rfl, hL, rfl, rfl⟩, ?_⟩
    show Steps p.tables e below _ ((({ U with heap := s₂.heap, slotsUsed := s₂.slotsUsed } : State).setVm s₂.vm).setTop { g with pc := g.pc + len₂, stack := v.toList ++ g.stack })
    rw [← hs₂]
    exact hsteps
  · obtain ⟨e2, q2, q3, q4, q5, q6⟩ := id hsm
    have e3 : s₂ = ({ (U.calling g mk a).setFrames s₂.frames with heap := s₂.heap, slotsUsed := s₂.slotsUsed } : State).setVm s₂.vm := by
      have : s₂ = ({ s₂ with vm := (U.calling g mk a).vm } : State).setVm s₂.vm := rfl
      rw [e2] at this
      exact this
    have hf₂ : s₂.frames = .throwing q :: .java g :: U.frames.tail := hend
    have hW' : U.WarmedH s₂.vm := hW₂
    have hs₂ : s₂ = ((({ U with heap := s₂.heap, slotsUsed := s₂.slotsUsed } : State).setVm s₂.vm).setTop g).pushFrame (.throwing q) := by
      refine e3.trans ?_
      rw [hf₂, State.calling_eq h.top, State.setFrames_setFrames, State.pushFrame, State.frames_setTop _ hr', State.setTop_of_frames _ hr', State.setFrames_setFrames, hr]
      rfl
    have hsame : U.sameButNew ({ U with heap := s₂.heap, slotsUsed := s₂.slotsUsed } : State) L mc ms := by
      refine ⟨?_, q2, q3, q4, q5, q6⟩
      obtain ⟨t, ht, -⟩ := State.frames_cons hr
      show ({ U with heap := s₂.heap, slotsUsed := s₂.slotsUsed } : State) = { U.setFrames U.frames with heap := s₂.heap, slotsUsed := s₂.slotsUsed }
      rw [State.setFrames_self ht]
    subst hg
    refine Or.inr ⟨q, ⟨(({ U with heap := s₂.heap, slotsUsed := s₂.slotsUsed } : State).setVm s₂.vm), Ls ++ L, c0 + mc, s0 + ms⟩,
      ⟨X.admits, X.cas, X.clock, X.frames, X.room, X.hears, X.method, X.code, (X.here.setHeapUsed s₂.heap s₂.slotsUsed).setVm hW'.alike, X.tail, State.WarmedH.trans X.warmed hW', X.limits, X.bytes, X.same.trans (hsame.setVm s.vm)⟩,
      ⟨g, mk, s₂, L, E, ce, rfl, rfl, hx, hce, hcv, hcl, rfl, hL, rfl, rfl⟩, ?_⟩
    show Steps p.tables e below _ (((({ U with heap := s₂.heap, slotsUsed := s₂.slotsUsed } : State).setVm s₂.vm).setTop g).pushFrame (.throwing q))
    rw [← hs₂]
    exact hsteps
end Payer
section Calls
variable {p : Program} {l : Launch} {e : Env} {R : Room} {s : State} {m : MethodId} {args : Array Value} {below : List Frame} {meth : Method} {c : Code} {T : State} {locs : List Loc} {cells slots : Nat}
theorem vx_callV (X : Stand p l e R s m args below meth c T locs cells slots) (hexec : p.tables.exec = Jvm.exec) {own C : String} {index : Nat} {y : MethodName} {bytes : ByteArray} {maxL : Nat} {ret : Option FieldType}
    (hown : s.vm.findClass own = some m.cls) (hlink : (Cond.methodLink own index y).before args s = true) (hinst : (Cond.instanceMethod y).before args s = true) (hsel : (Cond.selects C y y).before args s = true)
    (hcode : (Cond.code y bytes maxL ret).before args s = true) (hy : y.cls ≠ "java/lang/invoke/MethodHandle" ∧ y.cls ≠ "java/lang/invoke/VarHandle")
    {W9 : Nat} {Pre : Pt → Array Value → Prop} {Post : Pt → Array Value → Option Value → Pt → Prop} {PostX : Pt → Array Value → Addr → Pt → Prop} (hK : vx_Back l R p e below s args y 3 W9 Pre Post PostX)
    {b : Addr} {cellB : Cell} (hcell : T.heap[b]? = some cellB) (hobj : cellB.vm.isStatics = false) (hcls : s.vm.findClass C = some cellB.cls)
    {g : JFrame} (hg : g.method = m) (hsize : g.locals.size = c.maxLocals) {argsL rest : List Value} (hlen : ∀ sig, parseMethodDescriptor y.desc = some sig → argsL.length = sig.parameters.length)
    (hstack : g.stack = argsL.reverse ++ .ref b :: rest) (hW : 2 * g.monitorRoom + (rest.map fun v => v.category).sum ≤ W9) (hdg : decode c.code g.pc = .ok (.invokevirtual index, 3))
    (hpre : ∀ vm₁, s.WarmedH vm₁ → Pre ⟨T.setVm vm₁, locs, cells, slots⟩ (Value.ref b :: argsL).toArray) :
    (∃ (v : Option Value) (vm₁ : Vm) (B : Pt), s.WarmedH vm₁ ∧ Stand p l e R s m args below meth c B.U B.locs B.cells B.slots ∧ Post ⟨T.setVm vm₁, locs, cells, slots⟩ (Value.ref b :: argsL).toArray v B ∧
      ∀ target, Steps p.tables e below (B.U.setTop { g with pc := g.pc + 3, stack := v.toList ++ rest }) target → Steps p.tables e below (T.setTop g) target) ∨
    (∃ (q : Addr) (vm₁ : Vm) (B : Pt), s.WarmedH vm₁ ∧ Stand p l e R s m args below meth c B.U B.locs B.cells B.slots ∧ PostX ⟨T.setVm vm₁, locs, cells, slots⟩ (Value.ref b :: argsL).toArray q B ∧
      Steps p.tables e below (T.setTop g) ((B.U.setTop { g with stack := rest }).pushFrame (.throwing q))) := by
  obtain ⟨mk, methM, hnamed, hmethM, hstM, habM⟩ := Cond.instanceMethod_spec hinst
  obtain ⟨methM', cM, hmethM', -, -, -, -, -, -, hsigM⟩ := Cond.code_spec hnamed hcode
  cases hmethM.symm.trans hmethM'
  obtain ⟨c2, r2, m2, q1, q2, q3, q4, kP, hkP, hkPi⟩ := Cond.selects_spec hsel
  cases hcls.symm.trans q1
  cases (State.methodFound?_of_named hnamed hy).symm.trans q2
  cases hnamed.symm.trans q3
  have hselP : selectMethod e.platform s.vm cellB.cls mk = .method mk := by rw [Launch.admits_selectMethod X.admits]; exact q4
  obtain ⟨vm₁, X₁, hstep₁⟩ := X.invokevirtual hexec hown hlink hnamed hmethM hstM hkP hkPi hy (a := b) (cell := cellB) hcell
    (fun z h => by rw [h] at hobj; cases hobj) hselP hmethM habM hkP hkPi (g := g) hg (argsL := argsL) (rest := rest) (hlen _ hsigM) hstack hdg
  rcases hK m meth c ⟨T.setVm vm₁, locs, cells, slots⟩ { g with stack := rest } (.invokevirtual index) mk (Value.ref b :: argsL).toArray X₁ hg hsize hdg hW (X₁.named hnamed) (hpre vm₁ X₁.warmed) with ⟨v, B, X', hpost, hsteps⟩ | ⟨q, B, X', hpost, hsteps⟩
  · exact Or.inl ⟨v, vm₁, B, X₁.warmed, X', hpost, fun target h => hstep₁ _ fun acts => by rw [doInvoke_state]; exact hsteps.trans h⟩
  · exact Or.inr ⟨q, vm₁, B, X₁.warmed, X', hpost, hstep₁ _ fun acts => by rw [doInvoke_state]; exact hsteps⟩
theorem vx_callS (X : Stand p l e R s m args below meth c T locs cells slots) (hexec : p.tables.exec = Jvm.exec) {own : String} {index : Nat} {y : MethodName} {bytes : ByteArray} {maxL : Nat} {ret : Option FieldType}
    (hown : s.vm.findClass own = some m.cls) (hlink : (Cond.methodLink own index y).before args s = true) (hstat : (Cond.static y).before args s = true) (hinit : (Cond.initialized y.cls).before args s = true)
    (hcode : (Cond.code y bytes maxL ret).before args s = true) (hy : y.cls ≠ "java/lang/invoke/MethodHandle" ∧ y.cls ≠ "java/lang/invoke/VarHandle")
    {W9 : Nat} {Pre : Pt → Array Value → Prop} {Post : Pt → Array Value → Option Value → Pt → Prop} {PostX : Pt → Array Value → Addr → Pt → Prop} (hK : vx_Back l R p e below s args y 3 W9 Pre Post PostX)
    {g : JFrame} (hg : g.method = m) (hsize : g.locals.size = c.maxLocals) {argsL rest : List Value} (hlen : ∀ sig, parseMethodDescriptor y.desc = some sig → argsL.length = sig.parameters.length)
    (hstack : g.stack = argsL.reverse ++ rest) (hW : 2 * g.monitorRoom + (rest.map fun v => v.category).sum ≤ W9) (hdg : decode c.code g.pc = .ok (.invokestatic index, 3))
    (hpre : ∀ vm₁, s.WarmedH vm₁ → Pre ⟨T.setVm vm₁, locs, cells, slots⟩ argsL.toArray) :
    (∃ (v : Option Value) (vm₁ : Vm) (B : Pt), s.WarmedH vm₁ ∧ Stand p l e R s m args below meth c B.U B.locs B.cells B.slots ∧ Post ⟨T.setVm vm₁, locs, cells, slots⟩ argsL.toArray v B ∧
      ∀ target, Steps p.tables e below (B.U.setTop { g with pc := g.pc + 3, stack := v.toList ++ rest }) target → Steps p.tables e below (T.setTop g) target) ∨
    (∃ (q : Addr) (vm₁ : Vm) (B : Pt), s.WarmedH vm₁ ∧ Stand p l e R s m args below meth c B.U B.locs B.cells B.slots ∧ PostX ⟨T.setVm vm₁, locs, cells, slots⟩ argsL.toArray q B ∧
      Steps p.tables e below (T.setTop g) ((B.U.setTop { g with stack := rest }).pushFrame (.throwing q))) := by
  obtain ⟨mk, hnamed⟩ := Cond.code_named hcode
  obtain ⟨methM, cM, hmethM, -, -, -, -, -, -, hsigM⟩ := Cond.code_spec hnamed hcode
  have hstatic : methM.isStatic = true := Cond.static_spec hnamed hmethM hstat
  obtain ⟨kP, hkP, -⟩ := className_of_methodNamed hnamed
  have hinitP : kP.init = .initialized := Cond.initialized_spec (findClass_of_methodNamed hnamed) hkP hinit
  obtain ⟨vm₁, X₁, hstep₁⟩ := X.invokestatic hexec hown hlink hnamed hmethM hstatic hkP hinitP hy (g := g) hg (argsL := argsL) (rest := rest) (hlen _ hsigM) hstack hdg
  rcases hK m meth c ⟨T.setVm vm₁, locs, cells, slots⟩ { g with stack := rest } (.invokestatic index) mk argsL.toArray X₁ hg hsize hdg hW (X₁.named hnamed) (hpre vm₁ X₁.warmed) with ⟨v, B, X', hpost, hsteps⟩ | ⟨q, B, X', hpost, hsteps⟩
  · exact Or.inl ⟨v, vm₁, B, X₁.warmed, X', hpost, fun target h => hstep₁ _ fun acts => by rw [doInvoke_state]; exact hsteps.trans h⟩
  · exact Or.inr ⟨q, vm₁, B, X₁.warmed, X', hpost, hstep₁ _ fun acts => by rw [doInvoke_state]; exact hsteps⟩
end Calls
theorem vx_cls {s : State} {T : State} {vm₁ : Vm} {E : String} {k : ClassId} (hW : s.WarmedH vm₁) (h : (T.setVm vm₁).vm.findClass E = some k) : s.vm.findClass E = some k := by
  have h1 : vm₁.findClass E = some k := h
  rw [hW.alike.findClass] at h1
  exact h1
/-- the method's frame g, with q thrown over it -/
def vx_W (p : Program) (l : Launch) (e : Env) (R : Room) (s : State) (m : MethodId) (args : Array Value) (below : List Frame) (meth : Method) (c : Code) (H : Heap) (locs : List Loc) (cells slots : Nat) (Q : State → Prop) (g : JFrame) (q : Addr) : Prop :=
  ∀ T : State, T.heap = H → Stand p l e R s m args below meth c T locs cells slots → ∃ t, Steps p.tables e below ((T.setTop g).pushFrame (.throwing q)) t ∧ Q t
def vx_Run (p : Program) (l : Launch) (e : Env) (R : Room) (s : State) (m : MethodId) (args : Array Value) (below : List Frame) (meth : Method) (c : Code) (H : Heap) (locs : List Loc) (cells slots mc ms : Nat) (g : JFrame) (rest : List Value) (Qa : State → Outcome → State → Prop) (XC : String → State → State → Prop) (free : Addr → Prop) : Prop :=
  ∀ T : State, T.heap = H → Stand p l e R s m args below meth c T locs cells slots →
    (∃ (v : Option Value) (st₀ t T' : State) (L : List Loc), st₀.heap = H ∧ Stand p l e R s m args below meth c T' (locs ++ L) (cells + mc) (slots + ms) ∧ (∀ q ∈ L, free q.base) ∧ T'.heap = t.heap ∧ T'.vm = t.vm ∧ Qa st₀ (.returned v) t ∧
      Goes p e below T g T' { g with pc := g.pc + 3, stack := v.toList ++ rest }) ∨
    (∃ (q : Addr) (st₀ t T' : State) (L : List Loc) (E : String) (ce : Cell), st₀.heap = H ∧ Stand p l e R s m args below meth c T' (locs ++ L) (cells + mc) (slots + ms) ∧ (∀ z ∈ L, free z.base) ∧ T'.heap = t.heap ∧ T'.vm = t.vm ∧ XC E st₀ t ∧ t.heap[q]? = some ce ∧ ce.vm = .none ∧ s.vm.findClass E = some ce.cls ∧
      Steps p.tables e below (T.setTop g) ((T'.setTop { g with stack := rest }).pushFrame (.throwing q)))
def vx_X {S : Type} (px : S → Prop) (B : String → S → State → Prop) (A : Nat → Prop) : String → State → State → Prop := fun E st t => ∃ u : S, px u ∧ B E u t ∧ va_F A st t
section Runs
variable {p : Program} {l : Launch} {e : Env} {R : Room} {s : State} {m : MethodId} {args : Array Value} {below : List Frame} {meth : Method} {c : Code} {H : Heap} {locs : List Loc} {cells slots : Nat}
variable {y : MethodName} {bytes cc : ByteArray} {maxL nL mc ms n index : Nat} {ret : Option FieldType} {ws : List Cond} {rm : Room} {Pc : Array Value → State → Prop} {Qc : Array Value → State → Outcome → State → Prop} {XC : String → State → State → Prop} {free : Addr → Prop} {Ts : List Cond} {own C : String} {b : Addr} {As rest : List Value} {g : JFrame}
theorem vx_callBack (cb : CallB R s args own index y bytes maxL ret ws rm mc ms n) (hM : vx_Met l y ws rm Pc Qc XC mc ms free) (hbl : FrameBlind Pc) : vx_Back l R p e below s args y 3 8 (PreOf R mc ms Pc) (PostOf Qc mc ms free) (vx_Post XC mc ms free) := by
  obtain ⟨hrc, hrs, hfr, hlo, hws, hcw, -, hini, -⟩ := cb
  exact vx_back (bytes := bytes) (maxL := maxL) (ret := ret) hM hbl hrc hrs hfr hlo hws hcw (fun a' U hW => word_at hW (Or.inl (by first | rfl | simp [Cond.onTables, Cond.keeps, Cond.steady])) hini)
theorem vx_runV (S : CallFix p m c cc nL s args Ts own) (hM : vx_Met l y ws rm Pc Qc XC mc ms free) (cw : CallW R s args own C index y bytes maxL ret ws rm mc ms n) (hp : PreV s H C b Pc As)
    (hg : g.method = m) (hn : As.length = n) (hsize : g.locals.size = nL) (hstack : g.stack = As.reverse ++ .ref b :: rest) (hW : 2 * g.monitorRoom + (rest.map fun v => v.category).sum ≤ 8) (hdg : decode cc g.pc = .ok (.invokevirtual index, 3)) (hf : cells + mc ≤ R.cells ∧ slots + ms ≤ R.slots) :
    vx_Run p l e R s m args below meth c H locs cells slots mc ms g rest (Qc (Value.ref b :: As).toArray) XC free := by
  have hK : vx_Back l R p e below s args y 3 8 (PreOf R mc ms Pc) (PostOf Qc mc ms free) (vx_Post XC mc ms free) := vx_callBack cw.1 hM hp.1
  obtain ⟨⟨-, -, -, -, -, -, hcode, -, hy, hlen, hl⟩, hin, hse⟩ := cw
  obtain ⟨hx, hb, hml, ho, -⟩ := S
  obtain ⟨-, ⟨cellB, hcB, hoB, hclB⟩, hPc⟩ := hp
  intro T hT X
  rcases vx_callV X hx (C := C) (bytes := bytes) (maxL := maxL) (ret := ret) ho hl hin hse hcode hy hK (by rw [hT]; exact hcB) hoB hclB hg (hsize.trans hml.symm) (argsL := As) (rest := rest) (fun sig h => hn.trans (hlen sig h)) hstack hW (by rw [hb]; exact hdg)
    (fun vm₁ hW₁ => ⟨hf.1, hf.2, hPc (T.setVm vm₁) hT hW₁⟩) with ⟨v, vm₁, ⟨U', l2, c2, s2⟩, hW₁, X', ⟨g', mk, t, L, e1, e2, hq, h1, hL, h2, h3⟩, st⟩ | ⟨q, vm₁, ⟨U', l2, c2, s2⟩, hW₁, X', ⟨g', mk, t, L, E, ce, e1, e2, hq, hce, hcv, hcl, h1, hL, h2, h3⟩, st⟩
  · dsimp only [Pt.U, Pt.locs, Pt.cells, Pt.slots] at X' e1 e2 h1 h2 h3 st
    subst h1; subst h2; subst h3
    exact Or.inl ⟨v, (T.setVm vm₁).calling g' mk (Value.ref b :: As).toArray, t, U', L, hT, X', hL, e1, e2, hq, st⟩
  · dsimp only [Pt.U, Pt.locs, Pt.cells, Pt.slots] at X' e1 e2 h1 h2 h3 st hcl
    subst h1; subst h2; subst h3
    exact Or.inr ⟨q, (T.setVm vm₁).calling g' mk (Value.ref b :: As).toArray, t, U', L, E, ce, hT, X', hL, e1, e2, hq, hce, hcv, vx_cls hW₁ hcl, st⟩
theorem vx_runS (S : CallFix p m c cc nL s args Ts own) (hM : vx_Met l y ws rm Pc Qc XC mc ms free) (cw : CallB R s args own index y bytes maxL ret ws rm mc ms n ∧ (Cond.static y).before args s = true) (hp : PreS s H Pc As)
    (hg : g.method = m) (hn : As.length = n) (hsize : g.locals.size = nL) (hstack : g.stack = As.reverse ++ rest) (hW : 2 * g.monitorRoom + (rest.map fun v => v.category).sum ≤ 8) (hdg : decode cc g.pc = .ok (.invokestatic index, 3)) (hf : cells + mc ≤ R.cells ∧ slots + ms ≤ R.slots) :
    vx_Run p l e R s m args below meth c H locs cells slots mc ms g rest (Qc As.toArray) XC free := by
  have hK : vx_Back l R p e below s args y 3 8 (PreOf R mc ms Pc) (PostOf Qc mc ms free) (vx_Post XC mc ms free) := vx_callBack cw.1 hM hp.1
  obtain ⟨⟨-, -, -, -, -, -, hcode, hini, hy, hlen, hl⟩, hstt⟩ := cw
  obtain ⟨hx, hb, hml, ho, -⟩ := S
  intro T hT X
  rcases vx_callS X hx (bytes := bytes) (maxL := maxL) (ret := ret) ho hl hstt hini hcode hy hK hg (hsize.trans hml.symm) (argsL := As) (rest := rest) (fun sig h => hn.trans (hlen sig h)) hstack hW (by rw [hb]; exact hdg)
    (fun vm₁ hW₁ => ⟨hf.1, hf.2, hp.2 (T.setVm vm₁) hT hW₁⟩) with ⟨v, vm₁, ⟨U', l2, c2, s2⟩, hW₁, X', ⟨g', mk, t, L, e1, e2, hq, h1, hL, h2, h3⟩, st⟩ | ⟨q, vm₁, ⟨U', l2, c2, s2⟩, hW₁, X', ⟨g', mk, t, L, E, ce, e1, e2, hq, hce, hcv, hcl, h1, hL, h2, h3⟩, st⟩
  · dsimp only [Pt.U, Pt.locs, Pt.cells, Pt.slots] at X' e1 e2 h1 h2 h3 st
    subst h1; subst h2; subst h3
    exact Or.inl ⟨v, (T.setVm vm₁).calling g' mk As.toArray, t, U', L, hT, X', hL, e1, e2, hq, st⟩
  · dsimp only [Pt.U, Pt.locs, Pt.cells, Pt.slots] at X' e1 e2 h1 h2 h3 st hcl
    subst h1; subst h2; subst h3
    exact Or.inr ⟨q, (T.setVm vm₁).calling g' mk As.toArray, t, U', L, E, ce, hT, X', hL, e1, e2, hq, hce, hcv, vx_cls hW₁ hcl, st⟩
end Runs
section Rows
variable {p : Program} {l : Launch} {e : Env} {R : Room} {s : State} {m : MethodId} {args : Array Value} {below : List Frame} {meth : Method} {c : Code} {H : Heap} {locs : List Loc} {cells slots : Nat} {Q : State → Prop}
variable {mc ms : Nat} {free : Addr → Prop} {A0 A1 : Nat → Prop} {H0 : Heap} {a : Array Value} {pc : Nat} {ls : Array Slot} {st0 rest : List Value}
theorem vx_keep {st₀ t T' : State} {L : List Loc} (h0 : st₀.heap = H) (e1 : T'.heap = t.heap) (hS : va_S A0 H0 H locs) (hA : ∀ q, q < H.size → A1 q → A0 q) (hf : ∀ q, free q → A0 q) (hL : ∀ q ∈ L, free q.base) (hF : va_F A1 st₀ t) :
    H.size ≤ T'.heap.size ∧ (∀ q : Nat, q < H.size → ¬ A1 q → T'.heap[q]? = H[q]?) ∧ va_S A0 H0 T'.heap (locs ++ L) := by
  obtain ⟨hz, hk⟩ := hF
  rw [h0] at hz hk
  exact ⟨by rw [e1]; exact hz, fun q h1 h2 => by rw [e1]; exact hk q h1 h2,
    ⟨Nat.le_trans hS.1 (by rw [e1]; exact hz), fun q h1 h2 => by rw [e1, hk q (Nat.lt_of_lt_of_le h1 hS.1) (fun z => h2 (hA q (Nat.lt_of_lt_of_le h1 hS.1) z))]; exact hS.2.1 q h1 h2, fun q hq => by
      rcases List.mem_append.mp hq with h | h
      · exact hS.2.2 q h
      · exact hf _ (hL q h)⟩⟩
theorem vx_calli {S SX : Type} {post : Int32 → S → Prop} {px : SX → Prop} {B : S → State → Prop} {BX : String → SX → State → Prop} {AX : Nat → Prop} (hr : vx_Run p l e R s m args below meth c H locs cells slots mc ms (F0 m pc ls st0) rest (va_Qi post B A1 a) (vx_X px BX AX) free) (hS : va_S A0 H0 H locs) (hA : ∀ q, q < H.size → A1 q → A0 q) (hf : ∀ q, free q → A0 q) (hAX : ∀ q, q < H.size → AX q → A0 q)
    (kx : ∀ (E : String) (ce : Cell) (q9 : Addr) (u : SX) (t : State) (H1 : Heap) (locs1 : List Loc), t.heap = H1 → s.vm.Alike t.vm → px u → BX E u t → H.size ≤ H1.size → (∀ q : Nat, q < H.size → ¬ AX q → H1[q]? = H[q]?) → va_S A0 H0 H1 locs1 → H1[q9]? = some ce → ce.vm = .none → s.vm.findClass E = some ce.cls → vx_W p l e R s m args below meth c H1 locs1 (cells + mc) (slots + ms) Q (F0 m pc ls rest) q9)
    (kk : ∀ (r : Int32) (u : S) (t : State) (H1 : Heap) (locs1 : List Loc), t.heap = H1 → s.vm.Alike t.vm → post r u → B u t → H.size ≤ H1.size → (∀ q : Nat, q < H.size → ¬ A1 q → H1[q]? = H[q]?) → va_S A0 H0 H1 locs1 → W p l e R s m args below meth c H1 locs1 (cells + mc) (slots + ms) Q (F0 m (pc + 3) ls (.int r :: rest))) : W p l e R s m args below meth c H locs cells slots Q (F0 m pc ls st0) := by
  intro T hT X
  rcases hr T hT X with ⟨v, st₀, t, T', L, h0, X', hL, e1, e2, ⟨⟨r, u, hv, hp, hb⟩, hF⟩, st⟩ | ⟨q, st₀, t, T', L, E, ce, h0, X', hL, e1, e2, ⟨u, hp, hb, hF⟩, hce, hcv, hcl, st⟩
  · cases hv
    obtain ⟨k1, k2, k3⟩ := vx_keep h0 e1 hS hA hf hL hF
    obtain ⟨t2, a1, b1⟩ := kk r u t T'.heap (locs ++ L) e1.symm (by rw [← e2]; exact X'.warmed.alike) hp hb k1 k2 k3 T' rfl X'
    exact ⟨t2, st t2 a1, b1⟩
  · obtain ⟨k1, k2, k3⟩ := vx_keep h0 e1 hS hAX hf hL hF
    obtain ⟨t2, a1, b1⟩ := kx E ce q u t T'.heap (locs ++ L) e1.symm (by rw [← e2]; exact X'.warmed.alike) hp hb k1 k2 k3 (by rw [e1]; exact hce) hcv hcl T' rfl X'
    exact ⟨t2, st.trans a1, b1⟩
theorem vx_calll {S SX : Type} {post : Int64 → S → Prop} {px : SX → Prop} {B : S → State → Prop} {BX : String → SX → State → Prop} {AX : Nat → Prop} (hr : vx_Run p l e R s m args below meth c H locs cells slots mc ms (F0 m pc ls st0) rest (va_Ql post B A1 a) (vx_X px BX AX) free) (hS : va_S A0 H0 H locs) (hA : ∀ q, q < H.size → A1 q → A0 q) (hf : ∀ q, free q → A0 q) (hAX : ∀ q, q < H.size → AX q → A0 q)
    (kx : ∀ (E : String) (ce : Cell) (q9 : Addr) (u : SX) (t : State) (H1 : Heap) (locs1 : List Loc), t.heap = H1 → s.vm.Alike t.vm → px u → BX E u t → H.size ≤ H1.size → (∀ q : Nat, q < H.size → ¬ AX q → H1[q]? = H[q]?) → va_S A0 H0 H1 locs1 → H1[q9]? = some ce → ce.vm = .none → s.vm.findClass E = some ce.cls → vx_W p l e R s m args below meth c H1 locs1 (cells + mc) (slots + ms) Q (F0 m pc ls rest) q9)
    (kk : ∀ (r : Int64) (u : S) (t : State) (H1 : Heap) (locs1 : List Loc), t.heap = H1 → s.vm.Alike t.vm → post r u → B u t → H.size ≤ H1.size → (∀ q : Nat, q < H.size → ¬ A1 q → H1[q]? = H[q]?) → va_S A0 H0 H1 locs1 → W p l e R s m args below meth c H1 locs1 (cells + mc) (slots + ms) Q (F0 m (pc + 3) ls (.long r :: rest))) : W p l e R s m args below meth c H locs cells slots Q (F0 m pc ls st0) := by
  intro T hT X
  rcases hr T hT X with ⟨v, st₀, t, T', L, h0, X', hL, e1, e2, ⟨⟨r, u, hv, hp, hb⟩, hF⟩, st⟩ | ⟨q, st₀, t, T', L, E, ce, h0, X', hL, e1, e2, ⟨u, hp, hb, hF⟩, hce, hcv, hcl, st⟩
  · cases hv
    obtain ⟨k1, k2, k3⟩ := vx_keep h0 e1 hS hA hf hL hF
    obtain ⟨t2, a1, b1⟩ := kk r u t T'.heap (locs ++ L) e1.symm (by rw [← e2]; exact X'.warmed.alike) hp hb k1 k2 k3 T' rfl X'
    exact ⟨t2, st t2 a1, b1⟩
  · obtain ⟨k1, k2, k3⟩ := vx_keep h0 e1 hS hAX hf hL hF
    obtain ⟨t2, a1, b1⟩ := kx E ce q u t T'.heap (locs ++ L) e1.symm (by rw [← e2]; exact X'.warmed.alike) hp hb k1 k2 k3 (by rw [e1]; exact hce) hcv hcl T' rfl X'
    exact ⟨t2, st.trans a1, b1⟩
theorem vx_callf {S SX : Type} {post : UInt32 → S → Prop} {px : SX → Prop} {B : S → State → Prop} {BX : String → SX → State → Prop} {AX : Nat → Prop} (hr : vx_Run p l e R s m args below meth c H locs cells slots mc ms (F0 m pc ls st0) rest (va_Qf post B A1 a) (vx_X px BX AX) free) (hS : va_S A0 H0 H locs) (hA : ∀ q, q < H.size → A1 q → A0 q) (hf : ∀ q, free q → A0 q) (hAX : ∀ q, q < H.size → AX q → A0 q)
    (kx : ∀ (E : String) (ce : Cell) (q9 : Addr) (u : SX) (t : State) (H1 : Heap) (locs1 : List Loc), t.heap = H1 → s.vm.Alike t.vm → px u → BX E u t → H.size ≤ H1.size → (∀ q : Nat, q < H.size → ¬ AX q → H1[q]? = H[q]?) → va_S A0 H0 H1 locs1 → H1[q9]? = some ce → ce.vm = .none → s.vm.findClass E = some ce.cls → vx_W p l e R s m args below meth c H1 locs1 (cells + mc) (slots + ms) Q (F0 m pc ls rest) q9)
    (kk : ∀ (r : UInt32) (u : S) (t : State) (H1 : Heap) (locs1 : List Loc), t.heap = H1 → s.vm.Alike t.vm → post r u → B u t → H.size ≤ H1.size → (∀ q : Nat, q < H.size → ¬ A1 q → H1[q]? = H[q]?) → va_S A0 H0 H1 locs1 → W p l e R s m args below meth c H1 locs1 (cells + mc) (slots + ms) Q (F0 m (pc + 3) ls (.float r :: rest))) : W p l e R s m args below meth c H locs cells slots Q (F0 m pc ls st0) := by
  intro T hT X
  rcases hr T hT X with ⟨v, st₀, t, T', L, h0, X', hL, e1, e2, ⟨⟨r, u, hv, hp, hb⟩, hF⟩, st⟩ | ⟨q, st₀, t, T', L, E, ce, h0, X', hL, e1, e2, ⟨u, hp, hb, hF⟩, hce, hcv, hcl, st⟩
  · cases hv
    obtain ⟨k1, k2, k3⟩ := vx_keep h0 e1 hS hA hf hL hF
    obtain ⟨t2, a1, b1⟩ := kk r u t T'.heap (locs ++ L) e1.symm (by rw [← e2]; exact X'.warmed.alike) hp hb k1 k2 k3 T' rfl X'
    exact ⟨t2, st t2 a1, b1⟩
  · obtain ⟨k1, k2, k3⟩ := vx_keep h0 e1 hS hAX hf hL hF
    obtain ⟨t2, a1, b1⟩ := kx E ce q u t T'.heap (locs ++ L) e1.symm (by rw [← e2]; exact X'.warmed.alike) hp hb k1 k2 k3 (by rw [e1]; exact hce) hcv hcl T' rfl X'
    exact ⟨t2, st.trans a1, b1⟩
theorem vx_calld {S SX : Type} {post : UInt64 → S → Prop} {px : SX → Prop} {B : S → State → Prop} {BX : String → SX → State → Prop} {AX : Nat → Prop} (hr : vx_Run p l e R s m args below meth c H locs cells slots mc ms (F0 m pc ls st0) rest (va_Qd post B A1 a) (vx_X px BX AX) free) (hS : va_S A0 H0 H locs) (hA : ∀ q, q < H.size → A1 q → A0 q) (hf : ∀ q, free q → A0 q) (hAX : ∀ q, q < H.size → AX q → A0 q)
    (kx : ∀ (E : String) (ce : Cell) (q9 : Addr) (u : SX) (t : State) (H1 : Heap) (locs1 : List Loc), t.heap = H1 → s.vm.Alike t.vm → px u → BX E u t → H.size ≤ H1.size → (∀ q : Nat, q < H.size → ¬ AX q → H1[q]? = H[q]?) → va_S A0 H0 H1 locs1 → H1[q9]? = some ce → ce.vm = .none → s.vm.findClass E = some ce.cls → vx_W p l e R s m args below meth c H1 locs1 (cells + mc) (slots + ms) Q (F0 m pc ls rest) q9)
    (kk : ∀ (r : UInt64) (u : S) (t : State) (H1 : Heap) (locs1 : List Loc), t.heap = H1 → s.vm.Alike t.vm → post r u → B u t → H.size ≤ H1.size → (∀ q : Nat, q < H.size → ¬ A1 q → H1[q]? = H[q]?) → va_S A0 H0 H1 locs1 → W p l e R s m args below meth c H1 locs1 (cells + mc) (slots + ms) Q (F0 m (pc + 3) ls (.double r :: rest))) : W p l e R s m args below meth c H locs cells slots Q (F0 m pc ls st0) := by
  intro T hT X
  rcases hr T hT X with ⟨v, st₀, t, T', L, h0, X', hL, e1, e2, ⟨⟨r, u, hv, hp, hb⟩, hF⟩, st⟩ | ⟨q, st₀, t, T', L, E, ce, h0, X', hL, e1, e2, ⟨u, hp, hb, hF⟩, hce, hcv, hcl, st⟩
  · cases hv
    obtain ⟨k1, k2, k3⟩ := vx_keep h0 e1 hS hA hf hL hF
    obtain ⟨t2, a1, b1⟩ := kk r u t T'.heap (locs ++ L) e1.symm (by rw [← e2]; exact X'.warmed.alike) hp hb k1 k2 k3 T' rfl X'
    exact ⟨t2, st t2 a1, b1⟩
  · obtain ⟨k1, k2, k3⟩ := vx_keep h0 e1 hS hAX hf hL hF
    obtain ⟨t2, a1, b1⟩ := kx E ce q u t T'.heap (locs ++ L) e1.symm (by rw [← e2]; exact X'.warmed.alike) hp hb k1 k2 k3 (by rw [e1]; exact hce) hcv hcl T' rfl X'
    exact ⟨t2, st.trans a1, b1⟩
theorem vx_callv {S SX : Type} {post : S → Prop} {px : SX → Prop} {B : S → State → Prop} {BX : String → SX → State → Prop} {AX : Nat → Prop} (hr : vx_Run p l e R s m args below meth c H locs cells slots mc ms (F0 m pc ls st0) rest (va_Qv post B A1 a) (vx_X px BX AX) free) (hS : va_S A0 H0 H locs) (hA : ∀ q, q < H.size → A1 q → A0 q) (hf : ∀ q, free q → A0 q) (hAX : ∀ q, q < H.size → AX q → A0 q)
    (kx : ∀ (E : String) (ce : Cell) (q9 : Addr) (u : SX) (t : State) (H1 : Heap) (locs1 : List Loc), t.heap = H1 → s.vm.Alike t.vm → px u → BX E u t → H.size ≤ H1.size → (∀ q : Nat, q < H.size → ¬ AX q → H1[q]? = H[q]?) → va_S A0 H0 H1 locs1 → H1[q9]? = some ce → ce.vm = .none → s.vm.findClass E = some ce.cls → vx_W p l e R s m args below meth c H1 locs1 (cells + mc) (slots + ms) Q (F0 m pc ls rest) q9)
    (kk : ∀ (u : S) (t : State) (H1 : Heap) (locs1 : List Loc), t.heap = H1 → s.vm.Alike t.vm → post u → B u t → H.size ≤ H1.size → (∀ q : Nat, q < H.size → ¬ A1 q → H1[q]? = H[q]?) → va_S A0 H0 H1 locs1 → W p l e R s m args below meth c H1 locs1 (cells + mc) (slots + ms) Q (F0 m (pc + 3) ls (rest))) : W p l e R s m args below meth c H locs cells slots Q (F0 m pc ls st0) := by
  intro T hT X
  rcases hr T hT X with ⟨v, st₀, t, T', L, h0, X', hL, e1, e2, ⟨⟨u, hv, hp, hb⟩, hF⟩, st⟩ | ⟨q, st₀, t, T', L, E, ce, h0, X', hL, e1, e2, ⟨u, hp, hb, hF⟩, hce, hcv, hcl, st⟩
  · cases hv
    obtain ⟨k1, k2, k3⟩ := vx_keep h0 e1 hS hA hf hL hF
    obtain ⟨t2, a1, b1⟩ := kk u t T'.heap (locs ++ L) e1.symm (by rw [← e2]; exact X'.warmed.alike) hp hb k1 k2 k3 T' rfl X'
    exact ⟨t2, st t2 a1, b1⟩
  · obtain ⟨k1, k2, k3⟩ := vx_keep h0 e1 hS hAX hf hL hF
    obtain ⟨t2, a1, b1⟩ := kx E ce q u t T'.heap (locs ++ L) e1.symm (by rw [← e2]; exact X'.warmed.alike) hp hb k1 k2 k3 (by rw [e1]; exact hce) hcv hcl T' rfl X'
    exact ⟨t2, st.trans a1, b1⟩
/-- caught by the row x of this method's table; the rows ahead don't take it -/
theorem vx_catch {own name : String} {E : String} {ce : Cell} {q : Addr} (hown : s.vm.findClass own = some m.cls) (pre : List ExceptionTableEntry) (x : ExceptionTableEntry) (suf : List ExceptionTableEntry) (hsplit : c.exceptionTable.toList = pre ++ x :: suf)
    (hpass : ∀ z ∈ pre, covers z pc = false ∨ (z.catchType ≠ 0 ∧ ∃ nm : String, (Cond.classLink own z.catchType nm).before args s = true ∧ va_Nc E nm s)) (hx : covers x pc = true) (h0 : x.catchType ≠ 0)
    (hlink : (Cond.classLink own x.catchType name).before args s = true) (hcast : (Cond.castable E name).before args s = true) (hcell : H[q]? = some ce) (hv : ce.vm = .none) (hcl : s.vm.findClass E = some ce.cls)
    (kk : W p l e R s m args below meth c H locs cells slots Q (F0 m x.handlerPc ls [.ref q])) : vx_W p l e R s m args below meth c H locs cells slots Q (F0 m pc ls rest) q := by
  intro T hT X
  have hpl : e.platform.magicAccessors = ({} : Platform).magicAccessors := by rw [X.admits.platform]
  obtain ⟨c3, c4, hc3, hc4, hasg⟩ := Cond.castable_spec hcast
  cases Option.some.inj (hc3.symm.trans hcl)
  obtain ⟨c5, hc5, hcl5⟩ := Cond.classLink_spec hown hlink e.platform hpl
  cases Option.some.inj (hc4.symm.trans hc5)
  obtain ⟨vm', X', st⟩ := X.thenCaughtThrough q (g := F0 m pc ls rest) rfl (Steps.refl _) (by rw [hT]; exact hcell) (by rw [hv]; rfl) (by obtain ⟨k9, h9, -⟩ := Vm.findClass_spec hcl; exact ⟨k9, h9⟩) pre x suf hsplit
    (fun z hz => by
      rcases hpass z hz with h | ⟨hz0, nm, hl1, hn1⟩
      · exact Or.inl h
      · obtain ⟨c6, hc6, hcl6⟩ := Cond.classLink_spec hown hl1 e.platform hpl
        obtain ⟨a8, b8, h1, h2, h3⟩ := hn1
        cases Option.some.inj (h1.symm.trans hcl)
        cases Option.some.inj (h2.symm.trans hc6)
        exact Or.inr ⟨hz0, _, hcl6, h3⟩) hx (Or.inr ⟨h0, c4, hcl5, hasg⟩)
  obtain ⟨t, a1, b1⟩ := kk (T.setVm vm') hT X'
  exact ⟨t, st.trans a1, b1⟩
end Rows
section Ends
variable {p : Program} {l : Launch} {e : Env} {R : Room} {s : State} {m : MethodId} {args : Array Value} {below : List Frame} {meth : Method} {c : Code} {H : Heap} {locs : List Loc} {cells slots : Nat} {Q : State → Prop}
variable {mc ms : Nat} {free : Addr → Prop} {A0 A1 : Nat → Prop} {H0 : Heap} {a : Array Value} {ls : Array Slot} {st0 rest : List Value}
variable {Qc : Array Value → State → Outcome → State → Prop} {XC : String → State → State → Prop}
/-- what a body that may throw owes at its end -/
def vx_MQ (below : List Frame) (Qc : Array Value → State → Outcome → State → Prop) (XC : String → State → State → Prop) (a : Array Value) (s : State) (mc ms : Nat) (free : Addr → Prop) : State → Prop := fun t =>
  ∃ o, t.status = .running ∧ Ended t below o ∧ vx_Q Qc XC mc ms free a s o t
theorem vx_ret {g : JFrame} {mc ms : Nat} (k : W p l e R s m args below meth c H locs cells slots (MQ below Qc args s mc ms free) g) : W p l e R s m args below meth c H locs cells slots (vx_MQ below Qc XC args s mc ms free) g := by
  intro T hT X
  obtain ⟨t, a1, o, b1, b2, b3, b4⟩ := k T hT X
  exact ⟨t, a1, o, b1, b2, Or.inl ⟨b3, b4⟩⟩
/-- not caught here: it goes on to the caller -/
theorem vx_widen {g : JFrame} {q : Addr} {k n : Nat} (h1 : cells ≤ k) (h2 : slots ≤ n) (kk : vx_W p l e R s m args below meth c H locs k n Q g q) : vx_W p l e R s m args below meth c H locs cells slots Q g q := fun T hT X => kk T hT (stand_widen X h1 h2)
theorem vx_out {pc : Nat} {E : String} {ce : Cell} {q : Addr} {mc ms : Nat} (hout : ∀ x ∈ c.exceptionTable.toList, covers x pc = false) (hlocks : meth.locks = false) (hcell : H[q]? = some ce) (hv : ce.vm = .none) (hcl : s.vm.findClass E = some ce.cls)
    (hx : ∀ t : State, t.heap = H → s.vm.Alike t.vm → XC E s t) (hf : ∀ z ∈ locs, free z.base) (hc : cells ≤ mc) (hs : slots ≤ ms) :
    vx_W p l e R s m args below meth c H locs cells slots (vx_MQ below Qc XC args s mc ms free) (F0 m pc ls rest) q := by
  intro T hT X
  obtain ⟨st1, hrun, hend, hW, hsm⟩ := X.leaveThrown q (g := F0 m pc ls rest) rfl rfl rfl hout hlocks
  have hcell9 : (T.setFrames (.throwing q :: below)).heap[q]? = some ce := by
    show T.heap[q]? = some ce
    rw [hT]; exact hcell
  exact ⟨_, st1, .threw q, hrun, hend, Or.inr ⟨q, rfl, E, ce, locs, hx _ hT hW.alike, hcell9, hv, hcl, hW, hsm.mono hc hs, hf⟩⟩
theorem vx_frame {U : State} {k n : Nat} (h : s.sameButNew ({ U with vm := s.vm } : State) locs k n) : s.heap.size ≤ U.heap.size ∧ ∀ q : Nat, q < s.heap.size → (∀ z ∈ locs, z.base ≠ q) → U.heap[q]? = s.heap[q]? := by
  obtain ⟨-, h2, -, -, -, h6⟩ := h
  refine ⟨h2, fun q hq hz => ?_⟩
  obtain ⟨c9, e1, e2, e3, e4⟩ := h6 q _ (Array.getElem?_eq_getElem hq)
  have hs : c9.slots = (s.heap[q]).slots := Array.ext_getElem? fun i => e4 i fun hm => hz _ hm rfl
  have h9 : c9 = s.heap[q] := by
    rw [hs] at e2
    exact e2
  have e5 : U.heap[q]? = some c9 := e1
  rw [e5, h9, Array.getElem?_eq_getElem hq]
/-- the words of a throw but the four that speak of the heap -/
def vx_no (w : Cond) : Bool := decide (w ≠ .isRef (.static Bundle.tN "UNASSIGNED_STACK" Bundle.steD)) && decide (w ≠ .isRef (.static Bundle.tN "SUPPRESSED_SENTINEL" Bundle.listD)) && decide (w ≠ .laysStatic Bundle.tN "UNASSIGNED_STACK" Bundle.steD) && decide (w ≠ .laysStatic Bundle.tN "SUPPRESSED_SENTINEL" Bundle.listD)
def vx_at0 (own : String) (ic : Nat) (X : String) (names : List String) : List Cond := (Bundle.ownAtoms0 own ic X names).filter vx_no
def vx_atS (own : String) (ic : Nat) (X : String) (names : List String) : List Cond := (Bundle.ownAtoms own ic X names).filter vx_no
/-- a word that the tables alone decide, or a good one -/
def vx_ot (w : Cond) : Bool := w.onTables || goodWord w
theorem vx_ot_at {args a' : Array Value} {s U : State} {w : Cond} (hW : s.WarmedH U.vm) (hvm : s.vm = U.vm) (hg : vx_ot w = true) (h : w.before args s = true) : w.before a' U = true := by
  simp only [vx_ot, Bool.or_eq_true] at hg
  rcases hg with hg | hg
  · exact va_tabs hg hvm h
  · exact word_at hW (good_of_word hg) h
/-- a list's words: the good ones out of the method's own list, the others by premises of their own -/
theorem vx_hat {args : Array Value} {s : State} {L B : List Cond} (h1 : ∀ w ∈ L.filter goodWord, w.before args s = true) (h2 : ∀ w ∈ L.filter (fun w => !goodWord w), w ∈ B) (h3 : ∀ w ∈ B, w.before args s = true) : ∀ w ∈ L, w.before args s = true := by
  intro w hw
  by_cases g : goodWord w = true
  · exact h1 w (List.mem_filter.mpr ⟨hw, g⟩)
  · refine h3 w (h2 w (List.mem_filter.mpr ⟨hw, ?_⟩))
    show (!goodWord w) = true
    cases hgw : goodWord w
    · rfl
    · exact absurd hgw g
theorem vx_c {args : Array Value} {s : State} {w : Cond} {B : List Cond} (h : w.before args s = true) (t : ∀ w ∈ B, w.before args s = true) : ∀ w' ∈ w :: B, w'.before args s = true := fun w' h' => (List.mem_cons.mp h').elim (fun e => by rw [e]; exact h) (t w')
theorem vx_n {args : Array Value} {s : State} : ∀ w ∈ ([] : List Cond), w.before args s = true := fun _ h => nomatch h
theorem vx_own {args : Array Value} {s : State} {L : List Cond} (h1 : ∀ w ∈ L.filter vx_no, w.before args s = true)
    (hU : (Cond.isRef (.static Bundle.tN "UNASSIGNED_STACK" Bundle.steD)).before args s = true) (hN : (Cond.isRef (.static Bundle.tN "SUPPRESSED_SENTINEL" Bundle.listD)).before args s = true)
    (lU : (Cond.laysStatic Bundle.tN "UNASSIGNED_STACK" Bundle.steD).before args s = true) (lN : (Cond.laysStatic Bundle.tN "SUPPRESSED_SENTINEL" Bundle.listD).before args s = true) : ∀ w ∈ L, w.before args s = true := by
  intro w hw
  by_cases e1 : w = .isRef (.static Bundle.tN "UNASSIGNED_STACK" Bundle.steD)
  · rw [e1]; exact hU
  · by_cases e2 : w = .isRef (.static Bundle.tN "SUPPRESSED_SENTINEL" Bundle.listD)
    · rw [e2]; exact hN
    · by_cases e3 : w = .laysStatic Bundle.tN "UNASSIGNED_STACK" Bundle.steD
      · rw [e3]; exact lU
      · by_cases e4 : w = .laysStatic Bundle.tN "SUPPRESSED_SENTINEL" Bundle.listD
        · rw [e4]; exact lN
        · exact h1 w (List.mem_filter.mpr ⟨hw, by unfold vx_no; rw [decide_eq_true e1, decide_eq_true e2, decide_eq_true e3, decide_eq_true e4]; rfl⟩)
/-- where a static field lies, its class's statics cell in H -/
def vx_L (C n d : String) (A : Nat → Prop) (U : State) (H : Heap) : Prop := ∃ (c : ClassId) (k : Class) (i : Nat) (f : Field) (a : Nat) (cell : Cell), U.vm.findClass C = some c ∧ U.fieldFound? C n d = some (c, k, i, f) ∧ f.isStatic = true ∧ k.statics = some a ∧ H[a]? = some cell ∧ cell.vm.isStatics = true ∧ cell.cls = c ∧ f.slot < cell.slots.size ∧ k.staticTypes[f.slot]? = some f.type ∧ ¬ A a
theorem vx_L.moved {C n d : String} {A : Nat → Prop} {u U : State} {H : Heap} (hvm : u.vm.Alike U.vm) (h : vx_L C n d A u H) : vx_L C n d A U H := by
  obtain ⟨c, k, i, f, a, cell, h1, h2, h3, h4, h5, h6, h7, h8, h9, h10⟩ := h
  obtain ⟨k', hi', he⟩ := State.fieldFound?_setVm hvm h2
  exact ⟨c, k', i, f, a, cell, by rw [hvm.findClass]; exact h1, hi', h3, by rw [he]; exact h4, h5, h6, h7, h8, by rw [he]; exact h9, h10⟩
theorem vx_L.kept {C n d : String} {A : Nat → Prop} {U : State} {H H1 : Heap} (h : vx_L C n d A U H) (hq : ∀ a : Nat, a < H.size → ¬ A a → H1[a]? = H[a]?) : vx_L C n d A U H1 := by
  obtain ⟨c, k, i, f, a, cell, h1, h2, h3, h4, h5, h6, h7, h8, h9, h10⟩ := h
  exact ⟨c, k, i, f, a, cell, h1, h2, h3, h4, by rw [hq a (Array.getElem?_eq_some_iff.mp h5).1 h10]; exact h5, h6, h7, h8, h9, h10⟩
theorem vx_L.narrow {C n d : String} {A B : Nat → Prop} {U : State} {H : Heap} (h : vx_L C n d A U H) (hAB : ∀ q, B q → A q) : vx_L C n d B U H := by
  obtain ⟨c, k, i, f, a, cell, h1, h2, h3, h4, h5, h6, h7, h8, h9, h10⟩ := h
  exact ⟨c, k, i, f, a, cell, h1, h2, h3, h4, h5, h6, h7, h8, h9, fun z => h10 (hAB _ z)⟩
theorem vx_L.word {C n d : String} {A : Nat → Prop} {s : State} {args : Array Value} (h : vx_L C n d A s s.heap) : (Cond.laysStatic C n d).before args s = true := by
  obtain ⟨c, k, i, f, a, cell, h1, h2, h3, h4, h5, h6, h7, h8, h9, -⟩ := h
  show (Cond.laysStatic C n d).holds args s none s [] = true
  exact Cond.laysStatic_of h1 h2 h3 h4 h5 h6 h7 h8 h9
/-- .. and what it holds: null or some reference -/
def vx_Zq (C n d : String) (A : Nat → Prop) (U : State) (H : Heap) : Prop := va_Zq C n d A U H ∧ vx_L C n d A U H
theorem vx_Zq.moved {C n d : String} {A : Nat → Prop} {u U : State} {H : Heap} (hvm : u.vm.Alike U.vm) (h : vx_Zq C n d A u H) : vx_Zq C n d A U H := ⟨va_Zq.moved hvm h.1, vx_L.moved hvm h.2⟩
theorem vx_Zq.kept {C n d : String} {A : Nat → Prop} {U : State} {H H1 : Heap} (h : vx_Zq C n d A U H) (hq : ∀ a : Nat, a < H.size → ¬ A a → H1[a]? = H[a]?) : vx_Zq C n d A U H1 := ⟨va_Zq.kept h.1 hq, vx_L.kept h.2 hq⟩
theorem vx_Zq.narrow {C n d : String} {A B : Nat → Prop} {U : State} {H : Heap} (h : vx_Zq C n d A U H) (hAB : ∀ q, B q → A q) : vx_Zq C n d B U H := ⟨va_Zq.narrow h.1 hAB, vx_L.narrow h.2 hAB⟩
theorem vx_Zqof {args : Array Value} {s : State} {C n d : String} {A : Nat → Prop} (hl : (Cond.laysStatic C n d).before args s = true) (hini : (Cond.initialized C).before args s = true) (h : (Cond.isRef (.static C n d)).before args s = true) (hA : ∀ a : Nat, a < s.heap.size → ¬ A a) : vx_Zq C n d A s s.heap := by
  refine ⟨va_Zqof hl hini h hA, ?_⟩
  obtain ⟨c, k, i, f, a, cell, h1, h2, h3, h4, h5, h6, h7, h8, h9⟩ := Cond.laysStatic_spec hl
  exact ⟨c, k, i, f, a, cell, h1, h2, h3, h4, h5, h6, h7, h8, h9, hA a (Array.getElem?_eq_some_iff.mp h5).1⟩
theorem vx_isRef {C n d : String} {v : Value} {A : Nat → Prop} {s : State} {args : Array Value} (h : va_Z C n d v A s s.heap) (hv : v.isRef = true) : (Cond.isRef (.static C n d)).before args s = true := by
  obtain ⟨cf, kf, fi, f, a, cell, h1, h2, h3, h4, h5, h6, h7, -⟩ := h
  have he : (Term.static C n d).eval args s none [] s = some v := by
    simp [Term.eval, State.fieldNamed?, h1, h2, h4, h5, h6, h7]
  simp only [Cond.before, Cond.holds, Cond.value, he]
  cases v <;> simp_all [Value.isRef]
theorem vx_isRefq {C n d : String} {A : Nat → Prop} {s : State} {args : Array Value} (h : va_Zq C n d A s s.heap) : (Cond.isRef (.static C n d)).before args s = true := by
  rcases h with h | ⟨t, h⟩
  · exact vx_isRef h rfl
  · exact vx_isRef h rfl
/-- the same frame, seen from here: as if the method were called anew in this heap -/
theorem vx_rebase {T : State} (X : Stand p l e R s m args below meth c T locs cells slots) {R' : Room} (hf : R'.frames ≤ R.frames) (hl : R'.locals ≤ R.locals) (hc : cells + R'.cells ≤ R.cells) (hs : slots + R'.slots ≤ R.slots) :
    Stand p l e R' ((T.setVm s.vm).setFrames (.invoking m args :: below)) m args below meth c T [] 0 0 := by
  have htop : (T.setVm s.vm).topJava?.isSome := X.here.top
  have hF : ((T.setVm s.vm).setFrames (.invoking m args :: below)).frames = .invoking m args :: below := State.frames_setFrames _ (State.cur_lt_of_top htop)
  obtain ⟨g₀, hg0⟩ := Option.isSome_iff_exists.mp htop
  obtain ⟨r, hr⟩ := State.topJava?_eq_some.mp hg0
  have hl9 : e.platform.stackLimits (T.setVm s.vm).me = e.platform.stackLimits s.me := X.limits
  have hb9 : (T.setVm s.vm).me.stackBytes = s.me.stackBytes := X.bytes
  refine ⟨X.admits, X.cas, X.clock, hF, ?_, X.hears, X.method, X.code, X.here, X.tail, X.warmed, ?_, ?_, ?_⟩
  · have h := X.room
    have hU : ((T.setVm s.vm).setFrames (.invoking m args :: below)).localsInUse = s.localsInUse := by
      rw [State.localsInUse_invoking hF (meth := meth) (c := c) X.method X.code, State.localsInUse_invoking X.frames X.method X.code]
    simp only [State.hasRoom, Bool.and_eq_true, decide_eq_true_eq] at h ⊢
    obtain ⟨⟨⟨⟨h1, h2, h3, h4, h5, h6⟩, h7⟩, h8⟩, h9⟩ := h
    rw [X.frames, List.length_cons] at h2 h3
    have q1 := X.heapSize
    have q2 := X.used
    simp only [hF, hU, List.length_cons, State.stackLimits_setFrames, State.stackBytes_setFrames, hl9, hb9]
    refine ⟨⟨⟨⟨by omega, by omega, by omega, by omega, by omega, h6⟩, ?_⟩, ?_⟩, X.book⟩
    · show T.heap.size + R'.cells ≤ e.platform.maxCells
      omega
    · show T.slotsUsed + R'.slots ≤ e.platform.maxSlots
      omega
  · rw [State.stackLimits_setFrames]; rfl
  · rw [State.stackBytes_setFrames]; rfl
  · refine ⟨?_, Nat.le_refl _, Nat.le_refl _, ?_, ?_, fun a c9 h9 => ⟨c9, h9, rfl, rfl, fun _ _ => rfl⟩⟩
    · obtain ⟨t, ht, -⟩ := State.frames_cons hr
      show T.setVm s.vm = { ((T.setVm s.vm).setFrames (.invoking m args :: below)).setFrames (T.setVm s.vm).frames with heap := T.heap, slotsUsed := T.slotsUsed }
      rw [State.setFrames_setFrames, State.setFrames_self ht]
      rfl
    · show T.slotsUsed = T.slotsUsed + ((T.heap.toList.drop T.heap.size).map (·.slots.size)).sum
      rw [List.drop_eq_nil_of_le (Nat.le_of_eq Array.length_toList)]
      rfl
    · show ((T.heap.toList.drop T.heap.size).map (·.slots.size)).sum ≤ 0
      rw [List.drop_eq_nil_of_le (Nat.le_of_eq Array.length_toList)]
      exact Nat.le_refl _
/-- 'throw new E()': new; dup; invokespecial; athrow -/
theorem vx_throw0 {cc : ByteArray} {pc : Nat} (hexec : p.tables.exec = Jvm.exec) (hb : c.code = cc) (hl : l.stackTraces = false) {own cls : String} {names : List String} {ik ic mc ms : Nat} {A : Nat → Prop}
    (hown : s.vm.findClass own = some m.cls) (hcls : Bundle.fit cls = true) (hnames : ∀ n ∈ names, Bundle.fit n = true)
    (hk : (Cond.classLink own ik cls).before args s = true) (hini : (Cond.initialized cls).before args s = true) (hat : ∀ w ∈ vx_at0 own ic cls names, w.before args s = true)
    (hgood : ∀ w ∈ Cond.classLink own ik cls :: Cond.initialized cls :: vx_at0 own ic cls names, vx_ot w = true)
    (hU : vx_Zq Bundle.tN "UNASSIGNED_STACK" Bundle.steD A s s.heap) (hN : vx_Zq Bundle.tN "SUPPRESSED_SENTINEL" Bundle.listD A s s.heap) (hS : va_S A s.heap H locs) (hsize : ls.size = c.maxLocals)
    (d0 : decode cc pc = .ok (.new ik, 3)) (d3 : decode cc (pc + 3) = .ok (.dup, 1)) (d4 : decode cc (pc + 4) = .ok (.invokespecial ic, 3)) (d7 : decode cc (pc + 7) = .ok (.athrow, 1))
    (hout : ∀ x ∈ c.exceptionTable.toList, covers x (pc + 7) = false)
    (hRframes : names.length + 3 < R.frames) (hRlocals : (rest.map fun v => v.category).sum + (13 * (names.length + 1) + 42) ≤ R.locals) (hRcells : cells + 1 ≤ R.cells) (hRslots : slots + 6 ≤ R.slots) (hlocks : meth.locks = false)
    (hx : ∀ t : State, s.vm.Alike t.vm → H.size ≤ t.heap.size → (∀ q : Nat, q < H.size → t.heap[q]? = H[q]?) → XC cls s t)
    (hf : ∀ z ∈ locs, free z.base) (hc : cells + 1 ≤ mc) (hs : slots + 6 ≤ ms) :
    W p l e R s m args below meth c H locs cells slots (vx_MQ below Qc XC args s mc ms free) (F0 m pc ls rest) := by
  intro T hT X
  have htr : e.platform.stackTraces = false := (show e.platform.stackTraces = l.stackTraces by rw [X.admits.platform]).trans hl
  have Y := vx_rebase X (R' := { frames := R.frames, locals := R.locals, cells := 1, slots := 6 }) (Nat.le_refl _) (Nat.le_refl _) hRcells hRslots
  obtain ⟨s', hA⟩ : ∃ z, z = (T.setVm s.vm).setFrames (.invoking m args :: below) := ⟨_, rfl⟩
  rw [← hA] at Y
  have hvm : s'.vm = s.vm := by rw [hA]; rfl
  have hhp : s'.heap = H := by rw [hA]; exact hT
  have hW0 : s.WarmedH s'.vm := by rw [hvm]; exact State.WarmedH.refl s
  have hat' : ∀ w ∈ vx_at0 own ic cls names, w.before args s' = true := fun w hw => vx_ot_at hW0 hvm.symm (hgood w (List.mem_cons_of_mem _ (List.mem_cons_of_mem _ hw))) (hat w hw)
  have hk' : (Cond.classLink own ik cls).before args s' = true := vx_ot_at hW0 hvm.symm (hgood _ List.mem_cons_self) hk
  have hini' : (Cond.initialized cls).before args s' = true := vx_ot_at hW0 hvm.symm (hgood _ (List.mem_cons_of_mem _ List.mem_cons_self)) hini
  have hU' : vx_Zq Bundle.tN "UNASSIGNED_STACK" Bundle.steD A s' s'.heap := by rw [hhp]; exact vx_Zq.moved hW0.alike (hU.kept hS.2.1)
  have hN' : vx_Zq Bundle.tN "SUPPRESSED_SENTINEL" Bundle.listD A s' s'.heap := by rw [hhp]; exact vx_Zq.moved hW0.alike (hN.kept hS.2.1)
  have h : ∀ w ∈ Bundle.ownAtoms0 own ic cls names, w.before args s' = true := vx_own hat' (vx_isRefq hU'.1) (vx_isRefq hN'.1) hU'.2.word hN'.2.word
  have hown' : s'.vm.findClass own = some m.cls := by rw [hvm]; exact hown
  have hins : (Cond.instantiable cls 6).before args s' = true := h _ (by simp [Bundle.ownAtoms0])
  obtain ⟨vm₁, cX, kX, hfX, hkX, -, -, X₁, st1⟩ := Y.newCold hexec (own := own) (C := cls) (index := ik) (n := 6) hown' hk' hins hini'
    (g := F0 m pc ls rest) rfl (by rw [hb]; exact d0) (Nat.le_refl _) (Nat.le_refl _)
  generalize hT1 : (T.setVm vm₁).pushCell { cls := cX, slots := kX.instanceTypes.map defaultValue, vm := .none } = T1 at X₁ st1
  have hcat : (Value.ref T.heap.size).category = 1 := rfl
  have hcellA : T1.heap[T.heap.size]? = some (freshCell cX kX) := by rw [← hT1]; exact State.heap_pushCell_size _ _
  have d3' : decode c.code (pc + 3) = .ok (.dup, 1) := by rw [hb]; exact d3
  obtain ⟨U, hsteps, hrun, hend, hW, hsame, ce, hce, hO⟩ := X₁.ctorThrow0 hexec htr (own := own) (cls := cls) (names := names) (ic := ic) hown' hcls hnames h (fun x hx => nomatch hx) hfX hkX hcellA (by rw [hhp, hT]; exact Nat.le_refl _)
    (g := { method := m, pc := pc + 4, locals := ls, stack := .ref T.heap.size :: .ref T.heap.size :: rest, locked := none }) rfl hsize rfl rfl (rest := rest) rfl
    (by rw [hb]; exact d4) (by rw [hb]; exact d7) hout hRframes (by simp only [List.map_cons, List.sum_cons, hcat]; omega) hlocks
  obtain ⟨f1, f2⟩ := vx_frame hsame
  rw [hhp] at f1 f2
  have hWs : s.WarmedH U.vm := State.WarmedH.trans hW0 hW
  have hcl : s.vm.findClass cls = some ce.cls := by
    have h9 := hO.cls
    rw [hvm] at h9
    exact h9
  have hall : s.sameButNew ({ U with vm := s.vm } : State) locs mc ms := by
    subst hA
    obtain ⟨e1, e2⟩ := hsame
    rw [State.setFrames_setFrames] at e1
    have h2 : (T.setVm s.vm).sameButNew ({ U with vm := s.vm } : State) [] (0 + 1) (0 + 6) := ⟨e1, e2⟩
    have h3 := X.same.trans h2
    rw [List.append_nil] at h3
    exact h3.mono hc hs
  refine ⟨U, ?_, .threw T.heap.size, hrun, hend, Or.inr ⟨T.heap.size, rfl, cls, ce, locs, hx U hWs.alike f1 (fun q hq => f2 q hq (fun z hz => nomatch hz)), hce, hO.vm, hcl, hWs, hall, hf⟩⟩
  refine st1 _ ?_
  show Steps p.tables e below (T1.setTop { method := m, pc := pc + 3, locals := ls, stack := .ref T.heap.size :: rest, locked := none }) _
  jvm_step X₁.here [X₁.here.top, hexec, d3', Value.category]
  exact hsteps
/-- 'throw new E("text")': new; dup; ldc; invokespecial; athrow -/
theorem vx_throwS {cc : ByteArray} {pc : Nat} (hexec : p.tables.exec = Jvm.exec) (hb : c.code = cc) (hl : l.stackTraces = false) {own cls text : String} {names : List String} {ik is ic mc ms sa : Nat} {A : Nat → Prop}
    (hown : s.vm.findClass own = some m.cls) (hcls : Bundle.fit cls = true) (hnames : ∀ n ∈ names, Bundle.fit n = true)
    (hk : (Cond.classLink own ik cls).before args s = true) (hini : (Cond.initialized cls).before args s = true) (hstr : vk_R own is text sa s) (hat : ∀ w ∈ vx_atS own ic cls names, w.before args s = true)
    (hgood : ∀ w ∈ Cond.classLink own ik cls :: Cond.initialized cls :: vx_atS own ic cls names, vx_ot w = true)
    (hU : vx_Zq Bundle.tN "UNASSIGNED_STACK" Bundle.steD A s s.heap) (hN : vx_Zq Bundle.tN "SUPPRESSED_SENTINEL" Bundle.listD A s s.heap) (hS : va_S A s.heap H locs) (hsize : ls.size = c.maxLocals)
    (d0 : decode cc pc = .ok (.new ik, 3)) (d3 : decode cc (pc + 3) = .ok (.dup, 1)) (d4 : decode cc (pc + 4) = .ok (.ldc is, 2)) (d6 : decode cc (pc + 6) = .ok (.invokespecial ic, 3)) (d9 : decode cc (pc + 9) = .ok (.athrow, 1))
    (hout : ∀ x ∈ c.exceptionTable.toList, covers x (pc + 9) = false)
    (hRframes : names.length + 3 < R.frames) (hRlocals : (rest.map fun v => v.category).sum + (13 * (names.length + 1) + 43) ≤ R.locals) (hRcells : cells + 1 ≤ R.cells) (hRslots : slots + 6 ≤ R.slots) (hlocks : meth.locks = false)
    (hx : ∀ t : State, s.vm.Alike t.vm → H.size ≤ t.heap.size → (∀ q : Nat, q < H.size → t.heap[q]? = H[q]?) → XC cls s t)
    (hf : ∀ z ∈ locs, free z.base) (hc : cells + 1 ≤ mc) (hs : slots + 6 ≤ ms) :
    W p l e R s m args below meth c H locs cells slots (vx_MQ below Qc XC args s mc ms free) (F0 m pc ls rest) := by
  intro T hT X
  have htr : e.platform.stackTraces = false := (show e.platform.stackTraces = l.stackTraces by rw [X.admits.platform]).trans hl
  have Y := vx_rebase X (R' := { frames := R.frames, locals := R.locals, cells := 1, slots := 6 }) (Nat.le_refl _) (Nat.le_refl _) hRcells hRslots
  obtain ⟨s', hA⟩ : ∃ z, z = (T.setVm s.vm).setFrames (.invoking m args :: below) := ⟨_, rfl⟩
  rw [← hA] at Y
  have hvm : s'.vm = s.vm := by rw [hA]; rfl
  have hhp : s'.heap = H := by rw [hA]; exact hT
  have hW0 : s.WarmedH s'.vm := by rw [hvm]; exact State.WarmedH.refl s
  have hat' : ∀ w ∈ vx_atS own ic cls names, w.before args s' = true := fun w hw => vx_ot_at hW0 hvm.symm (hgood w (List.mem_cons_of_mem _ (List.mem_cons_of_mem _ hw))) (hat w hw)
  have hk' : (Cond.classLink own ik cls).before args s' = true := vx_ot_at hW0 hvm.symm (hgood _ List.mem_cons_self) hk
  have hini' : (Cond.initialized cls).before args s' = true := vx_ot_at hW0 hvm.symm (hgood _ (List.mem_cons_of_mem _ List.mem_cons_self)) hini
  have hU' : vx_Zq Bundle.tN "UNASSIGNED_STACK" Bundle.steD A s' s'.heap := by rw [hhp]; exact vx_Zq.moved hW0.alike (hU.kept hS.2.1)
  have hN' : vx_Zq Bundle.tN "SUPPRESSED_SENTINEL" Bundle.listD A s' s'.heap := by rw [hhp]; exact vx_Zq.moved hW0.alike (hN.kept hS.2.1)
  have h : ∀ w ∈ Bundle.ownAtoms own ic cls names, w.before args s' = true := vx_own hat' (vx_isRefq hU'.1) (vx_isRefq hN'.1) hU'.2.word hN'.2.word
  have hown' : s'.vm.findClass own = some m.cls := by rw [hvm]; exact hown
  have hins : (Cond.instantiable cls 6).before args s' = true := h _ (by simp [Bundle.ownAtoms])
  obtain ⟨vm₁, cX, kX, hfX, hkX, -, -, X₁, st1⟩ := Y.newCold hexec (own := own) (C := cls) (index := ik) (n := 6) hown' hk' hins hini'
    (g := F0 m pc ls rest) rfl (by rw [hb]; exact d0) (Nat.le_refl _) (Nat.le_refl _)
  generalize hT1 : (T.setVm vm₁).pushCell { cls := cX, slots := kX.instanceTypes.map defaultValue, vm := .none } = T1 at X₁ st1
  have hcat : (Value.ref T.heap.size).category = 1 := rfl
  have hcellA : T1.heap[T.heap.size]? = some (freshCell cX kX) := by rw [← hT1]; exact State.heap_pushCell_size _ _
  have d3' : decode c.code (pc + 3) = .ok (.dup, 1) := by rw [hb]; exact d3
  have d4' : decode c.code (pc + 4) = .ok (.ldc is, 2) := by rw [hb]; exact d4
  have hstr' : vk_R own is text sa s' := vk_R.warm hW0 hstr
  obtain ⟨U, hsteps, hrun, hend, hW, hsame, ce, hce, hO⟩ := X₁.ctorThrowS hexec htr (own := own) (cls := cls) (names := names) (ic := ic) hown' hcls hnames h (fun x hx => nomatch hx) hfX hkX hcellA (by rw [hhp, hT]; exact Nat.le_refl _) (msg := .ref sa) rfl
    (g := { method := m, pc := pc + 6, locals := ls, stack := .ref sa :: .ref T.heap.size :: .ref T.heap.size :: rest, locked := none }) rfl hsize rfl rfl (rest := rest) rfl
    (by rw [hb]; exact d6) (by rw [hb]; exact d9) hout hRframes (by simp only [List.map_cons, List.sum_cons, hcat]; omega) hlocks
  obtain ⟨f1, f2⟩ := vx_frame hsame
  rw [hhp] at f1 f2
  have hWs : s.WarmedH U.vm := State.WarmedH.trans hW0 hW
  have hcl : s.vm.findClass cls = some ce.cls := by
    have h9 := hO.cls
    rw [hvm] at h9
    exact h9
  have hall : s.sameButNew ({ U with vm := s.vm } : State) locs mc ms := by
    subst hA
    obtain ⟨e1, e2⟩ := hsame
    rw [State.setFrames_setFrames] at e1
    have h2 : (T.setVm s.vm).sameButNew ({ U with vm := s.vm } : State) [] (0 + 1) (0 + 6) := ⟨e1, e2⟩
    have h3 := X.same.trans h2
    rw [List.append_nil] at h3
    exact h3.mono hc hs
  refine ⟨U, ?_, .threw T.heap.size, hrun, hend, Or.inr ⟨T.heap.size, rfl, cls, ce, locs, hx U hWs.alike f1 (fun q hq => f2 q hq (fun z hz => nomatch hz)), hce, hO.vm, hcl, hWs, hall, hf⟩⟩
  refine st1 _ ?_
  show Steps p.tables e below (T1.setTop { method := m, pc := pc + 3, locals := ls, stack := .ref T.heap.size :: rest, locked := none }) _
  jvm_step X₁.here [X₁.here.top, hexec, d3', Value.category]
  exact X₁.ldcString hexec (own := own) (text := text) (index := is) (a := sa) hown' hstr'.1 hstr'.2
    (g := { method := m, pc := pc + 4, locals := ls, stack := .ref T.heap.size :: .ref T.heap.size :: rest, locked := none }) rfl d4' _ hsteps
/-- 'throw new E("text")', the text by a wide index -/
theorem vx_throwSW {cc : ByteArray} {pc : Nat} (hexec : p.tables.exec = Jvm.exec) (hb : c.code = cc) (hl : l.stackTraces = false) {own cls text : String} {names : List String} {ik is ic mc ms sa : Nat} {A : Nat → Prop}
    (hown : s.vm.findClass own = some m.cls) (hcls : Bundle.fit cls = true) (hnames : ∀ n ∈ names, Bundle.fit n = true)
    (hk : (Cond.classLink own ik cls).before args s = true) (hini : (Cond.initialized cls).before args s = true) (hstr : vk_R own is text sa s) (hat : ∀ w ∈ vx_atS own ic cls names, w.before args s = true)
    (hgood : ∀ w ∈ Cond.classLink own ik cls :: Cond.initialized cls :: vx_atS own ic cls names, vx_ot w = true)
    (hU : vx_Zq Bundle.tN "UNASSIGNED_STACK" Bundle.steD A s s.heap) (hN : vx_Zq Bundle.tN "SUPPRESSED_SENTINEL" Bundle.listD A s s.heap) (hS : va_S A s.heap H locs) (hsize : ls.size = c.maxLocals)
    (d0 : decode cc pc = .ok (.new ik, 3)) (d3 : decode cc (pc + 3) = .ok (.dup, 1)) (d4 : decode cc (pc + 4) = .ok (.ldc_w is, 3)) (d7 : decode cc (pc + 7) = .ok (.invokespecial ic, 3)) (d10 : decode cc (pc + 10) = .ok (.athrow, 1))
    (hout : ∀ x ∈ c.exceptionTable.toList, covers x (pc + 10) = false)
    (hRframes : names.length + 3 < R.frames) (hRlocals : (rest.map fun v => v.category).sum + (13 * (names.length + 1) + 43) ≤ R.locals) (hRcells : cells + 1 ≤ R.cells) (hRslots : slots + 6 ≤ R.slots) (hlocks : meth.locks = false)
    (hx : ∀ t : State, s.vm.Alike t.vm → H.size ≤ t.heap.size → (∀ q : Nat, q < H.size → t.heap[q]? = H[q]?) → XC cls s t)
    (hf : ∀ z ∈ locs, free z.base) (hc : cells + 1 ≤ mc) (hs : slots + 6 ≤ ms) :
    W p l e R s m args below meth c H locs cells slots (vx_MQ below Qc XC args s mc ms free) (F0 m pc ls rest) := by
  intro T hT X
  have htr : e.platform.stackTraces = false := (show e.platform.stackTraces = l.stackTraces by rw [X.admits.platform]).trans hl
  have Y := vx_rebase X (R' := { frames := R.frames, locals := R.locals, cells := 1, slots := 6 }) (Nat.le_refl _) (Nat.le_refl _) hRcells hRslots
  obtain ⟨s', hA⟩ : ∃ z, z = (T.setVm s.vm).setFrames (.invoking m args :: below) := ⟨_, rfl⟩
  rw [← hA] at Y
  have hvm : s'.vm = s.vm := by rw [hA]; rfl
  have hhp : s'.heap = H := by rw [hA]; exact hT
  have hW0 : s.WarmedH s'.vm := by rw [hvm]; exact State.WarmedH.refl s
  have hat' : ∀ w ∈ vx_atS own ic cls names, w.before args s' = true := fun w hw => vx_ot_at hW0 hvm.symm (hgood w (List.mem_cons_of_mem _ (List.mem_cons_of_mem _ hw))) (hat w hw)
  have hk' : (Cond.classLink own ik cls).before args s' = true := vx_ot_at hW0 hvm.symm (hgood _ List.mem_cons_self) hk
  have hini' : (Cond.initialized cls).before args s' = true := vx_ot_at hW0 hvm.symm (hgood _ (List.mem_cons_of_mem _ List.mem_cons_self)) hini
  have hU' : vx_Zq Bundle.tN "UNASSIGNED_STACK" Bundle.steD A s' s'.heap := by rw [hhp]; exact vx_Zq.moved hW0.alike (hU.kept hS.2.1)
  have hN' : vx_Zq Bundle.tN "SUPPRESSED_SENTINEL" Bundle.listD A s' s'.heap := by rw [hhp]; exact vx_Zq.moved hW0.alike (hN.kept hS.2.1)
  have h : ∀ w ∈ Bundle.ownAtoms own ic cls names, w.before args s' = true := vx_own hat' (vx_isRefq hU'.1) (vx_isRefq hN'.1) hU'.2.word hN'.2.word
  have hown' : s'.vm.findClass own = some m.cls := by rw [hvm]; exact hown
  have hins : (Cond.instantiable cls 6).before args s' = true := h _ (by simp [Bundle.ownAtoms])
  obtain ⟨vm₁, cX, kX, hfX, hkX, -, -, X₁, st1⟩ := Y.newCold hexec (own := own) (C := cls) (index := ik) (n := 6) hown' hk' hins hini'
    (g := F0 m pc ls rest) rfl (by rw [hb]; exact d0) (Nat.le_refl _) (Nat.le_refl _)
  generalize hT1 : (T.setVm vm₁).pushCell { cls := cX, slots := kX.instanceTypes.map defaultValue, vm := .none } = T1 at X₁ st1
  have hcat : (Value.ref T.heap.size).category = 1 := rfl
  have hcellA : T1.heap[T.heap.size]? = some (freshCell cX kX) := by rw [← hT1]; exact State.heap_pushCell_size _ _
  have d3' : decode c.code (pc + 3) = .ok (.dup, 1) := by rw [hb]; exact d3
  have d4' : decode c.code (pc + 4) = .ok (.ldc_w is, 3) := by rw [hb]; exact d4
  have hstr' : vk_R own is text sa s' := vk_R.warm hW0 hstr
  obtain ⟨U, hsteps, hrun, hend, hW, hsame, ce, hce, hO⟩ := X₁.ctorThrowS hexec htr (own := own) (cls := cls) (names := names) (ic := ic) hown' hcls hnames h (fun x hx => nomatch hx) hfX hkX hcellA (by rw [hhp, hT]; exact Nat.le_refl _) (msg := .ref sa) rfl
    (g := { method := m, pc := pc + 7, locals := ls, stack := .ref sa :: .ref T.heap.size :: .ref T.heap.size :: rest, locked := none }) rfl hsize rfl rfl (rest := rest) rfl
    (by rw [hb]; exact d7) (by rw [hb]; exact d10) hout hRframes (by simp only [List.map_cons, List.sum_cons, hcat]; omega) hlocks
  obtain ⟨f1, f2⟩ := vx_frame hsame
  rw [hhp] at f1 f2
  have hWs : s.WarmedH U.vm := State.WarmedH.trans hW0 hW
  have hcl : s.vm.findClass cls = some ce.cls := by
    have h9 := hO.cls
    rw [hvm] at h9
    exact h9
  have hall : s.sameButNew ({ U with vm := s.vm } : State) locs mc ms := by
    subst hA
    obtain ⟨e1, e2⟩ := hsame
    rw [State.setFrames_setFrames] at e1
    have h2 : (T.setVm s.vm).sameButNew ({ U with vm := s.vm } : State) [] (0 + 1) (0 + 6) := ⟨e1, e2⟩
    have h3 := X.same.trans h2
    rw [List.append_nil] at h3
    exact h3.mono hc hs
  refine ⟨U, ?_, .threw T.heap.size, hrun, hend, Or.inr ⟨T.heap.size, rfl, cls, ce, locs, hx U hWs.alike f1 (fun q hq => f2 q hq (fun z hz => nomatch hz)), hce, hO.vm, hcl, hWs, hall, hf⟩⟩
  refine st1 _ ?_
  show Steps p.tables e below (T1.setTop { method := m, pc := pc + 3, locals := ls, stack := .ref T.heap.size :: rest, locked := none }) _
  jvm_step X₁.here [X₁.here.top, hexec, d3', Value.category]
  exact X₁.ldcStringW hexec (own := own) (text := text) (index := is) (a := sa) hown' hstr'.1 hstr'.2
    (g := { method := m, pc := pc + 4, locals := ls, stack := .ref T.heap.size :: .ref T.heap.size :: rest, locked := none }) rfl d4' _ hsteps
end Ends
section Bodies
variable {l : Launch}
theorem vx_ofW {y : MethodName} {ws ws' : List Cond} {rm : Room} {Pc : Array Value → State → Prop} {Qc : Array Value → State → Outcome → State → Prop} {XC : String → State → State → Prop} {mc ms : Nat} {free : Addr → Prop} {cc : ByteArray} {maxL : Nat} {ret : Option FieldType}
    (hy : plainName y.cls = true) (hw : ws = Cond.code y cc maxL ret :: ws')
    (body : ∀ p e s m args below meth c s₁, BodyLoose p l y (headSpec ws rm) cc maxL ret e s m args below meth c s₁ → c.maxLocals = maxL → (∀ x ∈ c.exceptionTable.toList, False) → Pc args s →
      W p l e (headSpec ws rm).room s m args below meth c s.heap [] 0 0 (vx_MQ below Qc XC args s mc ms free) (entryFrame m args maxL)) : vx_Met l y ws rm Pc Qc XC mc ms free := by
  refine MetFree.of_bodyS (code := cc) (maxLocals := maxL) (ret := ret) hy ?_ ?_
  · intro args s m h hn
    obtain ⟨meth, c, h1, h2, h3, h4, h5, h6, -, -⟩ := Cond.code_spec hn (atoms_spec (ws := ws) h _ (by rw [hw]; exact List.mem_cons_self))
    exact ⟨meth, c, h1, h2, h3, h4, h5, h6⟩
  · intro p e s m args below meth c s₁ B hml hP _
    have hh0 : s₁.heap = s.heap := by rw [B.state]; rfl
    have ht : ∀ x ∈ c.exceptionTable.toList, False := by
      obtain ⟨meth9, c9, h1, h2, -, -, -, -, h7, -⟩ := Cond.code_spec B.named (atoms_spec (ws := ws) B.pre _ (by rw [hw]; exact List.mem_cons_self))
      cases Option.some.inj (h1.symm.trans B.method)
      cases Option.some.inj (h2.symm.trans (Stand.of_body B).code)
      intro x hx
      rw [Array.isEmpty_iff.mp h7] at hx
      cases hx
    obtain ⟨t, a1, o, b1, b2, b3⟩ := body p e s m args below meth c s₁ B hml ht hP s₁ hh0 (Stand.of_body B)
    exact ⟨t, o, a1, b1, b2, b3⟩
/-- the table of a body with handlers -/
theorem vx_table {p : Program} {x y : MethodName} {S : Spec} {cc bytes : ByteArray} {maxL maxL' : Nat} {ret ret' : Option FieldType} {e : Env} {s s₁ : State} {m : MethodId} {args : Array Value} {below : List Frame} {meth : Method} {c : Code} {hh : List (Nat × Nat × Nat × Nat)}
    (B : BodyLoose p l y S cc maxL ret e s m args below meth c s₁) (h : (Cond.codeWith y bytes maxL' ret' hh).before args s = true) : c.exceptionTable.toList = tableOf hh := by
  obtain ⟨m9, meth9, c9, hn9, h1, h2, -, -, h6, -⟩ := Cond.codeWith_spec h
  cases Option.some.inj (hn9.symm.trans B.named)
  cases Option.some.inj (h1.symm.trans B.method)
  cases Option.some.inj (h2.symm.trans (Stand.of_body B).code)
  rw [← h6, table_eq]
end Bodies
end VXA
/-! ===== END ===== -/
/-! ===== BEGIN a static call of a method with an exception table ===== -/
section VXS
variable {p : Program} {l : Launch} {e : Env} {R : Room} {s : State} {m : MethodId} {args : Array Value} {below : List Frame} {meth : Method} {c : Code} {T : State} {H : Heap} {locs : List Loc} {cells slots : Nat}
abbrev vx_CSW (R : Room) (s : State) (args : Array Value) (own : String) (index : Nat) (y : MethodName) (bytes : ByteArray) (maxL : Nat) (ret : Option FieldType) (hh : List (Nat × Nat × Nat × Nat)) (ws : List Cond) (rm : Room) (mc ms n : Nat) : Prop :=
  (rm.cells = mc ∧ rm.slots = ms ∧ rm.frames + 1 ≤ R.frames ∧ 8 + (maxL + 11) + rm.locals ≤ R.locals ∧ (∀ w ∈ ws, ∀ (a' : Array Value) (U : State), s.WarmedH U.vm → w.before a' U = true) ∧ Cond.codeWith y bytes maxL ret hh ∈ ws) ∧
  (Cond.codeWith y bytes maxL ret hh).before args s = true ∧ (Cond.initialized y.cls).before args s = true ∧ (y.cls ≠ "java/lang/invoke/MethodHandle" ∧ y.cls ≠ "java/lang/invoke/VarHandle") ∧
  (∀ sig, parseMethodDescriptor y.desc = some sig → n = sig.parameters.length) ∧ (Cond.methodLink own index y).before args s = true ∧ (Cond.static y).before args s = true
theorem vx_cwSW {own : String} {index maxL mc ms : Nat} {y : MethodName} {bytes : ByteArray} {ret : Option FieldType} {hh : List (Nat × Nat × Nat × Nat)} {Ts ws ws' : List Cond} {rm : Room} (n : Nat) (ht : ∀ w ∈ Ts, w.before args s = true) (hT : GoodIn Ts (va_wsS own index y ws)) (hw : ws = Cond.codeWith y bytes maxL ret hh :: ws') (hrc : rm.cells = mc) (hrs : rm.slots = ms)
    (hd : y.cls ≠ "java/lang/invoke/MethodHandle" ∧ y.cls ≠ "java/lang/invoke/VarHandle" ∧ (parseMethodDescriptor y.desc).map (fun d => d.parameters.length) = some n) (hR : rm.frames + 1 ≤ R.frames ∧ 8 + (maxL + 11) + rm.locals ≤ R.locals) :
    vx_CSW R s args own index y bytes maxL ret hh ws rm mc ms n := by
  have ok : ∀ w ∈ va_wsS own index y ws, w.before args s = true := fun w h => ht w (hT w h).1
  have hG : GoodIn Ts ws := fun w h => hT w (by unfold va_wsS; exact List.mem_append_right _ h)
  have hc : Cond.codeWith y bytes maxL ret hh ∈ ws := by rw [hw]; exact List.mem_cons_self
  refine ⟨⟨hrc, hrs, hR.1, hR.2, pay_in ht hG, hc⟩, ht _ (hG _ hc).1, ok _ (by simp [va_wsS]), ⟨hd.1, hd.2.1⟩, fun sig h => ?_, ok _ (by simp [va_wsS]), ok _ (by simp [va_wsS])⟩
  have h2 := hd.2.2
  rw [h] at h2
  exact (Option.some.inj h2).symm
theorem vx_callSW (X : Stand p l e R s m args below meth c T locs cells slots) (hexec : p.tables.exec = Jvm.exec) {own : String} {index : Nat} {y : MethodName} {bytes : ByteArray} {maxL : Nat} {ret : Option FieldType} {hh : List (Nat × Nat × Nat × Nat)}
    (hown : s.vm.findClass own = some m.cls) (hlink : (Cond.methodLink own index y).before args s = true) (hstat : (Cond.static y).before args s = true) (hinit : (Cond.initialized y.cls).before args s = true)
    (hcode : (Cond.codeWith y bytes maxL ret hh).before args s = true) (hy : y.cls ≠ "java/lang/invoke/MethodHandle" ∧ y.cls ≠ "java/lang/invoke/VarHandle")
    {W9 : Nat} {Pre : Pt → Array Value → Prop} {Post : Pt → Array Value → Option Value → Pt → Prop} (hK : Back l R p e below s args y 3 W9 Pre Post)
    {g : JFrame} (hg : g.method = m) (hsize : g.locals.size = c.maxLocals) {argsL rest : List Value} (hlen : ∀ sig, parseMethodDescriptor y.desc = some sig → argsL.length = sig.parameters.length)
    (hstack : g.stack = argsL.reverse ++ rest) (hW : 2 * g.monitorRoom + (rest.map fun v => v.category).sum ≤ W9) (hdg : decode c.code g.pc = .ok (.invokestatic index, 3))
    (hpre : ∀ vm₁, s.WarmedH vm₁ → Pre ⟨T.setVm vm₁, locs, cells, slots⟩ argsL.toArray) :
    ∃ (v : Option Value) (vm₁ : Vm) (B : Pt), s.WarmedH vm₁ ∧ Stand p l e R s m args below meth c B.U B.locs B.cells B.slots ∧ Post ⟨T.setVm vm₁, locs, cells, slots⟩ argsL.toArray v B ∧
      ∀ target, Steps p.tables e below (B.U.setTop { g with pc := g.pc + 3, stack := v.toList ++ rest }) target → Steps p.tables e below (T.setTop g) target := by
  obtain ⟨mk, methM, cM, hnamed, hmethM, -, -, -, -, -, -, hsigM⟩ := Cond.codeWith_spec hcode
  have hstatic : methM.isStatic = true := Cond.static_spec hnamed hmethM hstat
  obtain ⟨kP, hkP, -⟩ := className_of_methodNamed hnamed
  have hinitP : kP.init = .initialized := Cond.initialized_spec (findClass_of_methodNamed hnamed) hkP hinit
  obtain ⟨vm₁, X₁, hstep₁⟩ := X.invokestatic hexec hown hlink hnamed hmethM hstatic hkP hinitP hy (g := g) hg (argsL := argsL) (rest := rest) (hlen _ hsigM) hstack hdg
  obtain ⟨v, B, X', hpost, hsteps⟩ := hK m meth c ⟨T.setVm vm₁, locs, cells, slots⟩ { g with stack := rest } (.invokestatic index) mk argsL.toArray X₁ hg hsize hdg hW (X₁.named hnamed) (hpre vm₁ X₁.warmed)
  exact ⟨v, vm₁, B, X₁.warmed, X', hpost, fun target h => hstep₁ _ fun acts => by rw [doInvoke_state]; exact hsteps.trans h⟩
theorem vx_runSW {y : MethodName} {bytes cc : ByteArray} {maxL nL mc ms n index : Nat} {ret : Option FieldType} {hh : List (Nat × Nat × Nat × Nat)} {ws : List Cond} {rm : Room} {Pc : Array Value → State → Prop} {Qc : Array Value → State → Outcome → State → Prop} {free : Addr → Prop} {Ts : List Cond} {own : String} {As rest : List Value} {g : JFrame}
    (S : CallFix p m c cc nL s args Ts own) (hM : Met l y ws rm Pc Qc mc ms free) (cw : vx_CSW R s args own index y bytes maxL ret hh ws rm mc ms n) (hp : PreS s H Pc As)
    (hg : g.method = m) (hn : As.length = n) (hsize : g.locals.size = nL) (hstack : g.stack = As.reverse ++ rest) (hW : 2 * g.monitorRoom + (rest.map fun v => v.category).sum ≤ 8) (hdg : decode cc g.pc = .ok (.invokestatic index, 3)) (hf : cells + mc ≤ R.cells ∧ slots + ms ≤ R.slots) :
    va_Run p l e R s m args below meth c H locs cells slots mc ms g rest (Qc As.toArray) (free) := by
  obtain ⟨⟨hrc, hrs, hfr, hlo, hws, hcw⟩, hcode, hini, hy, hlen, hl, hstt⟩ := cw
  have hK : Back l R p e below s args y 3 8 (PreOf R mc ms Pc) (PostOf Qc mc ms free) := va_backW (hh := hh) (bytes := bytes) (maxL := maxL) (ret := ret) hM hp.1 hrc hrs hfr hlo hws hcw (fun a' U hW => word_at hW (Or.inl (by first | rfl | simp [Cond.onTables, Cond.keeps, Cond.steady])) hini)
  obtain ⟨hx, hb, hml, ho, -⟩ := S
  intro T hT X
  obtain ⟨v, vm₁, ⟨U', l2, c2, s2⟩, hW₁, X', ⟨g', mk, t, L, e1, e2, hq, h1, hL, h2, h3⟩, st⟩ := vx_callSW X hx (hh := hh) (bytes := bytes) (maxL := maxL) (ret := ret) ho hl hstt hini hcode hy hK hg (hsize.trans hml.symm) (argsL := As) (rest := rest) (fun sig h => hn.trans (hlen sig h)) hstack hW (by rw [hb]; exact hdg)
    (fun vm₁ hW₁ => ⟨hf.1, hf.2, hp.2 (T.setVm vm₁) hT hW₁⟩)
  dsimp only [Pt.U, Pt.locs, Pt.cells, Pt.slots] at X' e1 e2 h1 h2 h3 st
  subst h1; subst h2; subst h3
  exact ⟨v, (T.setVm vm₁).calling g' mk As.toArray, t, U', L, hT, X', hL, e1, e2, hq, st⟩
/-- not caught here, past rows that name other classes: it goes on to the caller -/
theorem vx_outP {p : Program} {l : Launch} {e : Env} {R : Room} {s : State} {m : MethodId} {args : Array Value} {below : List Frame} {meth : Method} {c : Code} {H : Heap} {locs : List Loc} {cells slots : Nat} {free : Addr → Prop} {ls : Array Slot} {rest : List Value} {Qc : Array Value → State → Outcome → State → Prop} {XC : String → State → State → Prop}
    {pc : Nat} {own E : String} {ce : Cell} {q : Addr} {mc ms : Nat} (hown : s.vm.findClass own = some m.cls) (hlocks : meth.locks = false)
    (hpass : ∀ z ∈ c.exceptionTable.toList, covers z pc = false ∨ (z.catchType ≠ 0 ∧ ∃ nm : String, (Cond.classLink own z.catchType nm).before args s = true ∧ va_Nc E nm s)) (hcell : H[q]? = some ce) (hv : ce.vm = .none) (hcl : s.vm.findClass E = some ce.cls)
    (hx : ∀ t : State, t.heap = H → s.vm.Alike t.vm → XC E s t) (hf : ∀ z ∈ locs, free z.base) (hc : cells ≤ mc) (hs : slots ≤ ms) :
    vx_W p l e R s m args below meth c H locs cells slots (vx_MQ below Qc XC args s mc ms free) (F0 m pc ls rest) q := by
  intro T hT X
  have hpl : e.platform.magicAccessors = ({} : Platform).magicAccessors := by rw [X.admits.platform]
  obtain ⟨vm', hW', X', st⟩ := X.outThrough hlocks q (g := F0 m pc ls rest) rfl rfl rfl (cell := ce) (by rw [hT]; exact hcell) (by rw [hv]; rfl)
    (by obtain ⟨k9, h9, -⟩ := Vm.findClass_spec hcl; exact ⟨k9, h9⟩) (fun z hz => by
      rcases hpass z hz with h | ⟨hz0, nm, hl1, hn1⟩
      · exact Or.inl h
      · obtain ⟨c6, hc6, hcl6⟩ := Cond.classLink_spec hown hl1 e.platform hpl
        obtain ⟨a8, b8, h1, h2, h3⟩ := hn1
        cases Option.some.inj (h1.symm.trans hcl)
        cases Option.some.inj (h2.symm.trans hc6)
        exact Or.inr ⟨hz0, _, hcl6, h3⟩)
  obtain ⟨g₀, hfr⟩ := X'.frames_eq
  have hcell9 : ((T.setVm vm').setFrames (.throwing q :: below)).heap[q]? = some ce := by
    show T.heap[q]? = some ce
    rw [hT]; exact hcell
  have hend : Ended ((T.setVm vm').setFrames (.throwing q :: below)) below (.threw q) := State.frames_setFrames _ (State.cur_lt_of_frames hfr)
  refine ⟨(T.setVm vm').setFrames (.throwing q :: below), ?_, .threw q, X'.here.running, hend, Or.inr ⟨q, rfl, E, ce, locs, hx _ hT (X'.ends _).1.alike, hcell9, hv, hcl, (X'.ends _).1, (X'.ends _).2.mono hc hs, hf⟩⟩
  rw [X.pushThrowing_eq]
  exact st
/-- a thing of a world lies in the heap -/
theorem vx_lt {D : va_G} {cl : List vw_C} {ws : va_W} {H1 : Heap} (h : va_P D cl ws H1) {k : Nat} {q : Nat × va_E} (hk : ws[k]? = some q) : q.1 < H1.size := (h k q hk).lt
end VXS
/-! ===== END ===== -/
/-! ===== BEGIN methods with a table of their own: called by a name, returning or throwing ===== -/
section VXH
/-! vx_backW, vx_callVX, vx_callSX, vx_callVW, vx_runVW, vx_runVX, vx_runSX, vx_ofWH follow the same proofs as their sisters above (Free/Laws.lean, Shelf42/LK1.lean); vx_outP calls Shelf42/NT130.lean (outThrough). -/
section
variable {l : Launch} {R : Room} {p : Program} {e : Env} {below : List Frame} {s : State} {sargs : Array Value} {y : MethodName} {len W9 : Nat}
theorem vx_backW {ws : List Cond} {rm : Room} {Pc : Array Value → State → Prop} {Qc : Array Value → State → Outcome → State → Prop} {XC : String → State → State → Prop} {mc ms : Nat} {free : Addr → Prop} {bytes : ByteArray} {maxL : Nat} {ret : Option FieldType} {hh : List (Nat × Nat × Nat × Nat)}
    (hM : vx_Met l y ws rm Pc Qc XC mc ms free) (hblind : FrameBlind Pc) (hrc : rm.cells = mc) (hrs : rm.slots = ms)
    (hframes : rm.frames + 1 ≤ R.frames) (hlocals : W9 + (maxL + 11) + rm.locals ≤ R.locals)
    (hws : ∀ w ∈ ws, ∀ a' U, s.WarmedH U.vm → w.before a' U = true) (hcode : Cond.codeWith y bytes maxL ret hh ∈ ws) (hinit : ∀ a' U, s.WarmedH U.vm → (Cond.initialized y.cls).before a' U = true) :
    vx_Back l R p e below s sargs y len W9 (PreOf R mc ms Pc) (PostOf Qc mc ms free) (vx_Post XC mc ms free) := by
  intro m meth c A g ig mk a X hg hsize hdg hW hn hp
  have h1 : (headSpec ws rm).pre.before a A.U = true := atoms_intro fun w hw => hws w hw _ _ X.warmed
  have h2 : (Cond.codeWith y bytes maxL ret hh).before a A.U = true := hws _ hcode _ _ X.warmed
  have h3 : (Cond.initialized y.cls).before a A.U = true := hinit _ _ X.warmed
  have h4 : A.cells + (headSpec ws rm).room.cells ≤ R.cells := by rw [show (headSpec ws rm).room.cells = mc from hrc]; exact hp.1
  have h5 : A.slots + (headSpec ws rm).room.slots ≤ R.slots := by rw [show (headSpec ws rm).room.slots = ms from hrs]; exact hp.2.1
  have hPc : Pc a (A.U.calling g mk a) := hblind _ _ _ _ hp.2.2
  obtain ⟨U, Ls, c0, s0⟩ := A
  dsimp only [Pt.U, Pt.locs, Pt.cells, Pt.slots] at h1 h2 h3 h4 h5 X hn hPc ⊢
  obtain ⟨m9, methY, cY, hn9, hmY, hcY, -, hlY, -⟩ := Cond.codeWith_spec h2
  cases Option.some.inj (hn9.symm.trans hn)
  obtain ⟨kY, hkY, -⟩ := className_of_methodNamed hn
  have hinitY : kY.init = .initialized := Cond.initialized_spec (findClass_of_methodNamed hn) hkY h3
  have h : At U g.method c below := by rw [hg]; exact X.here
  have hlocals9 : W9 + (maxL + 11) + (headSpec ws rm).room.locals ≤ R.locals := hlocals
  have happ : (headSpec ws rm).appliesLoose y e.platform (U.calling g mk a) = true :=
    Spec.appliesLoose_calling (g := g) h hdg hn hkY hinitY
      (X.room_calling (g := g) (R' := (headSpec ws rm).room) hsize hmY hcY hframes (by rw [hlY]; omega) h4 h5) h1
  obtain ⟨mid, hmid⟩ := h.above
  have hfr : (U.setTop g).frames = (.java g :: mid) ++ below := by rw [State.frames_setTop' g h.top, hmid]; rfl
  obtain ⟨o, s₂, hsteps, -, hend, hq⟩ := Steps.callFree hM p X.admits X.cas X.clock (acts := []) hfr happ hPc trivial
  have hq' : vx_Q Qc XC mc ms free a (U.calling g mk a) o s₂ := hq
  rw [State.frames_setTop' g h.top] at hend
  obtain ⟨g₀, hg0⟩ := Option.isSome_iff_exists.mp h.top
  obtain ⟨r, hr⟩ := State.topJava?_eq_some.mp hg0
  have hr' : (({ U with heap := s₂.heap, slotsUsed := s₂.slotsUsed } : State).setVm s₂.vm).frames = .java g₀ :: r := hr
  rcases hq' with ⟨hqc, L, hfe, hL⟩ | ⟨q, rfl, E, ce, L, hx, hce, hcv, hcl, hW₂, hsm, hL⟩
  · obtain ⟨⟨v, rfl⟩, hW₂, e2, q2, q3, q4, q5, q6⟩ := id hfe
    have e3 : s₂ = ({ (U.calling g mk a).setFrames s₂.frames with heap := s₂.heap, slotsUsed := s₂.slotsUsed } : State).setVm s₂.vm := by
      have : s₂ = ({ s₂ with vm := (U.calling g mk a).vm } : State).setVm s₂.vm := rfl
      rw [e2] at this
      exact this
    obtain ⟨c₂, i₂, len₂, hc₂, hd₂, hf₂⟩ := hend
    have hW' : U.WarmedH s₂.vm := hW₂
    have hcc : c₂ = c := by
      have h1 : s₂.code? g.method = U.code? g.method := by
        rw [State.code?_eq, State.code?_eq, hW'.alike.method?]
      exact Option.some.inj (hc₂.symm.trans (h1.trans h.code))
    subst hcc
    have hlen : len₂ = len := by rw [hdg] at hd₂; cases hd₂; rfl
    subst hlen
    have hs₂ : s₂ = (({ U with heap := s₂.heap, slotsUsed := s₂.slotsUsed } : State).setVm s₂.vm).setTop { g with pc := g.pc + len₂, stack := v.toList ++ g.stack } := by
      refine e3.trans ?_
      rw [hf₂, State.calling_eq h.top, State.setFrames_setFrames, State.setTop_of_frames _ hr', hr]
      rfl
    have hsame : U.sameButNew ({ U with heap := s₂.heap, slotsUsed := s₂.slotsUsed } : State) L mc ms := by
      refine ⟨?_, q2, q3, q4, q5, q6⟩
      obtain ⟨t, ht, -⟩ := State.frames_cons hr
      show ({ U with heap := s₂.heap, slotsUsed := s₂.slotsUsed } : State) = { U.setFrames U.frames with heap := s₂.heap, slotsUsed := s₂.slotsUsed }
      rw [State.setFrames_self ht]
    subst hg
    refine Or.inl ⟨v, ⟨(({ U with heap := s₂.heap, slotsUsed := s₂.slotsUsed } : State).setVm s₂.vm), Ls ++ L, c0 + mc, s0 + ms⟩,
      ⟨X.admits, X.cas, X.clock, X.frames, X.room, X.hears, X.method, X.code, (X.here.setHeapUsed s₂.heap s₂.slotsUsed).setVm hW'.alike, X.tail, State.WarmedH.trans X.warmed hW', X.limits, X.bytes, X.same.trans (hsame.setVm s.vm)⟩,
      ⟨g, mk, s₂, L, rfl, rfl, hqc, rfl, hL, rfl, rfl⟩, ?_⟩
    show Steps p.tables e below _ ((({ U with heap := s₂.heap, slotsUsed := s₂.slotsUsed } : State).setVm s₂.vm).setTop { g with pc := g.pc + len₂, stack := v.toList ++ g.stack })
    rw [← hs₂]
    exact hsteps
  · obtain ⟨e2, q2, q3, q4, q5, q6⟩ := id hsm
    have e3 : s₂ = ({ (U.calling g mk a).setFrames s₂.frames with heap := s₂.heap, slotsUsed := s₂.slotsUsed } : State).setVm s₂.vm := by
      have : s₂ = ({ s₂ with vm := (U.calling g mk a).vm } : State).setVm s₂.vm := rfl
      rw [e2] at this
      exact this
    have hf₂ : s₂.frames = .throwing q :: .java g :: U.frames.tail := hend
    have hW' : U.WarmedH s₂.vm := hW₂
    have hs₂ : s₂ = ((({ U with heap := s₂.heap, slotsUsed := s₂.slotsUsed } : State).setVm s₂.vm).setTop g).pushFrame (.throwing q) := by
      refine e3.trans ?_
      rw [hf₂, State.calling_eq h.top, State.setFrames_setFrames, State.pushFrame, State.frames_setTop _ hr', State.setTop_of_frames _ hr', State.setFrames_setFrames, hr]
      rfl
    have hsame : U.sameButNew ({ U with heap := s₂.heap, slotsUsed := s₂.slotsUsed } : State) L mc ms := by
      refine ⟨?_, q2, q3, q4, q5, q6⟩
      obtain ⟨t, ht, -⟩ := State.frames_cons hr
      show ({ U with heap := s₂.heap, slotsUsed := s₂.slotsUsed } : State) = { U.setFrames U.frames with heap := s₂.heap, slotsUsed := s₂.slotsUsed }
      rw [State.setFrames_self ht]
    subst hg
    refine Or.inr ⟨q, ⟨(({ U with heap := s₂.heap, slotsUsed := s₂.slotsUsed } : State).setVm s₂.vm), Ls ++ L, c0 + mc, s0 + ms⟩,
      ⟨X.admits, X.cas, X.clock, X.frames, X.room, X.hears, X.method, X.code, (X.here.setHeapUsed s₂.heap s₂.slotsUsed).setVm hW'.alike, X.tail, State.WarmedH.trans X.warmed hW', X.limits, X.bytes, X.same.trans (hsame.setVm s.vm)⟩,
      ⟨g, mk, s₂, L, E, ce, rfl, rfl, hx, hce, hcv, hcl, rfl, hL, rfl, rfl⟩, ?_⟩
    show Steps p.tables e below _ (((({ U with heap := s₂.heap, slotsUsed := s₂.slotsUsed } : State).setVm s₂.vm).setTop g).pushFrame (.throwing q))
    rw [← hs₂]
    exact hsteps
end
variable {p : Program} {l : Launch} {e : Env} {R : Room} {s : State} {m : MethodId} {args : Array Value} {below : List Frame} {meth : Method} {c : Code} {T : State} {H : Heap} {locs : List Loc} {cells slots : Nat}
theorem vx_callVX (X : Stand p l e R s m args below meth c T locs cells slots) (hexec : p.tables.exec = Jvm.exec) {own C : String} {index : Nat} {y : MethodName} {bytes : ByteArray} {maxL : Nat} {ret : Option FieldType} {hh : List (Nat × Nat × Nat × Nat)}
    (hown : s.vm.findClass own = some m.cls) (hlink : (Cond.methodLink own index y).before args s = true) (hinst : (Cond.instanceMethod y).before args s = true) (hsel : (Cond.selects C y y).before args s = true)
    (hcode : (Cond.codeWith y bytes maxL ret hh).before args s = true) (hy : y.cls ≠ "java/lang/invoke/MethodHandle" ∧ y.cls ≠ "java/lang/invoke/VarHandle")
    {W9 : Nat} {Pre : Pt → Array Value → Prop} {Post : Pt → Array Value → Option Value → Pt → Prop} {PostX : Pt → Array Value → Addr → Pt → Prop} (hK : vx_Back l R p e below s args y 3 W9 Pre Post PostX)
    {b : Addr} {cellB : Cell} (hcell : T.heap[b]? = some cellB) (hobj : cellB.vm.isStatics = false) (hcls : s.vm.findClass C = some cellB.cls)
    {g : JFrame} (hg : g.method = m) (hsize : g.locals.size = c.maxLocals) {argsL rest : List Value} (hlen : ∀ sig, parseMethodDescriptor y.desc = some sig → argsL.length = sig.parameters.length)
    (hstack : g.stack = argsL.reverse ++ .ref b :: rest) (hW : 2 * g.monitorRoom + (rest.map fun v => v.category).sum ≤ W9) (hdg : decode c.code g.pc = .ok (.invokevirtual index, 3))
    (hpre : ∀ vm₁, s.WarmedH vm₁ → Pre ⟨T.setVm vm₁, locs, cells, slots⟩ (Value.ref b :: argsL).toArray) :
    (∃ (v : Option Value) (vm₁ : Vm) (B : Pt), s.WarmedH vm₁ ∧ Stand p l e R s m args below meth c B.U B.locs B.cells B.slots ∧ Post ⟨T.setVm vm₁, locs, cells, slots⟩ (Value.ref b :: argsL).toArray v B ∧
      ∀ target, Steps p.tables e below (B.U.setTop { g with pc := g.pc + 3, stack := v.toList ++ rest }) target → Steps p.tables e below (T.setTop g) target) ∨
    (∃ (q : Addr) (vm₁ : Vm) (B : Pt), s.WarmedH vm₁ ∧ Stand p l e R s m args below meth c B.U B.locs B.cells B.slots ∧ PostX ⟨T.setVm vm₁, locs, cells, slots⟩ (Value.ref b :: argsL).toArray q B ∧
      Steps p.tables e below (T.setTop g) ((B.U.setTop { g with stack := rest }).pushFrame (.throwing q))) := by
  obtain ⟨mk, methM, hnamed, hmethM, hstM, habM⟩ := Cond.instanceMethod_spec hinst
  obtain ⟨m8, methM', cM, hn8, hmethM', -, -, -, -, -, -, hsigM⟩ := Cond.codeWith_spec hcode
  cases Option.some.inj (hn8.symm.trans hnamed)
  cases hmethM.symm.trans hmethM'
  obtain ⟨c2, r2, m2, q1, q2, q3, q4, kP, hkP, hkPi⟩ := Cond.selects_spec hsel
  cases hcls.symm.trans q1
  cases (State.methodFound?_of_named hnamed hy).symm.trans q2
  cases hnamed.symm.trans q3
  have hselP : selectMethod e.platform s.vm cellB.cls mk = .method mk := by rw [Launch.admits_selectMethod X.admits]; exact q4
  obtain ⟨vm₁, X₁, hstep₁⟩ := X.invokevirtual hexec hown hlink hnamed hmethM hstM hkP hkPi hy (a := b) (cell := cellB) hcell
    (fun z h => by rw [h] at hobj; cases hobj) hselP hmethM habM hkP hkPi (g := g) hg (argsL := argsL) (rest := rest) (hlen _ hsigM) hstack hdg
  rcases hK m meth c ⟨T.setVm vm₁, locs, cells, slots⟩ { g with stack := rest } (.invokevirtual index) mk (Value.ref b :: argsL).toArray X₁ hg hsize hdg hW (X₁.named hnamed) (hpre vm₁ X₁.warmed) with ⟨v, B, X', hpost, hsteps⟩ | ⟨q, B, X', hpost, hsteps⟩
  · exact Or.inl ⟨v, vm₁, B, X₁.warmed, X', hpost, fun target h => hstep₁ _ fun acts => by rw [doInvoke_state]; exact hsteps.trans h⟩
  · exact Or.inr ⟨q, vm₁, B, X₁.warmed, X', hpost, hstep₁ _ fun acts => by rw [doInvoke_state]; exact hsteps⟩
theorem vx_callSX (X : Stand p l e R s m args below meth c T locs cells slots) (hexec : p.tables.exec = Jvm.exec) {own : String} {index : Nat} {y : MethodName} {bytes : ByteArray} {maxL : Nat} {ret : Option FieldType} {hh : List (Nat × Nat × Nat × Nat)}
    (hown : s.vm.findClass own = some m.cls) (hlink : (Cond.methodLink own index y).before args s = true) (hstat : (Cond.static y).before args s = true) (hinit : (Cond.initialized y.cls).before args s = true)
    (hcode : (Cond.codeWith y bytes maxL ret hh).before args s = true) (hy : y.cls ≠ "java/lang/invoke/MethodHandle" ∧ y.cls ≠ "java/lang/invoke/VarHandle")
    {W9 : Nat} {Pre : Pt → Array Value → Prop} {Post : Pt → Array Value → Option Value → Pt → Prop} {PostX : Pt → Array Value → Addr → Pt → Prop} (hK : vx_Back l R p e below s args y 3 W9 Pre Post PostX)
    {g : JFrame} (hg : g.method = m) (hsize : g.locals.size = c.maxLocals) {argsL rest : List Value} (hlen : ∀ sig, parseMethodDescriptor y.desc = some sig → argsL.length = sig.parameters.length)
    (hstack : g.stack = argsL.reverse ++ rest) (hW : 2 * g.monitorRoom + (rest.map fun v => v.category).sum ≤ W9) (hdg : decode c.code g.pc = .ok (.invokestatic index, 3))
    (hpre : ∀ vm₁, s.WarmedH vm₁ → Pre ⟨T.setVm vm₁, locs, cells, slots⟩ argsL.toArray) :
    (∃ (v : Option Value) (vm₁ : Vm) (B : Pt), s.WarmedH vm₁ ∧ Stand p l e R s m args below meth c B.U B.locs B.cells B.slots ∧ Post ⟨T.setVm vm₁, locs, cells, slots⟩ argsL.toArray v B ∧
      ∀ target, Steps p.tables e below (B.U.setTop { g with pc := g.pc + 3, stack := v.toList ++ rest }) target → Steps p.tables e below (T.setTop g) target) ∨
    (∃ (q : Addr) (vm₁ : Vm) (B : Pt), s.WarmedH vm₁ ∧ Stand p l e R s m args below meth c B.U B.locs B.cells B.slots ∧ PostX ⟨T.setVm vm₁, locs, cells, slots⟩ argsL.toArray q B ∧
      Steps p.tables e below (T.setTop g) ((B.U.setTop { g with stack := rest }).pushFrame (.throwing q))) := by
  obtain ⟨mk, methM, cM, hnamed, hmethM, -, -, -, -, -, -, hsigM⟩ := Cond.codeWith_spec hcode
  have hstatic : methM.isStatic = true := Cond.static_spec hnamed hmethM hstat
  obtain ⟨kP, hkP, -⟩ := className_of_methodNamed hnamed
  have hinitP : kP.init = .initialized := Cond.initialized_spec (findClass_of_methodNamed hnamed) hkP hinit
  obtain ⟨vm₁, X₁, hstep₁⟩ := X.invokestatic hexec hown hlink hnamed hmethM hstatic hkP hinitP hy (g := g) hg (argsL := argsL) (rest := rest) (hlen _ hsigM) hstack hdg
  rcases hK m meth c ⟨T.setVm vm₁, locs, cells, slots⟩ { g with stack := rest } (.invokestatic index) mk argsL.toArray X₁ hg hsize hdg hW (X₁.named hnamed) (hpre vm₁ X₁.warmed) with ⟨v, B, X', hpost, hsteps⟩ | ⟨q, B, X', hpost, hsteps⟩
  · exact Or.inl ⟨v, vm₁, B, X₁.warmed, X', hpost, fun target h => hstep₁ _ fun acts => by rw [doInvoke_state]; exact hsteps.trans h⟩
  · exact Or.inr ⟨q, vm₁, B, X₁.warmed, X', hpost, hstep₁ _ fun acts => by rw [doInvoke_state]; exact hsteps⟩
theorem vx_callVW (X : Stand p l e R s m args below meth c T locs cells slots) (hexec : p.tables.exec = Jvm.exec) {own C : String} {index : Nat} {y : MethodName} {bytes : ByteArray} {maxL : Nat} {ret : Option FieldType} {hh : List (Nat × Nat × Nat × Nat)}
    (hown : s.vm.findClass own = some m.cls) (hlink : (Cond.methodLink own index y).before args s = true) (hinst : (Cond.instanceMethod y).before args s = true) (hsel : (Cond.selects C y y).before args s = true)
    (hcode : (Cond.codeWith y bytes maxL ret hh).before args s = true) (hy : y.cls ≠ "java/lang/invoke/MethodHandle" ∧ y.cls ≠ "java/lang/invoke/VarHandle")
    {W9 : Nat} {Pre : Pt → Array Value → Prop} {Post : Pt → Array Value → Option Value → Pt → Prop} (hK : Back l R p e below s args y 3 W9 Pre Post)
    {b : Addr} {cellB : Cell} (hcell : T.heap[b]? = some cellB) (hobj : cellB.vm.isStatics = false) (hcls : s.vm.findClass C = some cellB.cls)
    {g : JFrame} (hg : g.method = m) (hsize : g.locals.size = c.maxLocals) {argsL rest : List Value} (hlen : ∀ sig, parseMethodDescriptor y.desc = some sig → argsL.length = sig.parameters.length)
    (hstack : g.stack = argsL.reverse ++ .ref b :: rest) (hW : 2 * g.monitorRoom + (rest.map fun v => v.category).sum ≤ W9) (hdg : decode c.code g.pc = .ok (.invokevirtual index, 3))
    (hpre : ∀ vm₁, s.WarmedH vm₁ → Pre ⟨T.setVm vm₁, locs, cells, slots⟩ (Value.ref b :: argsL).toArray) :
    ∃ (v : Option Value) (vm₁ : Vm) (B : Pt), s.WarmedH vm₁ ∧ Stand p l e R s m args below meth c B.U B.locs B.cells B.slots ∧ Post ⟨T.setVm vm₁, locs, cells, slots⟩ (Value.ref b :: argsL).toArray v B ∧
      ∀ target, Steps p.tables e below (B.U.setTop { g with pc := g.pc + 3, stack := v.toList ++ rest }) target → Steps p.tables e below (T.setTop g) target := by
  obtain ⟨mk, methM, hnamed, hmethM, hstM, habM⟩ := Cond.instanceMethod_spec hinst
  obtain ⟨m8, methM', cM, hn8, hmethM', -, -, -, -, -, -, hsigM⟩ := Cond.codeWith_spec hcode
  cases Option.some.inj (hn8.symm.trans hnamed)
  cases hmethM.symm.trans hmethM'
  obtain ⟨c2, r2, m2, q1, q2, q3, q4, kP, hkP, hkPi⟩ := Cond.selects_spec hsel
  cases hcls.symm.trans q1
  cases (State.methodFound?_of_named hnamed hy).symm.trans q2
  cases hnamed.symm.trans q3
  have hselP : selectMethod e.platform s.vm cellB.cls mk = .method mk := by rw [Launch.admits_selectMethod X.admits]; exact q4
  obtain ⟨vm₁, X₁, hstep₁⟩ := X.invokevirtual hexec hown hlink hnamed hmethM hstM hkP hkPi hy (a := b) (cell := cellB) hcell
    (fun z h => by rw [h] at hobj; cases hobj) hselP hmethM habM hkP hkPi (g := g) hg (argsL := argsL) (rest := rest) (hlen _ hsigM) hstack hdg
  obtain ⟨v, B, X', hpost, hsteps⟩ := hK m meth c ⟨T.setVm vm₁, locs, cells, slots⟩ { g with stack := rest } (.invokevirtual index) mk (Value.ref b :: argsL).toArray X₁ hg hsize hdg hW (X₁.named hnamed) (hpre vm₁ X₁.warmed)
  exact ⟨v, vm₁, B, X₁.warmed, X', hpost, fun target h => hstep₁ _ fun acts => by rw [doInvoke_state]; exact hsteps.trans h⟩
abbrev vx_CVW (R : Room) (s : State) (args : Array Value) (own C : String) (index : Nat) (y : MethodName) (bytes : ByteArray) (maxL : Nat) (ret : Option FieldType) (hh : List (Nat × Nat × Nat × Nat)) (ws : List Cond) (rm : Room) (mc ms n : Nat) : Prop :=
  (rm.cells = mc ∧ rm.slots = ms ∧ rm.frames + 1 ≤ R.frames ∧ 8 + (maxL + 11) + rm.locals ≤ R.locals ∧ (∀ w ∈ ws, ∀ (a' : Array Value) (U : State), s.WarmedH U.vm → w.before a' U = true) ∧ Cond.codeWith y bytes maxL ret hh ∈ ws) ∧
  (Cond.codeWith y bytes maxL ret hh).before args s = true ∧ (Cond.initialized y.cls).before args s = true ∧ (y.cls ≠ "java/lang/invoke/MethodHandle" ∧ y.cls ≠ "java/lang/invoke/VarHandle") ∧
  (∀ sig, parseMethodDescriptor y.desc = some sig → n = sig.parameters.length) ∧ (Cond.methodLink own index y).before args s = true ∧ (Cond.instanceMethod y).before args s = true ∧ (Cond.selects C y y).before args s = true
theorem vx_cwVW {own C : String} {index maxL mc ms : Nat} {y : MethodName} {bytes : ByteArray} {ret : Option FieldType} {hh : List (Nat × Nat × Nat × Nat)} {Ts ws ws' : List Cond} {rm : Room} (n : Nat) (ht : ∀ w ∈ Ts, w.before args s = true) (hT : GoodIn Ts (wsV own index C y ws)) (hw : ws = Cond.codeWith y bytes maxL ret hh :: ws') (hrc : rm.cells = mc) (hrs : rm.slots = ms)
    (hd : y.cls = C ∧ y.cls ≠ "java/lang/invoke/MethodHandle" ∧ y.cls ≠ "java/lang/invoke/VarHandle" ∧ (parseMethodDescriptor y.desc).map (fun d => d.parameters.length) = some n) (hR : rm.frames + 1 ≤ R.frames ∧ 8 + (maxL + 11) + rm.locals ≤ R.locals) :
    vx_CVW R s args own C index y bytes maxL ret hh ws rm mc ms n := by
  obtain ⟨hC, hd⟩ := hd
  subst hC
  have ok : ∀ w ∈ wsV own index y.cls y ws, w.before args s = true := fun w h => ht w (hT w h).1
  have hG : GoodIn Ts ws := fun w h => hT w (by unfold wsV; exact List.mem_append_right _ h)
  have hc : Cond.codeWith y bytes maxL ret hh ∈ ws := by rw [hw]; exact List.mem_cons_self
  refine ⟨⟨hrc, hrs, hR.1, hR.2, pay_in ht hG, hc⟩, ht _ (hG _ hc).1, ok _ (by simp [wsV]), ⟨hd.1, hd.2.1⟩, fun sig h => ?_, ok _ (by simp [wsV]), ok _ (by simp [wsV]), ok _ (by simp [wsV])⟩
  have h2 := hd.2.2
  rw [h] at h2
  exact (Option.some.inj h2).symm
theorem vx_runVW {y : MethodName} {bytes cc : ByteArray} {maxL nL mc ms n index : Nat} {ret : Option FieldType} {hh : List (Nat × Nat × Nat × Nat)} {ws : List Cond} {rm : Room} {Pc : Array Value → State → Prop} {Qc : Array Value → State → Outcome → State → Prop} {free : Addr → Prop} {Ts : List Cond} {own C : String} {b : Addr} {As rest : List Value} {g : JFrame}
    (S : CallFix p m c cc nL s args Ts own) (hM : Met l y ws rm Pc Qc mc ms free) (cw : vx_CVW R s args own C index y bytes maxL ret hh ws rm mc ms n) (hp : PreV s H C b Pc As)
    (hg : g.method = m) (hn : As.length = n) (hsize : g.locals.size = nL) (hstack : g.stack = As.reverse ++ .ref b :: rest) (hW : 2 * g.monitorRoom + (rest.map fun v => v.category).sum ≤ 8) (hdg : decode cc g.pc = .ok (.invokevirtual index, 3)) (hf : cells + mc ≤ R.cells ∧ slots + ms ≤ R.slots) :
    va_Run p l e R s m args below meth c H locs cells slots mc ms g rest (Qc (Value.ref b :: As).toArray) free := by
  obtain ⟨⟨hrc, hrs, hfr, hlo, hws, hcw⟩, hcode, hini, hy, hlen, hl, hin, hse⟩ := cw
  have hK : Back l R p e below s args y 3 8 (PreOf R mc ms Pc) (PostOf Qc mc ms free) := va_backW (hh := hh) (bytes := bytes) (maxL := maxL) (ret := ret) hM hp.1 hrc hrs hfr hlo hws hcw (fun a' U hW => word_at hW (Or.inl (by first | rfl | simp [Cond.onTables, Cond.keeps, Cond.steady])) hini)
  obtain ⟨hx, hb, hml, ho, -⟩ := S
  obtain ⟨-, ⟨cellB, hcB, hoB, hclB⟩, hPc⟩ := hp
  intro T hT X
  obtain ⟨v, vm₁, ⟨U', l2, c2, s2⟩, hW₁, X', ⟨g', mk, t, L, e1, e2, hq, h1, hL, h2, h3⟩, st⟩ := vx_callVW X hx (C := C) (hh := hh) (bytes := bytes) (maxL := maxL) (ret := ret) ho hl hin hse hcode hy hK (by rw [hT]; exact hcB) hoB hclB hg (hsize.trans hml.symm) (argsL := As) (rest := rest) (fun sig h => hn.trans (hlen sig h)) hstack hW (by rw [hb]; exact hdg)
    (fun vm₁ hW₁ => ⟨hf.1, hf.2, hPc (T.setVm vm₁) hT hW₁⟩)
  dsimp only [Pt.U, Pt.locs, Pt.cells, Pt.slots] at X' e1 e2 h1 h2 h3 st
  subst h1; subst h2; subst h3
  exact ⟨v, (T.setVm vm₁).calling g' mk (Value.ref b :: As).toArray, t, U', L, hT, X', hL, e1, e2, hq, st⟩
section
variable {y : MethodName} {bytes cc : ByteArray} {maxL nL mc ms n index : Nat} {ret : Option FieldType} {ws : List Cond} {rm : Room} {Pc : Array Value → State → Prop} {Qc : Array Value → State → Outcome → State → Prop} {XC : String → State → State → Prop} {free : Addr → Prop} {Ts : List Cond} {own C : String} {b : Addr} {As rest : List Value} {g : JFrame}
theorem vx_runVX {hh : List (Nat × Nat × Nat × Nat)} (S : CallFix p m c cc nL s args Ts own) (hM : vx_Met l y ws rm Pc Qc XC mc ms free) (cw : vx_CVW R s args own C index y bytes maxL ret hh ws rm mc ms n) (hp : PreV s H C b Pc As)
    (hg : g.method = m) (hn : As.length = n) (hsize : g.locals.size = nL) (hstack : g.stack = As.reverse ++ .ref b :: rest) (hW : 2 * g.monitorRoom + (rest.map fun v => v.category).sum ≤ 8) (hdg : decode cc g.pc = .ok (.invokevirtual index, 3)) (hf : cells + mc ≤ R.cells ∧ slots + ms ≤ R.slots) :
    vx_Run p l e R s m args below meth c H locs cells slots mc ms g rest (Qc (Value.ref b :: As).toArray) XC free := by
  obtain ⟨⟨hrc, hrs, hfr, hlo, hws, hcw⟩, hcode, hini, hy, hlen, hl, hin, hse⟩ := cw
  have hK : vx_Back l R p e below s args y 3 8 (PreOf R mc ms Pc) (PostOf Qc mc ms free) (vx_Post XC mc ms free) := vx_backW (hh := hh) (bytes := bytes) (maxL := maxL) (ret := ret) hM hp.1 hrc hrs hfr hlo hws hcw (fun a' U hW => word_at hW (Or.inl (by first | rfl | simp [Cond.onTables, Cond.keeps, Cond.steady])) hini)
  obtain ⟨hx, hb, hml, ho, -⟩ := S
  obtain ⟨-, ⟨cellB, hcB, hoB, hclB⟩, hPc⟩ := hp
  intro T hT X
  rcases vx_callVX X hx (C := C) (hh := hh) (bytes := bytes) (maxL := maxL) (ret := ret) ho hl hin hse hcode hy hK (by rw [hT]; exact hcB) hoB hclB hg (hsize.trans hml.symm) (argsL := As) (rest := rest) (fun sig h => hn.trans (hlen sig h)) hstack hW (by rw [hb]; exact hdg)
    (fun vm₁ hW₁ => ⟨hf.1, hf.2, hPc (T.setVm vm₁) hT hW₁⟩) with ⟨v, vm₁, ⟨U', l2, c2, s2⟩, hW₁, X', ⟨g', mk, t, L, e1, e2, hq, h1, hL, h2, h3⟩, st⟩ | ⟨q, vm₁, ⟨U', l2, c2, s2⟩, hW₁, X', ⟨g', mk, t, L, E, ce, e1, e2, hq, hce, hcv, hcl, h1, hL, h2, h3⟩, st⟩
  · dsimp only [Pt.U, Pt.locs, Pt.cells, Pt.slots] at X' e1 e2 h1 h2 h3 st
    subst h1; subst h2; subst h3
    exact Or.inl ⟨v, (T.setVm vm₁).calling g' mk (Value.ref b :: As).toArray, t, U', L, hT, X', hL, e1, e2, hq, st⟩
  · dsimp only [Pt.U, Pt.locs, Pt.cells, Pt.slots] at X' e1 e2 h1 h2 h3 st hcl
    subst h1; subst h2; subst h3
    exact Or.inr ⟨q, (T.setVm vm₁).calling g' mk (Value.ref b :: As).toArray, t, U', L, E, ce, hT, X', hL, e1, e2, hq, hce, hcv, vx_cls hW₁ hcl, st⟩
theorem vx_runSX {hh : List (Nat × Nat × Nat × Nat)} (S : CallFix p m c cc nL s args Ts own) (hM : vx_Met l y ws rm Pc Qc XC mc ms free) (cw : vx_CSW R s args own index y bytes maxL ret hh ws rm mc ms n) (hp : PreS s H Pc As)
    (hg : g.method = m) (hn : As.length = n) (hsize : g.locals.size = nL) (hstack : g.stack = As.reverse ++ rest) (hW : 2 * g.monitorRoom + (rest.map fun v => v.category).sum ≤ 8) (hdg : decode cc g.pc = .ok (.invokestatic index, 3)) (hf : cells + mc ≤ R.cells ∧ slots + ms ≤ R.slots) :
    vx_Run p l e R s m args below meth c H locs cells slots mc ms g rest (Qc As.toArray) XC free := by
  obtain ⟨⟨hrc, hrs, hfr, hlo, hws, hcw⟩, hcode, hini, hy, hlen, hl, hstt⟩ := cw
  have hK : vx_Back l R p e below s args y 3 8 (PreOf R mc ms Pc) (PostOf Qc mc ms free) (vx_Post XC mc ms free) := vx_backW (hh := hh) (bytes := bytes) (maxL := maxL) (ret := ret) hM hp.1 hrc hrs hfr hlo hws hcw (fun a' U hW => word_at hW (Or.inl (by first | rfl | simp [Cond.onTables, Cond.keeps, Cond.steady])) hini)
  obtain ⟨hx, hb, hml, ho, -⟩ := S
  intro T hT X
  rcases vx_callSX X hx (hh := hh) (bytes := bytes) (maxL := maxL) (ret := ret) ho hl hstt hini hcode hy hK hg (hsize.trans hml.symm) (argsL := As) (rest := rest) (fun sig h => hn.trans (hlen sig h)) hstack hW (by rw [hb]; exact hdg)
    (fun vm₁ hW₁ => ⟨hf.1, hf.2, hp.2 (T.setVm vm₁) hT hW₁⟩) with ⟨v, vm₁, ⟨U', l2, c2, s2⟩, hW₁, X', ⟨g', mk, t, L, e1, e2, hq, h1, hL, h2, h3⟩, st⟩ | ⟨q, vm₁, ⟨U', l2, c2, s2⟩, hW₁, X', ⟨g', mk, t, L, E, ce, e1, e2, hq, hce, hcv, hcl, h1, hL, h2, h3⟩, st⟩
  · dsimp only [Pt.U, Pt.locs, Pt.cells, Pt.slots] at X' e1 e2 h1 h2 h3 st
    subst h1; subst h2; subst h3
    exact Or.inl ⟨v, (T.setVm vm₁).calling g' mk As.toArray, t, U', L, hT, X', hL, e1, e2, hq, st⟩
  · dsimp only [Pt.U, Pt.locs, Pt.cells, Pt.slots] at X' e1 e2 h1 h2 h3 st hcl
    subst h1; subst h2; subst h3
    exact Or.inr ⟨q, (T.setVm vm₁).calling g' mk As.toArray, t, U', L, E, ce, hT, X', hL, e1, e2, hq, hce, hcv, vx_cls hW₁ hcl, st⟩
end
end VXH
theorem vx_ofWH {l : Launch} {y : MethodName} {ws ws' : List Cond} {rm : Room} {Pc : Array Value → State → Prop} {Qc : Array Value → State → Outcome → State → Prop} {XC : String → State → State → Prop} {mc ms : Nat} {free : Addr → Prop} {cc : ByteArray} {maxL : Nat} {ret : Option FieldType} {hh : List (Nat × Nat × Nat × Nat)}
    (hy : plainName y.cls = true) (hw : ws = Cond.codeWith y cc maxL ret hh :: ws')
    (body : ∀ p e s m args below meth c s₁, BodyLoose p l y (headSpec ws rm) cc maxL ret e s m args below meth c s₁ → c.maxLocals = maxL → Pc args s →
      W p l e (headSpec ws rm).room s m args below meth c s.heap [] 0 0 (vx_MQ below Qc XC args s mc ms free) (entryFrame m args maxL)) : vx_Met l y ws rm Pc Qc XC mc ms free := by
  refine MetFree.of_bodyS (code := cc) (maxLocals := maxL) (ret := ret) hy ?_ ?_
  · intro args s m h hn
    obtain ⟨m9, meth, c, hn9, h1, h2, h3, h4, -, h5, h6, -⟩ := Cond.codeWith_spec (atoms_spec (ws := ws) h _ (by rw [hw]; exact List.mem_cons_self))
    cases hn.symm.trans hn9
    exact ⟨meth, c, h1, h2, h3, h4, h5, h6⟩
  · intro p e s m args below meth c s₁ B hml hP _
    have hh0 : s₁.heap = s.heap := by rw [B.state]; rfl
    obtain ⟨t, a1, o, b1, b2, b3⟩ := body p e s m args below meth c s₁ B hml hP s₁ hh0 (Stand.of_body B)
    exact ⟨t, o, a1, b1, b2, b3⟩
/-! ===== END ===== -/

/-! ===== BEGIN printed: names, fields, word lists, decode rows ===== -/
def RX0 : String := "SenseNet$Chooser"
def TX0 : u_T := fun k => match k with
  | 0 => ("SenseNet$Chooser", "places", "I", false)
  | 1 => ("SenseNet$Chooser", "best", "I", false)
  | 2 => ("SenseNet$Chooser", "sizes", "[I", true)
  | 3 => ("SenseNet$Chooser", "options", "[I", true)
  | 4 => ("SenseNet$Chooser", "alike", "[I", true)
  | 5 => ("SenseNet$Chooser", "hopes", "[I", true)
  | 6 => ("SenseNet$Chooser", "picks", "[I", true)
  | _ => ("SenseNet$Chooser", "bestPicks", "[I", true)
def tyX0 : Nat → FieldType := fun k => match k with
  | 0 => .int
  | 1 => .int
  | 2 => .array .int
  | 3 => .array .int
  | 4 => .array .int
  | 5 => .array .int
  | 6 => .array .int
  | _ => .array .int
abbrev wsX00 : List Cond := u_ws RX0 TX0 8
theorem nmX0 : ∀ a, a < 8 → ∀ b, b < 8 → a ≠ b → (TX0 a).2.1 ≠ (TX0 b).2.1 := by decide +kernel
theorem tyX0_ok : ∀ k, k < 8 → parseFieldDescriptor (TX0 k).2.2.1 = some (tyX0 k) := by decide +kernel
abbrev cX0_init : ByteArray := prog_2_method_1_code
def yX0_init : MethodName := ⟨RX0, "<init>", "()V"⟩
abbrev cX0_prepare : ByteArray := prog_2_method_2_code
def yX0_prepare : MethodName := ⟨RX0, "prepare", "(LSenseNet$Net;LSenseNet$Words;I)V"⟩
abbrev cX0_findBest : ByteArray := prog_2_method_3_code
def yX0_findBest : MethodName := ⟨RX0, "findBest", "()I"⟩
abbrev cX0_findGreatest : ByteArray := prog_2_method_4_code
def yX0_findGreatest : MethodName := ⟨RX0, "findGreatest", "()I"⟩
abbrev cX0_bestSense : ByteArray := prog_2_method_5_code
def yX0_bestSense : MethodName := ⟨RX0, "bestSense", "(I)I"⟩
abbrev cX0_layOut : ByteArray := prog_2_method_6_code
def yX0_layOut : MethodName := ⟨RX0, "layOut", "(LSenseNet$Words;I)V"⟩
abbrev cX0_compare : ByteArray := prog_2_method_7_code
def yX0_compare : MethodName := ⟨RX0, "compare", "(LSenseNet$Net;III)I"⟩
abbrev cX0_gain : ByteArray := prog_2_method_8_code
def yX0_gain : MethodName := ⟨RX0, "gain", "(II)I"⟩
abbrev cX0_keep : ByteArray := prog_2_method_9_code
def yX0_keep : MethodName := ⟨RX0, "keep", "(I)V"⟩
abbrev cX0_seek : ByteArray := prog_2_method_10_code
def yX0_seek : MethodName := ⟨RX0, "seek", "(LSenseNet$Chooser;II)V"⟩
abbrev cX0_greatest : ByteArray := prog_2_method_11_code
def yX0_greatest : MethodName := ⟨RX0, "greatest", "(LSenseNet$Chooser;II)I"⟩
def RX1 : String := "SenseNet$Net"
def TX1 : u_T := fun k => match k with
  | 0 => ("SenseNet$Net", "added", "I", false)
  | 1 => ("SenseNet$Net", "present", "I", false)
  | 2 => ("SenseNet$Net", "parentSets", "[I", true)
  | 3 => ("SenseNet$Net", "counts", "[I", true)
  | 4 => ("SenseNet$Net", "coverSets", "[I", true)
  | 5 => ("SenseNet$Net", "masses", "[I", true)
  | 6 => ("SenseNet$Net", "depths", "[I", true)
  | 7 => ("SenseNet$Net", "steps", "[I", true)
  | _ => ("SenseNet$Net", "walked", "[I", true)
def tyX1 : Nat → FieldType := fun k => match k with
  | 0 => .int
  | 1 => .int
  | 2 => .array .int
  | 3 => .array .int
  | 4 => .array .int
  | 5 => .array .int
  | 6 => .array .int
  | 7 => .array .int
  | _ => .array .int
abbrev wsX10 : List Cond := u_ws RX1 TX1 9
theorem nmX1 : ∀ a, a < 9 → ∀ b, b < 9 → a ≠ b → (TX1 a).2.1 ≠ (TX1 b).2.1 := by decide +kernel
theorem tyX1_ok : ∀ k, k < 9 → parseFieldDescriptor (TX1 k).2.2.1 = some (tyX1 k) := by decide +kernel
abbrev cX1_init : ByteArray := prog_3_method_1_code
def yX1_init : MethodName := ⟨RX1, "<init>", "()V"⟩
abbrev cX1_exists : ByteArray := prog_3_method_2_code
def yX1_exists : MethodName := ⟨RX1, "exists", "(I)Z"⟩
abbrev cX1_isParent : ByteArray := prog_3_method_3_code
def yX1_isParent : MethodName := ⟨RX1, "isParent", "(II)Z"⟩
abbrev cX1_parentSet : ByteArray := prog_3_method_4_code
def yX1_parentSet : MethodName := ⟨RX1, "parentSet", "(I)I"⟩
abbrev cX1_parentCount : ByteArray := prog_3_method_5_code
def yX1_parentCount : MethodName := ⟨RX1, "parentCount", "(I)I"⟩
abbrev cX1_coverSet : ByteArray := prog_3_method_6_code
def yX1_coverSet : MethodName := ⟨RX1, "coverSet", "(I)I"⟩
abbrev cX1_covers : ByteArray := prog_3_method_7_code
def yX1_covers : MethodName := ⟨RX1, "covers", "(II)Z"⟩
abbrev cX1_coveredSet : ByteArray := prog_3_method_8_code
def yX1_coveredSet : MethodName := ⟨RX1, "coveredSet", "(I)I"⟩
abbrev cX1_coveredCount : ByteArray := prog_3_method_9_code
def yX1_coveredCount : MethodName := ⟨RX1, "coveredCount", "(I)I"⟩
abbrev cX1_stepsToTop : ByteArray := prog_3_method_10_code
def yX1_stepsToTop : MethodName := ⟨RX1, "stepsToTop", "(I)I"⟩
abbrev cX1_addOne : ByteArray := prog_3_method_11_code
def yX1_addOne : MethodName := ⟨RX1, "addOne", "()I"⟩
abbrev cX1_putBelow : ByteArray := prog_3_method_12_code
def yX1_putBelow : MethodName := ⟨RX1, "putBelow", "(II)I"⟩
abbrev cX1_cut : ByteArray := prog_3_method_13_code
def yX1_cut : MethodName := ⟨RX1, "cut", "(II)I"⟩
abbrev cX1_canLose : ByteArray := prog_3_method_14_code
def yX1_canLose : MethodName := ⟨RX1, "canLose", "(I)Z"⟩
abbrev cX1_lose : ByteArray := prog_3_method_15_code
def yX1_lose : MethodName := ⟨RX1, "lose", "(I)I"⟩
abbrev cX1_recount : ByteArray := prog_3_method_16_code
def yX1_recount : MethodName := ⟨RX1, "recount", "(II)I"⟩
abbrev cX1_parentsWithout : ByteArray := prog_3_method_17_code
def yX1_parentsWithout : MethodName := ⟨RX1, "parentsWithout", "(II)I"⟩
abbrev cX1_parentsOfAll : ByteArray := prog_3_method_18_code
def yX1_parentsOfAll : MethodName := ⟨RX1, "parentsOfAll", "(I)I"⟩
abbrev cX1_settle : ByteArray := prog_3_method_19_code
def yX1_settle : MethodName := ⟨RX1, "settle", "()V"⟩
abbrev cX1_climb : ByteArray := prog_3_method_20_code
def yX1_climb : MethodName := ⟨RX1, "climb", "(I)V"⟩
abbrev cX1_noteSteps : ByteArray := prog_3_method_21_code
def yX1_noteSteps : MethodName := ⟨RX1, "noteSteps", "(III)V"⟩
abbrev cX1_hasTop : ByteArray := prog_3_method_22_code
def yX1_hasTop : MethodName := ⟨RX1, "hasTop", "(I)Z"⟩
abbrev cX1_weigh : ByteArray := prog_3_method_23_code
def yX1_weigh : MethodName := ⟨RX1, "weigh", "()V"⟩
abbrev cX1_countOfAll : ByteArray := prog_3_method_24_code
def yX1_countOfAll : MethodName := ⟨RX1, "countOfAll", "(I)I"⟩
abbrev cX1_walkedCount : ByteArray := prog_3_method_25_code
def yX1_walkedCount : MethodName := ⟨RX1, "walkedCount", "(I)I"⟩
abbrev cX1_carryUp : ByteArray := prog_3_method_26_code
def yX1_carryUp : MethodName := ⟨RX1, "carryUp", "(I)V"⟩
abbrev cX1_tellingCover : ByteArray := prog_3_method_27_code
def yX1_tellingCover : MethodName := ⟨RX1, "tellingCover", "(II)I"⟩
abbrev cX1_saysMore : ByteArray := prog_3_method_28_code
def yX1_saysMore : MethodName := ⟨RX1, "saysMore", "(II)Z"⟩
abbrev cX1_stepsBetween : ByteArray := prog_3_method_29_code
def yX1_stepsBetween : MethodName := ⟨RX1, "stepsBetween", "(II)I"⟩
abbrev cX1_alike : ByteArray := prog_3_method_30_code
def yX1_alike : MethodName := ⟨RX1, "alike", "(III)I"⟩
abbrev cX1_quotient : ByteArray := prog_3_method_31_code
def yX1_quotient : MethodName := ⟨RX1, "quotient", "(II)I"⟩
def RX2 : String := "SenseNet$Words"
def TX2 : u_T := fun k => match k with
  | 0 => ("SenseNet$Words", "known", "I", false)
  | 1 => ("SenseNet$Words", "places", "I", false)
  | 2 => ("SenseNet$Words", "given", "[I", true)
  | 3 => ("SenseNet$Words", "sizes", "[I", true)
  | 4 => ("SenseNet$Words", "locks", "[I", true)
  | _ => ("SenseNet$Words", "sentence", "[I", true)
def tyX2 : Nat → FieldType := fun k => match k with
  | 0 => .int
  | 1 => .int
  | 2 => .array .int
  | 3 => .array .int
  | 4 => .array .int
  | _ => .array .int
abbrev wsX20 : List Cond := u_ws RX2 TX2 6
theorem nmX2 : ∀ a, a < 6 → ∀ b, b < 6 → a ≠ b → (TX2 a).2.1 ≠ (TX2 b).2.1 := by decide +kernel
theorem tyX2_ok : ∀ k, k < 6 → parseFieldDescriptor (TX2 k).2.2.1 = some (tyX2 k) := by decide +kernel
abbrev cX2_init : ByteArray := prog_4_method_1_code
def yX2_init : MethodName := ⟨RX2, "<init>", "()V"⟩
abbrev cX2_exists : ByteArray := prog_4_method_2_code
def yX2_exists : MethodName := ⟨RX2, "exists", "(I)Z"⟩
abbrev cX2_size : ByteArray := prog_4_method_3_code
def yX2_size : MethodName := ⟨RX2, "size", "(I)I"⟩
abbrev cX2_has : ByteArray := prog_4_method_4_code
def yX2_has : MethodName := ⟨RX2, "has", "(II)Z"⟩
abbrev cX2_anyHas : ByteArray := prog_4_method_5_code
def yX2_anyHas : MethodName := ⟨RX2, "anyHas", "(I)Z"⟩
abbrev cX2_isSaid : ByteArray := prog_4_method_6_code
def yX2_isSaid : MethodName := ⟨RX2, "isSaid", "(I)Z"⟩
abbrev cX2_wordAt : ByteArray := prog_4_method_7_code
def yX2_wordAt : MethodName := ⟨RX2, "wordAt", "(I)I"⟩
abbrev cX2_optionCount : ByteArray := prog_4_method_8_code
def yX2_optionCount : MethodName := ⟨RX2, "optionCount", "(I)I"⟩
abbrev cX2_option : ByteArray := prog_4_method_9_code
def yX2_option : MethodName := ⟨RX2, "option", "(II)I"⟩
abbrev cX2_addOne : ByteArray := prog_4_method_10_code
def yX2_addOne : MethodName := ⟨RX2, "addOne", "()I"⟩
abbrev cX2_append : ByteArray := prog_4_method_11_code
def yX2_append : MethodName := ⟨RX2, "append", "(II)I"⟩
abbrev cX2_drop : ByteArray := prog_4_method_12_code
def yX2_drop : MethodName := ⟨RX2, "drop", "(II)I"⟩
abbrev cX2_relock : ByteArray := prog_4_method_13_code
def yX2_relock : MethodName := ⟨RX2, "relock", "(II)I"⟩
abbrev cX2_putBehind : ByteArray := prog_4_method_14_code
def yX2_putBehind : MethodName := ⟨RX2, "putBehind", "(I)I"⟩
abbrev cX2_emptySentence : ByteArray := prog_4_method_15_code
def yX2_emptySentence : MethodName := ⟨RX2, "emptySentence", "()I"⟩
abbrev cX2_rankOf : ByteArray := prog_4_method_16_code
def yX2_rankOf : MethodName := ⟨RX2, "rankOf", "(II)I"⟩
def RX3 : String := "SenseNet"
def TX3 : u_T := fun k => match k with
  | 0 => ("SenseNet", "net", "LSenseNet$Net;", true)
  | 1 => ("SenseNet", "words", "LSenseNet$Words;", true)
  | _ => ("SenseNet", "chooser", "LSenseNet$Chooser;", true)
def tyX3 : Nat → FieldType := fun k => match k with
  | 0 => .object "SenseNet$Net"
  | 1 => .object "SenseNet$Words"
  | _ => .object "SenseNet$Chooser"
abbrev wsX30 : List Cond := u_ws RX3 TX3 3
theorem nmX3 : ∀ a, a < 3 → ∀ b, b < 3 → a ≠ b → (TX3 a).2.1 ≠ (TX3 b).2.1 := by decide +kernel
theorem tyX3_ok : ∀ k, k < 3 → parseFieldDescriptor (TX3 k).2.2.1 = some (tyX3 k) := by decide +kernel
abbrev cX3_init : ByteArray := prog_1_method_1_code
def yX3_init : MethodName := ⟨RX3, "<init>", "()V"⟩
abbrev cX3_addSense : ByteArray := prog_1_method_2_code
def yX3_addSense : MethodName := ⟨RX3, "addSense", "()I"⟩
abbrev cX3_link : ByteArray := prog_1_method_3_code
def yX3_link : MethodName := ⟨RX3, "link", "(II)I"⟩
abbrev cX3_unlink : ByteArray := prog_1_method_4_code
def yX3_unlink : MethodName := ⟨RX3, "unlink", "(II)I"⟩
abbrev cX3_remove : ByteArray := prog_1_method_5_code
def yX3_remove : MethodName := ⟨RX3, "remove", "(I)I"⟩
abbrev cX3_setCount : ByteArray := prog_1_method_6_code
def yX3_setCount : MethodName := ⟨RX3, "setCount", "(II)I"⟩
abbrev cX3_addWord : ByteArray := prog_1_method_7_code
def yX3_addWord : MethodName := ⟨RX3, "addWord", "()I"⟩
abbrev cX3_give : ByteArray := prog_1_method_8_code
def yX3_give : MethodName := ⟨RX3, "give", "(II)I"⟩
abbrev cX3_take : ByteArray := prog_1_method_9_code
def yX3_take : MethodName := ⟨RX3, "take", "(II)I"⟩
abbrev cX3_lock : ByteArray := prog_1_method_10_code
def yX3_lock : MethodName := ⟨RX3, "lock", "(II)I"⟩
abbrev cX3_say : ByteArray := prog_1_method_11_code
def yX3_say : MethodName := ⟨RX3, "say", "(I)I"⟩
abbrev cX3_hush : ByteArray := prog_1_method_12_code
def yX3_hush : MethodName := ⟨RX3, "hush", "()I"⟩
abbrev cX3_senses : ByteArray := prog_1_method_13_code
def yX3_senses : MethodName := ⟨RX3, "senses", "()I"⟩
abbrev cX3_parents : ByteArray := prog_1_method_14_code
def yX3_parents : MethodName := ⟨RX3, "parents", "(I)I"⟩
abbrev cX3_above : ByteArray := prog_1_method_15_code
def yX3_above : MethodName := ⟨RX3, "above", "(I)I"⟩
abbrev cX3_below : ByteArray := prog_1_method_16_code
def yX3_below : MethodName := ⟨RX3, "below", "(I)I"⟩
abbrev cX3_mass : ByteArray := prog_1_method_17_code
def yX3_mass : MethodName := ⟨RX3, "mass", "(I)I"⟩
abbrev cX3_massByWalks : ByteArray := prog_1_method_18_code
def yX3_massByWalks : MethodName := ⟨RX3, "massByWalks", "(I)I"⟩
abbrev cX3_depth : ByteArray := prog_1_method_19_code
def yX3_depth : MethodName := ⟨RX3, "depth", "(I)I"⟩
abbrev cX3_shared : ByteArray := prog_1_method_20_code
def yX3_shared : MethodName := ⟨RX3, "shared", "(II)I"⟩
abbrev cX3_distance : ByteArray := prog_1_method_21_code
def yX3_distance : MethodName := ⟨RX3, "distance", "(II)I"⟩
abbrev cX3_likeness : ByteArray := prog_1_method_22_code
def yX3_likeness : MethodName := ⟨RX3, "likeness", "(III)I"⟩
abbrev cX3_choices : ByteArray := prog_1_method_23_code
def yX3_choices : MethodName := ⟨RX3, "choices", "()I"⟩
abbrev cX3_bestWorth : ByteArray := prog_1_method_24_code
def yX3_bestWorth : MethodName := ⟨RX3, "bestWorth", "(I)I"⟩
abbrev cX3_greatestWorth : ByteArray := prog_1_method_25_code
def yX3_greatestWorth : MethodName := ⟨RX3, "greatestWorth", "(I)I"⟩
abbrev cX3_chosen : ByteArray := prog_1_method_26_code
def yX3_chosen : MethodName := ⟨RX3, "chosen", "(II)I"⟩
abbrev cX3_needSense : ByteArray := prog_1_method_27_code
def yX3_needSense : MethodName := ⟨RX3, "needSense", "(I)V"⟩
abbrev cX3_needWord : ByteArray := prog_1_method_28_code
def yX3_needWord : MethodName := ⟨RX3, "needWord", "(I)V"⟩
abbrev cX3_needMeasure : ByteArray := prog_1_method_29_code
def yX3_needMeasure : MethodName := ⟨RX3, "needMeasure", "(I)V"⟩
abbrev cX3_bit : ByteArray := prog_1_method_30_code
def yX3_bit : MethodName := ⟨RX3, "bit", "(I)I"⟩
abbrev cX3_holds : ByteArray := prog_1_method_31_code
def yX3_holds : MethodName := ⟨RX3, "holds", "(II)Z"⟩
abbrev cX3_at : ByteArray := prog_1_method_32_code
def yX3_at : MethodName := ⟨RX3, "at", "([II)I"⟩
abbrev cX3_put : ByteArray := prog_1_method_33_code
def yX3_put : MethodName := ⟨RX3, "put", "([III)V"⟩
def RX4 : String := "SenseNetModel"
def TX4 : u_T := fun k => match k with
  | _ => ("", "", "", false)
def tyX4 : Nat → FieldType := fun k => match k with
  | _ => .int
abbrev wsX40 : List Cond := u_ws RX4 TX4 0
theorem nmX4 : ∀ a, a < 0 → ∀ b, b < 0 → a ≠ b → (TX4 a).2.1 ≠ (TX4 b).2.1 := by decide +kernel
theorem tyX4_ok : ∀ k, k < 0 → parseFieldDescriptor (TX4 k).2.2.1 = some (tyX4 k) := by decide +kernel
def RJ6 : String := "java/lang/Integer"
def TJ6 : u_T := fun k => match k with
  | _ => ("", "", "", false)
def tyJ6 : Nat → FieldType := fun k => match k with
  | _ => .int
abbrev wsJ60 : List Cond := u_ws RJ6 TJ6 0
theorem nmJ6 : ∀ a, a < 0 → ∀ b, b < 0 → a ≠ b → (TJ6 a).2.1 ≠ (TJ6 b).2.1 := by decide +kernel
theorem tyJ6_ok : ∀ k, k < 0 → parseFieldDescriptor (TJ6 k).2.2.1 = some (tyJ6 k) := by decide +kernel
abbrev cJ6_bitCount_0f7a4 : ByteArray := prog_11_method_49_code
def yJ6_bitCount_0f7a4 : MethodName := ⟨RJ6, "bitCount", "(I)I"⟩
def RJ9 : String := "java/lang/Math"
def TJ9 : u_T := fun k => match k with
  | _ => ("", "", "", false)
def tyJ9 : Nat → FieldType := fun k => match k with
  | _ => .int
abbrev wsJ90 : List Cond := u_ws RJ9 TJ9 0
theorem nmJ9 : ∀ a, a < 0 → ∀ b, b < 0 → a ≠ b → (TJ9 a).2.1 ≠ (TJ9 b).2.1 := by decide +kernel
theorem tyJ9_ok : ∀ k, k < 0 → parseFieldDescriptor (TJ9 k).2.2.1 = some (tyJ9 k) := by decide +kernel
abbrev cJ9_max_7cf53 : ByteArray := prog_12_method_65_code
def yJ9_max_7cf53 : MethodName := ⟨RJ9, "max", "(II)I"⟩
abbrev cJ9_min_7cf53 : ByteArray := prog_12_method_69_code
def yJ9_min_7cf53 : MethodName := ⟨RJ9, "min", "(II)I"⟩
def RJ0 : String := "java/lang/String"
def TJ0 : u_T := fun k => match k with
  | _ => ("", "", "", false)
def tyJ0 : Nat → FieldType := fun k => match k with
  | _ => .int
abbrev wsJ00 : List Cond := u_ws RJ0 TJ0 0
theorem nmJ0 : ∀ a, a < 0 → ∀ b, b < 0 → a ≠ b → (TJ0 a).2.1 ≠ (TJ0 b).2.1 := by decide +kernel
theorem tyJ0_ok : ∀ k, k < 0 → parseFieldDescriptor (TJ0 k).2.2.1 = some (tyJ0 k) := by decide +kernel
def RL : String := "SenseNetLaw"
abbrev cL_cell : ByteArray := method_2_code
def yL_cell : MethodName := ⟨RL, "cell", "([II)I"⟩
abbrev cL_low : ByteArray := method_3_code
def yL_low : MethodName := ⟨RL, "low", "(II)I"⟩
abbrev cL_addSense : ByteArray := method_4_code
def yL_addSense : MethodName := ⟨RL, "addSense", "(LSenseNet;)I"⟩
abbrev cL_link : ByteArray := method_5_code
def yL_link : MethodName := ⟨RL, "link", "(LSenseNet;II)I"⟩
abbrev cL_unlink : ByteArray := method_6_code
def yL_unlink : MethodName := ⟨RL, "unlink", "(LSenseNet;II)I"⟩
abbrev cL_remove : ByteArray := method_7_code
def yL_remove : MethodName := ⟨RL, "remove", "(LSenseNet;I)I"⟩
abbrev cL_setCount : ByteArray := method_8_code
def yL_setCount : MethodName := ⟨RL, "setCount", "(LSenseNet;II)I"⟩
abbrev cL_addWord : ByteArray := method_9_code
def yL_addWord : MethodName := ⟨RL, "addWord", "(LSenseNet;)I"⟩
abbrev cL_give : ByteArray := method_10_code
def yL_give : MethodName := ⟨RL, "give", "(LSenseNet;II)I"⟩
abbrev cL_take : ByteArray := method_11_code
def yL_take : MethodName := ⟨RL, "take", "(LSenseNet;II)I"⟩
abbrev cL_lock : ByteArray := method_12_code
def yL_lock : MethodName := ⟨RL, "lock", "(LSenseNet;II)I"⟩
abbrev cL_say : ByteArray := method_13_code
def yL_say : MethodName := ⟨RL, "say", "(LSenseNet;I)I"⟩
abbrev cL_mass : ByteArray := method_14_code
def yL_mass : MethodName := ⟨RL, "mass", "(LSenseNet;I)I"⟩
abbrev cL_chosen : ByteArray := method_15_code
def yL_chosen : MethodName := ⟨RL, "chosen", "(LSenseNet;II)I"⟩
abbrev cL_act : ByteArray := method_16_code
def yL_act : MethodName := ⟨RL, "act", "(LSenseNet;I)I"⟩
abbrev cL_areAlike : ByteArray := method_17_code
def yL_areAlike : MethodName := ⟨RL, "areAlike", "(LSenseNet;LSenseNet;)Z"⟩
abbrev cL_bits : ByteArray := method_18_code
def yL_bits : MethodName := ⟨RL, "bits", "(I)I"⟩
abbrev cL_isSenseSo : ByteArray := method_19_code
def yL_isSenseSo : MethodName := ⟨RL, "isSenseSo", "(LSenseNet;I)Z"⟩
abbrev cL_arePairsSo : ByteArray := method_20_code
def yL_arePairsSo : MethodName := ⟨RL, "arePairsSo", "(LSenseNet;II)Z"⟩
abbrev cL_areChoicesSo : ByteArray := method_21_code
def yL_areChoicesSo : MethodName := ⟨RL, "areChoicesSo", "(LSenseNet;[II)Z"⟩
abbrev cL_law : ByteArray := code
def yL_law : MethodName := ⟨RL, "law", "([I)Z"⟩
def wsX0_init : List Cond := .code yX0_init cX0_init 1 none :: ([.methodLink RX0 3 objectInit, .instanceMethod objectInit, .code objectInit ⟨#[0xb1]⟩ 1 none, .fieldLink RX0 9 "SenseNet$Chooser" "places" "I", .fieldLink RX0 15 "SenseNet$Chooser" "best" "I", .arrayClass .int, .fieldLink RX0 18 "SenseNet$Chooser" "sizes" "[I", .fieldLink RX0 22 "SenseNet$Chooser" "options" "[I", .fieldLink RX0 25 "SenseNet$Chooser" "alike" "[I", .fieldLink RX0 28 "SenseNet$Chooser" "hopes" "[I", .fieldLink RX0 31 "SenseNet$Chooser" "picks" "[I", .fieldLink RX0 34 "SenseNet$Chooser" "bestPicks" "[I"] ++ wsX00)
def wsX3_at : List Cond := .code yX3_at cX3_at 2 (some .int) :: ([])
def wsX2_wordAt : List Cond := .code yX2_wordAt cX2_wordAt 2 (some .int) :: ([.fieldLink RX2 28 "SenseNet$Words" "sentence" "[I", .static yX3_at, .initialized RX3, .code yX3_at cX3_at 2 (some .int)] ++ wsX20)
def wsX2_optionCount : List Cond := .code yX2_optionCount cX2_optionCount 2 (some .int) :: ([.fieldLink RX2 25 "SenseNet$Words" "locks" "[I", .fieldLink RX2 22 "SenseNet$Words" "sizes" "[I", .static yX3_at, .initialized RX3, .code yX3_at cX3_at 2 (some .int)] ++ wsX20)
def wsX3_put : List Cond := .code yX3_put cX3_put 3 none :: ([])
def wsX2_option : List Cond := .code yX2_option cX2_option 4 (some .int) :: ([.fieldLink RX2 25 "SenseNet$Words" "locks" "[I", .fieldLink RX2 18 "SenseNet$Words" "given" "[I", .static yX3_at, .initialized RX3, .code yX3_at cX3_at 2 (some .int)] ++ wsX20)
def wsX0_layOut : List Cond := .code yX0_layOut cX0_layOut 6 none :: ([.fieldLink RX0 18 "SenseNet$Chooser" "sizes" "[I", .fieldLink RX0 22 "SenseNet$Chooser" "options" "[I", .methodLink RX0 70 yX2_wordAt, .instanceMethod yX2_wordAt, .selects RX2 yX2_wordAt yX2_wordAt, .initialized RX2, .code yX2_wordAt cX2_wordAt 2 (some .int), .fieldLink RX2 28 "SenseNet$Words" "sentence" "[I", .static yX3_at, .initialized RX3, .code yX3_at cX3_at 2 (some .int), .methodLink RX0 74 yX2_optionCount, .instanceMethod yX2_optionCount, .selects RX2 yX2_optionCount yX2_optionCount, .code yX2_optionCount cX2_optionCount 2 (some .int), .fieldLink RX2 25 "SenseNet$Words" "locks" "[I", .fieldLink RX2 22 "SenseNet$Words" "sizes" "[I", .static yX3_put, .code yX3_put cX3_put 3 none, .methodLink RX0 77 yX2_option, .instanceMethod yX2_option, .selects RX2 yX2_option yX2_option, .code yX2_option cX2_option 4 (some .int), .fieldLink RX2 18 "SenseNet$Words" "given" "[I"] ++ wsX00 ++ wsX20)
def wsX3_bit : List Cond := .code yX3_bit cX3_bit 1 (some .int) :: ([])
def wsX3_holds : List Cond := .code yX3_holds cX3_holds 2 (some .boolean) :: ([.methodLink RX3 154 yX3_bit, .static yX3_bit, .initialized RX3, .code yX3_bit cX3_bit 1 (some .int)])
def wsX1_saysMore : List Cond := .code yX1_saysMore cX1_saysMore 5 (some .boolean) :: ([.fieldLink RX1 28 "SenseNet$Net" "masses" "[I", .fieldLink RX1 31 "SenseNet$Net" "depths" "[I", .static yX3_at, .initialized RX3, .code yX3_at cX3_at 2 (some .int)] ++ wsX10)
def wsX1_tellingCover : List Cond := .code yX1_tellingCover cX1_tellingCover 6 (some .int) :: ([.fieldLink RX1 25 "SenseNet$Net" "coverSets" "[I", .static yX3_at, .initialized RX3, .code yX3_at cX3_at 2 (some .int), .static yX3_holds, .code yX3_holds cX3_holds 2 (some .boolean), .methodLink RX3 154 yX3_bit, .static yX3_bit, .code yX3_bit cX3_bit 1 (some .int), .methodLink RX1 104 yX1_saysMore, .instanceMethod yX1_saysMore, .selects RX1 yX1_saysMore yX1_saysMore, .initialized RX1, .code yX1_saysMore cX1_saysMore 5 (some .boolean), .fieldLink RX1 28 "SenseNet$Net" "masses" "[I", .fieldLink RX1 31 "SenseNet$Net" "depths" "[I"] ++ wsX10)
def wsX1_stepsBetween : List Cond := .code yX1_stepsBetween cX1_stepsBetween 7 (some .int) :: ([.fieldLink RX1 25 "SenseNet$Net" "coverSets" "[I", .fieldLink RX1 34 "SenseNet$Net" "steps" "[I", .methodLink RX1 107 Lib.Math.min.name, .static Lib.Math.min.name, .initialized "java/lang/Math", .code Lib.Math.min.name Lib.Math.min.code 2 (some .int), .static yX3_at, .initialized RX3, .code yX3_at cX3_at 2 (some .int), .static yX3_holds, .code yX3_holds cX3_holds 2 (some .boolean), .methodLink RX3 154 yX3_bit, .static yX3_bit, .code yX3_bit cX3_bit 1 (some .int)] ++ wsX10)
def wsX1_quotient : List Cond := .code yX1_quotient cX1_quotient 2 (some .int) :: ([])
def wsX1_countOfAll : List Cond := .code yX1_countOfAll cX1_countOfAll 4 (some .int) :: ([.fieldLink RX1 22 "SenseNet$Net" "counts" "[I", .static yX3_holds, .initialized RX3, .code yX3_holds cX3_holds 2 (some .boolean), .methodLink RX3 154 yX3_bit, .static yX3_bit, .code yX3_bit cX3_bit 1 (some .int), .static yX3_at, .code yX3_at cX3_at 2 (some .int)] ++ wsX10)
def wsX1_alike_r1 : List Cond := [Cond.fieldLink RX1 31 "SenseNet$Net" "depths" "[I", Cond.methodLink RX1 107 Lib.Math.min.name, Cond.static Lib.Math.min.name, Cond.initialized "java/lang/Math", Cond.code Lib.Math.min.name Lib.Math.min.code 2 (some .int), Cond.fieldLink RX1 15 "SenseNet$Net" "present" "I", Cond.fieldLink RX1 28 "SenseNet$Net" "masses" "[I", Cond.methodLink RX1 112 yX1_tellingCover, Cond.instanceMethod yX1_tellingCover, Cond.selects RX1 yX1_tellingCover yX1_tellingCover, Cond.initialized RX1, Cond.code yX1_tellingCover cX1_tellingCover 6 (some .int), Cond.fieldLink RX1 25 "SenseNet$Net" "coverSets" "[I", Cond.static yX3_at, Cond.initialized RX3, Cond.code yX3_at cX3_at 2 (some .int), Cond.static yX3_holds, Cond.code yX3_holds cX3_holds 2 (some .boolean), Cond.methodLink RX3 154 yX3_bit, Cond.static yX3_bit, Cond.code yX3_bit cX3_bit 1 (some .int), Cond.methodLink RX1 104 yX1_saysMore, Cond.instanceMethod yX1_saysMore, Cond.selects RX1 yX1_saysMore yX1_saysMore]
def wsX1_alike_r2 : List Cond := [Cond.code yX1_saysMore cX1_saysMore 5 (some .boolean), Cond.methodLink RX1 115 yX1_stepsBetween, Cond.instanceMethod yX1_stepsBetween, Cond.selects RX1 yX1_stepsBetween yX1_stepsBetween, Cond.code yX1_stepsBetween cX1_stepsBetween 7 (some .int), Cond.fieldLink RX1 34 "SenseNet$Net" "steps" "[I", Cond.methodLink RX1 118 yX1_quotient, Cond.static yX1_quotient, Cond.code yX1_quotient cX1_quotient 2 (some .int), Cond.methodLink RX1 98 yX1_countOfAll, Cond.instanceMethod yX1_countOfAll, Cond.selects RX1 yX1_countOfAll yX1_countOfAll, Cond.code yX1_countOfAll cX1_countOfAll 4 (some .int), Cond.fieldLink RX1 22 "SenseNet$Net" "counts" "[I"]
def wsX1_alike : List Cond := .code yX1_alike cX1_alike 6 (some .int) :: ((wsX1_alike_r1 ++ wsX1_alike_r2) ++ wsX10)
def wsX0_compare_r1 : List Cond := [Cond.fieldLink RX0 18 "SenseNet$Chooser" "sizes" "[I", Cond.fieldLink RX0 22 "SenseNet$Chooser" "options" "[I", Cond.fieldLink RX0 25 "SenseNet$Chooser" "alike" "[I", Cond.methodLink RX0 85 Lib.Math.max.name, Cond.static Lib.Math.max.name, Cond.initialized "java/lang/Math", Cond.code Lib.Math.max.name Lib.Math.max.code 2 (some .int), Cond.static yX3_at, Cond.initialized RX3, Cond.code yX3_at cX3_at 2 (some .int), Cond.methodLink RX0 80 yX1_alike, Cond.instanceMethod yX1_alike, Cond.selects RX1 yX1_alike yX1_alike, Cond.initialized RX1, Cond.code yX1_alike cX1_alike 6 (some .int), Cond.fieldLink RX1 31 "SenseNet$Net" "depths" "[I", Cond.methodLink RX1 107 Lib.Math.min.name, Cond.static Lib.Math.min.name, Cond.code Lib.Math.min.name Lib.Math.min.code 2 (some .int), Cond.fieldLink RX1 15 "SenseNet$Net" "present" "I", Cond.fieldLink RX1 28 "SenseNet$Net" "masses" "[I", Cond.methodLink RX1 112 yX1_tellingCover, Cond.instanceMethod yX1_tellingCover, Cond.selects RX1 yX1_tellingCover yX1_tellingCover]
def wsX0_compare_r2 : List Cond := [Cond.code yX1_tellingCover cX1_tellingCover 6 (some .int), Cond.fieldLink RX1 25 "SenseNet$Net" "coverSets" "[I", Cond.static yX3_holds, Cond.code yX3_holds cX3_holds 2 (some .boolean), Cond.methodLink RX3 154 yX3_bit, Cond.static yX3_bit, Cond.code yX3_bit cX3_bit 1 (some .int), Cond.methodLink RX1 104 yX1_saysMore, Cond.instanceMethod yX1_saysMore, Cond.selects RX1 yX1_saysMore yX1_saysMore, Cond.code yX1_saysMore cX1_saysMore 5 (some .boolean), Cond.methodLink RX1 115 yX1_stepsBetween, Cond.instanceMethod yX1_stepsBetween, Cond.selects RX1 yX1_stepsBetween yX1_stepsBetween, Cond.code yX1_stepsBetween cX1_stepsBetween 7 (some .int), Cond.fieldLink RX1 34 "SenseNet$Net" "steps" "[I", Cond.methodLink RX1 118 yX1_quotient, Cond.static yX1_quotient, Cond.code yX1_quotient cX1_quotient 2 (some .int), Cond.methodLink RX1 98 yX1_countOfAll, Cond.instanceMethod yX1_countOfAll, Cond.selects RX1 yX1_countOfAll yX1_countOfAll, Cond.code yX1_countOfAll cX1_countOfAll 4 (some .int), Cond.fieldLink RX1 22 "SenseNet$Net" "counts" "[I"]
def wsX0_compare_r3 : List Cond := [Cond.static yX3_put, Cond.code yX3_put cX3_put 3 none]
def wsX0_compare : List Cond := .code yX0_compare cX0_compare 11 (some .int) :: ((wsX0_compare_r1 ++ (wsX0_compare_r2 ++ wsX0_compare_r3)) ++ wsX00 ++ wsX10)
def wsX0_prepare_r1 : List Cond := [Cond.fieldLink RX0 9 "SenseNet$Chooser" "places" "I", Cond.fieldLink RX0 37 "SenseNet$Words" "places" "I", Cond.methodLink RX0 40 Lib.Math.min.name, Cond.static Lib.Math.min.name, Cond.initialized "java/lang/Math", Cond.code Lib.Math.min.name Lib.Math.min.code 2 (some .int), Cond.fieldLink RX0 28 "SenseNet$Chooser" "hopes" "[I", Cond.methodLink RX0 46 yX0_layOut, Cond.instanceMethod yX0_layOut, Cond.selects RX0 yX0_layOut yX0_layOut, Cond.initialized RX0, Cond.code yX0_layOut cX0_layOut 6 none, Cond.fieldLink RX0 18 "SenseNet$Chooser" "sizes" "[I", Cond.fieldLink RX0 22 "SenseNet$Chooser" "options" "[I", Cond.methodLink RX0 70 yX2_wordAt, Cond.instanceMethod yX2_wordAt, Cond.selects RX2 yX2_wordAt yX2_wordAt, Cond.initialized RX2, Cond.code yX2_wordAt cX2_wordAt 2 (some .int), Cond.fieldLink RX2 28 "SenseNet$Words" "sentence" "[I", Cond.static yX3_at, Cond.initialized RX3, Cond.code yX3_at cX3_at 2 (some .int), Cond.methodLink RX0 74 yX2_optionCount]
def wsX0_prepare_r2 : List Cond := [Cond.instanceMethod yX2_optionCount, Cond.selects RX2 yX2_optionCount yX2_optionCount, Cond.code yX2_optionCount cX2_optionCount 2 (some .int), Cond.fieldLink RX2 25 "SenseNet$Words" "locks" "[I", Cond.fieldLink RX2 22 "SenseNet$Words" "sizes" "[I", Cond.static yX3_put, Cond.code yX3_put cX3_put 3 none, Cond.methodLink RX0 77 yX2_option, Cond.instanceMethod yX2_option, Cond.selects RX2 yX2_option yX2_option, Cond.code yX2_option cX2_option 4 (some .int), Cond.fieldLink RX2 18 "SenseNet$Words" "given" "[I", Cond.methodLink RX0 54 yX0_compare, Cond.instanceMethod yX0_compare, Cond.selects RX0 yX0_compare yX0_compare, Cond.code yX0_compare cX0_compare 11 (some .int), Cond.fieldLink RX0 25 "SenseNet$Chooser" "alike" "[I", Cond.methodLink RX0 85 Lib.Math.max.name, Cond.static Lib.Math.max.name, Cond.code Lib.Math.max.name Lib.Math.max.code 2 (some .int), Cond.methodLink RX0 80 yX1_alike, Cond.instanceMethod yX1_alike, Cond.selects RX1 yX1_alike yX1_alike, Cond.initialized RX1]
def wsX0_prepare_r3 : List Cond := [Cond.code yX1_alike cX1_alike 6 (some .int), Cond.fieldLink RX1 31 "SenseNet$Net" "depths" "[I", Cond.methodLink RX1 107 Lib.Math.min.name, Cond.fieldLink RX1 15 "SenseNet$Net" "present" "I", Cond.fieldLink RX1 28 "SenseNet$Net" "masses" "[I", Cond.methodLink RX1 112 yX1_tellingCover, Cond.instanceMethod yX1_tellingCover, Cond.selects RX1 yX1_tellingCover yX1_tellingCover, Cond.code yX1_tellingCover cX1_tellingCover 6 (some .int), Cond.fieldLink RX1 25 "SenseNet$Net" "coverSets" "[I", Cond.static yX3_holds, Cond.code yX3_holds cX3_holds 2 (some .boolean), Cond.methodLink RX3 154 yX3_bit, Cond.static yX3_bit, Cond.code yX3_bit cX3_bit 1 (some .int), Cond.methodLink RX1 104 yX1_saysMore, Cond.instanceMethod yX1_saysMore, Cond.selects RX1 yX1_saysMore yX1_saysMore, Cond.code yX1_saysMore cX1_saysMore 5 (some .boolean), Cond.methodLink RX1 115 yX1_stepsBetween, Cond.instanceMethod yX1_stepsBetween, Cond.selects RX1 yX1_stepsBetween yX1_stepsBetween, Cond.code yX1_stepsBetween cX1_stepsBetween 7 (some .int), Cond.fieldLink RX1 34 "SenseNet$Net" "steps" "[I"]
def wsX0_prepare_r4 : List Cond := [Cond.methodLink RX1 118 yX1_quotient, Cond.static yX1_quotient, Cond.code yX1_quotient cX1_quotient 2 (some .int), Cond.methodLink RX1 98 yX1_countOfAll, Cond.instanceMethod yX1_countOfAll, Cond.selects RX1 yX1_countOfAll yX1_countOfAll, Cond.code yX1_countOfAll cX1_countOfAll 4 (some .int), Cond.fieldLink RX1 22 "SenseNet$Net" "counts" "[I"]
def wsX0_prepare : List Cond := .code yX0_prepare cX0_prepare 7 none :: ((wsX0_prepare_r1 ++ (wsX0_prepare_r2 ++ (wsX0_prepare_r3 ++ wsX0_prepare_r4))) ++ wsX00 ++ wsX20 ++ wsX10)
def wsX0_keep : List Cond := .code yX0_keep cX0_keep 3 none :: ([.fieldLink RX0 15 "SenseNet$Chooser" "best" "I", .fieldLink RX0 9 "SenseNet$Chooser" "places" "I", .fieldLink RX0 34 "SenseNet$Chooser" "bestPicks" "[I", .fieldLink RX0 31 "SenseNet$Chooser" "picks" "[I", .static yX3_at, .initialized RX3, .code yX3_at cX3_at 2 (some .int), .static yX3_put, .code yX3_put cX3_put 3 none] ++ wsX00)
def wsX0_gain : List Cond := .code yX0_gain cX0_gain 5 (some .int) :: ([.fieldLink RX0 25 "SenseNet$Chooser" "alike" "[I", .fieldLink RX0 31 "SenseNet$Chooser" "picks" "[I", .static yX3_at, .initialized RX3, .code yX3_at cX3_at 2 (some .int)] ++ wsX00)
def wsX0_seek : List Cond := .code yX0_seek cX0_seek 6 none :: ([.fieldLink RX0 28 "SenseNet$Chooser" "hopes" "[I", .fieldLink RX0 15 "SenseNet$Chooser" "best" "I", .fieldLink RX0 9 "SenseNet$Chooser" "places" "I", .fieldLink RX0 18 "SenseNet$Chooser" "sizes" "[I", .fieldLink RX0 31 "SenseNet$Chooser" "picks" "[I", .static yX3_at, .initialized RX3, .code yX3_at cX3_at 2 (some .int), .methodLink RX0 88 yX0_keep, .instanceMethod yX0_keep, .selects RX0 yX0_keep yX0_keep, .initialized RX0, .code yX0_keep cX0_keep 3 none, .fieldLink RX0 34 "SenseNet$Chooser" "bestPicks" "[I", .static yX3_put, .code yX3_put cX3_put 3 none, .methodLink RX0 92 yX0_gain, .instanceMethod yX0_gain, .selects RX0 yX0_gain yX0_gain, .code yX0_gain cX0_gain 5 (some .int), .fieldLink RX0 25 "SenseNet$Chooser" "alike" "[I", .methodLink RX0 62 yX0_seek, .static yX0_seek] ++ wsX00)
def wsX0_findBest : List Cond := .code yX0_findBest cX0_findBest 1 (some .int) :: ([.fieldLink RX0 15 "SenseNet$Chooser" "best" "I", .methodLink RX0 62 yX0_seek, .static yX0_seek, .initialized RX0, .code yX0_seek cX0_seek 6 none, .fieldLink RX0 28 "SenseNet$Chooser" "hopes" "[I", .fieldLink RX0 9 "SenseNet$Chooser" "places" "I", .fieldLink RX0 18 "SenseNet$Chooser" "sizes" "[I", .fieldLink RX0 31 "SenseNet$Chooser" "picks" "[I", .static yX3_at, .initialized RX3, .code yX3_at cX3_at 2 (some .int), .methodLink RX0 88 yX0_keep, .instanceMethod yX0_keep, .selects RX0 yX0_keep yX0_keep, .code yX0_keep cX0_keep 3 none, .fieldLink RX0 34 "SenseNet$Chooser" "bestPicks" "[I", .static yX3_put, .code yX3_put cX3_put 3 none, .methodLink RX0 92 yX0_gain, .instanceMethod yX0_gain, .selects RX0 yX0_gain yX0_gain, .code yX0_gain cX0_gain 5 (some .int), .fieldLink RX0 25 "SenseNet$Chooser" "alike" "[I"] ++ wsX00)
def wsX0_greatest : List Cond := .code yX0_greatest cX0_greatest 7 (some .int) :: ([.fieldLink RX0 9 "SenseNet$Chooser" "places" "I", .fieldLink RX0 18 "SenseNet$Chooser" "sizes" "[I", .fieldLink RX0 31 "SenseNet$Chooser" "picks" "[I", .methodLink RX0 85 Lib.Math.max.name, .static Lib.Math.max.name, .initialized "java/lang/Math", .code Lib.Math.max.name Lib.Math.max.code 2 (some .int), .static yX3_at, .initialized RX3, .code yX3_at cX3_at 2 (some .int), .static yX3_put, .code yX3_put cX3_put 3 none, .methodLink RX0 92 yX0_gain, .instanceMethod yX0_gain, .selects RX0 yX0_gain yX0_gain, .initialized RX0, .code yX0_gain cX0_gain 5 (some .int), .fieldLink RX0 25 "SenseNet$Chooser" "alike" "[I", .methodLink RX0 66 yX0_greatest, .static yX0_greatest] ++ wsX00)
def wsX0_findGreatest : List Cond := .code yX0_findGreatest cX0_findGreatest 1 (some .int) :: ([.methodLink RX0 66 yX0_greatest, .static yX0_greatest, .initialized RX0, .code yX0_greatest cX0_greatest 7 (some .int), .fieldLink RX0 9 "SenseNet$Chooser" "places" "I", .fieldLink RX0 18 "SenseNet$Chooser" "sizes" "[I", .fieldLink RX0 31 "SenseNet$Chooser" "picks" "[I", .methodLink RX0 85 Lib.Math.max.name, .static Lib.Math.max.name, .initialized "java/lang/Math", .code Lib.Math.max.name Lib.Math.max.code 2 (some .int), .static yX3_at, .initialized RX3, .code yX3_at cX3_at 2 (some .int), .static yX3_put, .code yX3_put cX3_put 3 none, .methodLink RX0 92 yX0_gain, .instanceMethod yX0_gain, .selects RX0 yX0_gain yX0_gain, .code yX0_gain cX0_gain 5 (some .int), .fieldLink RX0 25 "SenseNet$Chooser" "alike" "[I"] ++ wsX00)
def wsX0_bestSense : List Cond := .code yX0_bestSense cX0_bestSense 2 (some .int) :: ([.fieldLink RX0 22 "SenseNet$Chooser" "options" "[I", .fieldLink RX0 34 "SenseNet$Chooser" "bestPicks" "[I", .static yX3_at, .initialized RX3, .code yX3_at cX3_at 2 (some .int)] ++ wsX00)
def wsX1_init : List Cond := .code yX1_init cX1_init 1 none :: ([.methodLink RX1 3 objectInit, .instanceMethod objectInit, .code objectInit ⟨#[0xb1]⟩ 1 none, .fieldLink RX1 9 "SenseNet$Net" "added" "I", .fieldLink RX1 15 "SenseNet$Net" "present" "I", .arrayClass .int, .fieldLink RX1 18 "SenseNet$Net" "parentSets" "[I", .fieldLink RX1 22 "SenseNet$Net" "counts" "[I", .fieldLink RX1 25 "SenseNet$Net" "coverSets" "[I", .fieldLink RX1 28 "SenseNet$Net" "masses" "[I", .fieldLink RX1 31 "SenseNet$Net" "depths" "[I", .fieldLink RX1 34 "SenseNet$Net" "steps" "[I", .fieldLink RX1 37 "SenseNet$Net" "walked" "[I"] ++ wsX10)
def wsX1_exists : List Cond := .code yX1_exists cX1_exists 2 (some .boolean) :: ([.fieldLink RX1 15 "SenseNet$Net" "present" "I", .static yX3_holds, .initialized RX3, .code yX3_holds cX3_holds 2 (some .boolean), .methodLink RX3 154 yX3_bit, .static yX3_bit, .code yX3_bit cX3_bit 1 (some .int)] ++ wsX10)
def wsX1_isParent : List Cond := .code yX1_isParent cX1_isParent 3 (some .boolean) :: ([.fieldLink RX1 18 "SenseNet$Net" "parentSets" "[I", .static yX3_at, .initialized RX3, .code yX3_at cX3_at 2 (some .int), .static yX3_holds, .code yX3_holds cX3_holds 2 (some .boolean), .methodLink RX3 154 yX3_bit, .static yX3_bit, .code yX3_bit cX3_bit 1 (some .int)] ++ wsX10)
def wsX1_parentSet : List Cond := .code yX1_parentSet cX1_parentSet 2 (some .int) :: ([.fieldLink RX1 18 "SenseNet$Net" "parentSets" "[I", .static yX3_at, .initialized RX3, .code yX3_at cX3_at 2 (some .int)] ++ wsX10)
def wsJ6_bitCount_0f7a4 : List Cond := .code yJ6_bitCount_0f7a4 cJ6_bitCount_0f7a4 1 (some .int) :: ([.constant RJ6 265 (1431655765), .constant RJ6 266 (858993459), .constant RJ6 267 (252645135)])
def wsX1_parentCount : List Cond := .code yX1_parentCount cX1_parentCount 2 (some .int) :: ([.fieldLink RX1 18 "SenseNet$Net" "parentSets" "[I", .static yX3_at, .initialized RX3, .code yX3_at cX3_at 2 (some .int), .methodLink RX1 48 yJ6_bitCount_0f7a4, .static yJ6_bitCount_0f7a4, .initialized RJ6, .code yJ6_bitCount_0f7a4 cJ6_bitCount_0f7a4 1 (some .int), .constant RJ6 265 (1431655765), .constant RJ6 266 (858993459), .constant RJ6 267 (252645135)] ++ wsX10)
def wsX1_coverSet : List Cond := .code yX1_coverSet cX1_coverSet 2 (some .int) :: ([.fieldLink RX1 25 "SenseNet$Net" "coverSets" "[I", .static yX3_at, .initialized RX3, .code yX3_at cX3_at 2 (some .int)] ++ wsX10)
def wsX1_covers : List Cond := .code yX1_covers cX1_covers 3 (some .boolean) :: ([.fieldLink RX1 25 "SenseNet$Net" "coverSets" "[I", .static yX3_at, .initialized RX3, .code yX3_at cX3_at 2 (some .int), .static yX3_holds, .code yX3_holds cX3_holds 2 (some .boolean), .methodLink RX3 154 yX3_bit, .static yX3_bit, .code yX3_bit cX3_bit 1 (some .int)] ++ wsX10)
def wsX1_coveredSet : List Cond := .code yX1_coveredSet cX1_coveredSet 4 (some .int) :: ([.fieldLink RX1 25 "SenseNet$Net" "coverSets" "[I", .static yX3_at, .initialized RX3, .code yX3_at cX3_at 2 (some .int), .static yX3_holds, .code yX3_holds cX3_holds 2 (some .boolean), .methodLink RX3 154 yX3_bit, .static yX3_bit, .code yX3_bit cX3_bit 1 (some .int)] ++ wsX10)
def wsX1_coveredCount : List Cond := .code yX1_coveredCount cX1_coveredCount 2 (some .int) :: ([.fieldLink RX1 28 "SenseNet$Net" "masses" "[I", .static yX3_at, .initialized RX3, .code yX3_at cX3_at 2 (some .int)] ++ wsX10)
def wsX1_stepsToTop : List Cond := .code yX1_stepsToTop cX1_stepsToTop 2 (some .int) :: ([.fieldLink RX1 31 "SenseNet$Net" "depths" "[I", .static yX3_at, .initialized RX3, .code yX3_at cX3_at 2 (some .int)] ++ wsX10)
def wsX1_noteSteps : List Cond := .code yX1_noteSteps cX1_noteSteps 5 none :: ([.fieldLink RX1 34 "SenseNet$Net" "steps" "[I", .static yX3_holds, .initialized RX3, .code yX3_holds cX3_holds 2 (some .boolean), .methodLink RX3 154 yX3_bit, .static yX3_bit, .code yX3_bit cX3_bit 1 (some .int), .static yX3_put, .code yX3_put cX3_put 3 none] ++ wsX10)
def wsX1_hasTop : List Cond := .code yX1_hasTop cX1_hasTop 3 (some .boolean) :: ([.fieldLink RX1 18 "SenseNet$Net" "parentSets" "[I", .static yX3_holds, .initialized RX3, .code yX3_holds cX3_holds 2 (some .boolean), .methodLink RX3 154 yX3_bit, .static yX3_bit, .code yX3_bit cX3_bit 1 (some .int), .static yX3_at, .code yX3_at cX3_at 2 (some .int)] ++ wsX10)
def wsX1_parentsOfAll : List Cond := .code yX1_parentsOfAll cX1_parentsOfAll 4 (some .int) :: ([.fieldLink RX1 18 "SenseNet$Net" "parentSets" "[I", .static yX3_holds, .initialized RX3, .code yX3_holds cX3_holds 2 (some .boolean), .methodLink RX3 154 yX3_bit, .static yX3_bit, .code yX3_bit cX3_bit 1 (some .int), .static yX3_at, .code yX3_at cX3_at 2 (some .int)] ++ wsX10)
def wsX1_climb_r1 : List Cond := [Cond.fieldLink RX1 25 "SenseNet$Net" "coverSets" "[I", Cond.fieldLink RX1 31 "SenseNet$Net" "depths" "[I", Cond.methodLink RX1 81 yX1_exists, Cond.instanceMethod yX1_exists, Cond.selects RX1 yX1_exists yX1_exists, Cond.initialized RX1, Cond.code yX1_exists cX1_exists 2 (some .boolean), Cond.fieldLink RX1 15 "SenseNet$Net" "present" "I", Cond.static yX3_holds, Cond.initialized RX3, Cond.code yX3_holds cX3_holds 2 (some .boolean), Cond.methodLink RX3 154 yX3_bit, Cond.static yX3_bit, Cond.code yX3_bit cX3_bit 1 (some .int), Cond.methodLink RX1 85 yX1_noteSteps, Cond.instanceMethod yX1_noteSteps, Cond.selects RX1 yX1_noteSteps yX1_noteSteps, Cond.code yX1_noteSteps cX1_noteSteps 5 none, Cond.fieldLink RX1 34 "SenseNet$Net" "steps" "[I", Cond.static yX3_put, Cond.code yX3_put cX3_put 3 none, Cond.methodLink RX1 89 yX1_hasTop, Cond.instanceMethod yX1_hasTop, Cond.selects RX1 yX1_hasTop yX1_hasTop]
def wsX1_climb_r2 : List Cond := [Cond.code yX1_hasTop cX1_hasTop 3 (some .boolean), Cond.fieldLink RX1 18 "SenseNet$Net" "parentSets" "[I", Cond.static yX3_at, Cond.code yX3_at cX3_at 2 (some .int), Cond.methodLink RX1 92 yX1_parentsOfAll, Cond.instanceMethod yX1_parentsOfAll, Cond.selects RX1 yX1_parentsOfAll yX1_parentsOfAll, Cond.code yX1_parentsOfAll cX1_parentsOfAll 4 (some .int)]
def wsX1_climb : List Cond := .code yX1_climb cX1_climb 6 none :: ((wsX1_climb_r1 ++ wsX1_climb_r2) ++ wsX10)
def wsX1_weigh : List Cond := .code yX1_weigh cX1_weigh 2 none :: ([.fieldLink RX1 28 "SenseNet$Net" "masses" "[I", .methodLink RX1 95 yX1_coveredSet, .instanceMethod yX1_coveredSet, .selects RX1 yX1_coveredSet yX1_coveredSet, .initialized RX1, .code yX1_coveredSet cX1_coveredSet 4 (some .int), .fieldLink RX1 25 "SenseNet$Net" "coverSets" "[I", .static yX3_at, .initialized RX3, .code yX3_at cX3_at 2 (some .int), .static yX3_holds, .code yX3_holds cX3_holds 2 (some .boolean), .methodLink RX3 154 yX3_bit, .static yX3_bit, .code yX3_bit cX3_bit 1 (some .int), .methodLink RX1 98 yX1_countOfAll, .instanceMethod yX1_countOfAll, .selects RX1 yX1_countOfAll yX1_countOfAll, .code yX1_countOfAll cX1_countOfAll 4 (some .int), .fieldLink RX1 22 "SenseNet$Net" "counts" "[I", .static yX3_put, .code yX3_put cX3_put 3 none] ++ wsX10)
def wsX1_settle_r1 : List Cond := [Cond.methodLink RX1 77 yX1_climb, Cond.instanceMethod yX1_climb, Cond.selects RX1 yX1_climb yX1_climb, Cond.initialized RX1, Cond.code yX1_climb cX1_climb 6 none, Cond.fieldLink RX1 25 "SenseNet$Net" "coverSets" "[I", Cond.fieldLink RX1 31 "SenseNet$Net" "depths" "[I", Cond.methodLink RX1 81 yX1_exists, Cond.instanceMethod yX1_exists, Cond.selects RX1 yX1_exists yX1_exists, Cond.code yX1_exists cX1_exists 2 (some .boolean), Cond.fieldLink RX1 15 "SenseNet$Net" "present" "I", Cond.static yX3_holds, Cond.initialized RX3, Cond.code yX3_holds cX3_holds 2 (some .boolean), Cond.methodLink RX3 154 yX3_bit, Cond.static yX3_bit, Cond.code yX3_bit cX3_bit 1 (some .int), Cond.methodLink RX1 85 yX1_noteSteps, Cond.instanceMethod yX1_noteSteps, Cond.selects RX1 yX1_noteSteps yX1_noteSteps, Cond.code yX1_noteSteps cX1_noteSteps 5 none, Cond.fieldLink RX1 34 "SenseNet$Net" "steps" "[I", Cond.static yX3_put]
def wsX1_settle_r2 : List Cond := [Cond.code yX3_put cX3_put 3 none, Cond.methodLink RX1 89 yX1_hasTop, Cond.instanceMethod yX1_hasTop, Cond.selects RX1 yX1_hasTop yX1_hasTop, Cond.code yX1_hasTop cX1_hasTop 3 (some .boolean), Cond.fieldLink RX1 18 "SenseNet$Net" "parentSets" "[I", Cond.static yX3_at, Cond.code yX3_at cX3_at 2 (some .int), Cond.methodLink RX1 92 yX1_parentsOfAll, Cond.instanceMethod yX1_parentsOfAll, Cond.selects RX1 yX1_parentsOfAll yX1_parentsOfAll, Cond.code yX1_parentsOfAll cX1_parentsOfAll 4 (some .int), Cond.methodLink RX1 74 yX1_weigh, Cond.instanceMethod yX1_weigh, Cond.selects RX1 yX1_weigh yX1_weigh, Cond.code yX1_weigh cX1_weigh 2 none, Cond.fieldLink RX1 28 "SenseNet$Net" "masses" "[I", Cond.methodLink RX1 95 yX1_coveredSet, Cond.instanceMethod yX1_coveredSet, Cond.selects RX1 yX1_coveredSet yX1_coveredSet, Cond.code yX1_coveredSet cX1_coveredSet 4 (some .int), Cond.methodLink RX1 98 yX1_countOfAll, Cond.instanceMethod yX1_countOfAll, Cond.selects RX1 yX1_countOfAll yX1_countOfAll]
def wsX1_settle_r3 : List Cond := [Cond.code yX1_countOfAll cX1_countOfAll 4 (some .int), Cond.fieldLink RX1 22 "SenseNet$Net" "counts" "[I"]
def wsX1_settle : List Cond := .code yX1_settle cX1_settle 2 none :: ((wsX1_settle_r1 ++ (wsX1_settle_r2 ++ wsX1_settle_r3)) ++ wsX10)
def wsX1_addOne_r1 : List Cond := [Cond.fieldLink RX1 9 "SenseNet$Net" "added" "I", Cond.fieldLink RX1 15 "SenseNet$Net" "present" "I", Cond.static yX3_bit, Cond.initialized RX3, Cond.code yX3_bit cX3_bit 1 (some .int), Cond.methodLink RX1 57 yX1_settle, Cond.instanceMethod yX1_settle, Cond.selects RX1 yX1_settle yX1_settle, Cond.initialized RX1, Cond.code yX1_settle cX1_settle 2 none, Cond.methodLink RX1 77 yX1_climb, Cond.instanceMethod yX1_climb, Cond.selects RX1 yX1_climb yX1_climb, Cond.code yX1_climb cX1_climb 6 none, Cond.fieldLink RX1 25 "SenseNet$Net" "coverSets" "[I", Cond.fieldLink RX1 31 "SenseNet$Net" "depths" "[I", Cond.methodLink RX1 81 yX1_exists, Cond.instanceMethod yX1_exists, Cond.selects RX1 yX1_exists yX1_exists, Cond.code yX1_exists cX1_exists 2 (some .boolean), Cond.static yX3_holds, Cond.code yX3_holds cX3_holds 2 (some .boolean), Cond.methodLink RX3 154 yX3_bit, Cond.methodLink RX1 85 yX1_noteSteps]
def wsX1_addOne_r2 : List Cond := [Cond.instanceMethod yX1_noteSteps, Cond.selects RX1 yX1_noteSteps yX1_noteSteps, Cond.code yX1_noteSteps cX1_noteSteps 5 none, Cond.fieldLink RX1 34 "SenseNet$Net" "steps" "[I", Cond.static yX3_put, Cond.code yX3_put cX3_put 3 none, Cond.methodLink RX1 89 yX1_hasTop, Cond.instanceMethod yX1_hasTop, Cond.selects RX1 yX1_hasTop yX1_hasTop, Cond.code yX1_hasTop cX1_hasTop 3 (some .boolean), Cond.fieldLink RX1 18 "SenseNet$Net" "parentSets" "[I", Cond.static yX3_at, Cond.code yX3_at cX3_at 2 (some .int), Cond.methodLink RX1 92 yX1_parentsOfAll, Cond.instanceMethod yX1_parentsOfAll, Cond.selects RX1 yX1_parentsOfAll yX1_parentsOfAll, Cond.code yX1_parentsOfAll cX1_parentsOfAll 4 (some .int), Cond.methodLink RX1 74 yX1_weigh, Cond.instanceMethod yX1_weigh, Cond.selects RX1 yX1_weigh yX1_weigh, Cond.code yX1_weigh cX1_weigh 2 none, Cond.fieldLink RX1 28 "SenseNet$Net" "masses" "[I", Cond.methodLink RX1 95 yX1_coveredSet, Cond.instanceMethod yX1_coveredSet]
def wsX1_addOne_r3 : List Cond := [Cond.selects RX1 yX1_coveredSet yX1_coveredSet, Cond.code yX1_coveredSet cX1_coveredSet 4 (some .int), Cond.methodLink RX1 98 yX1_countOfAll, Cond.instanceMethod yX1_countOfAll, Cond.selects RX1 yX1_countOfAll yX1_countOfAll, Cond.code yX1_countOfAll cX1_countOfAll 4 (some .int), Cond.fieldLink RX1 22 "SenseNet$Net" "counts" "[I"]
def wsX1_addOne : List Cond := .code yX1_addOne cX1_addOne 2 (some .int) :: ((wsX1_addOne_r1 ++ (wsX1_addOne_r2 ++ wsX1_addOne_r3)) ++ wsX10)
def wsX1_putBelow_r1 : List Cond := [Cond.fieldLink RX1 18 "SenseNet$Net" "parentSets" "[I", Cond.static yX3_at, Cond.initialized RX3, Cond.code yX3_at cX3_at 2 (some .int), Cond.static yX3_bit, Cond.code yX3_bit cX3_bit 1 (some .int), Cond.static yX3_put, Cond.code yX3_put cX3_put 3 none, Cond.methodLink RX1 57 yX1_settle, Cond.instanceMethod yX1_settle, Cond.selects RX1 yX1_settle yX1_settle, Cond.initialized RX1, Cond.code yX1_settle cX1_settle 2 none, Cond.methodLink RX1 77 yX1_climb, Cond.instanceMethod yX1_climb, Cond.selects RX1 yX1_climb yX1_climb, Cond.code yX1_climb cX1_climb 6 none, Cond.fieldLink RX1 25 "SenseNet$Net" "coverSets" "[I", Cond.fieldLink RX1 31 "SenseNet$Net" "depths" "[I", Cond.methodLink RX1 81 yX1_exists, Cond.instanceMethod yX1_exists, Cond.selects RX1 yX1_exists yX1_exists, Cond.code yX1_exists cX1_exists 2 (some .boolean), Cond.fieldLink RX1 15 "SenseNet$Net" "present" "I"]
def wsX1_putBelow_r2 : List Cond := [Cond.static yX3_holds, Cond.code yX3_holds cX3_holds 2 (some .boolean), Cond.methodLink RX3 154 yX3_bit, Cond.methodLink RX1 85 yX1_noteSteps, Cond.instanceMethod yX1_noteSteps, Cond.selects RX1 yX1_noteSteps yX1_noteSteps, Cond.code yX1_noteSteps cX1_noteSteps 5 none, Cond.fieldLink RX1 34 "SenseNet$Net" "steps" "[I", Cond.methodLink RX1 89 yX1_hasTop, Cond.instanceMethod yX1_hasTop, Cond.selects RX1 yX1_hasTop yX1_hasTop, Cond.code yX1_hasTop cX1_hasTop 3 (some .boolean), Cond.methodLink RX1 92 yX1_parentsOfAll, Cond.instanceMethod yX1_parentsOfAll, Cond.selects RX1 yX1_parentsOfAll yX1_parentsOfAll, Cond.code yX1_parentsOfAll cX1_parentsOfAll 4 (some .int), Cond.methodLink RX1 74 yX1_weigh, Cond.instanceMethod yX1_weigh, Cond.selects RX1 yX1_weigh yX1_weigh, Cond.code yX1_weigh cX1_weigh 2 none, Cond.fieldLink RX1 28 "SenseNet$Net" "masses" "[I", Cond.methodLink RX1 95 yX1_coveredSet, Cond.instanceMethod yX1_coveredSet, Cond.selects RX1 yX1_coveredSet yX1_coveredSet]
def wsX1_putBelow_r3 : List Cond := [Cond.code yX1_coveredSet cX1_coveredSet 4 (some .int), Cond.methodLink RX1 98 yX1_countOfAll, Cond.instanceMethod yX1_countOfAll, Cond.selects RX1 yX1_countOfAll yX1_countOfAll, Cond.code yX1_countOfAll cX1_countOfAll 4 (some .int), Cond.fieldLink RX1 22 "SenseNet$Net" "counts" "[I", Cond.methodLink RX1 64 yX1_parentCount, Cond.instanceMethod yX1_parentCount, Cond.selects RX1 yX1_parentCount yX1_parentCount, Cond.code yX1_parentCount cX1_parentCount 2 (some .int), Cond.methodLink RX1 48 yJ6_bitCount_0f7a4, Cond.static yJ6_bitCount_0f7a4, Cond.initialized RJ6, Cond.code yJ6_bitCount_0f7a4 cJ6_bitCount_0f7a4 1 (some .int), Cond.constant RJ6 265 (1431655765), Cond.constant RJ6 266 (858993459), Cond.constant RJ6 267 (252645135)]
def wsX1_putBelow : List Cond := .code yX1_putBelow cX1_putBelow 3 (some .int) :: ((wsX1_putBelow_r1 ++ (wsX1_putBelow_r2 ++ wsX1_putBelow_r3)) ++ wsX10)
def wsX1_cut_r1 : List Cond := [Cond.fieldLink RX1 18 "SenseNet$Net" "parentSets" "[I", Cond.static yX3_at, Cond.initialized RX3, Cond.code yX3_at cX3_at 2 (some .int), Cond.static yX3_bit, Cond.code yX3_bit cX3_bit 1 (some .int), Cond.static yX3_put, Cond.code yX3_put cX3_put 3 none, Cond.methodLink RX1 57 yX1_settle, Cond.instanceMethod yX1_settle, Cond.selects RX1 yX1_settle yX1_settle, Cond.initialized RX1, Cond.code yX1_settle cX1_settle 2 none, Cond.methodLink RX1 77 yX1_climb, Cond.instanceMethod yX1_climb, Cond.selects RX1 yX1_climb yX1_climb, Cond.code yX1_climb cX1_climb 6 none, Cond.fieldLink RX1 25 "SenseNet$Net" "coverSets" "[I", Cond.fieldLink RX1 31 "SenseNet$Net" "depths" "[I", Cond.methodLink RX1 81 yX1_exists, Cond.instanceMethod yX1_exists, Cond.selects RX1 yX1_exists yX1_exists, Cond.code yX1_exists cX1_exists 2 (some .boolean), Cond.fieldLink RX1 15 "SenseNet$Net" "present" "I"]
def wsX1_cut_r2 : List Cond := [Cond.static yX3_holds, Cond.code yX3_holds cX3_holds 2 (some .boolean), Cond.methodLink RX3 154 yX3_bit, Cond.methodLink RX1 85 yX1_noteSteps, Cond.instanceMethod yX1_noteSteps, Cond.selects RX1 yX1_noteSteps yX1_noteSteps, Cond.code yX1_noteSteps cX1_noteSteps 5 none, Cond.fieldLink RX1 34 "SenseNet$Net" "steps" "[I", Cond.methodLink RX1 89 yX1_hasTop, Cond.instanceMethod yX1_hasTop, Cond.selects RX1 yX1_hasTop yX1_hasTop, Cond.code yX1_hasTop cX1_hasTop 3 (some .boolean), Cond.methodLink RX1 92 yX1_parentsOfAll, Cond.instanceMethod yX1_parentsOfAll, Cond.selects RX1 yX1_parentsOfAll yX1_parentsOfAll, Cond.code yX1_parentsOfAll cX1_parentsOfAll 4 (some .int), Cond.methodLink RX1 74 yX1_weigh, Cond.instanceMethod yX1_weigh, Cond.selects RX1 yX1_weigh yX1_weigh, Cond.code yX1_weigh cX1_weigh 2 none, Cond.fieldLink RX1 28 "SenseNet$Net" "masses" "[I", Cond.methodLink RX1 95 yX1_coveredSet, Cond.instanceMethod yX1_coveredSet, Cond.selects RX1 yX1_coveredSet yX1_coveredSet]
def wsX1_cut_r3 : List Cond := [Cond.code yX1_coveredSet cX1_coveredSet 4 (some .int), Cond.methodLink RX1 98 yX1_countOfAll, Cond.instanceMethod yX1_countOfAll, Cond.selects RX1 yX1_countOfAll yX1_countOfAll, Cond.code yX1_countOfAll cX1_countOfAll 4 (some .int), Cond.fieldLink RX1 22 "SenseNet$Net" "counts" "[I", Cond.methodLink RX1 64 yX1_parentCount, Cond.instanceMethod yX1_parentCount, Cond.selects RX1 yX1_parentCount yX1_parentCount, Cond.code yX1_parentCount cX1_parentCount 2 (some .int), Cond.methodLink RX1 48 yJ6_bitCount_0f7a4, Cond.static yJ6_bitCount_0f7a4, Cond.initialized RJ6, Cond.code yJ6_bitCount_0f7a4 cJ6_bitCount_0f7a4 1 (some .int), Cond.constant RJ6 265 (1431655765), Cond.constant RJ6 266 (858993459), Cond.constant RJ6 267 (252645135)]
def wsX1_cut : List Cond := .code yX1_cut cX1_cut 3 (some .int) :: ((wsX1_cut_r1 ++ (wsX1_cut_r2 ++ wsX1_cut_r3)) ++ wsX10)
def wsX1_parentsWithout : List Cond := .code yX1_parentsWithout cX1_parentsWithout 3 (some .int) :: ([.fieldLink RX1 18 "SenseNet$Net" "parentSets" "[I", .static yX3_at, .initialized RX3, .code yX3_at cX3_at 2 (some .int), .static yX3_bit, .code yX3_bit cX3_bit 1 (some .int)] ++ wsX10)
def wsX1_canLose_r1 : List Cond := [Cond.methodLink RX1 67 yX1_isParent, Cond.instanceMethod yX1_isParent, Cond.selects RX1 yX1_isParent yX1_isParent, Cond.initialized RX1, Cond.code yX1_isParent cX1_isParent 3 (some .boolean), Cond.fieldLink RX1 18 "SenseNet$Net" "parentSets" "[I", Cond.static yX3_at, Cond.initialized RX3, Cond.code yX3_at cX3_at 2 (some .int), Cond.static yX3_holds, Cond.code yX3_holds cX3_holds 2 (some .boolean), Cond.methodLink RX3 154 yX3_bit, Cond.static yX3_bit, Cond.code yX3_bit cX3_bit 1 (some .int), Cond.methodLink RX1 70 yX1_parentsWithout, Cond.instanceMethod yX1_parentsWithout, Cond.selects RX1 yX1_parentsWithout yX1_parentsWithout, Cond.code yX1_parentsWithout cX1_parentsWithout 3 (some .int), Cond.methodLink RX1 48 yJ6_bitCount_0f7a4, Cond.static yJ6_bitCount_0f7a4, Cond.initialized RJ6, Cond.code yJ6_bitCount_0f7a4 cJ6_bitCount_0f7a4 1 (some .int), Cond.constant RJ6 265 (1431655765), Cond.constant RJ6 266 (858993459)]
def wsX1_canLose_r2 : List Cond := [Cond.constant RJ6 267 (252645135)]
def wsX1_canLose : List Cond := .code yX1_canLose cX1_canLose 3 (some .boolean) :: ((wsX1_canLose_r1 ++ wsX1_canLose_r2) ++ wsX10)
def wsX1_lose_r1 : List Cond := [Cond.fieldLink RX1 18 "SenseNet$Net" "parentSets" "[I", Cond.fieldLink RX1 22 "SenseNet$Net" "counts" "[I", Cond.fieldLink RX1 15 "SenseNet$Net" "present" "I", Cond.methodLink RX1 67 yX1_isParent, Cond.instanceMethod yX1_isParent, Cond.selects RX1 yX1_isParent yX1_isParent, Cond.initialized RX1, Cond.code yX1_isParent cX1_isParent 3 (some .boolean), Cond.static yX3_at, Cond.initialized RX3, Cond.code yX3_at cX3_at 2 (some .int), Cond.static yX3_holds, Cond.code yX3_holds cX3_holds 2 (some .boolean), Cond.methodLink RX3 154 yX3_bit, Cond.static yX3_bit, Cond.code yX3_bit cX3_bit 1 (some .int), Cond.methodLink RX1 70 yX1_parentsWithout, Cond.instanceMethod yX1_parentsWithout, Cond.selects RX1 yX1_parentsWithout yX1_parentsWithout, Cond.code yX1_parentsWithout cX1_parentsWithout 3 (some .int), Cond.static yX3_put, Cond.code yX3_put cX3_put 3 none, Cond.methodLink RX1 57 yX1_settle, Cond.instanceMethod yX1_settle]
def wsX1_lose_r2 : List Cond := [Cond.selects RX1 yX1_settle yX1_settle, Cond.code yX1_settle cX1_settle 2 none, Cond.methodLink RX1 77 yX1_climb, Cond.instanceMethod yX1_climb, Cond.selects RX1 yX1_climb yX1_climb, Cond.code yX1_climb cX1_climb 6 none, Cond.fieldLink RX1 25 "SenseNet$Net" "coverSets" "[I", Cond.fieldLink RX1 31 "SenseNet$Net" "depths" "[I", Cond.methodLink RX1 81 yX1_exists, Cond.instanceMethod yX1_exists, Cond.selects RX1 yX1_exists yX1_exists, Cond.code yX1_exists cX1_exists 2 (some .boolean), Cond.methodLink RX1 85 yX1_noteSteps, Cond.instanceMethod yX1_noteSteps, Cond.selects RX1 yX1_noteSteps yX1_noteSteps, Cond.code yX1_noteSteps cX1_noteSteps 5 none, Cond.fieldLink RX1 34 "SenseNet$Net" "steps" "[I", Cond.methodLink RX1 89 yX1_hasTop, Cond.instanceMethod yX1_hasTop, Cond.selects RX1 yX1_hasTop yX1_hasTop, Cond.code yX1_hasTop cX1_hasTop 3 (some .boolean), Cond.methodLink RX1 92 yX1_parentsOfAll, Cond.instanceMethod yX1_parentsOfAll, Cond.selects RX1 yX1_parentsOfAll yX1_parentsOfAll]
def wsX1_lose_r3 : List Cond := [Cond.code yX1_parentsOfAll cX1_parentsOfAll 4 (some .int), Cond.methodLink RX1 74 yX1_weigh, Cond.instanceMethod yX1_weigh, Cond.selects RX1 yX1_weigh yX1_weigh, Cond.code yX1_weigh cX1_weigh 2 none, Cond.fieldLink RX1 28 "SenseNet$Net" "masses" "[I", Cond.methodLink RX1 95 yX1_coveredSet, Cond.instanceMethod yX1_coveredSet, Cond.selects RX1 yX1_coveredSet yX1_coveredSet, Cond.code yX1_coveredSet cX1_coveredSet 4 (some .int), Cond.methodLink RX1 98 yX1_countOfAll, Cond.instanceMethod yX1_countOfAll, Cond.selects RX1 yX1_countOfAll yX1_countOfAll, Cond.code yX1_countOfAll cX1_countOfAll 4 (some .int)]
def wsX1_lose : List Cond := .code yX1_lose cX1_lose 4 (some .int) :: ((wsX1_lose_r1 ++ (wsX1_lose_r2 ++ wsX1_lose_r3)) ++ wsX10)
def wsX1_recount_r1 : List Cond := [Cond.fieldLink RX1 22 "SenseNet$Net" "counts" "[I", Cond.static yX3_at, Cond.initialized RX3, Cond.code yX3_at cX3_at 2 (some .int), Cond.static yX3_put, Cond.code yX3_put cX3_put 3 none, Cond.methodLink RX1 74 yX1_weigh, Cond.instanceMethod yX1_weigh, Cond.selects RX1 yX1_weigh yX1_weigh, Cond.initialized RX1, Cond.code yX1_weigh cX1_weigh 2 none, Cond.fieldLink RX1 28 "SenseNet$Net" "masses" "[I", Cond.methodLink RX1 95 yX1_coveredSet, Cond.instanceMethod yX1_coveredSet, Cond.selects RX1 yX1_coveredSet yX1_coveredSet, Cond.code yX1_coveredSet cX1_coveredSet 4 (some .int), Cond.fieldLink RX1 25 "SenseNet$Net" "coverSets" "[I", Cond.static yX3_holds, Cond.code yX3_holds cX3_holds 2 (some .boolean), Cond.methodLink RX3 154 yX3_bit, Cond.static yX3_bit, Cond.code yX3_bit cX3_bit 1 (some .int), Cond.methodLink RX1 98 yX1_countOfAll, Cond.instanceMethod yX1_countOfAll]
def wsX1_recount_r2 : List Cond := [Cond.selects RX1 yX1_countOfAll yX1_countOfAll, Cond.code yX1_countOfAll cX1_countOfAll 4 (some .int)]
def wsX1_recount : List Cond := .code yX1_recount cX1_recount 4 (some .int) :: ((wsX1_recount_r1 ++ wsX1_recount_r2) ++ wsX10)
def wsX1_carryUp : List Cond := .code yX1_carryUp cX1_carryUp 7 none :: ([.fieldLink RX1 22 "SenseNet$Net" "counts" "[I", .fieldLink RX1 37 "SenseNet$Net" "walked" "[I", .static yX3_at, .initialized RX3, .code yX3_at cX3_at 2 (some .int), .static yX3_bit, .code yX3_bit cX3_bit 1 (some .int), .static yX3_holds, .code yX3_holds cX3_holds 2 (some .boolean), .methodLink RX3 154 yX3_bit, .static yX3_put, .code yX3_put cX3_put 3 none, .methodLink RX1 92 yX1_parentsOfAll, .instanceMethod yX1_parentsOfAll, .selects RX1 yX1_parentsOfAll yX1_parentsOfAll, .initialized RX1, .code yX1_parentsOfAll cX1_parentsOfAll 4 (some .int), .fieldLink RX1 18 "SenseNet$Net" "parentSets" "[I"] ++ wsX10)
def wsX1_walkedCount_r1 : List Cond := [Cond.fieldLink RX1 37 "SenseNet$Net" "walked" "[I", Cond.static yX3_put, Cond.initialized RX3, Cond.code yX3_put cX3_put 3 none, Cond.methodLink RX1 81 yX1_exists, Cond.instanceMethod yX1_exists, Cond.selects RX1 yX1_exists yX1_exists, Cond.initialized RX1, Cond.code yX1_exists cX1_exists 2 (some .boolean), Cond.fieldLink RX1 15 "SenseNet$Net" "present" "I", Cond.static yX3_holds, Cond.code yX3_holds cX3_holds 2 (some .boolean), Cond.methodLink RX3 154 yX3_bit, Cond.static yX3_bit, Cond.code yX3_bit cX3_bit 1 (some .int), Cond.methodLink RX1 101 yX1_carryUp, Cond.instanceMethod yX1_carryUp, Cond.selects RX1 yX1_carryUp yX1_carryUp, Cond.code yX1_carryUp cX1_carryUp 7 none, Cond.fieldLink RX1 22 "SenseNet$Net" "counts" "[I", Cond.static yX3_at, Cond.code yX3_at cX3_at 2 (some .int), Cond.methodLink RX1 92 yX1_parentsOfAll, Cond.instanceMethod yX1_parentsOfAll]
def wsX1_walkedCount_r2 : List Cond := [Cond.selects RX1 yX1_parentsOfAll yX1_parentsOfAll, Cond.code yX1_parentsOfAll cX1_parentsOfAll 4 (some .int), Cond.fieldLink RX1 18 "SenseNet$Net" "parentSets" "[I"]
def wsX1_walkedCount : List Cond := .code yX1_walkedCount cX1_walkedCount 3 (some .int) :: ((wsX1_walkedCount_r1 ++ wsX1_walkedCount_r2) ++ wsX10)
def wsX2_init : List Cond := .code yX2_init cX2_init 1 none :: ([.methodLink RX2 3 objectInit, .instanceMethod objectInit, .code objectInit ⟨#[0xb1]⟩ 1 none, .fieldLink RX2 9 "SenseNet$Words" "known" "I", .fieldLink RX2 15 "SenseNet$Words" "places" "I", .arrayClass .int, .fieldLink RX2 18 "SenseNet$Words" "given" "[I", .fieldLink RX2 22 "SenseNet$Words" "sizes" "[I", .fieldLink RX2 25 "SenseNet$Words" "locks" "[I", .fieldLink RX2 28 "SenseNet$Words" "sentence" "[I"] ++ wsX20)
def wsX2_exists : List Cond := .code yX2_exists cX2_exists 2 (some .boolean) :: ([.fieldLink RX2 9 "SenseNet$Words" "known" "I"] ++ wsX20)
def wsX2_size : List Cond := .code yX2_size cX2_size 2 (some .int) :: ([.fieldLink RX2 22 "SenseNet$Words" "sizes" "[I", .static yX3_at, .initialized RX3, .code yX3_at cX3_at 2 (some .int)] ++ wsX20)
def wsX2_rankOf : List Cond := .code yX2_rankOf cX2_rankOf 5 (some .int) :: ([.fieldLink RX2 22 "SenseNet$Words" "sizes" "[I", .fieldLink RX2 18 "SenseNet$Words" "given" "[I", .static yX3_at, .initialized RX3, .code yX3_at cX3_at 2 (some .int)] ++ wsX20)
def wsX2_has : List Cond := .code yX2_has cX2_has 3 (some .boolean) :: ([.methodLink RX2 35 yX2_rankOf, .instanceMethod yX2_rankOf, .selects RX2 yX2_rankOf yX2_rankOf, .initialized RX2, .code yX2_rankOf cX2_rankOf 5 (some .int), .fieldLink RX2 22 "SenseNet$Words" "sizes" "[I", .fieldLink RX2 18 "SenseNet$Words" "given" "[I", .static yX3_at, .initialized RX3, .code yX3_at cX3_at 2 (some .int)] ++ wsX20)
def wsX2_anyHas : List Cond := .code yX2_anyHas cX2_anyHas 3 (some .boolean) :: ([.fieldLink RX2 9 "SenseNet$Words" "known" "I", .methodLink RX2 39 yX2_has, .instanceMethod yX2_has, .selects RX2 yX2_has yX2_has, .initialized RX2, .code yX2_has cX2_has 3 (some .boolean), .methodLink RX2 35 yX2_rankOf, .instanceMethod yX2_rankOf, .selects RX2 yX2_rankOf yX2_rankOf, .code yX2_rankOf cX2_rankOf 5 (some .int), .fieldLink RX2 22 "SenseNet$Words" "sizes" "[I", .fieldLink RX2 18 "SenseNet$Words" "given" "[I", .static yX3_at, .initialized RX3, .code yX3_at cX3_at 2 (some .int)] ++ wsX20)
def wsX2_isSaid : List Cond := .code yX2_isSaid cX2_isSaid 3 (some .boolean) :: ([.fieldLink RX2 15 "SenseNet$Words" "places" "I", .fieldLink RX2 28 "SenseNet$Words" "sentence" "[I", .static yX3_at, .initialized RX3, .code yX3_at cX3_at 2 (some .int)] ++ wsX20)
def wsX2_addOne : List Cond := .code yX2_addOne cX2_addOne 2 (some .int) :: ([.fieldLink RX2 9 "SenseNet$Words" "known" "I", .fieldLink RX2 22 "SenseNet$Words" "sizes" "[I", .fieldLink RX2 25 "SenseNet$Words" "locks" "[I", .static yX3_put, .initialized RX3, .code yX3_put cX3_put 3 none] ++ wsX20)
def wsX2_append : List Cond := .code yX2_append cX2_append 4 (some .int) :: ([.fieldLink RX2 22 "SenseNet$Words" "sizes" "[I", .fieldLink RX2 18 "SenseNet$Words" "given" "[I", .static yX3_at, .initialized RX3, .code yX3_at cX3_at 2 (some .int), .static yX3_put, .code yX3_put cX3_put 3 none] ++ wsX20)
def wsX2_drop : List Cond := .code yX2_drop cX2_drop 6 (some .int) :: ([.fieldLink RX2 22 "SenseNet$Words" "sizes" "[I", .fieldLink RX2 18 "SenseNet$Words" "given" "[I", .fieldLink RX2 25 "SenseNet$Words" "locks" "[I", .static yX3_at, .initialized RX3, .code yX3_at cX3_at 2 (some .int), .methodLink RX2 35 yX2_rankOf, .instanceMethod yX2_rankOf, .selects RX2 yX2_rankOf yX2_rankOf, .initialized RX2, .code yX2_rankOf cX2_rankOf 5 (some .int), .static yX3_put, .code yX3_put cX3_put 3 none] ++ wsX20)
def wsX2_relock : List Cond := .code yX2_relock cX2_relock 4 (some .int) :: ([.fieldLink RX2 25 "SenseNet$Words" "locks" "[I", .static yX3_at, .initialized RX3, .code yX3_at cX3_at 2 (some .int), .static yX3_put, .code yX3_put cX3_put 3 none] ++ wsX20)
def wsX2_putBehind : List Cond := .code yX2_putBehind cX2_putBehind 2 (some .int) :: ([.fieldLink RX2 28 "SenseNet$Words" "sentence" "[I", .fieldLink RX2 15 "SenseNet$Words" "places" "I", .static yX3_put, .initialized RX3, .code yX3_put cX3_put 3 none] ++ wsX20)
def wsX2_emptySentence : List Cond := .code yX2_emptySentence cX2_emptySentence 2 (some .int) :: ([.fieldLink RX2 15 "SenseNet$Words" "places" "I"] ++ wsX20)
def wsX3_init_r1 : List Cond := [Cond.methodLink RX3 3 objectInit, Cond.instanceMethod objectInit, Cond.code objectInit ⟨#[0xb1]⟩ 1 none, Cond.classLink RX3 9 RX1, Cond.instantiable RX1 9, Cond.initialized RX1, Cond.fieldLink RX3 12 "SenseNet" "net" "LSenseNet$Net;", Cond.classLink RX3 16 RX2, Cond.instantiable RX2 6, Cond.initialized RX2, Cond.fieldLink RX3 19 "SenseNet" "words" "LSenseNet$Words;", Cond.classLink RX3 23 RX0, Cond.instantiable RX0 8, Cond.initialized RX0, Cond.fieldLink RX3 26 "SenseNet" "chooser" "LSenseNet$Chooser;", Cond.methodLink RX3 11 yX1_init, Cond.instanceMethod yX1_init, Cond.code yX1_init cX1_init 1 none, Cond.methodLink RX1 3 objectInit, Cond.fieldLink RX1 9 "SenseNet$Net" "added" "I", Cond.fieldLink RX1 15 "SenseNet$Net" "present" "I", Cond.arrayClass .int, Cond.fieldLink RX1 18 "SenseNet$Net" "parentSets" "[I", Cond.fieldLink RX1 22 "SenseNet$Net" "counts" "[I"]
def wsX3_init_r2 : List Cond := [Cond.fieldLink RX1 25 "SenseNet$Net" "coverSets" "[I", Cond.fieldLink RX1 28 "SenseNet$Net" "masses" "[I", Cond.fieldLink RX1 31 "SenseNet$Net" "depths" "[I", Cond.fieldLink RX1 34 "SenseNet$Net" "steps" "[I", Cond.fieldLink RX1 37 "SenseNet$Net" "walked" "[I", Cond.methodLink RX3 18 yX2_init, Cond.instanceMethod yX2_init, Cond.code yX2_init cX2_init 1 none, Cond.methodLink RX2 3 objectInit, Cond.fieldLink RX2 9 "SenseNet$Words" "known" "I", Cond.fieldLink RX2 15 "SenseNet$Words" "places" "I", Cond.fieldLink RX2 18 "SenseNet$Words" "given" "[I", Cond.fieldLink RX2 22 "SenseNet$Words" "sizes" "[I", Cond.fieldLink RX2 25 "SenseNet$Words" "locks" "[I", Cond.fieldLink RX2 28 "SenseNet$Words" "sentence" "[I", Cond.methodLink RX3 25 yX0_init, Cond.instanceMethod yX0_init, Cond.code yX0_init cX0_init 1 none, Cond.methodLink RX0 3 objectInit, Cond.fieldLink RX0 9 "SenseNet$Chooser" "places" "I", Cond.fieldLink RX0 15 "SenseNet$Chooser" "best" "I", Cond.fieldLink RX0 18 "SenseNet$Chooser" "sizes" "[I", Cond.fieldLink RX0 22 "SenseNet$Chooser" "options" "[I", Cond.fieldLink RX0 25 "SenseNet$Chooser" "alike" "[I"]
def wsX3_init_r3 : List Cond := [Cond.fieldLink RX0 28 "SenseNet$Chooser" "hopes" "[I", Cond.fieldLink RX0 31 "SenseNet$Chooser" "picks" "[I", Cond.fieldLink RX0 34 "SenseNet$Chooser" "bestPicks" "[I"]
def wsX3_init : List Cond := .code yX3_init cX3_init 1 none :: ((wsX3_init_r1 ++ (wsX3_init_r2 ++ wsX3_init_r3)) ++ wsX10 ++ wsX30 ++ wsX20 ++ wsX00)
def wsX3_addSense_r1 : List Cond := [Cond.classLink RX3 34 "java/lang/IllegalStateException", Cond.initialized "java/lang/IllegalStateException", Cond.fieldLink RX3 12 "SenseNet" "net" "LSenseNet$Net;", Cond.fieldLink RX3 30 "SenseNet$Net" "added" "I", Cond.methodLink RX3 41 yX1_addOne, Cond.instanceMethod yX1_addOne, Cond.selects RX1 yX1_addOne yX1_addOne, Cond.initialized RX1, Cond.code yX1_addOne cX1_addOne 2 (some .int), Cond.fieldLink RX1 9 "SenseNet$Net" "added" "I", Cond.fieldLink RX1 15 "SenseNet$Net" "present" "I", Cond.static yX3_bit, Cond.initialized RX3, Cond.code yX3_bit cX3_bit 1 (some .int), Cond.methodLink RX1 57 yX1_settle, Cond.instanceMethod yX1_settle, Cond.selects RX1 yX1_settle yX1_settle, Cond.code yX1_settle cX1_settle 2 none, Cond.methodLink RX1 77 yX1_climb, Cond.instanceMethod yX1_climb, Cond.selects RX1 yX1_climb yX1_climb, Cond.code yX1_climb cX1_climb 6 none, Cond.fieldLink RX1 25 "SenseNet$Net" "coverSets" "[I", Cond.fieldLink RX1 31 "SenseNet$Net" "depths" "[I"]
def wsX3_addSense_r2 : List Cond := [Cond.methodLink RX1 81 yX1_exists, Cond.instanceMethod yX1_exists, Cond.selects RX1 yX1_exists yX1_exists, Cond.code yX1_exists cX1_exists 2 (some .boolean), Cond.static yX3_holds, Cond.code yX3_holds cX3_holds 2 (some .boolean), Cond.methodLink RX3 154 yX3_bit, Cond.methodLink RX1 85 yX1_noteSteps, Cond.instanceMethod yX1_noteSteps, Cond.selects RX1 yX1_noteSteps yX1_noteSteps, Cond.code yX1_noteSteps cX1_noteSteps 5 none, Cond.fieldLink RX1 34 "SenseNet$Net" "steps" "[I", Cond.static yX3_put, Cond.code yX3_put cX3_put 3 none, Cond.methodLink RX1 89 yX1_hasTop, Cond.instanceMethod yX1_hasTop, Cond.selects RX1 yX1_hasTop yX1_hasTop, Cond.code yX1_hasTop cX1_hasTop 3 (some .boolean), Cond.fieldLink RX1 18 "SenseNet$Net" "parentSets" "[I", Cond.static yX3_at, Cond.code yX3_at cX3_at 2 (some .int), Cond.methodLink RX1 92 yX1_parentsOfAll, Cond.instanceMethod yX1_parentsOfAll, Cond.selects RX1 yX1_parentsOfAll yX1_parentsOfAll]
def wsX3_addSense_r3 : List Cond := [Cond.code yX1_parentsOfAll cX1_parentsOfAll 4 (some .int), Cond.methodLink RX1 74 yX1_weigh, Cond.instanceMethod yX1_weigh, Cond.selects RX1 yX1_weigh yX1_weigh, Cond.code yX1_weigh cX1_weigh 2 none, Cond.fieldLink RX1 28 "SenseNet$Net" "masses" "[I", Cond.methodLink RX1 95 yX1_coveredSet, Cond.instanceMethod yX1_coveredSet, Cond.selects RX1 yX1_coveredSet yX1_coveredSet, Cond.code yX1_coveredSet cX1_coveredSet 4 (some .int), Cond.methodLink RX1 98 yX1_countOfAll, Cond.instanceMethod yX1_countOfAll, Cond.selects RX1 yX1_countOfAll yX1_countOfAll, Cond.code yX1_countOfAll cX1_countOfAll 4 (some .int), Cond.fieldLink RX1 22 "SenseNet$Net" "counts" "[I"]
def wsX3_addSense : List Cond := .code yX3_addSense cX3_addSense 1 (some .int) :: ((wsX3_addSense_r1 ++ (wsX3_addSense_r2 ++ wsX3_addSense_r3)) ++ wsX30 ++ wsX10 ++ (vx_atS RX3 38 "java/lang/IllegalStateException" ["java/lang/RuntimeException", "java/lang/Exception"]).filter goodWord)
def wsX3_needSense : List Cond := .code yX3_needSense cX3_needSense 2 none :: ([.classLink RX3 198 "java/lang/IndexOutOfBoundsException", .initialized "java/lang/IndexOutOfBoundsException", .fieldLink RX3 12 "SenseNet" "net" "LSenseNet$Net;", .methodLink RX3 206 yX1_exists, .instanceMethod yX1_exists, .selects RX1 yX1_exists yX1_exists, .initialized RX1, .code yX1_exists cX1_exists 2 (some .boolean), .fieldLink RX1 15 "SenseNet$Net" "present" "I", .static yX3_holds, .initialized RX3, .code yX3_holds cX3_holds 2 (some .boolean), .methodLink RX3 154 yX3_bit, .static yX3_bit, .code yX3_bit cX3_bit 1 (some .int)] ++ wsX30 ++ wsX10 ++ (vx_atS RX3 202 "java/lang/IndexOutOfBoundsException" ["java/lang/RuntimeException", "java/lang/Exception"]).filter goodWord)
def wsX3_link_r1 : List Cond := [Cond.classLink RX3 34 "java/lang/IllegalStateException", Cond.initialized "java/lang/IllegalStateException", Cond.fieldLink RX3 12 "SenseNet" "net" "LSenseNet$Net;", Cond.methodLink RX3 45 yX3_needSense, Cond.instanceMethod yX3_needSense, Cond.selects RX3 yX3_needSense yX3_needSense, Cond.initialized RX3, Cond.code yX3_needSense cX3_needSense 2 none, Cond.classLink RX3 198 "java/lang/IndexOutOfBoundsException", Cond.initialized "java/lang/IndexOutOfBoundsException", Cond.methodLink RX3 206 yX1_exists, Cond.instanceMethod yX1_exists, Cond.selects RX1 yX1_exists yX1_exists, Cond.initialized RX1, Cond.code yX1_exists cX1_exists 2 (some .boolean), Cond.fieldLink RX1 15 "SenseNet$Net" "present" "I", Cond.static yX3_holds, Cond.code yX3_holds cX3_holds 2 (some .boolean), Cond.methodLink RX3 154 yX3_bit, Cond.static yX3_bit, Cond.code yX3_bit cX3_bit 1 (some .int), Cond.methodLink RX3 49 yX1_isParent, Cond.instanceMethod yX1_isParent, Cond.selects RX1 yX1_isParent yX1_isParent]
def wsX3_link_r2 : List Cond := [Cond.code yX1_isParent cX1_isParent 3 (some .boolean), Cond.fieldLink RX1 18 "SenseNet$Net" "parentSets" "[I", Cond.static yX3_at, Cond.code yX3_at cX3_at 2 (some .int), Cond.methodLink RX3 55 yX1_parentCount, Cond.instanceMethod yX1_parentCount, Cond.selects RX1 yX1_parentCount yX1_parentCount, Cond.code yX1_parentCount cX1_parentCount 2 (some .int), Cond.methodLink RX1 48 yJ6_bitCount_0f7a4, Cond.static yJ6_bitCount_0f7a4, Cond.initialized RJ6, Cond.code yJ6_bitCount_0f7a4 cJ6_bitCount_0f7a4 1 (some .int), Cond.constant RJ6 265 (1431655765), Cond.constant RJ6 266 (858993459), Cond.constant RJ6 267 (252645135), Cond.methodLink RX3 61 yX1_covers, Cond.instanceMethod yX1_covers, Cond.selects RX1 yX1_covers yX1_covers, Cond.code yX1_covers cX1_covers 3 (some .boolean), Cond.fieldLink RX1 25 "SenseNet$Net" "coverSets" "[I", Cond.methodLink RX3 66 yX1_putBelow, Cond.instanceMethod yX1_putBelow, Cond.selects RX1 yX1_putBelow yX1_putBelow, Cond.code yX1_putBelow cX1_putBelow 3 (some .int)]
def wsX3_link_r3 : List Cond := [Cond.static yX3_put, Cond.code yX3_put cX3_put 3 none, Cond.methodLink RX1 57 yX1_settle, Cond.instanceMethod yX1_settle, Cond.selects RX1 yX1_settle yX1_settle, Cond.code yX1_settle cX1_settle 2 none, Cond.methodLink RX1 77 yX1_climb, Cond.instanceMethod yX1_climb, Cond.selects RX1 yX1_climb yX1_climb, Cond.code yX1_climb cX1_climb 6 none, Cond.fieldLink RX1 31 "SenseNet$Net" "depths" "[I", Cond.methodLink RX1 81 yX1_exists, Cond.methodLink RX1 85 yX1_noteSteps, Cond.instanceMethod yX1_noteSteps, Cond.selects RX1 yX1_noteSteps yX1_noteSteps, Cond.code yX1_noteSteps cX1_noteSteps 5 none, Cond.fieldLink RX1 34 "SenseNet$Net" "steps" "[I", Cond.methodLink RX1 89 yX1_hasTop, Cond.instanceMethod yX1_hasTop, Cond.selects RX1 yX1_hasTop yX1_hasTop, Cond.code yX1_hasTop cX1_hasTop 3 (some .boolean), Cond.methodLink RX1 92 yX1_parentsOfAll, Cond.instanceMethod yX1_parentsOfAll, Cond.selects RX1 yX1_parentsOfAll yX1_parentsOfAll]
def wsX3_link_r4 : List Cond := [Cond.code yX1_parentsOfAll cX1_parentsOfAll 4 (some .int), Cond.methodLink RX1 74 yX1_weigh, Cond.instanceMethod yX1_weigh, Cond.selects RX1 yX1_weigh yX1_weigh, Cond.code yX1_weigh cX1_weigh 2 none, Cond.fieldLink RX1 28 "SenseNet$Net" "masses" "[I", Cond.methodLink RX1 95 yX1_coveredSet, Cond.instanceMethod yX1_coveredSet, Cond.selects RX1 yX1_coveredSet yX1_coveredSet, Cond.code yX1_coveredSet cX1_coveredSet 4 (some .int), Cond.methodLink RX1 98 yX1_countOfAll, Cond.instanceMethod yX1_countOfAll, Cond.selects RX1 yX1_countOfAll yX1_countOfAll, Cond.code yX1_countOfAll cX1_countOfAll 4 (some .int), Cond.fieldLink RX1 22 "SenseNet$Net" "counts" "[I", Cond.methodLink RX1 64 yX1_parentCount]
def wsX3_link : List Cond := .code yX3_link cX3_link 3 (some .int) :: ((wsX3_link_r1 ++ (wsX3_link_r2 ++ (wsX3_link_r3 ++ wsX3_link_r4))) ++ wsX30 ++ wsX10 ++ (vx_atS RX3 38 "java/lang/IllegalStateException" ["java/lang/RuntimeException", "java/lang/Exception"]).filter goodWord ++ (vx_atS RX3 202 "java/lang/IndexOutOfBoundsException" ["java/lang/RuntimeException", "java/lang/Exception"]).filter goodWord)
def wsX3_unlink_r1 : List Cond := [Cond.classLink RX3 34 "java/lang/IllegalStateException", Cond.initialized "java/lang/IllegalStateException", Cond.fieldLink RX3 12 "SenseNet" "net" "LSenseNet$Net;", Cond.methodLink RX3 45 yX3_needSense, Cond.instanceMethod yX3_needSense, Cond.selects RX3 yX3_needSense yX3_needSense, Cond.initialized RX3, Cond.code yX3_needSense cX3_needSense 2 none, Cond.classLink RX3 198 "java/lang/IndexOutOfBoundsException", Cond.initialized "java/lang/IndexOutOfBoundsException", Cond.methodLink RX3 206 yX1_exists, Cond.instanceMethod yX1_exists, Cond.selects RX1 yX1_exists yX1_exists, Cond.initialized RX1, Cond.code yX1_exists cX1_exists 2 (some .boolean), Cond.fieldLink RX1 15 "SenseNet$Net" "present" "I", Cond.static yX3_holds, Cond.code yX3_holds cX3_holds 2 (some .boolean), Cond.methodLink RX3 154 yX3_bit, Cond.static yX3_bit, Cond.code yX3_bit cX3_bit 1 (some .int), Cond.methodLink RX3 49 yX1_isParent, Cond.instanceMethod yX1_isParent, Cond.selects RX1 yX1_isParent yX1_isParent]
def wsX3_unlink_r2 : List Cond := [Cond.code yX1_isParent cX1_isParent 3 (some .boolean), Cond.fieldLink RX1 18 "SenseNet$Net" "parentSets" "[I", Cond.static yX3_at, Cond.code yX3_at cX3_at 2 (some .int), Cond.methodLink RX3 72 yX1_cut, Cond.instanceMethod yX1_cut, Cond.selects RX1 yX1_cut yX1_cut, Cond.code yX1_cut cX1_cut 3 (some .int), Cond.static yX3_put, Cond.code yX3_put cX3_put 3 none, Cond.methodLink RX1 57 yX1_settle, Cond.instanceMethod yX1_settle, Cond.selects RX1 yX1_settle yX1_settle, Cond.code yX1_settle cX1_settle 2 none, Cond.methodLink RX1 77 yX1_climb, Cond.instanceMethod yX1_climb, Cond.selects RX1 yX1_climb yX1_climb, Cond.code yX1_climb cX1_climb 6 none, Cond.fieldLink RX1 25 "SenseNet$Net" "coverSets" "[I", Cond.fieldLink RX1 31 "SenseNet$Net" "depths" "[I", Cond.methodLink RX1 81 yX1_exists, Cond.methodLink RX1 85 yX1_noteSteps, Cond.instanceMethod yX1_noteSteps, Cond.selects RX1 yX1_noteSteps yX1_noteSteps]
def wsX3_unlink_r3 : List Cond := [Cond.code yX1_noteSteps cX1_noteSteps 5 none, Cond.fieldLink RX1 34 "SenseNet$Net" "steps" "[I", Cond.methodLink RX1 89 yX1_hasTop, Cond.instanceMethod yX1_hasTop, Cond.selects RX1 yX1_hasTop yX1_hasTop, Cond.code yX1_hasTop cX1_hasTop 3 (some .boolean), Cond.methodLink RX1 92 yX1_parentsOfAll, Cond.instanceMethod yX1_parentsOfAll, Cond.selects RX1 yX1_parentsOfAll yX1_parentsOfAll, Cond.code yX1_parentsOfAll cX1_parentsOfAll 4 (some .int), Cond.methodLink RX1 74 yX1_weigh, Cond.instanceMethod yX1_weigh, Cond.selects RX1 yX1_weigh yX1_weigh, Cond.code yX1_weigh cX1_weigh 2 none, Cond.fieldLink RX1 28 "SenseNet$Net" "masses" "[I", Cond.methodLink RX1 95 yX1_coveredSet, Cond.instanceMethod yX1_coveredSet, Cond.selects RX1 yX1_coveredSet yX1_coveredSet, Cond.code yX1_coveredSet cX1_coveredSet 4 (some .int), Cond.methodLink RX1 98 yX1_countOfAll, Cond.instanceMethod yX1_countOfAll, Cond.selects RX1 yX1_countOfAll yX1_countOfAll, Cond.code yX1_countOfAll cX1_countOfAll 4 (some .int), Cond.fieldLink RX1 22 "SenseNet$Net" "counts" "[I"]
def wsX3_unlink_r4 : List Cond := [Cond.methodLink RX1 64 yX1_parentCount, Cond.instanceMethod yX1_parentCount, Cond.selects RX1 yX1_parentCount yX1_parentCount, Cond.code yX1_parentCount cX1_parentCount 2 (some .int), Cond.methodLink RX1 48 yJ6_bitCount_0f7a4, Cond.static yJ6_bitCount_0f7a4, Cond.initialized RJ6, Cond.code yJ6_bitCount_0f7a4 cJ6_bitCount_0f7a4 1 (some .int), Cond.constant RJ6 265 (1431655765), Cond.constant RJ6 266 (858993459), Cond.constant RJ6 267 (252645135)]
def wsX3_unlink : List Cond := .code yX3_unlink cX3_unlink 3 (some .int) :: ((wsX3_unlink_r1 ++ (wsX3_unlink_r2 ++ (wsX3_unlink_r3 ++ wsX3_unlink_r4))) ++ wsX30 ++ wsX10 ++ (vx_atS RX3 38 "java/lang/IllegalStateException" ["java/lang/RuntimeException", "java/lang/Exception"]).filter goodWord ++ (vx_atS RX3 202 "java/lang/IndexOutOfBoundsException" ["java/lang/RuntimeException", "java/lang/Exception"]).filter goodWord)
def wsX3_remove_r1 : List Cond := [Cond.classLink RX3 34 "java/lang/IllegalStateException", Cond.initialized "java/lang/IllegalStateException", Cond.fieldLink RX3 19 "SenseNet" "words" "LSenseNet$Words;", Cond.fieldLink RX3 12 "SenseNet" "net" "LSenseNet$Net;", Cond.methodLink RX3 45 yX3_needSense, Cond.instanceMethod yX3_needSense, Cond.selects RX3 yX3_needSense yX3_needSense, Cond.initialized RX3, Cond.code yX3_needSense cX3_needSense 2 none, Cond.classLink RX3 198 "java/lang/IndexOutOfBoundsException", Cond.initialized "java/lang/IndexOutOfBoundsException", Cond.methodLink RX3 206 yX1_exists, Cond.instanceMethod yX1_exists, Cond.selects RX1 yX1_exists yX1_exists, Cond.initialized RX1, Cond.code yX1_exists cX1_exists 2 (some .boolean), Cond.fieldLink RX1 15 "SenseNet$Net" "present" "I", Cond.static yX3_holds, Cond.code yX3_holds cX3_holds 2 (some .boolean), Cond.methodLink RX3 154 yX3_bit, Cond.static yX3_bit, Cond.code yX3_bit cX3_bit 1 (some .int), Cond.methodLink RX3 75 yX2_anyHas, Cond.instanceMethod yX2_anyHas]
def wsX3_remove_r2 : List Cond := [Cond.selects RX2 yX2_anyHas yX2_anyHas, Cond.initialized RX2, Cond.code yX2_anyHas cX2_anyHas 3 (some .boolean), Cond.fieldLink RX2 9 "SenseNet$Words" "known" "I", Cond.methodLink RX2 39 yX2_has, Cond.instanceMethod yX2_has, Cond.selects RX2 yX2_has yX2_has, Cond.code yX2_has cX2_has 3 (some .boolean), Cond.methodLink RX2 35 yX2_rankOf, Cond.instanceMethod yX2_rankOf, Cond.selects RX2 yX2_rankOf yX2_rankOf, Cond.code yX2_rankOf cX2_rankOf 5 (some .int), Cond.fieldLink RX2 22 "SenseNet$Words" "sizes" "[I", Cond.fieldLink RX2 18 "SenseNet$Words" "given" "[I", Cond.static yX3_at, Cond.code yX3_at cX3_at 2 (some .int), Cond.methodLink RX3 81 yX1_canLose, Cond.instanceMethod yX1_canLose, Cond.selects RX1 yX1_canLose yX1_canLose, Cond.code yX1_canLose cX1_canLose 3 (some .boolean), Cond.methodLink RX1 67 yX1_isParent, Cond.instanceMethod yX1_isParent, Cond.selects RX1 yX1_isParent yX1_isParent, Cond.code yX1_isParent cX1_isParent 3 (some .boolean)]
def wsX3_remove_r3 : List Cond := [Cond.fieldLink RX1 18 "SenseNet$Net" "parentSets" "[I", Cond.methodLink RX1 70 yX1_parentsWithout, Cond.instanceMethod yX1_parentsWithout, Cond.selects RX1 yX1_parentsWithout yX1_parentsWithout, Cond.code yX1_parentsWithout cX1_parentsWithout 3 (some .int), Cond.methodLink RX1 48 yJ6_bitCount_0f7a4, Cond.static yJ6_bitCount_0f7a4, Cond.initialized RJ6, Cond.code yJ6_bitCount_0f7a4 cJ6_bitCount_0f7a4 1 (some .int), Cond.constant RJ6 265 (1431655765), Cond.constant RJ6 266 (858993459), Cond.constant RJ6 267 (252645135), Cond.methodLink RX3 86 yX1_lose, Cond.instanceMethod yX1_lose, Cond.selects RX1 yX1_lose yX1_lose, Cond.code yX1_lose cX1_lose 4 (some .int), Cond.fieldLink RX1 22 "SenseNet$Net" "counts" "[I", Cond.static yX3_put, Cond.code yX3_put cX3_put 3 none, Cond.methodLink RX1 57 yX1_settle, Cond.instanceMethod yX1_settle, Cond.selects RX1 yX1_settle yX1_settle, Cond.code yX1_settle cX1_settle 2 none, Cond.methodLink RX1 77 yX1_climb]
def wsX3_remove_r4 : List Cond := [Cond.instanceMethod yX1_climb, Cond.selects RX1 yX1_climb yX1_climb, Cond.code yX1_climb cX1_climb 6 none, Cond.fieldLink RX1 25 "SenseNet$Net" "coverSets" "[I", Cond.fieldLink RX1 31 "SenseNet$Net" "depths" "[I", Cond.methodLink RX1 81 yX1_exists, Cond.methodLink RX1 85 yX1_noteSteps, Cond.instanceMethod yX1_noteSteps, Cond.selects RX1 yX1_noteSteps yX1_noteSteps, Cond.code yX1_noteSteps cX1_noteSteps 5 none, Cond.fieldLink RX1 34 "SenseNet$Net" "steps" "[I", Cond.methodLink RX1 89 yX1_hasTop, Cond.instanceMethod yX1_hasTop, Cond.selects RX1 yX1_hasTop yX1_hasTop, Cond.code yX1_hasTop cX1_hasTop 3 (some .boolean), Cond.methodLink RX1 92 yX1_parentsOfAll, Cond.instanceMethod yX1_parentsOfAll, Cond.selects RX1 yX1_parentsOfAll yX1_parentsOfAll, Cond.code yX1_parentsOfAll cX1_parentsOfAll 4 (some .int), Cond.methodLink RX1 74 yX1_weigh, Cond.instanceMethod yX1_weigh, Cond.selects RX1 yX1_weigh yX1_weigh, Cond.code yX1_weigh cX1_weigh 2 none, Cond.fieldLink RX1 28 "SenseNet$Net" "masses" "[I"]
def wsX3_remove_r5 : List Cond := [Cond.methodLink RX1 95 yX1_coveredSet, Cond.instanceMethod yX1_coveredSet, Cond.selects RX1 yX1_coveredSet yX1_coveredSet, Cond.code yX1_coveredSet cX1_coveredSet 4 (some .int), Cond.methodLink RX1 98 yX1_countOfAll, Cond.instanceMethod yX1_countOfAll, Cond.selects RX1 yX1_countOfAll yX1_countOfAll, Cond.code yX1_countOfAll cX1_countOfAll 4 (some .int)]
def wsX3_remove : List Cond := .code yX3_remove cX3_remove 2 (some .int) :: ((wsX3_remove_r1 ++ (wsX3_remove_r2 ++ (wsX3_remove_r3 ++ (wsX3_remove_r4 ++ wsX3_remove_r5)))) ++ wsX30 ++ wsX10 ++ wsX20 ++ (vx_atS RX3 38 "java/lang/IllegalStateException" ["java/lang/RuntimeException", "java/lang/Exception"]).filter goodWord ++ (vx_atS RX3 202 "java/lang/IndexOutOfBoundsException" ["java/lang/RuntimeException", "java/lang/Exception"]).filter goodWord)
def wsX3_setCount_r1 : List Cond := [Cond.classLink RX3 89 "java/lang/IllegalArgumentException", Cond.initialized "java/lang/IllegalArgumentException", Cond.fieldLink RX3 12 "SenseNet" "net" "LSenseNet$Net;", Cond.methodLink RX3 45 yX3_needSense, Cond.instanceMethod yX3_needSense, Cond.selects RX3 yX3_needSense yX3_needSense, Cond.initialized RX3, Cond.code yX3_needSense cX3_needSense 2 none, Cond.classLink RX3 198 "java/lang/IndexOutOfBoundsException", Cond.initialized "java/lang/IndexOutOfBoundsException", Cond.methodLink RX3 206 yX1_exists, Cond.instanceMethod yX1_exists, Cond.selects RX1 yX1_exists yX1_exists, Cond.initialized RX1, Cond.code yX1_exists cX1_exists 2 (some .boolean), Cond.fieldLink RX1 15 "SenseNet$Net" "present" "I", Cond.static yX3_holds, Cond.code yX3_holds cX3_holds 2 (some .boolean), Cond.methodLink RX3 154 yX3_bit, Cond.static yX3_bit, Cond.code yX3_bit cX3_bit 1 (some .int), Cond.methodLink RX3 94 yX1_recount, Cond.instanceMethod yX1_recount, Cond.selects RX1 yX1_recount yX1_recount]
def wsX3_setCount_r2 : List Cond := [Cond.code yX1_recount cX1_recount 4 (some .int), Cond.fieldLink RX1 22 "SenseNet$Net" "counts" "[I", Cond.static yX3_at, Cond.code yX3_at cX3_at 2 (some .int), Cond.static yX3_put, Cond.code yX3_put cX3_put 3 none, Cond.methodLink RX1 74 yX1_weigh, Cond.instanceMethod yX1_weigh, Cond.selects RX1 yX1_weigh yX1_weigh, Cond.code yX1_weigh cX1_weigh 2 none, Cond.fieldLink RX1 28 "SenseNet$Net" "masses" "[I", Cond.methodLink RX1 95 yX1_coveredSet, Cond.instanceMethod yX1_coveredSet, Cond.selects RX1 yX1_coveredSet yX1_coveredSet, Cond.code yX1_coveredSet cX1_coveredSet 4 (some .int), Cond.fieldLink RX1 25 "SenseNet$Net" "coverSets" "[I", Cond.methodLink RX1 98 yX1_countOfAll, Cond.instanceMethod yX1_countOfAll, Cond.selects RX1 yX1_countOfAll yX1_countOfAll, Cond.code yX1_countOfAll cX1_countOfAll 4 (some .int)]
def wsX3_setCount : List Cond := .code yX3_setCount cX3_setCount 3 (some .int) :: ((wsX3_setCount_r1 ++ wsX3_setCount_r2) ++ wsX30 ++ wsX10 ++ (vx_atS RX3 93 "java/lang/IllegalArgumentException" ["java/lang/RuntimeException", "java/lang/Exception"]).filter goodWord ++ (vx_atS RX3 202 "java/lang/IndexOutOfBoundsException" ["java/lang/RuntimeException", "java/lang/Exception"]).filter goodWord)
def wsX3_addWord : List Cond := .code yX3_addWord cX3_addWord 1 (some .int) :: ([.classLink RX3 34 "java/lang/IllegalStateException", .initialized "java/lang/IllegalStateException", .fieldLink RX3 19 "SenseNet" "words" "LSenseNet$Words;", .fieldLink RX3 97 "SenseNet$Words" "known" "I", .methodLink RX3 102 yX2_addOne, .instanceMethod yX2_addOne, .selects RX2 yX2_addOne yX2_addOne, .initialized RX2, .code yX2_addOne cX2_addOne 2 (some .int), .fieldLink RX2 9 "SenseNet$Words" "known" "I", .fieldLink RX2 22 "SenseNet$Words" "sizes" "[I", .fieldLink RX2 25 "SenseNet$Words" "locks" "[I", .static yX3_put, .initialized RX3, .code yX3_put cX3_put 3 none] ++ wsX30 ++ wsX20 ++ (vx_atS RX3 38 "java/lang/IllegalStateException" ["java/lang/RuntimeException", "java/lang/Exception"]).filter goodWord)
def wsX3_needWord : List Cond := .code yX3_needWord cX3_needWord 2 none :: ([.classLink RX3 198 "java/lang/IndexOutOfBoundsException", .initialized "java/lang/IndexOutOfBoundsException", .fieldLink RX3 19 "SenseNet" "words" "LSenseNet$Words;", .methodLink RX3 211 yX2_exists, .instanceMethod yX2_exists, .selects RX2 yX2_exists yX2_exists, .initialized RX2, .code yX2_exists cX2_exists 2 (some .boolean), .fieldLink RX2 9 "SenseNet$Words" "known" "I"] ++ wsX30 ++ wsX20 ++ (vx_atS RX3 202 "java/lang/IndexOutOfBoundsException" ["java/lang/RuntimeException", "java/lang/Exception"]).filter goodWord)
def wsX3_give_r1 : List Cond := [Cond.classLink RX3 34 "java/lang/IllegalStateException", Cond.initialized "java/lang/IllegalStateException", Cond.fieldLink RX3 19 "SenseNet" "words" "LSenseNet$Words;", Cond.methodLink RX3 103 yX3_needWord, Cond.instanceMethod yX3_needWord, Cond.selects RX3 yX3_needWord yX3_needWord, Cond.initialized RX3, Cond.code yX3_needWord cX3_needWord 2 none, Cond.classLink RX3 198 "java/lang/IndexOutOfBoundsException", Cond.initialized "java/lang/IndexOutOfBoundsException", Cond.methodLink RX3 211 yX2_exists, Cond.instanceMethod yX2_exists, Cond.selects RX2 yX2_exists yX2_exists, Cond.initialized RX2, Cond.code yX2_exists cX2_exists 2 (some .boolean), Cond.fieldLink RX2 9 "SenseNet$Words" "known" "I", Cond.methodLink RX3 45 yX3_needSense, Cond.instanceMethod yX3_needSense, Cond.selects RX3 yX3_needSense yX3_needSense, Cond.code yX3_needSense cX3_needSense 2 none, Cond.fieldLink RX3 12 "SenseNet" "net" "LSenseNet$Net;", Cond.methodLink RX3 206 yX1_exists, Cond.instanceMethod yX1_exists, Cond.selects RX1 yX1_exists yX1_exists]
def wsX3_give_r2 : List Cond := [Cond.initialized RX1, Cond.code yX1_exists cX1_exists 2 (some .boolean), Cond.fieldLink RX1 15 "SenseNet$Net" "present" "I", Cond.static yX3_holds, Cond.code yX3_holds cX3_holds 2 (some .boolean), Cond.methodLink RX3 154 yX3_bit, Cond.static yX3_bit, Cond.code yX3_bit cX3_bit 1 (some .int), Cond.methodLink RX3 106 yX2_has, Cond.instanceMethod yX2_has, Cond.selects RX2 yX2_has yX2_has, Cond.code yX2_has cX2_has 3 (some .boolean), Cond.methodLink RX2 35 yX2_rankOf, Cond.instanceMethod yX2_rankOf, Cond.selects RX2 yX2_rankOf yX2_rankOf, Cond.code yX2_rankOf cX2_rankOf 5 (some .int), Cond.fieldLink RX2 22 "SenseNet$Words" "sizes" "[I", Cond.fieldLink RX2 18 "SenseNet$Words" "given" "[I", Cond.static yX3_at, Cond.code yX3_at cX3_at 2 (some .int), Cond.methodLink RX3 111 yX2_size, Cond.instanceMethod yX2_size, Cond.selects RX2 yX2_size yX2_size, Cond.code yX2_size cX2_size 2 (some .int)]
def wsX3_give_r3 : List Cond := [Cond.methodLink RX3 116 yX2_append, Cond.instanceMethod yX2_append, Cond.selects RX2 yX2_append yX2_append, Cond.code yX2_append cX2_append 4 (some .int), Cond.static yX3_put, Cond.code yX3_put cX3_put 3 none]
def wsX3_give : List Cond := .code yX3_give cX3_give 3 (some .int) :: ((wsX3_give_r1 ++ (wsX3_give_r2 ++ wsX3_give_r3)) ++ wsX30 ++ wsX20 ++ wsX10 ++ (vx_atS RX3 38 "java/lang/IllegalStateException" ["java/lang/RuntimeException", "java/lang/Exception"]).filter goodWord ++ (vx_atS RX3 202 "java/lang/IndexOutOfBoundsException" ["java/lang/RuntimeException", "java/lang/Exception"]).filter goodWord)
def wsX3_take_r1 : List Cond := [Cond.classLink RX3 34 "java/lang/IllegalStateException", Cond.initialized "java/lang/IllegalStateException", Cond.fieldLink RX3 19 "SenseNet" "words" "LSenseNet$Words;", Cond.methodLink RX3 103 yX3_needWord, Cond.instanceMethod yX3_needWord, Cond.selects RX3 yX3_needWord yX3_needWord, Cond.initialized RX3, Cond.code yX3_needWord cX3_needWord 2 none, Cond.classLink RX3 198 "java/lang/IndexOutOfBoundsException", Cond.initialized "java/lang/IndexOutOfBoundsException", Cond.methodLink RX3 211 yX2_exists, Cond.instanceMethod yX2_exists, Cond.selects RX2 yX2_exists yX2_exists, Cond.initialized RX2, Cond.code yX2_exists cX2_exists 2 (some .boolean), Cond.fieldLink RX2 9 "SenseNet$Words" "known" "I", Cond.methodLink RX3 45 yX3_needSense, Cond.instanceMethod yX3_needSense, Cond.selects RX3 yX3_needSense yX3_needSense, Cond.code yX3_needSense cX3_needSense 2 none, Cond.fieldLink RX3 12 "SenseNet" "net" "LSenseNet$Net;", Cond.methodLink RX3 206 yX1_exists, Cond.instanceMethod yX1_exists, Cond.selects RX1 yX1_exists yX1_exists]
def wsX3_take_r2 : List Cond := [Cond.initialized RX1, Cond.code yX1_exists cX1_exists 2 (some .boolean), Cond.fieldLink RX1 15 "SenseNet$Net" "present" "I", Cond.static yX3_holds, Cond.code yX3_holds cX3_holds 2 (some .boolean), Cond.methodLink RX3 154 yX3_bit, Cond.static yX3_bit, Cond.code yX3_bit cX3_bit 1 (some .int), Cond.methodLink RX3 106 yX2_has, Cond.instanceMethod yX2_has, Cond.selects RX2 yX2_has yX2_has, Cond.code yX2_has cX2_has 3 (some .boolean), Cond.methodLink RX2 35 yX2_rankOf, Cond.instanceMethod yX2_rankOf, Cond.selects RX2 yX2_rankOf yX2_rankOf, Cond.code yX2_rankOf cX2_rankOf 5 (some .int), Cond.fieldLink RX2 22 "SenseNet$Words" "sizes" "[I", Cond.fieldLink RX2 18 "SenseNet$Words" "given" "[I", Cond.static yX3_at, Cond.code yX3_at cX3_at 2 (some .int), Cond.methodLink RX3 111 yX2_size, Cond.instanceMethod yX2_size, Cond.selects RX2 yX2_size yX2_size, Cond.code yX2_size cX2_size 2 (some .int)]
def wsX3_take_r3 : List Cond := [Cond.methodLink RX3 121 yX2_isSaid, Cond.instanceMethod yX2_isSaid, Cond.selects RX2 yX2_isSaid yX2_isSaid, Cond.code yX2_isSaid cX2_isSaid 3 (some .boolean), Cond.fieldLink RX2 15 "SenseNet$Words" "places" "I", Cond.fieldLink RX2 28 "SenseNet$Words" "sentence" "[I", Cond.methodLink RX3 126 yX2_drop, Cond.instanceMethod yX2_drop, Cond.selects RX2 yX2_drop yX2_drop, Cond.code yX2_drop cX2_drop 6 (some .int), Cond.fieldLink RX2 25 "SenseNet$Words" "locks" "[I", Cond.static yX3_put, Cond.code yX3_put cX3_put 3 none]
def wsX3_take : List Cond := .code yX3_take cX3_take 3 (some .int) :: ((wsX3_take_r1 ++ (wsX3_take_r2 ++ wsX3_take_r3)) ++ wsX30 ++ wsX20 ++ wsX10 ++ (vx_atS RX3 38 "java/lang/IllegalStateException" ["java/lang/RuntimeException", "java/lang/Exception"]).filter goodWord ++ (vx_atS RX3 202 "java/lang/IndexOutOfBoundsException" ["java/lang/RuntimeException", "java/lang/Exception"]).filter goodWord)
def wsX3_lock_r1 : List Cond := [Cond.classLink RX3 34 "java/lang/IllegalStateException", Cond.initialized "java/lang/IllegalStateException", Cond.fieldLink RX3 19 "SenseNet" "words" "LSenseNet$Words;", Cond.methodLink RX3 103 yX3_needWord, Cond.instanceMethod yX3_needWord, Cond.selects RX3 yX3_needWord yX3_needWord, Cond.initialized RX3, Cond.code yX3_needWord cX3_needWord 2 none, Cond.classLink RX3 198 "java/lang/IndexOutOfBoundsException", Cond.initialized "java/lang/IndexOutOfBoundsException", Cond.methodLink RX3 211 yX2_exists, Cond.instanceMethod yX2_exists, Cond.selects RX2 yX2_exists yX2_exists, Cond.initialized RX2, Cond.code yX2_exists cX2_exists 2 (some .boolean), Cond.fieldLink RX2 9 "SenseNet$Words" "known" "I", Cond.methodLink RX3 106 yX2_has, Cond.instanceMethod yX2_has, Cond.selects RX2 yX2_has yX2_has, Cond.code yX2_has cX2_has 3 (some .boolean), Cond.methodLink RX2 35 yX2_rankOf, Cond.instanceMethod yX2_rankOf, Cond.selects RX2 yX2_rankOf yX2_rankOf, Cond.code yX2_rankOf cX2_rankOf 5 (some .int)]
def wsX3_lock_r2 : List Cond := [Cond.fieldLink RX2 22 "SenseNet$Words" "sizes" "[I", Cond.fieldLink RX2 18 "SenseNet$Words" "given" "[I", Cond.static yX3_at, Cond.code yX3_at cX3_at 2 (some .int), Cond.methodLink RX3 129 yX2_relock, Cond.instanceMethod yX2_relock, Cond.selects RX2 yX2_relock yX2_relock, Cond.code yX2_relock cX2_relock 4 (some .int), Cond.fieldLink RX2 25 "SenseNet$Words" "locks" "[I", Cond.static yX3_put, Cond.code yX3_put cX3_put 3 none]
def wsX3_lock : List Cond := .code yX3_lock cX3_lock 3 (some .int) :: ((wsX3_lock_r1 ++ wsX3_lock_r2) ++ wsX30 ++ wsX20 ++ (vx_atS RX3 38 "java/lang/IllegalStateException" ["java/lang/RuntimeException", "java/lang/Exception"]).filter goodWord ++ (vx_atS RX3 202 "java/lang/IndexOutOfBoundsException" ["java/lang/RuntimeException", "java/lang/Exception"]).filter goodWord)
def wsX3_say_r1 : List Cond := [Cond.classLink RX3 34 "java/lang/IllegalStateException", Cond.initialized "java/lang/IllegalStateException", Cond.fieldLink RX3 19 "SenseNet" "words" "LSenseNet$Words;", Cond.fieldLink RX3 132 "SenseNet$Words" "places" "I", Cond.methodLink RX3 103 yX3_needWord, Cond.instanceMethod yX3_needWord, Cond.selects RX3 yX3_needWord yX3_needWord, Cond.initialized RX3, Cond.code yX3_needWord cX3_needWord 2 none, Cond.classLink RX3 198 "java/lang/IndexOutOfBoundsException", Cond.initialized "java/lang/IndexOutOfBoundsException", Cond.methodLink RX3 211 yX2_exists, Cond.instanceMethod yX2_exists, Cond.selects RX2 yX2_exists yX2_exists, Cond.initialized RX2, Cond.code yX2_exists cX2_exists 2 (some .boolean), Cond.fieldLink RX2 9 "SenseNet$Words" "known" "I", Cond.methodLink RX3 111 yX2_size, Cond.instanceMethod yX2_size, Cond.selects RX2 yX2_size yX2_size, Cond.code yX2_size cX2_size 2 (some .int), Cond.fieldLink RX2 22 "SenseNet$Words" "sizes" "[I", Cond.static yX3_at, Cond.code yX3_at cX3_at 2 (some .int)]
def wsX3_say_r2 : List Cond := [Cond.methodLink RX3 139 yX2_putBehind, Cond.instanceMethod yX2_putBehind, Cond.selects RX2 yX2_putBehind yX2_putBehind, Cond.code yX2_putBehind cX2_putBehind 2 (some .int), Cond.fieldLink RX2 28 "SenseNet$Words" "sentence" "[I", Cond.fieldLink RX2 15 "SenseNet$Words" "places" "I", Cond.static yX3_put, Cond.code yX3_put cX3_put 3 none]
def wsX3_say : List Cond := .code yX3_say cX3_say 2 (some .int) :: ((wsX3_say_r1 ++ wsX3_say_r2) ++ wsX30 ++ wsX20 ++ (vx_atS RX3 38 "java/lang/IllegalStateException" ["java/lang/RuntimeException", "java/lang/Exception"]).filter goodWord ++ (vx_atS RX3 202 "java/lang/IndexOutOfBoundsException" ["java/lang/RuntimeException", "java/lang/Exception"]).filter goodWord)
def wsX3_hush : List Cond := .code yX3_hush cX3_hush 1 (some .int) :: ([.fieldLink RX3 19 "SenseNet" "words" "LSenseNet$Words;", .methodLink RX3 142 yX2_emptySentence, .instanceMethod yX2_emptySentence, .selects RX2 yX2_emptySentence yX2_emptySentence, .initialized RX2, .code yX2_emptySentence cX2_emptySentence 2 (some .int), .fieldLink RX2 15 "SenseNet$Words" "places" "I"] ++ wsX30 ++ wsX20)
def wsX3_senses : List Cond := .code yX3_senses cX3_senses 1 (some .int) :: ([.fieldLink RX3 12 "SenseNet" "net" "LSenseNet$Net;", .fieldLink RX3 145 "SenseNet$Net" "present" "I"] ++ wsX30 ++ wsX10)
def wsX3_parents_r1 : List Cond := [Cond.fieldLink RX3 12 "SenseNet" "net" "LSenseNet$Net;", Cond.methodLink RX3 45 yX3_needSense, Cond.instanceMethod yX3_needSense, Cond.selects RX3 yX3_needSense yX3_needSense, Cond.initialized RX3, Cond.code yX3_needSense cX3_needSense 2 none, Cond.classLink RX3 198 "java/lang/IndexOutOfBoundsException", Cond.initialized "java/lang/IndexOutOfBoundsException", Cond.methodLink RX3 206 yX1_exists, Cond.instanceMethod yX1_exists, Cond.selects RX1 yX1_exists yX1_exists, Cond.initialized RX1, Cond.code yX1_exists cX1_exists 2 (some .boolean), Cond.fieldLink RX1 15 "SenseNet$Net" "present" "I", Cond.static yX3_holds, Cond.code yX3_holds cX3_holds 2 (some .boolean), Cond.methodLink RX3 154 yX3_bit, Cond.static yX3_bit, Cond.code yX3_bit cX3_bit 1 (some .int), Cond.methodLink RX3 148 yX1_parentSet, Cond.instanceMethod yX1_parentSet, Cond.selects RX1 yX1_parentSet yX1_parentSet, Cond.code yX1_parentSet cX1_parentSet 2 (some .int), Cond.fieldLink RX1 18 "SenseNet$Net" "parentSets" "[I"]
def wsX3_parents_r2 : List Cond := [Cond.static yX3_at, Cond.code yX3_at cX3_at 2 (some .int)]
def wsX3_parents : List Cond := .code yX3_parents cX3_parents 2 (some .int) :: ((wsX3_parents_r1 ++ wsX3_parents_r2) ++ wsX30 ++ wsX10 ++ (vx_atS RX3 202 "java/lang/IndexOutOfBoundsException" ["java/lang/RuntimeException", "java/lang/Exception"]).filter goodWord)
def wsX3_above_r1 : List Cond := [Cond.fieldLink RX3 12 "SenseNet" "net" "LSenseNet$Net;", Cond.methodLink RX3 45 yX3_needSense, Cond.instanceMethod yX3_needSense, Cond.selects RX3 yX3_needSense yX3_needSense, Cond.initialized RX3, Cond.code yX3_needSense cX3_needSense 2 none, Cond.classLink RX3 198 "java/lang/IndexOutOfBoundsException", Cond.initialized "java/lang/IndexOutOfBoundsException", Cond.methodLink RX3 206 yX1_exists, Cond.instanceMethod yX1_exists, Cond.selects RX1 yX1_exists yX1_exists, Cond.initialized RX1, Cond.code yX1_exists cX1_exists 2 (some .boolean), Cond.fieldLink RX1 15 "SenseNet$Net" "present" "I", Cond.static yX3_holds, Cond.code yX3_holds cX3_holds 2 (some .boolean), Cond.methodLink RX3 154 yX3_bit, Cond.static yX3_bit, Cond.code yX3_bit cX3_bit 1 (some .int), Cond.methodLink RX3 151 yX1_coverSet, Cond.instanceMethod yX1_coverSet, Cond.selects RX1 yX1_coverSet yX1_coverSet, Cond.code yX1_coverSet cX1_coverSet 2 (some .int), Cond.fieldLink RX1 25 "SenseNet$Net" "coverSets" "[I"]
def wsX3_above_r2 : List Cond := [Cond.static yX3_at, Cond.code yX3_at cX3_at 2 (some .int)]
def wsX3_above : List Cond := .code yX3_above cX3_above 2 (some .int) :: ((wsX3_above_r1 ++ wsX3_above_r2) ++ wsX30 ++ wsX10 ++ (vx_atS RX3 202 "java/lang/IndexOutOfBoundsException" ["java/lang/RuntimeException", "java/lang/Exception"]).filter goodWord)
def wsX3_below_r1 : List Cond := [Cond.fieldLink RX3 12 "SenseNet" "net" "LSenseNet$Net;", Cond.methodLink RX3 45 yX3_needSense, Cond.instanceMethod yX3_needSense, Cond.selects RX3 yX3_needSense yX3_needSense, Cond.initialized RX3, Cond.code yX3_needSense cX3_needSense 2 none, Cond.classLink RX3 198 "java/lang/IndexOutOfBoundsException", Cond.initialized "java/lang/IndexOutOfBoundsException", Cond.methodLink RX3 206 yX1_exists, Cond.instanceMethod yX1_exists, Cond.selects RX1 yX1_exists yX1_exists, Cond.initialized RX1, Cond.code yX1_exists cX1_exists 2 (some .boolean), Cond.fieldLink RX1 15 "SenseNet$Net" "present" "I", Cond.static yX3_holds, Cond.code yX3_holds cX3_holds 2 (some .boolean), Cond.methodLink RX3 154 yX3_bit, Cond.static yX3_bit, Cond.code yX3_bit cX3_bit 1 (some .int), Cond.methodLink RX3 157 yX1_coveredSet, Cond.instanceMethod yX1_coveredSet, Cond.selects RX1 yX1_coveredSet yX1_coveredSet, Cond.code yX1_coveredSet cX1_coveredSet 4 (some .int), Cond.fieldLink RX1 25 "SenseNet$Net" "coverSets" "[I"]
def wsX3_below_r2 : List Cond := [Cond.static yX3_at, Cond.code yX3_at cX3_at 2 (some .int)]
def wsX3_below : List Cond := .code yX3_below cX3_below 2 (some .int) :: ((wsX3_below_r1 ++ wsX3_below_r2) ++ wsX30 ++ wsX10 ++ (vx_atS RX3 202 "java/lang/IndexOutOfBoundsException" ["java/lang/RuntimeException", "java/lang/Exception"]).filter goodWord)
def wsX3_mass_r1 : List Cond := [Cond.fieldLink RX3 12 "SenseNet" "net" "LSenseNet$Net;", Cond.methodLink RX3 45 yX3_needSense, Cond.instanceMethod yX3_needSense, Cond.selects RX3 yX3_needSense yX3_needSense, Cond.initialized RX3, Cond.code yX3_needSense cX3_needSense 2 none, Cond.classLink RX3 198 "java/lang/IndexOutOfBoundsException", Cond.initialized "java/lang/IndexOutOfBoundsException", Cond.methodLink RX3 206 yX1_exists, Cond.instanceMethod yX1_exists, Cond.selects RX1 yX1_exists yX1_exists, Cond.initialized RX1, Cond.code yX1_exists cX1_exists 2 (some .boolean), Cond.fieldLink RX1 15 "SenseNet$Net" "present" "I", Cond.static yX3_holds, Cond.code yX3_holds cX3_holds 2 (some .boolean), Cond.methodLink RX3 154 yX3_bit, Cond.static yX3_bit, Cond.code yX3_bit cX3_bit 1 (some .int), Cond.methodLink RX3 160 yX1_coveredCount, Cond.instanceMethod yX1_coveredCount, Cond.selects RX1 yX1_coveredCount yX1_coveredCount, Cond.code yX1_coveredCount cX1_coveredCount 2 (some .int), Cond.fieldLink RX1 28 "SenseNet$Net" "masses" "[I"]
def wsX3_mass_r2 : List Cond := [Cond.static yX3_at, Cond.code yX3_at cX3_at 2 (some .int)]
def wsX3_mass : List Cond := .code yX3_mass cX3_mass 2 (some .int) :: ((wsX3_mass_r1 ++ wsX3_mass_r2) ++ wsX30 ++ wsX10 ++ (vx_atS RX3 202 "java/lang/IndexOutOfBoundsException" ["java/lang/RuntimeException", "java/lang/Exception"]).filter goodWord)
def wsX3_massByWalks_r1 : List Cond := [Cond.fieldLink RX3 12 "SenseNet" "net" "LSenseNet$Net;", Cond.methodLink RX3 45 yX3_needSense, Cond.instanceMethod yX3_needSense, Cond.selects RX3 yX3_needSense yX3_needSense, Cond.initialized RX3, Cond.code yX3_needSense cX3_needSense 2 none, Cond.classLink RX3 198 "java/lang/IndexOutOfBoundsException", Cond.initialized "java/lang/IndexOutOfBoundsException", Cond.methodLink RX3 206 yX1_exists, Cond.instanceMethod yX1_exists, Cond.selects RX1 yX1_exists yX1_exists, Cond.initialized RX1, Cond.code yX1_exists cX1_exists 2 (some .boolean), Cond.fieldLink RX1 15 "SenseNet$Net" "present" "I", Cond.static yX3_holds, Cond.code yX3_holds cX3_holds 2 (some .boolean), Cond.methodLink RX3 154 yX3_bit, Cond.static yX3_bit, Cond.code yX3_bit cX3_bit 1 (some .int), Cond.methodLink RX3 163 yX1_walkedCount, Cond.instanceMethod yX1_walkedCount, Cond.selects RX1 yX1_walkedCount yX1_walkedCount, Cond.code yX1_walkedCount cX1_walkedCount 3 (some .int), Cond.fieldLink RX1 37 "SenseNet$Net" "walked" "[I"]
def wsX3_massByWalks_r2 : List Cond := [Cond.static yX3_put, Cond.code yX3_put cX3_put 3 none, Cond.methodLink RX1 81 yX1_exists, Cond.methodLink RX1 101 yX1_carryUp, Cond.instanceMethod yX1_carryUp, Cond.selects RX1 yX1_carryUp yX1_carryUp, Cond.code yX1_carryUp cX1_carryUp 7 none, Cond.fieldLink RX1 22 "SenseNet$Net" "counts" "[I", Cond.static yX3_at, Cond.code yX3_at cX3_at 2 (some .int), Cond.methodLink RX1 92 yX1_parentsOfAll, Cond.instanceMethod yX1_parentsOfAll, Cond.selects RX1 yX1_parentsOfAll yX1_parentsOfAll, Cond.code yX1_parentsOfAll cX1_parentsOfAll 4 (some .int), Cond.fieldLink RX1 18 "SenseNet$Net" "parentSets" "[I"]
def wsX3_massByWalks : List Cond := .code yX3_massByWalks cX3_massByWalks 2 (some .int) :: ((wsX3_massByWalks_r1 ++ wsX3_massByWalks_r2) ++ wsX30 ++ wsX10 ++ (vx_atS RX3 202 "java/lang/IndexOutOfBoundsException" ["java/lang/RuntimeException", "java/lang/Exception"]).filter goodWord)
def wsX3_depth_r1 : List Cond := [Cond.fieldLink RX3 12 "SenseNet" "net" "LSenseNet$Net;", Cond.methodLink RX3 45 yX3_needSense, Cond.instanceMethod yX3_needSense, Cond.selects RX3 yX3_needSense yX3_needSense, Cond.initialized RX3, Cond.code yX3_needSense cX3_needSense 2 none, Cond.classLink RX3 198 "java/lang/IndexOutOfBoundsException", Cond.initialized "java/lang/IndexOutOfBoundsException", Cond.methodLink RX3 206 yX1_exists, Cond.instanceMethod yX1_exists, Cond.selects RX1 yX1_exists yX1_exists, Cond.initialized RX1, Cond.code yX1_exists cX1_exists 2 (some .boolean), Cond.fieldLink RX1 15 "SenseNet$Net" "present" "I", Cond.static yX3_holds, Cond.code yX3_holds cX3_holds 2 (some .boolean), Cond.methodLink RX3 154 yX3_bit, Cond.static yX3_bit, Cond.code yX3_bit cX3_bit 1 (some .int), Cond.methodLink RX3 166 yX1_stepsToTop, Cond.instanceMethod yX1_stepsToTop, Cond.selects RX1 yX1_stepsToTop yX1_stepsToTop, Cond.code yX1_stepsToTop cX1_stepsToTop 2 (some .int), Cond.fieldLink RX1 31 "SenseNet$Net" "depths" "[I"]
def wsX3_depth_r2 : List Cond := [Cond.static yX3_at, Cond.code yX3_at cX3_at 2 (some .int)]
def wsX3_depth : List Cond := .code yX3_depth cX3_depth 2 (some .int) :: ((wsX3_depth_r1 ++ wsX3_depth_r2) ++ wsX30 ++ wsX10 ++ (vx_atS RX3 202 "java/lang/IndexOutOfBoundsException" ["java/lang/RuntimeException", "java/lang/Exception"]).filter goodWord)
def wsX3_shared_r1 : List Cond := [Cond.fieldLink RX3 12 "SenseNet" "net" "LSenseNet$Net;", Cond.methodLink RX3 45 yX3_needSense, Cond.instanceMethod yX3_needSense, Cond.selects RX3 yX3_needSense yX3_needSense, Cond.initialized RX3, Cond.code yX3_needSense cX3_needSense 2 none, Cond.classLink RX3 198 "java/lang/IndexOutOfBoundsException", Cond.initialized "java/lang/IndexOutOfBoundsException", Cond.methodLink RX3 206 yX1_exists, Cond.instanceMethod yX1_exists, Cond.selects RX1 yX1_exists yX1_exists, Cond.initialized RX1, Cond.code yX1_exists cX1_exists 2 (some .boolean), Cond.fieldLink RX1 15 "SenseNet$Net" "present" "I", Cond.static yX3_holds, Cond.code yX3_holds cX3_holds 2 (some .boolean), Cond.methodLink RX3 154 yX3_bit, Cond.static yX3_bit, Cond.code yX3_bit cX3_bit 1 (some .int), Cond.methodLink RX3 169 yX1_tellingCover, Cond.instanceMethod yX1_tellingCover, Cond.selects RX1 yX1_tellingCover yX1_tellingCover, Cond.code yX1_tellingCover cX1_tellingCover 6 (some .int), Cond.fieldLink RX1 25 "SenseNet$Net" "coverSets" "[I"]
def wsX3_shared_r2 : List Cond := [Cond.static yX3_at, Cond.code yX3_at cX3_at 2 (some .int), Cond.methodLink RX1 104 yX1_saysMore, Cond.instanceMethod yX1_saysMore, Cond.selects RX1 yX1_saysMore yX1_saysMore, Cond.code yX1_saysMore cX1_saysMore 5 (some .boolean), Cond.fieldLink RX1 28 "SenseNet$Net" "masses" "[I", Cond.fieldLink RX1 31 "SenseNet$Net" "depths" "[I"]
def wsX3_shared : List Cond := .code yX3_shared cX3_shared 3 (some .int) :: ((wsX3_shared_r1 ++ wsX3_shared_r2) ++ wsX30 ++ wsX10 ++ (vx_atS RX3 202 "java/lang/IndexOutOfBoundsException" ["java/lang/RuntimeException", "java/lang/Exception"]).filter goodWord)
def wsX3_distance_r1 : List Cond := [Cond.fieldLink RX3 12 "SenseNet" "net" "LSenseNet$Net;", Cond.methodLink RX3 45 yX3_needSense, Cond.instanceMethod yX3_needSense, Cond.selects RX3 yX3_needSense yX3_needSense, Cond.initialized RX3, Cond.code yX3_needSense cX3_needSense 2 none, Cond.classLink RX3 198 "java/lang/IndexOutOfBoundsException", Cond.initialized "java/lang/IndexOutOfBoundsException", Cond.methodLink RX3 206 yX1_exists, Cond.instanceMethod yX1_exists, Cond.selects RX1 yX1_exists yX1_exists, Cond.initialized RX1, Cond.code yX1_exists cX1_exists 2 (some .boolean), Cond.fieldLink RX1 15 "SenseNet$Net" "present" "I", Cond.static yX3_holds, Cond.code yX3_holds cX3_holds 2 (some .boolean), Cond.methodLink RX3 154 yX3_bit, Cond.static yX3_bit, Cond.code yX3_bit cX3_bit 1 (some .int), Cond.methodLink RX3 172 yX1_stepsBetween, Cond.instanceMethod yX1_stepsBetween, Cond.selects RX1 yX1_stepsBetween yX1_stepsBetween, Cond.code yX1_stepsBetween cX1_stepsBetween 7 (some .int), Cond.fieldLink RX1 25 "SenseNet$Net" "coverSets" "[I"]
def wsX3_distance_r2 : List Cond := [Cond.fieldLink RX1 34 "SenseNet$Net" "steps" "[I", Cond.methodLink RX1 107 Lib.Math.min.name, Cond.static Lib.Math.min.name, Cond.initialized "java/lang/Math", Cond.code Lib.Math.min.name Lib.Math.min.code 2 (some .int), Cond.static yX3_at, Cond.code yX3_at cX3_at 2 (some .int)]
def wsX3_distance : List Cond := .code yX3_distance cX3_distance 3 (some .int) :: ((wsX3_distance_r1 ++ wsX3_distance_r2) ++ wsX30 ++ wsX10 ++ (vx_atS RX3 202 "java/lang/IndexOutOfBoundsException" ["java/lang/RuntimeException", "java/lang/Exception"]).filter goodWord)
def wsX3_needMeasure : List Cond := .code yX3_needMeasure cX3_needMeasure 2 none :: ([.classLink RX3 89 "java/lang/IllegalArgumentException", .initialized "java/lang/IllegalArgumentException"] ++ (vx_atS RX3 93 "java/lang/IllegalArgumentException" ["java/lang/RuntimeException", "java/lang/Exception"]).filter goodWord)
def wsX3_likeness_r1 : List Cond := [Cond.fieldLink RX3 12 "SenseNet" "net" "LSenseNet$Net;", Cond.methodLink RX3 45 yX3_needSense, Cond.instanceMethod yX3_needSense, Cond.selects RX3 yX3_needSense yX3_needSense, Cond.initialized RX3, Cond.code yX3_needSense cX3_needSense 2 none, Cond.classLink RX3 198 "java/lang/IndexOutOfBoundsException", Cond.initialized "java/lang/IndexOutOfBoundsException", Cond.methodLink RX3 206 yX1_exists, Cond.instanceMethod yX1_exists, Cond.selects RX1 yX1_exists yX1_exists, Cond.initialized RX1, Cond.code yX1_exists cX1_exists 2 (some .boolean), Cond.fieldLink RX1 15 "SenseNet$Net" "present" "I", Cond.static yX3_holds, Cond.code yX3_holds cX3_holds 2 (some .boolean), Cond.methodLink RX3 154 yX3_bit, Cond.static yX3_bit, Cond.code yX3_bit cX3_bit 1 (some .int), Cond.methodLink RX3 175 yX3_needMeasure, Cond.instanceMethod yX3_needMeasure, Cond.selects RX3 yX3_needMeasure yX3_needMeasure, Cond.code yX3_needMeasure cX3_needMeasure 2 none, Cond.classLink RX3 89 "java/lang/IllegalArgumentException"]
def wsX3_likeness_r2 : List Cond := [Cond.initialized "java/lang/IllegalArgumentException", Cond.methodLink RX3 178 yX1_alike, Cond.instanceMethod yX1_alike, Cond.selects RX1 yX1_alike yX1_alike, Cond.code yX1_alike cX1_alike 6 (some .int), Cond.fieldLink RX1 31 "SenseNet$Net" "depths" "[I", Cond.methodLink RX1 107 Lib.Math.min.name, Cond.static Lib.Math.min.name, Cond.initialized "java/lang/Math", Cond.code Lib.Math.min.name Lib.Math.min.code 2 (some .int), Cond.fieldLink RX1 28 "SenseNet$Net" "masses" "[I", Cond.methodLink RX1 112 yX1_tellingCover, Cond.instanceMethod yX1_tellingCover, Cond.selects RX1 yX1_tellingCover yX1_tellingCover, Cond.code yX1_tellingCover cX1_tellingCover 6 (some .int), Cond.fieldLink RX1 25 "SenseNet$Net" "coverSets" "[I", Cond.static yX3_at, Cond.code yX3_at cX3_at 2 (some .int), Cond.methodLink RX1 104 yX1_saysMore, Cond.instanceMethod yX1_saysMore, Cond.selects RX1 yX1_saysMore yX1_saysMore, Cond.code yX1_saysMore cX1_saysMore 5 (some .boolean), Cond.methodLink RX1 115 yX1_stepsBetween, Cond.instanceMethod yX1_stepsBetween]
def wsX3_likeness_r3 : List Cond := [Cond.selects RX1 yX1_stepsBetween yX1_stepsBetween, Cond.code yX1_stepsBetween cX1_stepsBetween 7 (some .int), Cond.fieldLink RX1 34 "SenseNet$Net" "steps" "[I", Cond.methodLink RX1 118 yX1_quotient, Cond.static yX1_quotient, Cond.code yX1_quotient cX1_quotient 2 (some .int), Cond.methodLink RX1 98 yX1_countOfAll, Cond.instanceMethod yX1_countOfAll, Cond.selects RX1 yX1_countOfAll yX1_countOfAll, Cond.code yX1_countOfAll cX1_countOfAll 4 (some .int), Cond.fieldLink RX1 22 "SenseNet$Net" "counts" "[I"]
def wsX3_likeness : List Cond := .code yX3_likeness cX3_likeness 4 (some .int) :: ((wsX3_likeness_r1 ++ (wsX3_likeness_r2 ++ wsX3_likeness_r3)) ++ wsX30 ++ wsX10 ++ (vx_atS RX3 202 "java/lang/IndexOutOfBoundsException" ["java/lang/RuntimeException", "java/lang/Exception"]).filter goodWord ++ (vx_atS RX3 93 "java/lang/IllegalArgumentException" ["java/lang/RuntimeException", "java/lang/Exception"]).filter goodWord)
def wsX3_choices : List Cond := .code yX3_choices cX3_choices 3 (some .int) :: ([.fieldLink RX3 19 "SenseNet" "words" "LSenseNet$Words;", .fieldLink RX3 132 "SenseNet$Words" "places" "I", .methodLink RX3 182 yX2_wordAt, .instanceMethod yX2_wordAt, .selects RX2 yX2_wordAt yX2_wordAt, .initialized RX2, .code yX2_wordAt cX2_wordAt 2 (some .int), .fieldLink RX2 28 "SenseNet$Words" "sentence" "[I", .static yX3_at, .initialized RX3, .code yX3_at cX3_at 2 (some .int), .methodLink RX3 185 yX2_optionCount, .instanceMethod yX2_optionCount, .selects RX2 yX2_optionCount yX2_optionCount, .code yX2_optionCount cX2_optionCount 2 (some .int), .fieldLink RX2 25 "SenseNet$Words" "locks" "[I", .fieldLink RX2 22 "SenseNet$Words" "sizes" "[I"] ++ wsX30 ++ wsX20)
def wsX3_bestWorth_r1 : List Cond := [Cond.fieldLink RX3 26 "SenseNet" "chooser" "LSenseNet$Chooser;", Cond.fieldLink RX3 12 "SenseNet" "net" "LSenseNet$Net;", Cond.fieldLink RX3 19 "SenseNet" "words" "LSenseNet$Words;", Cond.methodLink RX3 175 yX3_needMeasure, Cond.instanceMethod yX3_needMeasure, Cond.selects RX3 yX3_needMeasure yX3_needMeasure, Cond.initialized RX3, Cond.code yX3_needMeasure cX3_needMeasure 2 none, Cond.classLink RX3 89 "java/lang/IllegalArgumentException", Cond.initialized "java/lang/IllegalArgumentException", Cond.methodLink RX3 188 yX0_prepare, Cond.instanceMethod yX0_prepare, Cond.selects RX0 yX0_prepare yX0_prepare, Cond.initialized RX0, Cond.code yX0_prepare cX0_prepare 7 none, Cond.fieldLink RX0 9 "SenseNet$Chooser" "places" "I", Cond.fieldLink RX0 37 "SenseNet$Words" "places" "I", Cond.methodLink RX0 40 Lib.Math.min.name, Cond.static Lib.Math.min.name, Cond.initialized "java/lang/Math", Cond.code Lib.Math.min.name Lib.Math.min.code 2 (some .int), Cond.fieldLink RX0 28 "SenseNet$Chooser" "hopes" "[I", Cond.methodLink RX0 46 yX0_layOut, Cond.instanceMethod yX0_layOut]
def wsX3_bestWorth_r2 : List Cond := [Cond.selects RX0 yX0_layOut yX0_layOut, Cond.code yX0_layOut cX0_layOut 6 none, Cond.fieldLink RX0 18 "SenseNet$Chooser" "sizes" "[I", Cond.fieldLink RX0 22 "SenseNet$Chooser" "options" "[I", Cond.methodLink RX0 70 yX2_wordAt, Cond.instanceMethod yX2_wordAt, Cond.selects RX2 yX2_wordAt yX2_wordAt, Cond.initialized RX2, Cond.code yX2_wordAt cX2_wordAt 2 (some .int), Cond.fieldLink RX2 28 "SenseNet$Words" "sentence" "[I", Cond.static yX3_at, Cond.code yX3_at cX3_at 2 (some .int), Cond.methodLink RX0 74 yX2_optionCount, Cond.instanceMethod yX2_optionCount, Cond.selects RX2 yX2_optionCount yX2_optionCount, Cond.code yX2_optionCount cX2_optionCount 2 (some .int), Cond.fieldLink RX2 25 "SenseNet$Words" "locks" "[I", Cond.fieldLink RX2 22 "SenseNet$Words" "sizes" "[I", Cond.static yX3_put, Cond.code yX3_put cX3_put 3 none, Cond.methodLink RX0 77 yX2_option, Cond.instanceMethod yX2_option, Cond.selects RX2 yX2_option yX2_option, Cond.code yX2_option cX2_option 4 (some .int)]
def wsX3_bestWorth_r3 : List Cond := [Cond.fieldLink RX2 18 "SenseNet$Words" "given" "[I", Cond.methodLink RX0 54 yX0_compare, Cond.instanceMethod yX0_compare, Cond.selects RX0 yX0_compare yX0_compare, Cond.code yX0_compare cX0_compare 11 (some .int), Cond.fieldLink RX0 25 "SenseNet$Chooser" "alike" "[I", Cond.methodLink RX0 85 Lib.Math.max.name, Cond.static Lib.Math.max.name, Cond.code Lib.Math.max.name Lib.Math.max.code 2 (some .int), Cond.methodLink RX0 80 yX1_alike, Cond.instanceMethod yX1_alike, Cond.selects RX1 yX1_alike yX1_alike, Cond.initialized RX1, Cond.code yX1_alike cX1_alike 6 (some .int), Cond.fieldLink RX1 31 "SenseNet$Net" "depths" "[I", Cond.methodLink RX1 107 Lib.Math.min.name, Cond.fieldLink RX1 15 "SenseNet$Net" "present" "I", Cond.fieldLink RX1 28 "SenseNet$Net" "masses" "[I", Cond.methodLink RX1 112 yX1_tellingCover, Cond.instanceMethod yX1_tellingCover, Cond.selects RX1 yX1_tellingCover yX1_tellingCover, Cond.code yX1_tellingCover cX1_tellingCover 6 (some .int), Cond.fieldLink RX1 25 "SenseNet$Net" "coverSets" "[I", Cond.static yX3_holds]
def wsX3_bestWorth_r4 : List Cond := [Cond.code yX3_holds cX3_holds 2 (some .boolean), Cond.methodLink RX3 154 yX3_bit, Cond.static yX3_bit, Cond.code yX3_bit cX3_bit 1 (some .int), Cond.methodLink RX1 104 yX1_saysMore, Cond.instanceMethod yX1_saysMore, Cond.selects RX1 yX1_saysMore yX1_saysMore, Cond.code yX1_saysMore cX1_saysMore 5 (some .boolean), Cond.methodLink RX1 115 yX1_stepsBetween, Cond.instanceMethod yX1_stepsBetween, Cond.selects RX1 yX1_stepsBetween yX1_stepsBetween, Cond.code yX1_stepsBetween cX1_stepsBetween 7 (some .int), Cond.fieldLink RX1 34 "SenseNet$Net" "steps" "[I", Cond.methodLink RX1 118 yX1_quotient, Cond.static yX1_quotient, Cond.code yX1_quotient cX1_quotient 2 (some .int), Cond.methodLink RX1 98 yX1_countOfAll, Cond.instanceMethod yX1_countOfAll, Cond.selects RX1 yX1_countOfAll yX1_countOfAll, Cond.code yX1_countOfAll cX1_countOfAll 4 (some .int), Cond.fieldLink RX1 22 "SenseNet$Net" "counts" "[I", Cond.methodLink RX3 192 yX0_findBest, Cond.instanceMethod yX0_findBest, Cond.selects RX0 yX0_findBest yX0_findBest]
def wsX3_bestWorth_r5 : List Cond := [Cond.code yX0_findBest cX0_findBest 1 (some .int), Cond.fieldLink RX0 15 "SenseNet$Chooser" "best" "I", Cond.methodLink RX0 62 yX0_seek, Cond.static yX0_seek, Cond.code yX0_seek cX0_seek 6 none, Cond.fieldLink RX0 31 "SenseNet$Chooser" "picks" "[I", Cond.methodLink RX0 88 yX0_keep, Cond.instanceMethod yX0_keep, Cond.selects RX0 yX0_keep yX0_keep, Cond.code yX0_keep cX0_keep 3 none, Cond.fieldLink RX0 34 "SenseNet$Chooser" "bestPicks" "[I", Cond.methodLink RX0 92 yX0_gain, Cond.instanceMethod yX0_gain, Cond.selects RX0 yX0_gain yX0_gain, Cond.code yX0_gain cX0_gain 5 (some .int)]
def wsX3_bestWorth : List Cond := .code yX3_bestWorth cX3_bestWorth 2 (some .int) :: ((wsX3_bestWorth_r1 ++ (wsX3_bestWorth_r2 ++ (wsX3_bestWorth_r3 ++ (wsX3_bestWorth_r4 ++ wsX3_bestWorth_r5)))) ++ wsX30 ++ wsX00 ++ wsX20 ++ wsX10 ++ (vx_atS RX3 93 "java/lang/IllegalArgumentException" ["java/lang/RuntimeException", "java/lang/Exception"]).filter goodWord)
def wsX3_greatestWorth_r1 : List Cond := [Cond.fieldLink RX3 26 "SenseNet" "chooser" "LSenseNet$Chooser;", Cond.fieldLink RX3 12 "SenseNet" "net" "LSenseNet$Net;", Cond.fieldLink RX3 19 "SenseNet" "words" "LSenseNet$Words;", Cond.methodLink RX3 175 yX3_needMeasure, Cond.instanceMethod yX3_needMeasure, Cond.selects RX3 yX3_needMeasure yX3_needMeasure, Cond.initialized RX3, Cond.code yX3_needMeasure cX3_needMeasure 2 none, Cond.classLink RX3 89 "java/lang/IllegalArgumentException", Cond.initialized "java/lang/IllegalArgumentException", Cond.methodLink RX3 188 yX0_prepare, Cond.instanceMethod yX0_prepare, Cond.selects RX0 yX0_prepare yX0_prepare, Cond.initialized RX0, Cond.code yX0_prepare cX0_prepare 7 none, Cond.fieldLink RX0 9 "SenseNet$Chooser" "places" "I", Cond.fieldLink RX0 37 "SenseNet$Words" "places" "I", Cond.methodLink RX0 40 Lib.Math.min.name, Cond.static Lib.Math.min.name, Cond.initialized "java/lang/Math", Cond.code Lib.Math.min.name Lib.Math.min.code 2 (some .int), Cond.fieldLink RX0 28 "SenseNet$Chooser" "hopes" "[I", Cond.methodLink RX0 46 yX0_layOut, Cond.instanceMethod yX0_layOut]
def wsX3_greatestWorth_r2 : List Cond := [Cond.selects RX0 yX0_layOut yX0_layOut, Cond.code yX0_layOut cX0_layOut 6 none, Cond.fieldLink RX0 18 "SenseNet$Chooser" "sizes" "[I", Cond.fieldLink RX0 22 "SenseNet$Chooser" "options" "[I", Cond.methodLink RX0 70 yX2_wordAt, Cond.instanceMethod yX2_wordAt, Cond.selects RX2 yX2_wordAt yX2_wordAt, Cond.initialized RX2, Cond.code yX2_wordAt cX2_wordAt 2 (some .int), Cond.fieldLink RX2 28 "SenseNet$Words" "sentence" "[I", Cond.static yX3_at, Cond.code yX3_at cX3_at 2 (some .int), Cond.methodLink RX0 74 yX2_optionCount, Cond.instanceMethod yX2_optionCount, Cond.selects RX2 yX2_optionCount yX2_optionCount, Cond.code yX2_optionCount cX2_optionCount 2 (some .int), Cond.fieldLink RX2 25 "SenseNet$Words" "locks" "[I", Cond.fieldLink RX2 22 "SenseNet$Words" "sizes" "[I", Cond.static yX3_put, Cond.code yX3_put cX3_put 3 none, Cond.methodLink RX0 77 yX2_option, Cond.instanceMethod yX2_option, Cond.selects RX2 yX2_option yX2_option, Cond.code yX2_option cX2_option 4 (some .int)]
def wsX3_greatestWorth_r3 : List Cond := [Cond.fieldLink RX2 18 "SenseNet$Words" "given" "[I", Cond.methodLink RX0 54 yX0_compare, Cond.instanceMethod yX0_compare, Cond.selects RX0 yX0_compare yX0_compare, Cond.code yX0_compare cX0_compare 11 (some .int), Cond.fieldLink RX0 25 "SenseNet$Chooser" "alike" "[I", Cond.methodLink RX0 85 Lib.Math.max.name, Cond.static Lib.Math.max.name, Cond.code Lib.Math.max.name Lib.Math.max.code 2 (some .int), Cond.methodLink RX0 80 yX1_alike, Cond.instanceMethod yX1_alike, Cond.selects RX1 yX1_alike yX1_alike, Cond.initialized RX1, Cond.code yX1_alike cX1_alike 6 (some .int), Cond.fieldLink RX1 31 "SenseNet$Net" "depths" "[I", Cond.methodLink RX1 107 Lib.Math.min.name, Cond.fieldLink RX1 15 "SenseNet$Net" "present" "I", Cond.fieldLink RX1 28 "SenseNet$Net" "masses" "[I", Cond.methodLink RX1 112 yX1_tellingCover, Cond.instanceMethod yX1_tellingCover, Cond.selects RX1 yX1_tellingCover yX1_tellingCover, Cond.code yX1_tellingCover cX1_tellingCover 6 (some .int), Cond.fieldLink RX1 25 "SenseNet$Net" "coverSets" "[I", Cond.static yX3_holds]
def wsX3_greatestWorth_r4 : List Cond := [Cond.code yX3_holds cX3_holds 2 (some .boolean), Cond.methodLink RX3 154 yX3_bit, Cond.static yX3_bit, Cond.code yX3_bit cX3_bit 1 (some .int), Cond.methodLink RX1 104 yX1_saysMore, Cond.instanceMethod yX1_saysMore, Cond.selects RX1 yX1_saysMore yX1_saysMore, Cond.code yX1_saysMore cX1_saysMore 5 (some .boolean), Cond.methodLink RX1 115 yX1_stepsBetween, Cond.instanceMethod yX1_stepsBetween, Cond.selects RX1 yX1_stepsBetween yX1_stepsBetween, Cond.code yX1_stepsBetween cX1_stepsBetween 7 (some .int), Cond.fieldLink RX1 34 "SenseNet$Net" "steps" "[I", Cond.methodLink RX1 118 yX1_quotient, Cond.static yX1_quotient, Cond.code yX1_quotient cX1_quotient 2 (some .int), Cond.methodLink RX1 98 yX1_countOfAll, Cond.instanceMethod yX1_countOfAll, Cond.selects RX1 yX1_countOfAll yX1_countOfAll, Cond.code yX1_countOfAll cX1_countOfAll 4 (some .int), Cond.fieldLink RX1 22 "SenseNet$Net" "counts" "[I", Cond.methodLink RX3 195 yX0_findGreatest, Cond.instanceMethod yX0_findGreatest, Cond.selects RX0 yX0_findGreatest yX0_findGreatest]
def wsX3_greatestWorth_r5 : List Cond := [Cond.code yX0_findGreatest cX0_findGreatest 1 (some .int), Cond.methodLink RX0 66 yX0_greatest, Cond.static yX0_greatest, Cond.code yX0_greatest cX0_greatest 7 (some .int), Cond.fieldLink RX0 31 "SenseNet$Chooser" "picks" "[I", Cond.methodLink RX0 92 yX0_gain, Cond.instanceMethod yX0_gain, Cond.selects RX0 yX0_gain yX0_gain, Cond.code yX0_gain cX0_gain 5 (some .int)]
def wsX3_greatestWorth : List Cond := .code yX3_greatestWorth cX3_greatestWorth 2 (some .int) :: ((wsX3_greatestWorth_r1 ++ (wsX3_greatestWorth_r2 ++ (wsX3_greatestWorth_r3 ++ (wsX3_greatestWorth_r4 ++ wsX3_greatestWorth_r5)))) ++ wsX30 ++ wsX00 ++ wsX20 ++ wsX10 ++ (vx_atS RX3 93 "java/lang/IllegalArgumentException" ["java/lang/RuntimeException", "java/lang/Exception"]).filter goodWord)
def wsX3_chosen_r1 : List Cond := [Cond.classLink RX3 198 "java/lang/IndexOutOfBoundsException", Cond.initialized "java/lang/IndexOutOfBoundsException", Cond.fieldLink RX3 19 "SenseNet" "words" "LSenseNet$Words;", Cond.fieldLink RX3 132 "SenseNet$Words" "places" "I", Cond.fieldLink RX3 26 "SenseNet" "chooser" "LSenseNet$Chooser;", Cond.fieldLink RX3 12 "SenseNet" "net" "LSenseNet$Net;", Cond.methodLink RX3 175 yX3_needMeasure, Cond.instanceMethod yX3_needMeasure, Cond.selects RX3 yX3_needMeasure yX3_needMeasure, Cond.initialized RX3, Cond.code yX3_needMeasure cX3_needMeasure 2 none, Cond.classLink RX3 89 "java/lang/IllegalArgumentException", Cond.initialized "java/lang/IllegalArgumentException", Cond.methodLink RX3 188 yX0_prepare, Cond.instanceMethod yX0_prepare, Cond.selects RX0 yX0_prepare yX0_prepare, Cond.initialized RX0, Cond.code yX0_prepare cX0_prepare 7 none, Cond.fieldLink RX0 9 "SenseNet$Chooser" "places" "I", Cond.fieldLink RX0 37 "SenseNet$Words" "places" "I", Cond.methodLink RX0 40 Lib.Math.min.name, Cond.static Lib.Math.min.name, Cond.initialized "java/lang/Math", Cond.code Lib.Math.min.name Lib.Math.min.code 2 (some .int)]
def wsX3_chosen_r2 : List Cond := [Cond.fieldLink RX0 28 "SenseNet$Chooser" "hopes" "[I", Cond.methodLink RX0 46 yX0_layOut, Cond.instanceMethod yX0_layOut, Cond.selects RX0 yX0_layOut yX0_layOut, Cond.code yX0_layOut cX0_layOut 6 none, Cond.fieldLink RX0 18 "SenseNet$Chooser" "sizes" "[I", Cond.fieldLink RX0 22 "SenseNet$Chooser" "options" "[I", Cond.methodLink RX0 70 yX2_wordAt, Cond.instanceMethod yX2_wordAt, Cond.selects RX2 yX2_wordAt yX2_wordAt, Cond.initialized RX2, Cond.code yX2_wordAt cX2_wordAt 2 (some .int), Cond.fieldLink RX2 28 "SenseNet$Words" "sentence" "[I", Cond.static yX3_at, Cond.code yX3_at cX3_at 2 (some .int), Cond.methodLink RX0 74 yX2_optionCount, Cond.instanceMethod yX2_optionCount, Cond.selects RX2 yX2_optionCount yX2_optionCount, Cond.code yX2_optionCount cX2_optionCount 2 (some .int), Cond.fieldLink RX2 25 "SenseNet$Words" "locks" "[I", Cond.fieldLink RX2 22 "SenseNet$Words" "sizes" "[I", Cond.static yX3_put, Cond.code yX3_put cX3_put 3 none, Cond.methodLink RX0 77 yX2_option]
def wsX3_chosen_r3 : List Cond := [Cond.instanceMethod yX2_option, Cond.selects RX2 yX2_option yX2_option, Cond.code yX2_option cX2_option 4 (some .int), Cond.fieldLink RX2 18 "SenseNet$Words" "given" "[I", Cond.methodLink RX0 54 yX0_compare, Cond.instanceMethod yX0_compare, Cond.selects RX0 yX0_compare yX0_compare, Cond.code yX0_compare cX0_compare 11 (some .int), Cond.fieldLink RX0 25 "SenseNet$Chooser" "alike" "[I", Cond.methodLink RX0 85 Lib.Math.max.name, Cond.static Lib.Math.max.name, Cond.code Lib.Math.max.name Lib.Math.max.code 2 (some .int), Cond.methodLink RX0 80 yX1_alike, Cond.instanceMethod yX1_alike, Cond.selects RX1 yX1_alike yX1_alike, Cond.initialized RX1, Cond.code yX1_alike cX1_alike 6 (some .int), Cond.fieldLink RX1 31 "SenseNet$Net" "depths" "[I", Cond.methodLink RX1 107 Lib.Math.min.name, Cond.fieldLink RX1 15 "SenseNet$Net" "present" "I", Cond.fieldLink RX1 28 "SenseNet$Net" "masses" "[I", Cond.methodLink RX1 112 yX1_tellingCover, Cond.instanceMethod yX1_tellingCover, Cond.selects RX1 yX1_tellingCover yX1_tellingCover]
def wsX3_chosen_r4 : List Cond := [Cond.code yX1_tellingCover cX1_tellingCover 6 (some .int), Cond.fieldLink RX1 25 "SenseNet$Net" "coverSets" "[I", Cond.static yX3_holds, Cond.code yX3_holds cX3_holds 2 (some .boolean), Cond.methodLink RX3 154 yX3_bit, Cond.static yX3_bit, Cond.code yX3_bit cX3_bit 1 (some .int), Cond.methodLink RX1 104 yX1_saysMore, Cond.instanceMethod yX1_saysMore, Cond.selects RX1 yX1_saysMore yX1_saysMore, Cond.code yX1_saysMore cX1_saysMore 5 (some .boolean), Cond.methodLink RX1 115 yX1_stepsBetween, Cond.instanceMethod yX1_stepsBetween, Cond.selects RX1 yX1_stepsBetween yX1_stepsBetween, Cond.code yX1_stepsBetween cX1_stepsBetween 7 (some .int), Cond.fieldLink RX1 34 "SenseNet$Net" "steps" "[I", Cond.methodLink RX1 118 yX1_quotient, Cond.static yX1_quotient, Cond.code yX1_quotient cX1_quotient 2 (some .int), Cond.methodLink RX1 98 yX1_countOfAll, Cond.instanceMethod yX1_countOfAll, Cond.selects RX1 yX1_countOfAll yX1_countOfAll, Cond.code yX1_countOfAll cX1_countOfAll 4 (some .int), Cond.fieldLink RX1 22 "SenseNet$Net" "counts" "[I"]
def wsX3_chosen_r5 : List Cond := [Cond.methodLink RX3 192 yX0_findBest, Cond.instanceMethod yX0_findBest, Cond.selects RX0 yX0_findBest yX0_findBest, Cond.code yX0_findBest cX0_findBest 1 (some .int), Cond.fieldLink RX0 15 "SenseNet$Chooser" "best" "I", Cond.methodLink RX0 62 yX0_seek, Cond.static yX0_seek, Cond.code yX0_seek cX0_seek 6 none, Cond.fieldLink RX0 31 "SenseNet$Chooser" "picks" "[I", Cond.methodLink RX0 88 yX0_keep, Cond.instanceMethod yX0_keep, Cond.selects RX0 yX0_keep yX0_keep, Cond.code yX0_keep cX0_keep 3 none, Cond.fieldLink RX0 34 "SenseNet$Chooser" "bestPicks" "[I", Cond.methodLink RX0 92 yX0_gain, Cond.instanceMethod yX0_gain, Cond.selects RX0 yX0_gain yX0_gain, Cond.code yX0_gain cX0_gain 5 (some .int), Cond.methodLink RX3 203 yX0_bestSense, Cond.instanceMethod yX0_bestSense, Cond.selects RX0 yX0_bestSense yX0_bestSense, Cond.code yX0_bestSense cX0_bestSense 2 (some .int)]
def wsX3_chosen : List Cond := .code yX3_chosen cX3_chosen 3 (some .int) :: ((wsX3_chosen_r1 ++ (wsX3_chosen_r2 ++ (wsX3_chosen_r3 ++ (wsX3_chosen_r4 ++ wsX3_chosen_r5)))) ++ wsX30 ++ wsX20 ++ wsX00 ++ wsX10 ++ (vx_atS RX3 202 "java/lang/IndexOutOfBoundsException" ["java/lang/RuntimeException", "java/lang/Exception"]).filter goodWord ++ (vx_atS RX3 93 "java/lang/IllegalArgumentException" ["java/lang/RuntimeException", "java/lang/Exception"]).filter goodWord)
def wsJ9_max_7cf53 : List Cond := .code yJ9_max_7cf53 cJ9_max_7cf53 2 (some .int) :: ([])
def wsJ9_min_7cf53 : List Cond := .code yJ9_min_7cf53 cJ9_min_7cf53 2 (some .int) :: ([])
def wsL_cell : List Cond := .code yL_cell cL_cell 2 (some .int) :: ([])
def wsL_low : List Cond := .code yL_low cL_low 2 (some .int) :: ([.constant RL 7 (2147483647)])
def wsL_addSense_r1 : List Cond := [Cond.classLink RL 14 "java/lang/IllegalStateException", Cond.constant RL 16 (-99999), Cond.methodLink RL 8 yX3_addSense, Cond.instanceMethod yX3_addSense, Cond.selects RX3 yX3_addSense yX3_addSense, Cond.initialized RX3, Cond.code yX3_addSense cX3_addSense 1 (some .int), Cond.classLink RX3 34 "java/lang/IllegalStateException", Cond.initialized "java/lang/IllegalStateException", Cond.fieldLink RX3 12 "SenseNet" "net" "LSenseNet$Net;", Cond.fieldLink RX3 30 "SenseNet$Net" "added" "I", Cond.methodLink RX3 41 yX1_addOne, Cond.instanceMethod yX1_addOne, Cond.selects RX1 yX1_addOne yX1_addOne, Cond.initialized RX1, Cond.code yX1_addOne cX1_addOne 2 (some .int), Cond.fieldLink RX1 9 "SenseNet$Net" "added" "I", Cond.fieldLink RX1 15 "SenseNet$Net" "present" "I", Cond.static yX3_bit, Cond.code yX3_bit cX3_bit 1 (some .int), Cond.methodLink RX1 57 yX1_settle, Cond.instanceMethod yX1_settle, Cond.selects RX1 yX1_settle yX1_settle, Cond.code yX1_settle cX1_settle 2 none]
def wsL_addSense_r2 : List Cond := [Cond.methodLink RX1 77 yX1_climb, Cond.instanceMethod yX1_climb, Cond.selects RX1 yX1_climb yX1_climb, Cond.code yX1_climb cX1_climb 6 none, Cond.fieldLink RX1 25 "SenseNet$Net" "coverSets" "[I", Cond.fieldLink RX1 31 "SenseNet$Net" "depths" "[I", Cond.methodLink RX1 81 yX1_exists, Cond.instanceMethod yX1_exists, Cond.selects RX1 yX1_exists yX1_exists, Cond.code yX1_exists cX1_exists 2 (some .boolean), Cond.static yX3_holds, Cond.code yX3_holds cX3_holds 2 (some .boolean), Cond.methodLink RX3 154 yX3_bit, Cond.methodLink RX1 85 yX1_noteSteps, Cond.instanceMethod yX1_noteSteps, Cond.selects RX1 yX1_noteSteps yX1_noteSteps, Cond.code yX1_noteSteps cX1_noteSteps 5 none, Cond.fieldLink RX1 34 "SenseNet$Net" "steps" "[I", Cond.static yX3_put, Cond.code yX3_put cX3_put 3 none, Cond.methodLink RX1 89 yX1_hasTop, Cond.instanceMethod yX1_hasTop, Cond.selects RX1 yX1_hasTop yX1_hasTop, Cond.code yX1_hasTop cX1_hasTop 3 (some .boolean)]
def wsL_addSense_r3 : List Cond := [Cond.fieldLink RX1 18 "SenseNet$Net" "parentSets" "[I", Cond.static yX3_at, Cond.code yX3_at cX3_at 2 (some .int), Cond.methodLink RX1 92 yX1_parentsOfAll, Cond.instanceMethod yX1_parentsOfAll, Cond.selects RX1 yX1_parentsOfAll yX1_parentsOfAll, Cond.code yX1_parentsOfAll cX1_parentsOfAll 4 (some .int), Cond.methodLink RX1 74 yX1_weigh, Cond.instanceMethod yX1_weigh, Cond.selects RX1 yX1_weigh yX1_weigh, Cond.code yX1_weigh cX1_weigh 2 none, Cond.fieldLink RX1 28 "SenseNet$Net" "masses" "[I", Cond.methodLink RX1 95 yX1_coveredSet, Cond.instanceMethod yX1_coveredSet, Cond.selects RX1 yX1_coveredSet yX1_coveredSet, Cond.code yX1_coveredSet cX1_coveredSet 4 (some .int), Cond.methodLink RX1 98 yX1_countOfAll, Cond.instanceMethod yX1_countOfAll, Cond.selects RX1 yX1_countOfAll yX1_countOfAll, Cond.code yX1_countOfAll cX1_countOfAll 4 (some .int), Cond.fieldLink RX1 22 "SenseNet$Net" "counts" "[I"]
def wsL_addSense : List Cond := .codeWith yL_addSense cL_addSense 2 (some .int) [(0, 4, 5, 14)] :: ((wsL_addSense_r1 ++ (wsL_addSense_r2 ++ wsL_addSense_r3)) ++ wsX30 ++ wsX10 ++ (vx_atS RX3 38 "java/lang/IllegalStateException" ["java/lang/RuntimeException", "java/lang/Exception"]).filter goodWord)
def wsL_link_r1 : List Cond := [Cond.classLink RL 21 "java/lang/IndexOutOfBoundsException", Cond.classLink RL 14 "java/lang/IllegalStateException", Cond.constant RL 16 (-99999), Cond.methodLink RL 17 yX3_link, Cond.instanceMethod yX3_link, Cond.selects RX3 yX3_link yX3_link, Cond.initialized RX3, Cond.code yX3_link cX3_link 3 (some .int), Cond.classLink RX3 34 "java/lang/IllegalStateException", Cond.initialized "java/lang/IllegalStateException", Cond.fieldLink RX3 12 "SenseNet" "net" "LSenseNet$Net;", Cond.methodLink RX3 45 yX3_needSense, Cond.instanceMethod yX3_needSense, Cond.selects RX3 yX3_needSense yX3_needSense, Cond.code yX3_needSense cX3_needSense 2 none, Cond.classLink RX3 198 "java/lang/IndexOutOfBoundsException", Cond.initialized "java/lang/IndexOutOfBoundsException", Cond.methodLink RX3 206 yX1_exists, Cond.instanceMethod yX1_exists, Cond.selects RX1 yX1_exists yX1_exists, Cond.initialized RX1, Cond.code yX1_exists cX1_exists 2 (some .boolean), Cond.fieldLink RX1 15 "SenseNet$Net" "present" "I", Cond.static yX3_holds]
def wsL_link_r2 : List Cond := [Cond.code yX3_holds cX3_holds 2 (some .boolean), Cond.methodLink RX3 154 yX3_bit, Cond.static yX3_bit, Cond.code yX3_bit cX3_bit 1 (some .int), Cond.methodLink RX3 49 yX1_isParent, Cond.instanceMethod yX1_isParent, Cond.selects RX1 yX1_isParent yX1_isParent, Cond.code yX1_isParent cX1_isParent 3 (some .boolean), Cond.fieldLink RX1 18 "SenseNet$Net" "parentSets" "[I", Cond.static yX3_at, Cond.code yX3_at cX3_at 2 (some .int), Cond.methodLink RX3 55 yX1_parentCount, Cond.instanceMethod yX1_parentCount, Cond.selects RX1 yX1_parentCount yX1_parentCount, Cond.code yX1_parentCount cX1_parentCount 2 (some .int), Cond.methodLink RX1 48 yJ6_bitCount_0f7a4, Cond.static yJ6_bitCount_0f7a4, Cond.initialized RJ6, Cond.code yJ6_bitCount_0f7a4 cJ6_bitCount_0f7a4 1 (some .int), Cond.constant RJ6 265 (1431655765), Cond.constant RJ6 266 (858993459), Cond.constant RJ6 267 (252645135), Cond.methodLink RX3 61 yX1_covers, Cond.instanceMethod yX1_covers]
def wsL_link_r3 : List Cond := [Cond.selects RX1 yX1_covers yX1_covers, Cond.code yX1_covers cX1_covers 3 (some .boolean), Cond.fieldLink RX1 25 "SenseNet$Net" "coverSets" "[I", Cond.methodLink RX3 66 yX1_putBelow, Cond.instanceMethod yX1_putBelow, Cond.selects RX1 yX1_putBelow yX1_putBelow, Cond.code yX1_putBelow cX1_putBelow 3 (some .int), Cond.static yX3_put, Cond.code yX3_put cX3_put 3 none, Cond.methodLink RX1 57 yX1_settle, Cond.instanceMethod yX1_settle, Cond.selects RX1 yX1_settle yX1_settle, Cond.code yX1_settle cX1_settle 2 none, Cond.methodLink RX1 77 yX1_climb, Cond.instanceMethod yX1_climb, Cond.selects RX1 yX1_climb yX1_climb, Cond.code yX1_climb cX1_climb 6 none, Cond.fieldLink RX1 31 "SenseNet$Net" "depths" "[I", Cond.methodLink RX1 81 yX1_exists, Cond.methodLink RX1 85 yX1_noteSteps, Cond.instanceMethod yX1_noteSteps, Cond.selects RX1 yX1_noteSteps yX1_noteSteps, Cond.code yX1_noteSteps cX1_noteSteps 5 none, Cond.fieldLink RX1 34 "SenseNet$Net" "steps" "[I"]
def wsL_link_r4 : List Cond := [Cond.methodLink RX1 89 yX1_hasTop, Cond.instanceMethod yX1_hasTop, Cond.selects RX1 yX1_hasTop yX1_hasTop, Cond.code yX1_hasTop cX1_hasTop 3 (some .boolean), Cond.methodLink RX1 92 yX1_parentsOfAll, Cond.instanceMethod yX1_parentsOfAll, Cond.selects RX1 yX1_parentsOfAll yX1_parentsOfAll, Cond.code yX1_parentsOfAll cX1_parentsOfAll 4 (some .int), Cond.methodLink RX1 74 yX1_weigh, Cond.instanceMethod yX1_weigh, Cond.selects RX1 yX1_weigh yX1_weigh, Cond.code yX1_weigh cX1_weigh 2 none, Cond.fieldLink RX1 28 "SenseNet$Net" "masses" "[I", Cond.methodLink RX1 95 yX1_coveredSet, Cond.instanceMethod yX1_coveredSet, Cond.selects RX1 yX1_coveredSet yX1_coveredSet, Cond.code yX1_coveredSet cX1_coveredSet 4 (some .int), Cond.methodLink RX1 98 yX1_countOfAll, Cond.instanceMethod yX1_countOfAll, Cond.selects RX1 yX1_countOfAll yX1_countOfAll, Cond.code yX1_countOfAll cX1_countOfAll 4 (some .int), Cond.fieldLink RX1 22 "SenseNet$Net" "counts" "[I", Cond.methodLink RX1 64 yX1_parentCount]
def wsL_link : List Cond := .codeWith yL_link cL_link 4 (some .int) [(0, 6, 7, 21), (0, 6, 11, 14)] :: ((wsL_link_r1 ++ (wsL_link_r2 ++ (wsL_link_r3 ++ wsL_link_r4))) ++ wsX30 ++ wsX10 ++ (vx_atS RX3 38 "java/lang/IllegalStateException" ["java/lang/RuntimeException", "java/lang/Exception"]).filter goodWord ++ (vx_atS RX3 202 "java/lang/IndexOutOfBoundsException" ["java/lang/RuntimeException", "java/lang/Exception"]).filter goodWord)
def wsL_unlink_r1 : List Cond := [Cond.classLink RL 21 "java/lang/IndexOutOfBoundsException", Cond.classLink RL 14 "java/lang/IllegalStateException", Cond.constant RL 16 (-99999), Cond.methodLink RL 23 yX3_unlink, Cond.instanceMethod yX3_unlink, Cond.selects RX3 yX3_unlink yX3_unlink, Cond.initialized RX3, Cond.code yX3_unlink cX3_unlink 3 (some .int), Cond.classLink RX3 34 "java/lang/IllegalStateException", Cond.initialized "java/lang/IllegalStateException", Cond.fieldLink RX3 12 "SenseNet" "net" "LSenseNet$Net;", Cond.methodLink RX3 45 yX3_needSense, Cond.instanceMethod yX3_needSense, Cond.selects RX3 yX3_needSense yX3_needSense, Cond.code yX3_needSense cX3_needSense 2 none, Cond.classLink RX3 198 "java/lang/IndexOutOfBoundsException", Cond.initialized "java/lang/IndexOutOfBoundsException", Cond.methodLink RX3 206 yX1_exists, Cond.instanceMethod yX1_exists, Cond.selects RX1 yX1_exists yX1_exists, Cond.initialized RX1, Cond.code yX1_exists cX1_exists 2 (some .boolean), Cond.fieldLink RX1 15 "SenseNet$Net" "present" "I", Cond.static yX3_holds]
def wsL_unlink_r2 : List Cond := [Cond.code yX3_holds cX3_holds 2 (some .boolean), Cond.methodLink RX3 154 yX3_bit, Cond.static yX3_bit, Cond.code yX3_bit cX3_bit 1 (some .int), Cond.methodLink RX3 49 yX1_isParent, Cond.instanceMethod yX1_isParent, Cond.selects RX1 yX1_isParent yX1_isParent, Cond.code yX1_isParent cX1_isParent 3 (some .boolean), Cond.fieldLink RX1 18 "SenseNet$Net" "parentSets" "[I", Cond.static yX3_at, Cond.code yX3_at cX3_at 2 (some .int), Cond.methodLink RX3 72 yX1_cut, Cond.instanceMethod yX1_cut, Cond.selects RX1 yX1_cut yX1_cut, Cond.code yX1_cut cX1_cut 3 (some .int), Cond.static yX3_put, Cond.code yX3_put cX3_put 3 none, Cond.methodLink RX1 57 yX1_settle, Cond.instanceMethod yX1_settle, Cond.selects RX1 yX1_settle yX1_settle, Cond.code yX1_settle cX1_settle 2 none, Cond.methodLink RX1 77 yX1_climb, Cond.instanceMethod yX1_climb, Cond.selects RX1 yX1_climb yX1_climb]
def wsL_unlink_r3 : List Cond := [Cond.code yX1_climb cX1_climb 6 none, Cond.fieldLink RX1 25 "SenseNet$Net" "coverSets" "[I", Cond.fieldLink RX1 31 "SenseNet$Net" "depths" "[I", Cond.methodLink RX1 81 yX1_exists, Cond.methodLink RX1 85 yX1_noteSteps, Cond.instanceMethod yX1_noteSteps, Cond.selects RX1 yX1_noteSteps yX1_noteSteps, Cond.code yX1_noteSteps cX1_noteSteps 5 none, Cond.fieldLink RX1 34 "SenseNet$Net" "steps" "[I", Cond.methodLink RX1 89 yX1_hasTop, Cond.instanceMethod yX1_hasTop, Cond.selects RX1 yX1_hasTop yX1_hasTop, Cond.code yX1_hasTop cX1_hasTop 3 (some .boolean), Cond.methodLink RX1 92 yX1_parentsOfAll, Cond.instanceMethod yX1_parentsOfAll, Cond.selects RX1 yX1_parentsOfAll yX1_parentsOfAll, Cond.code yX1_parentsOfAll cX1_parentsOfAll 4 (some .int), Cond.methodLink RX1 74 yX1_weigh, Cond.instanceMethod yX1_weigh, Cond.selects RX1 yX1_weigh yX1_weigh, Cond.code yX1_weigh cX1_weigh 2 none, Cond.fieldLink RX1 28 "SenseNet$Net" "masses" "[I", Cond.methodLink RX1 95 yX1_coveredSet, Cond.instanceMethod yX1_coveredSet]
def wsL_unlink_r4 : List Cond := [Cond.selects RX1 yX1_coveredSet yX1_coveredSet, Cond.code yX1_coveredSet cX1_coveredSet 4 (some .int), Cond.methodLink RX1 98 yX1_countOfAll, Cond.instanceMethod yX1_countOfAll, Cond.selects RX1 yX1_countOfAll yX1_countOfAll, Cond.code yX1_countOfAll cX1_countOfAll 4 (some .int), Cond.fieldLink RX1 22 "SenseNet$Net" "counts" "[I", Cond.methodLink RX1 64 yX1_parentCount, Cond.instanceMethod yX1_parentCount, Cond.selects RX1 yX1_parentCount yX1_parentCount, Cond.code yX1_parentCount cX1_parentCount 2 (some .int), Cond.methodLink RX1 48 yJ6_bitCount_0f7a4, Cond.static yJ6_bitCount_0f7a4, Cond.initialized RJ6, Cond.code yJ6_bitCount_0f7a4 cJ6_bitCount_0f7a4 1 (some .int), Cond.constant RJ6 265 (1431655765), Cond.constant RJ6 266 (858993459), Cond.constant RJ6 267 (252645135)]
def wsL_unlink : List Cond := .codeWith yL_unlink cL_unlink 4 (some .int) [(0, 6, 7, 21), (0, 6, 11, 14)] :: ((wsL_unlink_r1 ++ (wsL_unlink_r2 ++ (wsL_unlink_r3 ++ wsL_unlink_r4))) ++ wsX30 ++ wsX10 ++ (vx_atS RX3 38 "java/lang/IllegalStateException" ["java/lang/RuntimeException", "java/lang/Exception"]).filter goodWord ++ (vx_atS RX3 202 "java/lang/IndexOutOfBoundsException" ["java/lang/RuntimeException", "java/lang/Exception"]).filter goodWord)
def wsL_remove_r1 : List Cond := [Cond.classLink RL 21 "java/lang/IndexOutOfBoundsException", Cond.classLink RL 14 "java/lang/IllegalStateException", Cond.constant RL 16 (-99999), Cond.methodLink RL 26 yX3_remove, Cond.instanceMethod yX3_remove, Cond.selects RX3 yX3_remove yX3_remove, Cond.initialized RX3, Cond.code yX3_remove cX3_remove 2 (some .int), Cond.classLink RX3 34 "java/lang/IllegalStateException", Cond.initialized "java/lang/IllegalStateException", Cond.fieldLink RX3 19 "SenseNet" "words" "LSenseNet$Words;", Cond.fieldLink RX3 12 "SenseNet" "net" "LSenseNet$Net;", Cond.methodLink RX3 45 yX3_needSense, Cond.instanceMethod yX3_needSense, Cond.selects RX3 yX3_needSense yX3_needSense, Cond.code yX3_needSense cX3_needSense 2 none, Cond.classLink RX3 198 "java/lang/IndexOutOfBoundsException", Cond.initialized "java/lang/IndexOutOfBoundsException", Cond.methodLink RX3 206 yX1_exists, Cond.instanceMethod yX1_exists, Cond.selects RX1 yX1_exists yX1_exists, Cond.initialized RX1, Cond.code yX1_exists cX1_exists 2 (some .boolean), Cond.fieldLink RX1 15 "SenseNet$Net" "present" "I"]
def wsL_remove_r2 : List Cond := [Cond.static yX3_holds, Cond.code yX3_holds cX3_holds 2 (some .boolean), Cond.methodLink RX3 154 yX3_bit, Cond.static yX3_bit, Cond.code yX3_bit cX3_bit 1 (some .int), Cond.methodLink RX3 75 yX2_anyHas, Cond.instanceMethod yX2_anyHas, Cond.selects RX2 yX2_anyHas yX2_anyHas, Cond.initialized RX2, Cond.code yX2_anyHas cX2_anyHas 3 (some .boolean), Cond.fieldLink RX2 9 "SenseNet$Words" "known" "I", Cond.methodLink RX2 39 yX2_has, Cond.instanceMethod yX2_has, Cond.selects RX2 yX2_has yX2_has, Cond.code yX2_has cX2_has 3 (some .boolean), Cond.methodLink RX2 35 yX2_rankOf, Cond.instanceMethod yX2_rankOf, Cond.selects RX2 yX2_rankOf yX2_rankOf, Cond.code yX2_rankOf cX2_rankOf 5 (some .int), Cond.fieldLink RX2 22 "SenseNet$Words" "sizes" "[I", Cond.fieldLink RX2 18 "SenseNet$Words" "given" "[I", Cond.static yX3_at, Cond.code yX3_at cX3_at 2 (some .int), Cond.methodLink RX3 81 yX1_canLose]
def wsL_remove_r3 : List Cond := [Cond.instanceMethod yX1_canLose, Cond.selects RX1 yX1_canLose yX1_canLose, Cond.code yX1_canLose cX1_canLose 3 (some .boolean), Cond.methodLink RX1 67 yX1_isParent, Cond.instanceMethod yX1_isParent, Cond.selects RX1 yX1_isParent yX1_isParent, Cond.code yX1_isParent cX1_isParent 3 (some .boolean), Cond.fieldLink RX1 18 "SenseNet$Net" "parentSets" "[I", Cond.methodLink RX1 70 yX1_parentsWithout, Cond.instanceMethod yX1_parentsWithout, Cond.selects RX1 yX1_parentsWithout yX1_parentsWithout, Cond.code yX1_parentsWithout cX1_parentsWithout 3 (some .int), Cond.methodLink RX1 48 yJ6_bitCount_0f7a4, Cond.static yJ6_bitCount_0f7a4, Cond.initialized RJ6, Cond.code yJ6_bitCount_0f7a4 cJ6_bitCount_0f7a4 1 (some .int), Cond.constant RJ6 265 (1431655765), Cond.constant RJ6 266 (858993459), Cond.constant RJ6 267 (252645135), Cond.methodLink RX3 86 yX1_lose, Cond.instanceMethod yX1_lose, Cond.selects RX1 yX1_lose yX1_lose, Cond.code yX1_lose cX1_lose 4 (some .int), Cond.fieldLink RX1 22 "SenseNet$Net" "counts" "[I"]
def wsL_remove_r4 : List Cond := [Cond.static yX3_put, Cond.code yX3_put cX3_put 3 none, Cond.methodLink RX1 57 yX1_settle, Cond.instanceMethod yX1_settle, Cond.selects RX1 yX1_settle yX1_settle, Cond.code yX1_settle cX1_settle 2 none, Cond.methodLink RX1 77 yX1_climb, Cond.instanceMethod yX1_climb, Cond.selects RX1 yX1_climb yX1_climb, Cond.code yX1_climb cX1_climb 6 none, Cond.fieldLink RX1 25 "SenseNet$Net" "coverSets" "[I", Cond.fieldLink RX1 31 "SenseNet$Net" "depths" "[I", Cond.methodLink RX1 81 yX1_exists, Cond.methodLink RX1 85 yX1_noteSteps, Cond.instanceMethod yX1_noteSteps, Cond.selects RX1 yX1_noteSteps yX1_noteSteps, Cond.code yX1_noteSteps cX1_noteSteps 5 none, Cond.fieldLink RX1 34 "SenseNet$Net" "steps" "[I", Cond.methodLink RX1 89 yX1_hasTop, Cond.instanceMethod yX1_hasTop, Cond.selects RX1 yX1_hasTop yX1_hasTop, Cond.code yX1_hasTop cX1_hasTop 3 (some .boolean), Cond.methodLink RX1 92 yX1_parentsOfAll, Cond.instanceMethod yX1_parentsOfAll]
def wsL_remove_r5 : List Cond := [Cond.selects RX1 yX1_parentsOfAll yX1_parentsOfAll, Cond.code yX1_parentsOfAll cX1_parentsOfAll 4 (some .int), Cond.methodLink RX1 74 yX1_weigh, Cond.instanceMethod yX1_weigh, Cond.selects RX1 yX1_weigh yX1_weigh, Cond.code yX1_weigh cX1_weigh 2 none, Cond.fieldLink RX1 28 "SenseNet$Net" "masses" "[I", Cond.methodLink RX1 95 yX1_coveredSet, Cond.instanceMethod yX1_coveredSet, Cond.selects RX1 yX1_coveredSet yX1_coveredSet, Cond.code yX1_coveredSet cX1_coveredSet 4 (some .int), Cond.methodLink RX1 98 yX1_countOfAll, Cond.instanceMethod yX1_countOfAll, Cond.selects RX1 yX1_countOfAll yX1_countOfAll, Cond.code yX1_countOfAll cX1_countOfAll 4 (some .int)]
def wsL_remove : List Cond := .codeWith yL_remove cL_remove 3 (some .int) [(0, 5, 6, 21), (0, 5, 10, 14)] :: ((wsL_remove_r1 ++ (wsL_remove_r2 ++ (wsL_remove_r3 ++ (wsL_remove_r4 ++ wsL_remove_r5)))) ++ wsX30 ++ wsX10 ++ wsX20 ++ (vx_atS RX3 38 "java/lang/IllegalStateException" ["java/lang/RuntimeException", "java/lang/Exception"]).filter goodWord ++ (vx_atS RX3 202 "java/lang/IndexOutOfBoundsException" ["java/lang/RuntimeException", "java/lang/Exception"]).filter goodWord)
def wsL_setCount_r1 : List Cond := [Cond.classLink RL 21 "java/lang/IndexOutOfBoundsException", Cond.classLink RL 33 "java/lang/IllegalArgumentException", Cond.constant RL 16 (-99999), Cond.methodLink RL 30 yX3_setCount, Cond.instanceMethod yX3_setCount, Cond.selects RX3 yX3_setCount yX3_setCount, Cond.initialized RX3, Cond.code yX3_setCount cX3_setCount 3 (some .int), Cond.classLink RX3 89 "java/lang/IllegalArgumentException", Cond.initialized "java/lang/IllegalArgumentException", Cond.fieldLink RX3 12 "SenseNet" "net" "LSenseNet$Net;", Cond.methodLink RX3 45 yX3_needSense, Cond.instanceMethod yX3_needSense, Cond.selects RX3 yX3_needSense yX3_needSense, Cond.code yX3_needSense cX3_needSense 2 none, Cond.classLink RX3 198 "java/lang/IndexOutOfBoundsException", Cond.initialized "java/lang/IndexOutOfBoundsException", Cond.methodLink RX3 206 yX1_exists, Cond.instanceMethod yX1_exists, Cond.selects RX1 yX1_exists yX1_exists, Cond.initialized RX1, Cond.code yX1_exists cX1_exists 2 (some .boolean), Cond.fieldLink RX1 15 "SenseNet$Net" "present" "I", Cond.static yX3_holds]
def wsL_setCount_r2 : List Cond := [Cond.code yX3_holds cX3_holds 2 (some .boolean), Cond.methodLink RX3 154 yX3_bit, Cond.static yX3_bit, Cond.code yX3_bit cX3_bit 1 (some .int), Cond.methodLink RX3 94 yX1_recount, Cond.instanceMethod yX1_recount, Cond.selects RX1 yX1_recount yX1_recount, Cond.code yX1_recount cX1_recount 4 (some .int), Cond.fieldLink RX1 22 "SenseNet$Net" "counts" "[I", Cond.static yX3_at, Cond.code yX3_at cX3_at 2 (some .int), Cond.static yX3_put, Cond.code yX3_put cX3_put 3 none, Cond.methodLink RX1 74 yX1_weigh, Cond.instanceMethod yX1_weigh, Cond.selects RX1 yX1_weigh yX1_weigh, Cond.code yX1_weigh cX1_weigh 2 none, Cond.fieldLink RX1 28 "SenseNet$Net" "masses" "[I", Cond.methodLink RX1 95 yX1_coveredSet, Cond.instanceMethod yX1_coveredSet, Cond.selects RX1 yX1_coveredSet yX1_coveredSet, Cond.code yX1_coveredSet cX1_coveredSet 4 (some .int), Cond.fieldLink RX1 25 "SenseNet$Net" "coverSets" "[I", Cond.methodLink RX1 98 yX1_countOfAll]
def wsL_setCount_r3 : List Cond := [Cond.instanceMethod yX1_countOfAll, Cond.selects RX1 yX1_countOfAll yX1_countOfAll, Cond.code yX1_countOfAll cX1_countOfAll 4 (some .int)]
def wsL_setCount : List Cond := .codeWith yL_setCount cL_setCount 4 (some .int) [(0, 6, 7, 21), (0, 6, 11, 33)] :: ((wsL_setCount_r1 ++ (wsL_setCount_r2 ++ wsL_setCount_r3)) ++ wsX30 ++ wsX10 ++ (vx_atS RX3 93 "java/lang/IllegalArgumentException" ["java/lang/RuntimeException", "java/lang/Exception"]).filter goodWord ++ (vx_atS RX3 202 "java/lang/IndexOutOfBoundsException" ["java/lang/RuntimeException", "java/lang/Exception"]).filter goodWord)
def wsL_addWord : List Cond := .codeWith yL_addWord cL_addWord 2 (some .int) [(0, 4, 5, 14)] :: ([.classLink RL 14 "java/lang/IllegalStateException", .constant RL 16 (-99999), .methodLink RL 35 yX3_addWord, .instanceMethod yX3_addWord, .selects RX3 yX3_addWord yX3_addWord, .initialized RX3, .code yX3_addWord cX3_addWord 1 (some .int), .classLink RX3 34 "java/lang/IllegalStateException", .initialized "java/lang/IllegalStateException", .fieldLink RX3 19 "SenseNet" "words" "LSenseNet$Words;", .fieldLink RX3 97 "SenseNet$Words" "known" "I", .methodLink RX3 102 yX2_addOne, .instanceMethod yX2_addOne, .selects RX2 yX2_addOne yX2_addOne, .initialized RX2, .code yX2_addOne cX2_addOne 2 (some .int), .fieldLink RX2 9 "SenseNet$Words" "known" "I", .fieldLink RX2 22 "SenseNet$Words" "sizes" "[I", .fieldLink RX2 25 "SenseNet$Words" "locks" "[I", .static yX3_put, .code yX3_put cX3_put 3 none] ++ wsX30 ++ wsX20 ++ (vx_atS RX3 38 "java/lang/IllegalStateException" ["java/lang/RuntimeException", "java/lang/Exception"]).filter goodWord)
def wsL_give_r1 : List Cond := [Cond.classLink RL 21 "java/lang/IndexOutOfBoundsException", Cond.classLink RL 14 "java/lang/IllegalStateException", Cond.constant RL 16 (-99999), Cond.methodLink RL 38 yX3_give, Cond.instanceMethod yX3_give, Cond.selects RX3 yX3_give yX3_give, Cond.initialized RX3, Cond.code yX3_give cX3_give 3 (some .int), Cond.classLink RX3 34 "java/lang/IllegalStateException", Cond.initialized "java/lang/IllegalStateException", Cond.fieldLink RX3 19 "SenseNet" "words" "LSenseNet$Words;", Cond.methodLink RX3 103 yX3_needWord, Cond.instanceMethod yX3_needWord, Cond.selects RX3 yX3_needWord yX3_needWord, Cond.code yX3_needWord cX3_needWord 2 none, Cond.classLink RX3 198 "java/lang/IndexOutOfBoundsException", Cond.initialized "java/lang/IndexOutOfBoundsException", Cond.methodLink RX3 211 yX2_exists, Cond.instanceMethod yX2_exists, Cond.selects RX2 yX2_exists yX2_exists, Cond.initialized RX2, Cond.code yX2_exists cX2_exists 2 (some .boolean), Cond.fieldLink RX2 9 "SenseNet$Words" "known" "I", Cond.methodLink RX3 45 yX3_needSense]
def wsL_give_r2 : List Cond := [Cond.instanceMethod yX3_needSense, Cond.selects RX3 yX3_needSense yX3_needSense, Cond.code yX3_needSense cX3_needSense 2 none, Cond.fieldLink RX3 12 "SenseNet" "net" "LSenseNet$Net;", Cond.methodLink RX3 206 yX1_exists, Cond.instanceMethod yX1_exists, Cond.selects RX1 yX1_exists yX1_exists, Cond.initialized RX1, Cond.code yX1_exists cX1_exists 2 (some .boolean), Cond.fieldLink RX1 15 "SenseNet$Net" "present" "I", Cond.static yX3_holds, Cond.code yX3_holds cX3_holds 2 (some .boolean), Cond.methodLink RX3 154 yX3_bit, Cond.static yX3_bit, Cond.code yX3_bit cX3_bit 1 (some .int), Cond.methodLink RX3 106 yX2_has, Cond.instanceMethod yX2_has, Cond.selects RX2 yX2_has yX2_has, Cond.code yX2_has cX2_has 3 (some .boolean), Cond.methodLink RX2 35 yX2_rankOf, Cond.instanceMethod yX2_rankOf, Cond.selects RX2 yX2_rankOf yX2_rankOf, Cond.code yX2_rankOf cX2_rankOf 5 (some .int), Cond.fieldLink RX2 22 "SenseNet$Words" "sizes" "[I"]
def wsL_give_r3 : List Cond := [Cond.fieldLink RX2 18 "SenseNet$Words" "given" "[I", Cond.static yX3_at, Cond.code yX3_at cX3_at 2 (some .int), Cond.methodLink RX3 111 yX2_size, Cond.instanceMethod yX2_size, Cond.selects RX2 yX2_size yX2_size, Cond.code yX2_size cX2_size 2 (some .int), Cond.methodLink RX3 116 yX2_append, Cond.instanceMethod yX2_append, Cond.selects RX2 yX2_append yX2_append, Cond.code yX2_append cX2_append 4 (some .int), Cond.static yX3_put, Cond.code yX3_put cX3_put 3 none]
def wsL_give : List Cond := .codeWith yL_give cL_give 4 (some .int) [(0, 6, 7, 21), (0, 6, 11, 14)] :: ((wsL_give_r1 ++ (wsL_give_r2 ++ wsL_give_r3)) ++ wsX30 ++ wsX20 ++ wsX10 ++ (vx_atS RX3 38 "java/lang/IllegalStateException" ["java/lang/RuntimeException", "java/lang/Exception"]).filter goodWord ++ (vx_atS RX3 202 "java/lang/IndexOutOfBoundsException" ["java/lang/RuntimeException", "java/lang/Exception"]).filter goodWord)
def wsL_take_r1 : List Cond := [Cond.classLink RL 21 "java/lang/IndexOutOfBoundsException", Cond.classLink RL 14 "java/lang/IllegalStateException", Cond.constant RL 16 (-99999), Cond.methodLink RL 41 yX3_take, Cond.instanceMethod yX3_take, Cond.selects RX3 yX3_take yX3_take, Cond.initialized RX3, Cond.code yX3_take cX3_take 3 (some .int), Cond.classLink RX3 34 "java/lang/IllegalStateException", Cond.initialized "java/lang/IllegalStateException", Cond.fieldLink RX3 19 "SenseNet" "words" "LSenseNet$Words;", Cond.methodLink RX3 103 yX3_needWord, Cond.instanceMethod yX3_needWord, Cond.selects RX3 yX3_needWord yX3_needWord, Cond.code yX3_needWord cX3_needWord 2 none, Cond.classLink RX3 198 "java/lang/IndexOutOfBoundsException", Cond.initialized "java/lang/IndexOutOfBoundsException", Cond.methodLink RX3 211 yX2_exists, Cond.instanceMethod yX2_exists, Cond.selects RX2 yX2_exists yX2_exists, Cond.initialized RX2, Cond.code yX2_exists cX2_exists 2 (some .boolean), Cond.fieldLink RX2 9 "SenseNet$Words" "known" "I", Cond.methodLink RX3 45 yX3_needSense]
def wsL_take_r2 : List Cond := [Cond.instanceMethod yX3_needSense, Cond.selects RX3 yX3_needSense yX3_needSense, Cond.code yX3_needSense cX3_needSense 2 none, Cond.fieldLink RX3 12 "SenseNet" "net" "LSenseNet$Net;", Cond.methodLink RX3 206 yX1_exists, Cond.instanceMethod yX1_exists, Cond.selects RX1 yX1_exists yX1_exists, Cond.initialized RX1, Cond.code yX1_exists cX1_exists 2 (some .boolean), Cond.fieldLink RX1 15 "SenseNet$Net" "present" "I", Cond.static yX3_holds, Cond.code yX3_holds cX3_holds 2 (some .boolean), Cond.methodLink RX3 154 yX3_bit, Cond.static yX3_bit, Cond.code yX3_bit cX3_bit 1 (some .int), Cond.methodLink RX3 106 yX2_has, Cond.instanceMethod yX2_has, Cond.selects RX2 yX2_has yX2_has, Cond.code yX2_has cX2_has 3 (some .boolean), Cond.methodLink RX2 35 yX2_rankOf, Cond.instanceMethod yX2_rankOf, Cond.selects RX2 yX2_rankOf yX2_rankOf, Cond.code yX2_rankOf cX2_rankOf 5 (some .int), Cond.fieldLink RX2 22 "SenseNet$Words" "sizes" "[I"]
def wsL_take_r3 : List Cond := [Cond.fieldLink RX2 18 "SenseNet$Words" "given" "[I", Cond.static yX3_at, Cond.code yX3_at cX3_at 2 (some .int), Cond.methodLink RX3 111 yX2_size, Cond.instanceMethod yX2_size, Cond.selects RX2 yX2_size yX2_size, Cond.code yX2_size cX2_size 2 (some .int), Cond.methodLink RX3 121 yX2_isSaid, Cond.instanceMethod yX2_isSaid, Cond.selects RX2 yX2_isSaid yX2_isSaid, Cond.code yX2_isSaid cX2_isSaid 3 (some .boolean), Cond.fieldLink RX2 15 "SenseNet$Words" "places" "I", Cond.fieldLink RX2 28 "SenseNet$Words" "sentence" "[I", Cond.methodLink RX3 126 yX2_drop, Cond.instanceMethod yX2_drop, Cond.selects RX2 yX2_drop yX2_drop, Cond.code yX2_drop cX2_drop 6 (some .int), Cond.fieldLink RX2 25 "SenseNet$Words" "locks" "[I", Cond.static yX3_put, Cond.code yX3_put cX3_put 3 none]
def wsL_take : List Cond := .codeWith yL_take cL_take 4 (some .int) [(0, 6, 7, 21), (0, 6, 11, 14)] :: ((wsL_take_r1 ++ (wsL_take_r2 ++ wsL_take_r3)) ++ wsX30 ++ wsX20 ++ wsX10 ++ (vx_atS RX3 38 "java/lang/IllegalStateException" ["java/lang/RuntimeException", "java/lang/Exception"]).filter goodWord ++ (vx_atS RX3 202 "java/lang/IndexOutOfBoundsException" ["java/lang/RuntimeException", "java/lang/Exception"]).filter goodWord)
def wsL_lock_r1 : List Cond := [Cond.classLink RL 21 "java/lang/IndexOutOfBoundsException", Cond.classLink RL 14 "java/lang/IllegalStateException", Cond.constant RL 16 (-99999), Cond.methodLink RL 44 yX3_lock, Cond.instanceMethod yX3_lock, Cond.selects RX3 yX3_lock yX3_lock, Cond.initialized RX3, Cond.code yX3_lock cX3_lock 3 (some .int), Cond.classLink RX3 34 "java/lang/IllegalStateException", Cond.initialized "java/lang/IllegalStateException", Cond.fieldLink RX3 19 "SenseNet" "words" "LSenseNet$Words;", Cond.methodLink RX3 103 yX3_needWord, Cond.instanceMethod yX3_needWord, Cond.selects RX3 yX3_needWord yX3_needWord, Cond.code yX3_needWord cX3_needWord 2 none, Cond.classLink RX3 198 "java/lang/IndexOutOfBoundsException", Cond.initialized "java/lang/IndexOutOfBoundsException", Cond.methodLink RX3 211 yX2_exists, Cond.instanceMethod yX2_exists, Cond.selects RX2 yX2_exists yX2_exists, Cond.initialized RX2, Cond.code yX2_exists cX2_exists 2 (some .boolean), Cond.fieldLink RX2 9 "SenseNet$Words" "known" "I", Cond.methodLink RX3 106 yX2_has]
def wsL_lock_r2 : List Cond := [Cond.instanceMethod yX2_has, Cond.selects RX2 yX2_has yX2_has, Cond.code yX2_has cX2_has 3 (some .boolean), Cond.methodLink RX2 35 yX2_rankOf, Cond.instanceMethod yX2_rankOf, Cond.selects RX2 yX2_rankOf yX2_rankOf, Cond.code yX2_rankOf cX2_rankOf 5 (some .int), Cond.fieldLink RX2 22 "SenseNet$Words" "sizes" "[I", Cond.fieldLink RX2 18 "SenseNet$Words" "given" "[I", Cond.static yX3_at, Cond.code yX3_at cX3_at 2 (some .int), Cond.methodLink RX3 129 yX2_relock, Cond.instanceMethod yX2_relock, Cond.selects RX2 yX2_relock yX2_relock, Cond.code yX2_relock cX2_relock 4 (some .int), Cond.fieldLink RX2 25 "SenseNet$Words" "locks" "[I", Cond.static yX3_put, Cond.code yX3_put cX3_put 3 none]
def wsL_lock : List Cond := .codeWith yL_lock cL_lock 4 (some .int) [(0, 6, 7, 21), (0, 6, 11, 14)] :: ((wsL_lock_r1 ++ wsL_lock_r2) ++ wsX30 ++ wsX20 ++ (vx_atS RX3 38 "java/lang/IllegalStateException" ["java/lang/RuntimeException", "java/lang/Exception"]).filter goodWord ++ (vx_atS RX3 202 "java/lang/IndexOutOfBoundsException" ["java/lang/RuntimeException", "java/lang/Exception"]).filter goodWord)
def wsL_say_r1 : List Cond := [Cond.classLink RL 21 "java/lang/IndexOutOfBoundsException", Cond.classLink RL 14 "java/lang/IllegalStateException", Cond.constant RL 16 (-99999), Cond.methodLink RL 47 yX3_say, Cond.instanceMethod yX3_say, Cond.selects RX3 yX3_say yX3_say, Cond.initialized RX3, Cond.code yX3_say cX3_say 2 (some .int), Cond.classLink RX3 34 "java/lang/IllegalStateException", Cond.initialized "java/lang/IllegalStateException", Cond.fieldLink RX3 19 "SenseNet" "words" "LSenseNet$Words;", Cond.fieldLink RX3 132 "SenseNet$Words" "places" "I", Cond.methodLink RX3 103 yX3_needWord, Cond.instanceMethod yX3_needWord, Cond.selects RX3 yX3_needWord yX3_needWord, Cond.code yX3_needWord cX3_needWord 2 none, Cond.classLink RX3 198 "java/lang/IndexOutOfBoundsException", Cond.initialized "java/lang/IndexOutOfBoundsException", Cond.methodLink RX3 211 yX2_exists, Cond.instanceMethod yX2_exists, Cond.selects RX2 yX2_exists yX2_exists, Cond.initialized RX2, Cond.code yX2_exists cX2_exists 2 (some .boolean), Cond.fieldLink RX2 9 "SenseNet$Words" "known" "I"]
def wsL_say_r2 : List Cond := [Cond.methodLink RX3 111 yX2_size, Cond.instanceMethod yX2_size, Cond.selects RX2 yX2_size yX2_size, Cond.code yX2_size cX2_size 2 (some .int), Cond.fieldLink RX2 22 "SenseNet$Words" "sizes" "[I", Cond.static yX3_at, Cond.code yX3_at cX3_at 2 (some .int), Cond.methodLink RX3 139 yX2_putBehind, Cond.instanceMethod yX2_putBehind, Cond.selects RX2 yX2_putBehind yX2_putBehind, Cond.code yX2_putBehind cX2_putBehind 2 (some .int), Cond.fieldLink RX2 28 "SenseNet$Words" "sentence" "[I", Cond.fieldLink RX2 15 "SenseNet$Words" "places" "I", Cond.static yX3_put, Cond.code yX3_put cX3_put 3 none]
def wsL_say : List Cond := .codeWith yL_say cL_say 3 (some .int) [(0, 5, 6, 21), (0, 5, 10, 14)] :: ((wsL_say_r1 ++ wsL_say_r2) ++ wsX30 ++ wsX20 ++ (vx_atS RX3 38 "java/lang/IllegalStateException" ["java/lang/RuntimeException", "java/lang/Exception"]).filter goodWord ++ (vx_atS RX3 202 "java/lang/IndexOutOfBoundsException" ["java/lang/RuntimeException", "java/lang/Exception"]).filter goodWord)
def wsL_mass_r1 : List Cond := [Cond.classLink RL 21 "java/lang/IndexOutOfBoundsException", Cond.methodLink RL 50 yX3_mass, Cond.instanceMethod yX3_mass, Cond.selects RX3 yX3_mass yX3_mass, Cond.initialized RX3, Cond.code yX3_mass cX3_mass 2 (some .int), Cond.fieldLink RX3 12 "SenseNet" "net" "LSenseNet$Net;", Cond.methodLink RX3 45 yX3_needSense, Cond.instanceMethod yX3_needSense, Cond.selects RX3 yX3_needSense yX3_needSense, Cond.code yX3_needSense cX3_needSense 2 none, Cond.classLink RX3 198 "java/lang/IndexOutOfBoundsException", Cond.initialized "java/lang/IndexOutOfBoundsException", Cond.methodLink RX3 206 yX1_exists, Cond.instanceMethod yX1_exists, Cond.selects RX1 yX1_exists yX1_exists, Cond.initialized RX1, Cond.code yX1_exists cX1_exists 2 (some .boolean), Cond.fieldLink RX1 15 "SenseNet$Net" "present" "I", Cond.static yX3_holds, Cond.code yX3_holds cX3_holds 2 (some .boolean), Cond.methodLink RX3 154 yX3_bit, Cond.static yX3_bit, Cond.code yX3_bit cX3_bit 1 (some .int)]
def wsL_mass_r2 : List Cond := [Cond.methodLink RX3 160 yX1_coveredCount, Cond.instanceMethod yX1_coveredCount, Cond.selects RX1 yX1_coveredCount yX1_coveredCount, Cond.code yX1_coveredCount cX1_coveredCount 2 (some .int), Cond.fieldLink RX1 28 "SenseNet$Net" "masses" "[I", Cond.static yX3_at, Cond.code yX3_at cX3_at 2 (some .int)]
def wsL_mass : List Cond := .codeWith yL_mass cL_mass 3 (some .int) [(0, 5, 6, 21)] :: ((wsL_mass_r1 ++ wsL_mass_r2) ++ wsX30 ++ wsX10 ++ (vx_atS RX3 202 "java/lang/IndexOutOfBoundsException" ["java/lang/RuntimeException", "java/lang/Exception"]).filter goodWord)
def wsL_chosen_r1 : List Cond := [Cond.classLink RL 21 "java/lang/IndexOutOfBoundsException", Cond.classLink RL 33 "java/lang/IllegalArgumentException", Cond.methodLink RL 53 yX3_chosen, Cond.instanceMethod yX3_chosen, Cond.selects RX3 yX3_chosen yX3_chosen, Cond.initialized RX3, Cond.code yX3_chosen cX3_chosen 3 (some .int), Cond.classLink RX3 198 "java/lang/IndexOutOfBoundsException", Cond.initialized "java/lang/IndexOutOfBoundsException", Cond.fieldLink RX3 19 "SenseNet" "words" "LSenseNet$Words;", Cond.fieldLink RX3 132 "SenseNet$Words" "places" "I", Cond.fieldLink RX3 26 "SenseNet" "chooser" "LSenseNet$Chooser;", Cond.fieldLink RX3 12 "SenseNet" "net" "LSenseNet$Net;", Cond.methodLink RX3 175 yX3_needMeasure, Cond.instanceMethod yX3_needMeasure, Cond.selects RX3 yX3_needMeasure yX3_needMeasure, Cond.code yX3_needMeasure cX3_needMeasure 2 none, Cond.classLink RX3 89 "java/lang/IllegalArgumentException", Cond.initialized "java/lang/IllegalArgumentException", Cond.methodLink RX3 188 yX0_prepare, Cond.instanceMethod yX0_prepare, Cond.selects RX0 yX0_prepare yX0_prepare, Cond.initialized RX0, Cond.code yX0_prepare cX0_prepare 7 none]
def wsL_chosen_r2 : List Cond := [Cond.fieldLink RX0 9 "SenseNet$Chooser" "places" "I", Cond.fieldLink RX0 37 "SenseNet$Words" "places" "I", Cond.methodLink RX0 40 Lib.Math.min.name, Cond.static Lib.Math.min.name, Cond.initialized "java/lang/Math", Cond.code Lib.Math.min.name Lib.Math.min.code 2 (some .int), Cond.fieldLink RX0 28 "SenseNet$Chooser" "hopes" "[I", Cond.methodLink RX0 46 yX0_layOut, Cond.instanceMethod yX0_layOut, Cond.selects RX0 yX0_layOut yX0_layOut, Cond.code yX0_layOut cX0_layOut 6 none, Cond.fieldLink RX0 18 "SenseNet$Chooser" "sizes" "[I", Cond.fieldLink RX0 22 "SenseNet$Chooser" "options" "[I", Cond.methodLink RX0 70 yX2_wordAt, Cond.instanceMethod yX2_wordAt, Cond.selects RX2 yX2_wordAt yX2_wordAt, Cond.initialized RX2, Cond.code yX2_wordAt cX2_wordAt 2 (some .int), Cond.fieldLink RX2 28 "SenseNet$Words" "sentence" "[I", Cond.static yX3_at, Cond.code yX3_at cX3_at 2 (some .int), Cond.methodLink RX0 74 yX2_optionCount, Cond.instanceMethod yX2_optionCount, Cond.selects RX2 yX2_optionCount yX2_optionCount]
def wsL_chosen_r3 : List Cond := [Cond.code yX2_optionCount cX2_optionCount 2 (some .int), Cond.fieldLink RX2 25 "SenseNet$Words" "locks" "[I", Cond.fieldLink RX2 22 "SenseNet$Words" "sizes" "[I", Cond.static yX3_put, Cond.code yX3_put cX3_put 3 none, Cond.methodLink RX0 77 yX2_option, Cond.instanceMethod yX2_option, Cond.selects RX2 yX2_option yX2_option, Cond.code yX2_option cX2_option 4 (some .int), Cond.fieldLink RX2 18 "SenseNet$Words" "given" "[I", Cond.methodLink RX0 54 yX0_compare, Cond.instanceMethod yX0_compare, Cond.selects RX0 yX0_compare yX0_compare, Cond.code yX0_compare cX0_compare 11 (some .int), Cond.fieldLink RX0 25 "SenseNet$Chooser" "alike" "[I", Cond.methodLink RX0 85 Lib.Math.max.name, Cond.static Lib.Math.max.name, Cond.code Lib.Math.max.name Lib.Math.max.code 2 (some .int), Cond.methodLink RX0 80 yX1_alike, Cond.instanceMethod yX1_alike, Cond.selects RX1 yX1_alike yX1_alike, Cond.initialized RX1, Cond.code yX1_alike cX1_alike 6 (some .int), Cond.fieldLink RX1 31 "SenseNet$Net" "depths" "[I"]
def wsL_chosen_r4 : List Cond := [Cond.methodLink RX1 107 Lib.Math.min.name, Cond.fieldLink RX1 15 "SenseNet$Net" "present" "I", Cond.fieldLink RX1 28 "SenseNet$Net" "masses" "[I", Cond.methodLink RX1 112 yX1_tellingCover, Cond.instanceMethod yX1_tellingCover, Cond.selects RX1 yX1_tellingCover yX1_tellingCover, Cond.code yX1_tellingCover cX1_tellingCover 6 (some .int), Cond.fieldLink RX1 25 "SenseNet$Net" "coverSets" "[I", Cond.static yX3_holds, Cond.code yX3_holds cX3_holds 2 (some .boolean), Cond.methodLink RX3 154 yX3_bit, Cond.static yX3_bit, Cond.code yX3_bit cX3_bit 1 (some .int), Cond.methodLink RX1 104 yX1_saysMore, Cond.instanceMethod yX1_saysMore, Cond.selects RX1 yX1_saysMore yX1_saysMore, Cond.code yX1_saysMore cX1_saysMore 5 (some .boolean), Cond.methodLink RX1 115 yX1_stepsBetween, Cond.instanceMethod yX1_stepsBetween, Cond.selects RX1 yX1_stepsBetween yX1_stepsBetween, Cond.code yX1_stepsBetween cX1_stepsBetween 7 (some .int), Cond.fieldLink RX1 34 "SenseNet$Net" "steps" "[I", Cond.methodLink RX1 118 yX1_quotient, Cond.static yX1_quotient]
def wsL_chosen_r5 : List Cond := [Cond.code yX1_quotient cX1_quotient 2 (some .int), Cond.methodLink RX1 98 yX1_countOfAll, Cond.instanceMethod yX1_countOfAll, Cond.selects RX1 yX1_countOfAll yX1_countOfAll, Cond.code yX1_countOfAll cX1_countOfAll 4 (some .int), Cond.fieldLink RX1 22 "SenseNet$Net" "counts" "[I", Cond.methodLink RX3 192 yX0_findBest, Cond.instanceMethod yX0_findBest, Cond.selects RX0 yX0_findBest yX0_findBest, Cond.code yX0_findBest cX0_findBest 1 (some .int), Cond.fieldLink RX0 15 "SenseNet$Chooser" "best" "I", Cond.methodLink RX0 62 yX0_seek, Cond.static yX0_seek, Cond.code yX0_seek cX0_seek 6 none, Cond.fieldLink RX0 31 "SenseNet$Chooser" "picks" "[I", Cond.methodLink RX0 88 yX0_keep, Cond.instanceMethod yX0_keep, Cond.selects RX0 yX0_keep yX0_keep, Cond.code yX0_keep cX0_keep 3 none, Cond.fieldLink RX0 34 "SenseNet$Chooser" "bestPicks" "[I", Cond.methodLink RX0 92 yX0_gain, Cond.instanceMethod yX0_gain, Cond.selects RX0 yX0_gain yX0_gain, Cond.code yX0_gain cX0_gain 5 (some .int)]
def wsL_chosen_r6 : List Cond := [Cond.methodLink RX3 203 yX0_bestSense, Cond.instanceMethod yX0_bestSense, Cond.selects RX0 yX0_bestSense yX0_bestSense, Cond.code yX0_bestSense cX0_bestSense 2 (some .int)]
def wsL_chosen : List Cond := .codeWith yL_chosen cL_chosen 4 (some .int) [(0, 6, 7, 21), (0, 6, 10, 33)] :: ((wsL_chosen_r1 ++ (wsL_chosen_r2 ++ (wsL_chosen_r3 ++ (wsL_chosen_r4 ++ (wsL_chosen_r5 ++ wsL_chosen_r6))))) ++ wsX30 ++ wsX20 ++ wsX00 ++ wsX10 ++ (vx_atS RX3 202 "java/lang/IndexOutOfBoundsException" ["java/lang/RuntimeException", "java/lang/Exception"]).filter goodWord ++ (vx_atS RX3 93 "java/lang/IllegalArgumentException" ["java/lang/RuntimeException", "java/lang/Exception"]).filter goodWord)
def wsL_act_r1 : List Cond := [Cond.methodLink RL 56 yL_low, Cond.static yL_low, Cond.initialized RL, Cond.code yL_low cL_low 2 (some .int), Cond.constant RL 7 (2147483647), Cond.methodLink RL 61 yL_addSense, Cond.static yL_addSense, Cond.codeWith yL_addSense cL_addSense 2 (some .int) [(0, 4, 5, 14)], Cond.classLink RL 14 "java/lang/IllegalStateException", Cond.constant RL 16 (-99999), Cond.methodLink RL 8 yX3_addSense, Cond.instanceMethod yX3_addSense, Cond.selects RX3 yX3_addSense yX3_addSense, Cond.initialized RX3, Cond.code yX3_addSense cX3_addSense 1 (some .int), Cond.classLink RX3 34 "java/lang/IllegalStateException", Cond.initialized "java/lang/IllegalStateException", Cond.fieldLink RX3 12 "SenseNet" "net" "LSenseNet$Net;", Cond.fieldLink RX3 30 "SenseNet$Net" "added" "I", Cond.methodLink RX3 41 yX1_addOne, Cond.instanceMethod yX1_addOne, Cond.selects RX1 yX1_addOne yX1_addOne, Cond.initialized RX1, Cond.code yX1_addOne cX1_addOne 2 (some .int)]
def wsL_act_r2 : List Cond := [Cond.fieldLink RX1 9 "SenseNet$Net" "added" "I", Cond.fieldLink RX1 15 "SenseNet$Net" "present" "I", Cond.static yX3_bit, Cond.code yX3_bit cX3_bit 1 (some .int), Cond.methodLink RX1 57 yX1_settle, Cond.instanceMethod yX1_settle, Cond.selects RX1 yX1_settle yX1_settle, Cond.code yX1_settle cX1_settle 2 none, Cond.methodLink RX1 77 yX1_climb, Cond.instanceMethod yX1_climb, Cond.selects RX1 yX1_climb yX1_climb, Cond.code yX1_climb cX1_climb 6 none, Cond.fieldLink RX1 25 "SenseNet$Net" "coverSets" "[I", Cond.fieldLink RX1 31 "SenseNet$Net" "depths" "[I", Cond.methodLink RX1 81 yX1_exists, Cond.instanceMethod yX1_exists, Cond.selects RX1 yX1_exists yX1_exists, Cond.code yX1_exists cX1_exists 2 (some .boolean), Cond.static yX3_holds, Cond.code yX3_holds cX3_holds 2 (some .boolean), Cond.methodLink RX3 154 yX3_bit, Cond.methodLink RX1 85 yX1_noteSteps, Cond.instanceMethod yX1_noteSteps, Cond.selects RX1 yX1_noteSteps yX1_noteSteps]
def wsL_act_r3 : List Cond := [Cond.code yX1_noteSteps cX1_noteSteps 5 none, Cond.fieldLink RX1 34 "SenseNet$Net" "steps" "[I", Cond.static yX3_put, Cond.code yX3_put cX3_put 3 none, Cond.methodLink RX1 89 yX1_hasTop, Cond.instanceMethod yX1_hasTop, Cond.selects RX1 yX1_hasTop yX1_hasTop, Cond.code yX1_hasTop cX1_hasTop 3 (some .boolean), Cond.fieldLink RX1 18 "SenseNet$Net" "parentSets" "[I", Cond.static yX3_at, Cond.code yX3_at cX3_at 2 (some .int), Cond.methodLink RX1 92 yX1_parentsOfAll, Cond.instanceMethod yX1_parentsOfAll, Cond.selects RX1 yX1_parentsOfAll yX1_parentsOfAll, Cond.code yX1_parentsOfAll cX1_parentsOfAll 4 (some .int), Cond.methodLink RX1 74 yX1_weigh, Cond.instanceMethod yX1_weigh, Cond.selects RX1 yX1_weigh yX1_weigh, Cond.code yX1_weigh cX1_weigh 2 none, Cond.fieldLink RX1 28 "SenseNet$Net" "masses" "[I", Cond.methodLink RX1 95 yX1_coveredSet, Cond.instanceMethod yX1_coveredSet, Cond.selects RX1 yX1_coveredSet yX1_coveredSet, Cond.code yX1_coveredSet cX1_coveredSet 4 (some .int)]
def wsL_act_r4 : List Cond := [Cond.methodLink RX1 98 yX1_countOfAll, Cond.instanceMethod yX1_countOfAll, Cond.selects RX1 yX1_countOfAll yX1_countOfAll, Cond.code yX1_countOfAll cX1_countOfAll 4 (some .int), Cond.fieldLink RX1 22 "SenseNet$Net" "counts" "[I", Cond.methodLink RL 64 yL_setCount, Cond.static yL_setCount, Cond.codeWith yL_setCount cL_setCount 4 (some .int) [(0, 6, 7, 21), (0, 6, 11, 33)], Cond.classLink RL 21 "java/lang/IndexOutOfBoundsException", Cond.classLink RL 33 "java/lang/IllegalArgumentException", Cond.methodLink RL 30 yX3_setCount, Cond.instanceMethod yX3_setCount, Cond.selects RX3 yX3_setCount yX3_setCount, Cond.code yX3_setCount cX3_setCount 3 (some .int), Cond.classLink RX3 89 "java/lang/IllegalArgumentException", Cond.initialized "java/lang/IllegalArgumentException", Cond.methodLink RX3 45 yX3_needSense, Cond.instanceMethod yX3_needSense, Cond.selects RX3 yX3_needSense yX3_needSense, Cond.code yX3_needSense cX3_needSense 2 none, Cond.classLink RX3 198 "java/lang/IndexOutOfBoundsException", Cond.initialized "java/lang/IndexOutOfBoundsException", Cond.methodLink RX3 206 yX1_exists, Cond.methodLink RX3 94 yX1_recount]
def wsL_act_r5 : List Cond := [Cond.instanceMethod yX1_recount, Cond.selects RX1 yX1_recount yX1_recount, Cond.code yX1_recount cX1_recount 4 (some .int), Cond.methodLink RL 67 yL_link, Cond.static yL_link, Cond.codeWith yL_link cL_link 4 (some .int) [(0, 6, 7, 21), (0, 6, 11, 14)], Cond.methodLink RL 17 yX3_link, Cond.instanceMethod yX3_link, Cond.selects RX3 yX3_link yX3_link, Cond.code yX3_link cX3_link 3 (some .int), Cond.methodLink RX3 49 yX1_isParent, Cond.instanceMethod yX1_isParent, Cond.selects RX1 yX1_isParent yX1_isParent, Cond.code yX1_isParent cX1_isParent 3 (some .boolean), Cond.methodLink RX3 55 yX1_parentCount, Cond.instanceMethod yX1_parentCount, Cond.selects RX1 yX1_parentCount yX1_parentCount, Cond.code yX1_parentCount cX1_parentCount 2 (some .int), Cond.methodLink RX1 48 yJ6_bitCount_0f7a4, Cond.static yJ6_bitCount_0f7a4, Cond.initialized RJ6, Cond.code yJ6_bitCount_0f7a4 cJ6_bitCount_0f7a4 1 (some .int), Cond.constant RJ6 265 (1431655765), Cond.constant RJ6 266 (858993459)]
def wsL_act_r6 : List Cond := [Cond.constant RJ6 267 (252645135), Cond.methodLink RX3 61 yX1_covers, Cond.instanceMethod yX1_covers, Cond.selects RX1 yX1_covers yX1_covers, Cond.code yX1_covers cX1_covers 3 (some .boolean), Cond.methodLink RX3 66 yX1_putBelow, Cond.instanceMethod yX1_putBelow, Cond.selects RX1 yX1_putBelow yX1_putBelow, Cond.code yX1_putBelow cX1_putBelow 3 (some .int), Cond.methodLink RX1 64 yX1_parentCount, Cond.methodLink RL 69 yL_unlink, Cond.static yL_unlink, Cond.codeWith yL_unlink cL_unlink 4 (some .int) [(0, 6, 7, 21), (0, 6, 11, 14)], Cond.methodLink RL 23 yX3_unlink, Cond.instanceMethod yX3_unlink, Cond.selects RX3 yX3_unlink yX3_unlink, Cond.code yX3_unlink cX3_unlink 3 (some .int), Cond.methodLink RX3 72 yX1_cut, Cond.instanceMethod yX1_cut, Cond.selects RX1 yX1_cut yX1_cut, Cond.code yX1_cut cX1_cut 3 (some .int), Cond.methodLink RL 71 yL_remove, Cond.static yL_remove, Cond.codeWith yL_remove cL_remove 3 (some .int) [(0, 5, 6, 21), (0, 5, 10, 14)]]
def wsL_act_r7 : List Cond := [Cond.methodLink RL 26 yX3_remove, Cond.instanceMethod yX3_remove, Cond.selects RX3 yX3_remove yX3_remove, Cond.code yX3_remove cX3_remove 2 (some .int), Cond.fieldLink RX3 19 "SenseNet" "words" "LSenseNet$Words;", Cond.methodLink RX3 75 yX2_anyHas, Cond.instanceMethod yX2_anyHas, Cond.selects RX2 yX2_anyHas yX2_anyHas, Cond.initialized RX2, Cond.code yX2_anyHas cX2_anyHas 3 (some .boolean), Cond.fieldLink RX2 9 "SenseNet$Words" "known" "I", Cond.methodLink RX2 39 yX2_has, Cond.instanceMethod yX2_has, Cond.selects RX2 yX2_has yX2_has, Cond.code yX2_has cX2_has 3 (some .boolean), Cond.methodLink RX2 35 yX2_rankOf, Cond.instanceMethod yX2_rankOf, Cond.selects RX2 yX2_rankOf yX2_rankOf, Cond.code yX2_rankOf cX2_rankOf 5 (some .int), Cond.fieldLink RX2 22 "SenseNet$Words" "sizes" "[I", Cond.fieldLink RX2 18 "SenseNet$Words" "given" "[I", Cond.methodLink RX3 81 yX1_canLose, Cond.instanceMethod yX1_canLose, Cond.selects RX1 yX1_canLose yX1_canLose]
def wsL_act_r8 : List Cond := [Cond.code yX1_canLose cX1_canLose 3 (some .boolean), Cond.methodLink RX1 67 yX1_isParent, Cond.methodLink RX1 70 yX1_parentsWithout, Cond.instanceMethod yX1_parentsWithout, Cond.selects RX1 yX1_parentsWithout yX1_parentsWithout, Cond.code yX1_parentsWithout cX1_parentsWithout 3 (some .int), Cond.methodLink RX3 86 yX1_lose, Cond.instanceMethod yX1_lose, Cond.selects RX1 yX1_lose yX1_lose, Cond.code yX1_lose cX1_lose 4 (some .int), Cond.methodLink RL 74 yL_addWord, Cond.static yL_addWord, Cond.codeWith yL_addWord cL_addWord 2 (some .int) [(0, 4, 5, 14)], Cond.methodLink RL 35 yX3_addWord, Cond.instanceMethod yX3_addWord, Cond.selects RX3 yX3_addWord yX3_addWord, Cond.code yX3_addWord cX3_addWord 1 (some .int), Cond.fieldLink RX3 97 "SenseNet$Words" "known" "I", Cond.methodLink RX3 102 yX2_addOne, Cond.instanceMethod yX2_addOne, Cond.selects RX2 yX2_addOne yX2_addOne, Cond.code yX2_addOne cX2_addOne 2 (some .int), Cond.fieldLink RX2 25 "SenseNet$Words" "locks" "[I", Cond.methodLink RL 76 yL_give]
def wsL_act_r9 : List Cond := [Cond.static yL_give, Cond.codeWith yL_give cL_give 4 (some .int) [(0, 6, 7, 21), (0, 6, 11, 14)], Cond.methodLink RL 38 yX3_give, Cond.instanceMethod yX3_give, Cond.selects RX3 yX3_give yX3_give, Cond.code yX3_give cX3_give 3 (some .int), Cond.methodLink RX3 103 yX3_needWord, Cond.instanceMethod yX3_needWord, Cond.selects RX3 yX3_needWord yX3_needWord, Cond.code yX3_needWord cX3_needWord 2 none, Cond.methodLink RX3 211 yX2_exists, Cond.instanceMethod yX2_exists, Cond.selects RX2 yX2_exists yX2_exists, Cond.code yX2_exists cX2_exists 2 (some .boolean), Cond.methodLink RX3 106 yX2_has, Cond.methodLink RX3 111 yX2_size, Cond.instanceMethod yX2_size, Cond.selects RX2 yX2_size yX2_size, Cond.code yX2_size cX2_size 2 (some .int), Cond.methodLink RX3 116 yX2_append, Cond.instanceMethod yX2_append, Cond.selects RX2 yX2_append yX2_append, Cond.code yX2_append cX2_append 4 (some .int), Cond.methodLink RL 78 yL_take]
def wsL_act_r10 : List Cond := [Cond.static yL_take, Cond.codeWith yL_take cL_take 4 (some .int) [(0, 6, 7, 21), (0, 6, 11, 14)], Cond.methodLink RL 41 yX3_take, Cond.instanceMethod yX3_take, Cond.selects RX3 yX3_take yX3_take, Cond.code yX3_take cX3_take 3 (some .int), Cond.methodLink RX3 121 yX2_isSaid, Cond.instanceMethod yX2_isSaid, Cond.selects RX2 yX2_isSaid yX2_isSaid, Cond.code yX2_isSaid cX2_isSaid 3 (some .boolean), Cond.fieldLink RX2 15 "SenseNet$Words" "places" "I", Cond.fieldLink RX2 28 "SenseNet$Words" "sentence" "[I", Cond.methodLink RX3 126 yX2_drop, Cond.instanceMethod yX2_drop, Cond.selects RX2 yX2_drop yX2_drop, Cond.code yX2_drop cX2_drop 6 (some .int), Cond.methodLink RL 80 yL_lock, Cond.static yL_lock, Cond.codeWith yL_lock cL_lock 4 (some .int) [(0, 6, 7, 21), (0, 6, 11, 14)], Cond.methodLink RL 44 yX3_lock, Cond.instanceMethod yX3_lock, Cond.selects RX3 yX3_lock yX3_lock, Cond.code yX3_lock cX3_lock 3 (some .int), Cond.methodLink RX3 129 yX2_relock]
def wsL_act_r11 : List Cond := [Cond.instanceMethod yX2_relock, Cond.selects RX2 yX2_relock yX2_relock, Cond.code yX2_relock cX2_relock 4 (some .int), Cond.methodLink RL 82 yL_say, Cond.static yL_say, Cond.codeWith yL_say cL_say 3 (some .int) [(0, 5, 6, 21), (0, 5, 10, 14)], Cond.methodLink RL 47 yX3_say, Cond.instanceMethod yX3_say, Cond.selects RX3 yX3_say yX3_say, Cond.code yX3_say cX3_say 2 (some .int), Cond.fieldLink RX3 132 "SenseNet$Words" "places" "I", Cond.methodLink RX3 139 yX2_putBehind, Cond.instanceMethod yX2_putBehind, Cond.selects RX2 yX2_putBehind yX2_putBehind, Cond.code yX2_putBehind cX2_putBehind 2 (some .int), Cond.methodLink RL 84 yX3_hush, Cond.instanceMethod yX3_hush, Cond.selects RX3 yX3_hush yX3_hush, Cond.code yX3_hush cX3_hush 1 (some .int), Cond.methodLink RX3 142 yX2_emptySentence, Cond.instanceMethod yX2_emptySentence, Cond.selects RX2 yX2_emptySentence yX2_emptySentence, Cond.code yX2_emptySentence cX2_emptySentence 2 (some .int)]
def wsL_act : List Cond := .code yL_act cL_act 5 (some .int) :: ((wsL_act_r1 ++ (wsL_act_r2 ++ (wsL_act_r3 ++ (wsL_act_r4 ++ (wsL_act_r5 ++ (wsL_act_r6 ++ (wsL_act_r7 ++ (wsL_act_r8 ++ (wsL_act_r9 ++ (wsL_act_r10 ++ wsL_act_r11)))))))))) ++ wsX30 ++ wsX10 ++ wsX20 ++ (vx_atS RX3 38 "java/lang/IllegalStateException" ["java/lang/RuntimeException", "java/lang/Exception"]).filter goodWord ++ (vx_atS RX3 93 "java/lang/IllegalArgumentException" ["java/lang/RuntimeException", "java/lang/Exception"]).filter goodWord ++ (vx_atS RX3 202 "java/lang/IndexOutOfBoundsException" ["java/lang/RuntimeException", "java/lang/Exception"]).filter goodWord)
def wsL_areAlike_r1 : List Cond := [Cond.methodLink RL 87 yX3_senses, Cond.instanceMethod yX3_senses, Cond.selects RX3 yX3_senses yX3_senses, Cond.initialized RX3, Cond.code yX3_senses cX3_senses 1 (some .int), Cond.fieldLink RX3 12 "SenseNet" "net" "LSenseNet$Net;", Cond.fieldLink RX3 145 "SenseNet$Net" "present" "I", Cond.methodLink RL 90 yX3_choices, Cond.instanceMethod yX3_choices, Cond.selects RX3 yX3_choices yX3_choices, Cond.code yX3_choices cX3_choices 3 (some .int), Cond.fieldLink RX3 19 "SenseNet" "words" "LSenseNet$Words;", Cond.fieldLink RX3 132 "SenseNet$Words" "places" "I", Cond.methodLink RX3 182 yX2_wordAt, Cond.instanceMethod yX2_wordAt, Cond.selects RX2 yX2_wordAt yX2_wordAt, Cond.initialized RX2, Cond.code yX2_wordAt cX2_wordAt 2 (some .int), Cond.fieldLink RX2 28 "SenseNet$Words" "sentence" "[I", Cond.static yX3_at, Cond.code yX3_at cX3_at 2 (some .int), Cond.methodLink RX3 185 yX2_optionCount, Cond.instanceMethod yX2_optionCount, Cond.selects RX2 yX2_optionCount yX2_optionCount]
def wsL_areAlike_r2 : List Cond := [Cond.code yX2_optionCount cX2_optionCount 2 (some .int), Cond.fieldLink RX2 25 "SenseNet$Words" "locks" "[I", Cond.fieldLink RX2 22 "SenseNet$Words" "sizes" "[I", Cond.methodLink RL 93 yL_mass, Cond.static yL_mass, Cond.initialized RL, Cond.codeWith yL_mass cL_mass 3 (some .int) [(0, 5, 6, 21)], Cond.classLink RL 21 "java/lang/IndexOutOfBoundsException", Cond.methodLink RL 50 yX3_mass, Cond.instanceMethod yX3_mass, Cond.selects RX3 yX3_mass yX3_mass, Cond.code yX3_mass cX3_mass 2 (some .int), Cond.methodLink RX3 45 yX3_needSense, Cond.instanceMethod yX3_needSense, Cond.selects RX3 yX3_needSense yX3_needSense, Cond.code yX3_needSense cX3_needSense 2 none, Cond.classLink RX3 198 "java/lang/IndexOutOfBoundsException", Cond.initialized "java/lang/IndexOutOfBoundsException", Cond.methodLink RX3 206 yX1_exists, Cond.instanceMethod yX1_exists, Cond.selects RX1 yX1_exists yX1_exists, Cond.initialized RX1, Cond.code yX1_exists cX1_exists 2 (some .boolean), Cond.fieldLink RX1 15 "SenseNet$Net" "present" "I"]
def wsL_areAlike_r3 : List Cond := [Cond.static yX3_holds, Cond.code yX3_holds cX3_holds 2 (some .boolean), Cond.methodLink RX3 154 yX3_bit, Cond.static yX3_bit, Cond.code yX3_bit cX3_bit 1 (some .int), Cond.methodLink RX3 160 yX1_coveredCount, Cond.instanceMethod yX1_coveredCount, Cond.selects RX1 yX1_coveredCount yX1_coveredCount, Cond.code yX1_coveredCount cX1_coveredCount 2 (some .int), Cond.fieldLink RX1 28 "SenseNet$Net" "masses" "[I", Cond.methodLink RL 95 yX3_parents, Cond.instanceMethod yX3_parents, Cond.selects RX3 yX3_parents yX3_parents, Cond.code yX3_parents cX3_parents 2 (some .int), Cond.methodLink RX3 148 yX1_parentSet, Cond.instanceMethod yX1_parentSet, Cond.selects RX1 yX1_parentSet yX1_parentSet, Cond.code yX1_parentSet cX1_parentSet 2 (some .int), Cond.fieldLink RX1 18 "SenseNet$Net" "parentSets" "[I"]
def wsL_areAlike : List Cond := .code yL_areAlike cL_areAlike 4 (some .boolean) :: ((wsL_areAlike_r1 ++ (wsL_areAlike_r2 ++ wsL_areAlike_r3)) ++ wsX30 ++ wsX10 ++ wsX20 ++ (vx_atS RX3 202 "java/lang/IndexOutOfBoundsException" ["java/lang/RuntimeException", "java/lang/Exception"]).filter goodWord)
def wsL_bits : List Cond := .code yL_bits cL_bits 3 (some .int) :: ([])
def wsL_isSenseSo_r1 : List Cond := [Cond.methodLink RL 95 yX3_parents, Cond.instanceMethod yX3_parents, Cond.selects RX3 yX3_parents yX3_parents, Cond.initialized RX3, Cond.code yX3_parents cX3_parents 2 (some .int), Cond.fieldLink RX3 12 "SenseNet" "net" "LSenseNet$Net;", Cond.methodLink RX3 45 yX3_needSense, Cond.instanceMethod yX3_needSense, Cond.selects RX3 yX3_needSense yX3_needSense, Cond.code yX3_needSense cX3_needSense 2 none, Cond.classLink RX3 198 "java/lang/IndexOutOfBoundsException", Cond.initialized "java/lang/IndexOutOfBoundsException", Cond.methodLink RX3 206 yX1_exists, Cond.instanceMethod yX1_exists, Cond.selects RX1 yX1_exists yX1_exists, Cond.initialized RX1, Cond.code yX1_exists cX1_exists 2 (some .boolean), Cond.fieldLink RX1 15 "SenseNet$Net" "present" "I", Cond.static yX3_holds, Cond.code yX3_holds cX3_holds 2 (some .boolean), Cond.methodLink RX3 154 yX3_bit, Cond.static yX3_bit, Cond.code yX3_bit cX3_bit 1 (some .int), Cond.methodLink RX3 148 yX1_parentSet]
def wsL_isSenseSo_r2 : List Cond := [Cond.instanceMethod yX1_parentSet, Cond.selects RX1 yX1_parentSet yX1_parentSet, Cond.code yX1_parentSet cX1_parentSet 2 (some .int), Cond.fieldLink RX1 18 "SenseNet$Net" "parentSets" "[I", Cond.static yX3_at, Cond.code yX3_at cX3_at 2 (some .int), Cond.methodLink RL 98 yX3_above, Cond.instanceMethod yX3_above, Cond.selects RX3 yX3_above yX3_above, Cond.code yX3_above cX3_above 2 (some .int), Cond.methodLink RX3 151 yX1_coverSet, Cond.instanceMethod yX1_coverSet, Cond.selects RX1 yX1_coverSet yX1_coverSet, Cond.code yX1_coverSet cX1_coverSet 2 (some .int), Cond.fieldLink RX1 25 "SenseNet$Net" "coverSets" "[I", Cond.methodLink RL 101 yX3_below, Cond.instanceMethod yX3_below, Cond.selects RX3 yX3_below yX3_below, Cond.code yX3_below cX3_below 2 (some .int), Cond.methodLink RX3 157 yX1_coveredSet, Cond.instanceMethod yX1_coveredSet, Cond.selects RX1 yX1_coveredSet yX1_coveredSet, Cond.code yX1_coveredSet cX1_coveredSet 4 (some .int), Cond.methodLink RL 104 yL_bits]
def wsL_isSenseSo_r3 : List Cond := [Cond.static yL_bits, Cond.initialized RL, Cond.code yL_bits cL_bits 3 (some .int), Cond.methodLink RL 87 yX3_senses, Cond.instanceMethod yX3_senses, Cond.selects RX3 yX3_senses yX3_senses, Cond.code yX3_senses cX3_senses 1 (some .int), Cond.fieldLink RX3 145 "SenseNet$Net" "present" "I", Cond.methodLink RL 50 yX3_mass, Cond.instanceMethod yX3_mass, Cond.selects RX3 yX3_mass yX3_mass, Cond.code yX3_mass cX3_mass 2 (some .int), Cond.methodLink RX3 160 yX1_coveredCount, Cond.instanceMethod yX1_coveredCount, Cond.selects RX1 yX1_coveredCount yX1_coveredCount, Cond.code yX1_coveredCount cX1_coveredCount 2 (some .int), Cond.fieldLink RX1 28 "SenseNet$Net" "masses" "[I", Cond.methodLink RL 107 yX3_massByWalks, Cond.instanceMethod yX3_massByWalks, Cond.selects RX3 yX3_massByWalks yX3_massByWalks, Cond.code yX3_massByWalks cX3_massByWalks 2 (some .int), Cond.methodLink RX3 163 yX1_walkedCount, Cond.instanceMethod yX1_walkedCount, Cond.selects RX1 yX1_walkedCount yX1_walkedCount]
def wsL_isSenseSo_r4 : List Cond := [Cond.code yX1_walkedCount cX1_walkedCount 3 (some .int), Cond.fieldLink RX1 37 "SenseNet$Net" "walked" "[I", Cond.static yX3_put, Cond.code yX3_put cX3_put 3 none, Cond.methodLink RX1 81 yX1_exists, Cond.methodLink RX1 101 yX1_carryUp, Cond.instanceMethod yX1_carryUp, Cond.selects RX1 yX1_carryUp yX1_carryUp, Cond.code yX1_carryUp cX1_carryUp 7 none, Cond.fieldLink RX1 22 "SenseNet$Net" "counts" "[I", Cond.methodLink RX1 92 yX1_parentsOfAll, Cond.instanceMethod yX1_parentsOfAll, Cond.selects RX1 yX1_parentsOfAll yX1_parentsOfAll, Cond.code yX1_parentsOfAll cX1_parentsOfAll 4 (some .int), Cond.methodLink RL 110 yX3_depth, Cond.instanceMethod yX3_depth, Cond.selects RX3 yX3_depth yX3_depth, Cond.code yX3_depth cX3_depth 2 (some .int), Cond.methodLink RX3 166 yX1_stepsToTop, Cond.instanceMethod yX1_stepsToTop, Cond.selects RX1 yX1_stepsToTop yX1_stepsToTop, Cond.code yX1_stepsToTop cX1_stepsToTop 2 (some .int), Cond.fieldLink RX1 31 "SenseNet$Net" "depths" "[I"]
def wsL_isSenseSo : List Cond := .code yL_isSenseSo cL_isSenseSo 9 (some .boolean) :: ((wsL_isSenseSo_r1 ++ (wsL_isSenseSo_r2 ++ (wsL_isSenseSo_r3 ++ wsL_isSenseSo_r4))) ++ wsX30 ++ wsX10 ++ (vx_atS RX3 202 "java/lang/IndexOutOfBoundsException" ["java/lang/RuntimeException", "java/lang/Exception"]).filter goodWord)
def wsL_arePairsSo_r1 : List Cond := [Cond.methodLink RL 113 yX3_shared, Cond.instanceMethod yX3_shared, Cond.selects RX3 yX3_shared yX3_shared, Cond.initialized RX3, Cond.code yX3_shared cX3_shared 3 (some .int), Cond.fieldLink RX3 12 "SenseNet" "net" "LSenseNet$Net;", Cond.methodLink RX3 45 yX3_needSense, Cond.instanceMethod yX3_needSense, Cond.selects RX3 yX3_needSense yX3_needSense, Cond.code yX3_needSense cX3_needSense 2 none, Cond.classLink RX3 198 "java/lang/IndexOutOfBoundsException", Cond.initialized "java/lang/IndexOutOfBoundsException", Cond.methodLink RX3 206 yX1_exists, Cond.instanceMethod yX1_exists, Cond.selects RX1 yX1_exists yX1_exists, Cond.initialized RX1, Cond.code yX1_exists cX1_exists 2 (some .boolean), Cond.fieldLink RX1 15 "SenseNet$Net" "present" "I", Cond.static yX3_holds, Cond.code yX3_holds cX3_holds 2 (some .boolean), Cond.methodLink RX3 154 yX3_bit, Cond.static yX3_bit, Cond.code yX3_bit cX3_bit 1 (some .int), Cond.methodLink RX3 169 yX1_tellingCover]
def wsL_arePairsSo_r2 : List Cond := [Cond.instanceMethod yX1_tellingCover, Cond.selects RX1 yX1_tellingCover yX1_tellingCover, Cond.code yX1_tellingCover cX1_tellingCover 6 (some .int), Cond.fieldLink RX1 25 "SenseNet$Net" "coverSets" "[I", Cond.static yX3_at, Cond.code yX3_at cX3_at 2 (some .int), Cond.methodLink RX1 104 yX1_saysMore, Cond.instanceMethod yX1_saysMore, Cond.selects RX1 yX1_saysMore yX1_saysMore, Cond.code yX1_saysMore cX1_saysMore 5 (some .boolean), Cond.fieldLink RX1 28 "SenseNet$Net" "masses" "[I", Cond.fieldLink RX1 31 "SenseNet$Net" "depths" "[I", Cond.methodLink RL 98 yX3_above, Cond.instanceMethod yX3_above, Cond.selects RX3 yX3_above yX3_above, Cond.code yX3_above cX3_above 2 (some .int), Cond.methodLink RX3 151 yX1_coverSet, Cond.instanceMethod yX1_coverSet, Cond.selects RX1 yX1_coverSet yX1_coverSet, Cond.code yX1_coverSet cX1_coverSet 2 (some .int), Cond.methodLink RL 116 yX3_distance, Cond.instanceMethod yX3_distance, Cond.selects RX3 yX3_distance yX3_distance, Cond.code yX3_distance cX3_distance 3 (some .int)]
def wsL_arePairsSo_r3 : List Cond := [Cond.methodLink RX3 172 yX1_stepsBetween, Cond.instanceMethod yX1_stepsBetween, Cond.selects RX1 yX1_stepsBetween yX1_stepsBetween, Cond.code yX1_stepsBetween cX1_stepsBetween 7 (some .int), Cond.fieldLink RX1 34 "SenseNet$Net" "steps" "[I", Cond.methodLink RX1 107 Lib.Math.min.name, Cond.static Lib.Math.min.name, Cond.initialized "java/lang/Math", Cond.code Lib.Math.min.name Lib.Math.min.code 2 (some .int), Cond.methodLink RL 50 yX3_mass, Cond.instanceMethod yX3_mass, Cond.selects RX3 yX3_mass yX3_mass, Cond.code yX3_mass cX3_mass 2 (some .int), Cond.methodLink RX3 160 yX1_coveredCount, Cond.instanceMethod yX1_coveredCount, Cond.selects RX1 yX1_coveredCount yX1_coveredCount, Cond.code yX1_coveredCount cX1_coveredCount 2 (some .int), Cond.methodLink RL 119 yX3_likeness, Cond.instanceMethod yX3_likeness, Cond.selects RX3 yX3_likeness yX3_likeness, Cond.code yX3_likeness cX3_likeness 4 (some .int), Cond.methodLink RX3 175 yX3_needMeasure, Cond.instanceMethod yX3_needMeasure, Cond.selects RX3 yX3_needMeasure yX3_needMeasure]
def wsL_arePairsSo_r4 : List Cond := [Cond.code yX3_needMeasure cX3_needMeasure 2 none, Cond.classLink RX3 89 "java/lang/IllegalArgumentException", Cond.initialized "java/lang/IllegalArgumentException", Cond.methodLink RX3 178 yX1_alike, Cond.instanceMethod yX1_alike, Cond.selects RX1 yX1_alike yX1_alike, Cond.code yX1_alike cX1_alike 6 (some .int), Cond.methodLink RX1 112 yX1_tellingCover, Cond.methodLink RX1 115 yX1_stepsBetween, Cond.methodLink RX1 118 yX1_quotient, Cond.static yX1_quotient, Cond.code yX1_quotient cX1_quotient 2 (some .int), Cond.methodLink RX1 98 yX1_countOfAll, Cond.instanceMethod yX1_countOfAll, Cond.selects RX1 yX1_countOfAll yX1_countOfAll, Cond.code yX1_countOfAll cX1_countOfAll 4 (some .int), Cond.fieldLink RX1 22 "SenseNet$Net" "counts" "[I"]
def wsL_arePairsSo : List Cond := .code yL_arePairsSo cL_arePairsSo 9 (some .boolean) :: ((wsL_arePairsSo_r1 ++ (wsL_arePairsSo_r2 ++ (wsL_arePairsSo_r3 ++ wsL_arePairsSo_r4))) ++ wsX30 ++ wsX10 ++ (vx_atS RX3 202 "java/lang/IndexOutOfBoundsException" ["java/lang/RuntimeException", "java/lang/Exception"]).filter goodWord ++ (vx_atS RX3 93 "java/lang/IllegalArgumentException" ["java/lang/RuntimeException", "java/lang/Exception"]).filter goodWord)
def wsL_areChoicesSo_r1 : List Cond := [Cond.methodLink RL 123 yL_chosen, Cond.static yL_chosen, Cond.initialized RL, Cond.codeWith yL_chosen cL_chosen 4 (some .int) [(0, 6, 7, 21), (0, 6, 10, 33)], Cond.classLink RL 21 "java/lang/IndexOutOfBoundsException", Cond.classLink RL 33 "java/lang/IllegalArgumentException", Cond.methodLink RL 53 yX3_chosen, Cond.instanceMethod yX3_chosen, Cond.selects RX3 yX3_chosen yX3_chosen, Cond.initialized RX3, Cond.code yX3_chosen cX3_chosen 3 (some .int), Cond.classLink RX3 198 "java/lang/IndexOutOfBoundsException", Cond.initialized "java/lang/IndexOutOfBoundsException", Cond.fieldLink RX3 19 "SenseNet" "words" "LSenseNet$Words;", Cond.fieldLink RX3 132 "SenseNet$Words" "places" "I", Cond.fieldLink RX3 26 "SenseNet" "chooser" "LSenseNet$Chooser;", Cond.fieldLink RX3 12 "SenseNet" "net" "LSenseNet$Net;", Cond.methodLink RX3 175 yX3_needMeasure, Cond.instanceMethod yX3_needMeasure, Cond.selects RX3 yX3_needMeasure yX3_needMeasure, Cond.code yX3_needMeasure cX3_needMeasure 2 none, Cond.classLink RX3 89 "java/lang/IllegalArgumentException", Cond.initialized "java/lang/IllegalArgumentException", Cond.methodLink RX3 188 yX0_prepare]
def wsL_areChoicesSo_r2 : List Cond := [Cond.instanceMethod yX0_prepare, Cond.selects RX0 yX0_prepare yX0_prepare, Cond.initialized RX0, Cond.code yX0_prepare cX0_prepare 7 none, Cond.fieldLink RX0 9 "SenseNet$Chooser" "places" "I", Cond.fieldLink RX0 37 "SenseNet$Words" "places" "I", Cond.methodLink RX0 40 Lib.Math.min.name, Cond.static Lib.Math.min.name, Cond.initialized "java/lang/Math", Cond.code Lib.Math.min.name Lib.Math.min.code 2 (some .int), Cond.fieldLink RX0 28 "SenseNet$Chooser" "hopes" "[I", Cond.methodLink RX0 46 yX0_layOut, Cond.instanceMethod yX0_layOut, Cond.selects RX0 yX0_layOut yX0_layOut, Cond.code yX0_layOut cX0_layOut 6 none, Cond.fieldLink RX0 18 "SenseNet$Chooser" "sizes" "[I", Cond.fieldLink RX0 22 "SenseNet$Chooser" "options" "[I", Cond.methodLink RX0 70 yX2_wordAt, Cond.instanceMethod yX2_wordAt, Cond.selects RX2 yX2_wordAt yX2_wordAt, Cond.initialized RX2, Cond.code yX2_wordAt cX2_wordAt 2 (some .int), Cond.fieldLink RX2 28 "SenseNet$Words" "sentence" "[I", Cond.static yX3_at]
def wsL_areChoicesSo_r3 : List Cond := [Cond.code yX3_at cX3_at 2 (some .int), Cond.methodLink RX0 74 yX2_optionCount, Cond.instanceMethod yX2_optionCount, Cond.selects RX2 yX2_optionCount yX2_optionCount, Cond.code yX2_optionCount cX2_optionCount 2 (some .int), Cond.fieldLink RX2 25 "SenseNet$Words" "locks" "[I", Cond.fieldLink RX2 22 "SenseNet$Words" "sizes" "[I", Cond.static yX3_put, Cond.code yX3_put cX3_put 3 none, Cond.methodLink RX0 77 yX2_option, Cond.instanceMethod yX2_option, Cond.selects RX2 yX2_option yX2_option, Cond.code yX2_option cX2_option 4 (some .int), Cond.fieldLink RX2 18 "SenseNet$Words" "given" "[I", Cond.methodLink RX0 54 yX0_compare, Cond.instanceMethod yX0_compare, Cond.selects RX0 yX0_compare yX0_compare, Cond.code yX0_compare cX0_compare 11 (some .int), Cond.fieldLink RX0 25 "SenseNet$Chooser" "alike" "[I", Cond.methodLink RX0 85 Lib.Math.max.name, Cond.static Lib.Math.max.name, Cond.code Lib.Math.max.name Lib.Math.max.code 2 (some .int), Cond.methodLink RX0 80 yX1_alike, Cond.instanceMethod yX1_alike]
def wsL_areChoicesSo_r4 : List Cond := [Cond.selects RX1 yX1_alike yX1_alike, Cond.initialized RX1, Cond.code yX1_alike cX1_alike 6 (some .int), Cond.fieldLink RX1 31 "SenseNet$Net" "depths" "[I", Cond.methodLink RX1 107 Lib.Math.min.name, Cond.fieldLink RX1 15 "SenseNet$Net" "present" "I", Cond.fieldLink RX1 28 "SenseNet$Net" "masses" "[I", Cond.methodLink RX1 112 yX1_tellingCover, Cond.instanceMethod yX1_tellingCover, Cond.selects RX1 yX1_tellingCover yX1_tellingCover, Cond.code yX1_tellingCover cX1_tellingCover 6 (some .int), Cond.fieldLink RX1 25 "SenseNet$Net" "coverSets" "[I", Cond.static yX3_holds, Cond.code yX3_holds cX3_holds 2 (some .boolean), Cond.methodLink RX3 154 yX3_bit, Cond.static yX3_bit, Cond.code yX3_bit cX3_bit 1 (some .int), Cond.methodLink RX1 104 yX1_saysMore, Cond.instanceMethod yX1_saysMore, Cond.selects RX1 yX1_saysMore yX1_saysMore, Cond.code yX1_saysMore cX1_saysMore 5 (some .boolean), Cond.methodLink RX1 115 yX1_stepsBetween, Cond.instanceMethod yX1_stepsBetween, Cond.selects RX1 yX1_stepsBetween yX1_stepsBetween]
def wsL_areChoicesSo_r5 : List Cond := [Cond.code yX1_stepsBetween cX1_stepsBetween 7 (some .int), Cond.fieldLink RX1 34 "SenseNet$Net" "steps" "[I", Cond.methodLink RX1 118 yX1_quotient, Cond.static yX1_quotient, Cond.code yX1_quotient cX1_quotient 2 (some .int), Cond.methodLink RX1 98 yX1_countOfAll, Cond.instanceMethod yX1_countOfAll, Cond.selects RX1 yX1_countOfAll yX1_countOfAll, Cond.code yX1_countOfAll cX1_countOfAll 4 (some .int), Cond.fieldLink RX1 22 "SenseNet$Net" "counts" "[I", Cond.methodLink RX3 192 yX0_findBest, Cond.instanceMethod yX0_findBest, Cond.selects RX0 yX0_findBest yX0_findBest, Cond.code yX0_findBest cX0_findBest 1 (some .int), Cond.fieldLink RX0 15 "SenseNet$Chooser" "best" "I", Cond.methodLink RX0 62 yX0_seek, Cond.static yX0_seek, Cond.code yX0_seek cX0_seek 6 none, Cond.fieldLink RX0 31 "SenseNet$Chooser" "picks" "[I", Cond.methodLink RX0 88 yX0_keep, Cond.instanceMethod yX0_keep, Cond.selects RX0 yX0_keep yX0_keep, Cond.code yX0_keep cX0_keep 3 none, Cond.fieldLink RX0 34 "SenseNet$Chooser" "bestPicks" "[I"]
def wsL_areChoicesSo_r6 : List Cond := [Cond.methodLink RX0 92 yX0_gain, Cond.instanceMethod yX0_gain, Cond.selects RX0 yX0_gain yX0_gain, Cond.code yX0_gain cX0_gain 5 (some .int), Cond.methodLink RX3 203 yX0_bestSense, Cond.instanceMethod yX0_bestSense, Cond.selects RX0 yX0_bestSense yX0_bestSense, Cond.code yX0_bestSense cX0_bestSense 2 (some .int), Cond.methodLink RL 119 yX3_likeness, Cond.instanceMethod yX3_likeness, Cond.selects RX3 yX3_likeness yX3_likeness, Cond.code yX3_likeness cX3_likeness 4 (some .int), Cond.methodLink RX3 45 yX3_needSense, Cond.instanceMethod yX3_needSense, Cond.selects RX3 yX3_needSense yX3_needSense, Cond.code yX3_needSense cX3_needSense 2 none, Cond.methodLink RX3 206 yX1_exists, Cond.instanceMethod yX1_exists, Cond.selects RX1 yX1_exists yX1_exists, Cond.code yX1_exists cX1_exists 2 (some .boolean), Cond.methodLink RX3 178 yX1_alike, Cond.methodLink RL 125 yX3_bestWorth, Cond.instanceMethod yX3_bestWorth, Cond.selects RX3 yX3_bestWorth yX3_bestWorth]
def wsL_areChoicesSo_r7 : List Cond := [Cond.code yX3_bestWorth cX3_bestWorth 2 (some .int), Cond.methodLink RL 128 yX3_greatestWorth, Cond.instanceMethod yX3_greatestWorth, Cond.selects RX3 yX3_greatestWorth yX3_greatestWorth, Cond.code yX3_greatestWorth cX3_greatestWorth 2 (some .int), Cond.methodLink RX3 195 yX0_findGreatest, Cond.instanceMethod yX0_findGreatest, Cond.selects RX0 yX0_findGreatest yX0_findGreatest, Cond.code yX0_findGreatest cX0_findGreatest 1 (some .int), Cond.methodLink RX0 66 yX0_greatest, Cond.static yX0_greatest, Cond.code yX0_greatest cX0_greatest 7 (some .int), Cond.methodLink RL 90 yX3_choices, Cond.instanceMethod yX3_choices, Cond.selects RX3 yX3_choices yX3_choices, Cond.code yX3_choices cX3_choices 3 (some .int), Cond.methodLink RX3 182 yX2_wordAt, Cond.methodLink RX3 185 yX2_optionCount]
def wsL_areChoicesSo : List Cond := .code yL_areChoicesSo cL_areChoicesSo 7 (some .boolean) :: ((wsL_areChoicesSo_r1 ++ (wsL_areChoicesSo_r2 ++ (wsL_areChoicesSo_r3 ++ (wsL_areChoicesSo_r4 ++ (wsL_areChoicesSo_r5 ++ (wsL_areChoicesSo_r6 ++ wsL_areChoicesSo_r7)))))) ++ wsX30 ++ wsX20 ++ wsX00 ++ wsX10 ++ (vx_atS RX3 202 "java/lang/IndexOutOfBoundsException" ["java/lang/RuntimeException", "java/lang/Exception"]).filter goodWord ++ (vx_atS RX3 93 "java/lang/IllegalArgumentException" ["java/lang/RuntimeException", "java/lang/Exception"]).filter goodWord)
abbrev vwCl : List vw_C := [(RX0, TX0, 8), (RX1, TX1, 9), (RX2, TX2, 6), (RX3, TX3, 3)]
