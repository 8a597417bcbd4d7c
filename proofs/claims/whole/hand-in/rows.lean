section
/-! ===== BEGIN exceptions that leave a method, and their catching by the caller (launches without stack traces) ===== -/
section VXA
/-! The laws vx_back, vx_callV, vx_callS, vx_callSW, vx_throw0, vx_throwS follow proofs of the library, with one case more: JvmDerived/Free/Laws.lean (Back.of_free), Shelf42/LK1.lean (callV, callS), Shelf/KitTraced.lean (throwNew0V, throwNewS). -/
/-- where a method has thrown q: the class by its name, the cell, what was written, the world -/
def vx_T (XC : String → State → State → Prop) (st : State) (q : Addr) (t : State) (mc ms : Nat) (free : Addr → Prop) : Prop :=
  ∃ (E : String) (ce : Cell) (L : List Loc), XC E st t ∧ t.heap[q]? = some ce ∧ ce.vm = .none ∧ st.vm.findClass E = some ce.cls ∧ st.WarmedH t.vm ∧ st.sameButNew ({ t with vm := st.vm } : State) L mc ms ∧ ∀ z ∈ L, free z.base
def vx_Q (Qc : Array Value → State → Outcome → State → Prop) (XC : String → State → State → Prop) (mc ms : Nat) (free : Addr → Prop) : Array Value → State → Outcome → State → Prop := fun a st o t =>
  (Qc a st o t ∧ ∃ L, FrameEnd st o t L mc ms ∧ ∀ q ∈ L, free q.base) ∨ ∃ q, o = .threw q ∧ vx_T XC st q t mc ms free
/-- a callee that returns or throws -/
def vx_Met (l : Launch) (y : MethodName) (ws : List Cond) (rm : Room) (Pc : Array Value → State → Prop) (Qc : Array Value → State → Outcome → State → Prop) (XC : String → State → State → Prop) (mc ms : Nat) (free : Addr → Prop) : Prop :=
  MetFree l y (headSpec ws rm) Pc (fun _ _ _ _ _ => True) (vx_Q Qc XC mc ms free)
def vx_Post (XC : String → State → State → Prop) (mc ms : Nat) (free : Addr → Prop) : Pt → Array Value → Addr → Pt → Prop := fun A a q B =>
  ∃ (g : JFrame) (mk : MethodId) (t : State) (L : List Loc) (E : String) (ce : Cell), B.U.heap = t.heap ∧ B.U.vm = t.vm ∧ XC E (A.U.calling g mk a) t ∧ t.heap[q]? = some ce ∧ ce.vm = .none ∧ A.U.vm.findClass E = some ce.cls ∧ B.locs = A.locs ++ L ∧ (∀ z ∈ L, free z.base) ∧ B.cells = A.cells + mc ∧ B.slots = A.slots + ms
def vx_Back (l : Launch) (R : Room) (p : Program) (e : Env) (below : List Frame) (s : State) (sargs : Array Value) (y : MethodName) (len W9 : Nat)
    (Pre : Pt → Array Value → Prop) (Post : Pt → Array Value → Option Value → Pt → Prop) (PostX : Pt → Array Value → Addr → Pt → Prop) : Prop :=
  ∀ (m : MethodId) (meth : Method) (c : Code) (A : Pt) (g : JFrame) (ig : Instr) (mk : MethodId) (a : Array Value),
    Stand p l e R s m sargs below meth c A.U A.locs A.cells A.slots → g.method = m → g.locals.size = c.maxLocals → decode c.code g.pc = .ok (ig, len) →
    2 * g.monitorRoom + (g.stack.map fun v => v.category).sum ≤ W9 → A.U.methodNamed? y = some mk → Pre A a →
    (∃ (v : Option Value) (B : Pt), Stand p l e R s m sargs below meth c B.U B.locs B.cells B.slots ∧ Post A a v B ∧
      Steps p.tables e below (doInvoke e (A.U.setTop g) [] mk a).1 (B.U.setTop { g with pc := g.pc + len, stack := v.toList ++ g.stack })) ∨
    (∃ (q : Addr) (B : Pt), Stand p l e R s m sargs below meth c B.U B.locs B.cells B.slots ∧ PostX A a q B ∧
      Steps p.tables e below (doInvoke e (A.U.setTop g) [] mk a).1 ((B.U.setTop g).pushFrame (.throwing q)))
section Payer
variable {l : Launch} {R : Room} {p : Program} {e : Env} {below : List Frame} {s : State} {sargs : Array Value} {y : MethodName} {len W9 : Nat}
theorem vx_back {ws : List Cond} {rm : Room} {Pc : Array Value → State → Prop} {Qc : Array Value → State → Outcome → State → Prop} {XC : String → State → State → Prop} {mc ms : Nat} {free : Addr → Prop} {bytes : ByteArray} {maxL : Nat} {ret : Option FieldType}
    (hM : vx_Met l y ws rm Pc Qc XC mc ms free) (hblind : FrameBlind Pc) (hrc : rm.cells = mc) (hrs : rm.slots = ms)
    (hframes : rm.frames + 1 ≤ R.frames) (hlocals : W9 + (maxL + 11) + rm.locals ≤ R.locals)
    (hws : ∀ w ∈ ws, ∀ a' U, s.WarmedH U.vm → w.before a' U = true) (hcode : Cond.code y bytes maxL ret ∈ ws) (hinit : ∀ a' U, s.WarmedH U.vm → (Cond.initialized y.cls).before a' U = true) :
    vx_Back l R p e below s sargs y len W9 (PreOf R mc ms Pc) (PostOf Qc mc ms free) (vx_Post XC mc ms free) := by
  intro m meth c A g ig mk a X hg hsize hdg hW hn hp
  have h1 : (headSpec ws rm).pre.before a A.U = true := atoms_intro fun w hw => hws w hw _ _ X.warmed
  have h2 : (Cond.code y bytes maxL ret).before a A.U = true := hws _ hcode _ _ X.warmed
  have h3 : (Cond.initialized y.cls).before a A.U = true := hinit _ _ X.warmed
  have h4 : A.cells + (headSpec ws rm).room.cells ≤ R.cells := by rw [show (headSpec ws rm).room.cells = mc from hrc]; exact hp.1
  have h5 : A.slots + (headSpec ws rm).room.slots ≤ R.slots := by rw [show (headSpec ws rm).room.slots = ms from hrs]; exact hp.2.1
  have hPc : Pc a (A.U.calling g mk a) := hblind _ _ _ _ hp.2.2
  obtain ⟨U, Ls, c0, s0⟩ := A
  dsimp only [Pt.U, Pt.locs, Pt.cells, Pt.slots] at h1 h2 h3 h4 h5 X hn hPc ⊢
  obtain ⟨methY, cY, hmY, hcY, -, hlY, -, -, -, -⟩ := Cond.code_spec hn h2
  obtain ⟨kY, hkY, -⟩ := className_of_methodNamed hn
  have hinitY : kY.init = .initialized := Cond.initialized_spec (findClass_of_methodNamed hn) hkY h3
  have h : At U g.method c below := by rw [hg]; exact X.here
  have hlocals9 : W9 + (maxL + 11) + (headSpec ws rm).room.locals ≤ R.locals := hlocals
  have happ : (headSpec ws rm).appliesLoose y e.platform (U.calling g mk a) = true :=
    Spec.appliesLoose_calling (g := g) h hdg hn hkY hinitY
      (X.room_calling (g := g) (R' := (headSpec ws rm).room) hsize hmY hcY hframes (by rw [hlY]; omega) h4 h5) h1
  obtain ⟨mid, hmid⟩ := h.above
  have hfr : (U.setTop g).frames = (.java g :: mid) ++ below := by rw [State.frames_setTop' g h.top, hmid]; rfl
  obtain ⟨o, s₂, hsteps, -, hend, hq⟩ := Steps.callFree hM p X.admits X.cas X.clock (acts := []) hfr happ hPc trivial
  have hq' : vx_Q Qc XC mc ms free a (U.calling g mk a) o s₂ := hq
  rw [State.frames_setTop' g h.top] at hend
  obtain ⟨g₀, hg0⟩ := Option.isSome_iff_exists.mp h.top
  obtain ⟨r, hr⟩ := State.topJava?_eq_some.mp hg0
  have hr' : (({ U with heap := s₂.heap, slotsUsed := s₂.slotsUsed } : State).setVm s₂.vm).frames = .java g₀ :: r := hr
  rcases hq' with ⟨hqc, L, hfe, hL⟩ | ⟨q, rfl, E, ce, L, hx, hce, hcv, hcl, hW₂, hsm, hL⟩
  · obtain ⟨⟨v, rfl⟩, hW₂, e2, q2, q3, q4, q5, q6⟩ := id hfe
    have e3 : s₂ = ({ (U.calling g mk a).setFrames s₂.frames with heap := s₂.heap, slotsUsed := s₂.slotsUsed } : State).setVm s₂.vm := by
      have : s₂ = ({ s₂ with vm := (U.calling g mk a).vm } : State).setVm s₂.vm := rfl
      rw [e2] at this
      exact this
    obtain ⟨c₂, i₂, len₂, hc₂, hd₂, hf₂⟩ := hend
    have hW' : U.WarmedH s₂.vm := hW₂
    have hcc : c₂ = c := by
      have h1 : s₂.code? g.method = U.code? g.method := by
        rw [State.code?_eq, State.code?_eq, hW'.alike.method?]
      exact Option.some.inj (hc₂.symm.trans (h1.trans h.code))
    subst hcc
    have hlen : len₂ = len := by rw [hdg] at hd₂; cases hd₂; rfl
    subst hlen
    have hs₂ : s₂ = (({ U with heap := s₂.heap, slotsUsed := s₂.slotsUsed } : State).setVm s₂.vm).setTop { g with pc := g.pc + len₂, stack := v.toList ++ g.stack } := by
      refine e3.trans ?_
      rw [hf₂, State.calling_eq h.top, State.setFrames_setFrames, State.setTop_of_frames _ hr', hr]
      rfl
    have hsame : U.sameButNew ({ U with heap := s₂.heap, slotsUsed := s₂.slotsUsed } : State) L mc ms := by
      refine ⟨?_, q2, q3, q4, q5, q6⟩
      obtain ⟨t, ht, -⟩ := State.frames_cons hr
      show ({ U with heap := s₂.heap, slotsUsed := s₂.slotsUsed } : State) = { U.setFrames U.frames with heap := s₂.heap, slotsUsed := s₂.slotsUsed }
      rw [State.setFrames_self ht]
    subst hg
    refine Or.inl ⟨v, ⟨(({ U with heap := s₂.heap, slotsUsed := s₂.slotsUsed } : State).setVm s₂.vm), Ls ++ L, c0 + mc, s0 + ms⟩,
      ⟨X.admits, X.cas, X.clock, X.frames, X.room, X.hears, X.method, X.code, (X.here.setHeapUsed s₂.heap s₂.slotsUsed).setVm hW'.alike, X.tail, State.WarmedH.trans X.warmed hW', X.limits, X.bytes, X.same.trans (hsame.setVm s.vm)⟩,
      ⟨g, mk, s₂, L, rfl, rfl, hqc, rfl, hL, rfl, rfl⟩, ?_⟩
    show Steps p.tables e below _ ((({ U with heap := s₂.heap, slotsUsed := s₂.slotsUsed } : State).setVm s₂.vm).setTop { g with pc := g.pc + len₂, stack := v.toList ++ g.stack })
    rw [← hs₂]
    exact hsteps
  · obtain ⟨e2, q2, q3, q4, q5, q6⟩ := id hsm
    have e3 : s₂ = ({ (U.calling g mk a).setFrames s₂.frames with heap := s₂.heap, slotsUsed := s₂.slotsUsed } : State).setVm s₂.vm := by
      have : s₂ = ({ s₂ with vm := (U.calling g mk a).vm } : State).setVm s₂.vm := rfl
      rw [e2] at this
      exact this
    have hf₂ : s₂.frames = .throwing q :: .java g :: U.frames.tail := hend
    have hW' : U.WarmedH s₂.vm := hW₂
    have hs₂ : s₂ = ((({ U with heap := s₂.heap, slotsUsed := s₂.slotsUsed } : State).setVm s₂.vm).setTop g).pushFrame (.throwing q) := by
      refine e3.trans ?_
      rw [hf₂, State.calling_eq h.top, State.setFrames_setFrames, State.pushFrame, State.frames_setTop _ hr', State.setTop_of_frames _ hr', State.setFrames_setFrames, hr]
      rfl
    have hsame : U.sameButNew ({ U with heap := s₂.heap, slotsUsed := s₂.slotsUsed } : State) L mc ms := by
      refine ⟨?_, q2, q3, q4, q5, q6⟩
      obtain ⟨t, ht, -⟩ := State.frames_cons hr
      show ({ U with heap := s₂.heap, slotsUsed := s₂.slotsUsed } : State) = { U.setFrames U.frames with heap := s₂.heap, slotsUsed := s₂.slotsUsed }
      rw [State.setFrames_self ht]
    subst hg
    refine Or.inr ⟨q, ⟨(({ U with heap := s₂.heap, slotsUsed := s₂.slotsUsed } : State).setVm s₂.vm), Ls ++ L, c0 + mc, s0 + ms⟩,
      ⟨X.admits, X.cas, X.clock, X.frames, X.room, X.hears, X.method, X.code, (X.here.setHeapUsed s₂.heap s₂.slotsUsed).setVm hW'.alike, X.tail, State.WarmedH.trans X.warmed hW', X.limits, X.bytes, X.same.trans (hsame.setVm s.vm)⟩,
      ⟨g, mk, s₂, L, E, ce, rfl, rfl, hx, hce, hcv, hcl, rfl, hL, rfl, rfl⟩, ?_⟩
    show Steps p.tables e below _ (((({ U with heap := s₂.heap, slotsUsed := s₂.slotsUsed } : State).setVm s₂.vm).setTop g).pushFrame (.throwing q))
    rw [← hs₂]
    exact hsteps
end Payer
section Calls
variable {p : Program} {l : Launch} {e : Env} {R : Room} {s : State} {m : MethodId} {args : Array Value} {below : List Frame} {meth : Method} {c : Code} {T : State} {locs : List Loc} {cells slots : Nat}
theorem vx_callV (X : Stand p l e R s m args below meth c T locs cells slots) (hexec : p.tables.exec = Jvm.exec) {own C : String} {index : Nat} {y : MethodName} {bytes : ByteArray} {maxL : Nat} {ret : Option FieldType}
    (hown : s.vm.findClass own = some m.cls) (hlink : (Cond.methodLink own index y).before args s = true) (hinst : (Cond.instanceMethod y).before args s = true) (hsel : (Cond.selects C y y).before args s = true)
    (hcode : (Cond.code y bytes maxL ret).before args s = true) (hy : y.cls ≠ "java/lang/invoke/MethodHandle" ∧ y.cls ≠ "java/lang/invoke/VarHandle")
    {W9 : Nat} {Pre : Pt → Array Value → Prop} {Post : Pt → Array Value → Option Value → Pt → Prop} {PostX : Pt → Array Value → Addr → Pt → Prop} (hK : vx_Back l R p e below s args y 3 W9 Pre Post PostX)
    {b : Addr} {cellB : Cell} (hcell : T.heap[b]? = some cellB) (hobj : cellB.vm.isStatics = false) (hcls : s.vm.findClass C = some cellB.cls)
    {g : JFrame} (hg : g.method = m) (hsize : g.locals.size = c.maxLocals) {argsL rest : List Value} (hlen : ∀ sig, parseMethodDescriptor y.desc = some sig → argsL.length = sig.parameters.length)
    (hstack : g.stack = argsL.reverse ++ .ref b :: rest) (hW : 2 * g.monitorRoom + (rest.map fun v => v.category).sum ≤ W9) (hdg : decode c.code g.pc = .ok (.invokevirtual index, 3))
    (hpre : ∀ vm₁, s.WarmedH vm₁ → Pre ⟨T.setVm vm₁, locs, cells, slots⟩ (Value.ref b :: argsL).toArray) :
    (∃ (v : Option Value) (vm₁ : Vm) (B : Pt), s.WarmedH vm₁ ∧ Stand p l e R s m args below meth c B.U B.locs B.cells B.slots ∧ Post ⟨T.setVm vm₁, locs, cells, slots⟩ (Value.ref b :: argsL).toArray v B ∧
      ∀ target, Steps p.tables e below (B.U.setTop { g with pc := g.pc + 3, stack := v.toList ++ rest }) target → Steps p.tables e below (T.setTop g) target) ∨
    (∃ (q : Addr) (vm₁ : Vm) (B : Pt), s.WarmedH vm₁ ∧ Stand p l e R s m args below meth c B.U B.locs B.cells B.slots ∧ PostX ⟨T.setVm vm₁, locs, cells, slots⟩ (Value.ref b :: argsL).toArray q B ∧
      Steps p.tables e below (T.setTop g) ((B.U.setTop { g with stack := rest }).pushFrame (.throwing q))) := by
  obtain ⟨mk, methM, hnamed, hmethM, hstM, habM⟩ := Cond.instanceMethod_spec hinst
  obtain ⟨methM', cM, hmethM', -, -, -, -, -, -, hsigM⟩ := Cond.code_spec hnamed hcode
  cases hmethM.symm.trans hmethM'
  obtain ⟨c2, r2, m2, q1, q2, q3, q4, kP, hkP, hkPi⟩ := Cond.selects_spec hsel
  cases hcls.symm.trans q1
  cases (State.methodFound?_of_named hnamed hy).symm.trans q2
  cases hnamed.symm.trans q3
  have hselP : selectMethod e.platform s.vm cellB.cls mk = .method mk := by rw [Launch.admits_selectMethod X.admits]; exact q4
  obtain ⟨vm₁, X₁, hstep₁⟩ := X.invokevirtual hexec hown hlink hnamed hmethM hstM hkP hkPi hy (a := b) (cell := cellB) hcell
    (fun z h => by rw [h] at hobj; cases hobj) hselP hmethM habM hkP hkPi (g := g) hg (argsL := argsL) (rest := rest) (hlen _ hsigM) hstack hdg
  rcases hK m meth c ⟨T.setVm vm₁, locs, cells, slots⟩ { g with stack := rest } (.invokevirtual index) mk (Value.ref b :: argsL).toArray X₁ hg hsize hdg hW (X₁.named hnamed) (hpre vm₁ X₁.warmed) with ⟨v, B, X', hpost, hsteps⟩ | ⟨q, B, X', hpost, hsteps⟩
  · exact Or.inl ⟨v, vm₁, B, X₁.warmed, X', hpost, fun target h => hstep₁ _ fun acts => by rw [doInvoke_state]; exact hsteps.trans h⟩
  · exact Or.inr ⟨q, vm₁, B, X₁.warmed, X', hpost, hstep₁ _ fun acts => by rw [doInvoke_state]; exact hsteps⟩
theorem vx_callS (X : Stand p l e R s m args below meth c T locs cells slots) (hexec : p.tables.exec = Jvm.exec) {own : String} {index : Nat} {y : MethodName} {bytes : ByteArray} {maxL : Nat} {ret : Option FieldType}
    (hown : s.vm.findClass own = some m.cls) (hlink : (Cond.methodLink own index y).before args s = true) (hstat : (Cond.static y).before args s = true) (hinit : (Cond.initialized y.cls).before args s = true)
    (hcode : (Cond.code y bytes maxL ret).before args s = true) (hy : y.cls ≠ "java/lang/invoke/MethodHandle" ∧ y.cls ≠ "java/lang/invoke/VarHandle")
    {W9 : Nat} {Pre : Pt → Array Value → Prop} {Post : Pt → Array Value → Option Value → Pt → Prop} {PostX : Pt → Array Value → Addr → Pt → Prop} (hK : vx_Back l R p e below s args y 3 W9 Pre Post PostX)
    {g : JFrame} (hg : g.method = m) (hsize : g.locals.size = c.maxLocals) {argsL rest : List Value} (hlen : ∀ sig, parseMethodDescriptor y.desc = some sig → argsL.length = sig.parameters.length)
    (hstack : g.stack = argsL.reverse ++ rest) (hW : 2 * g.monitorRoom + (rest.map fun v => v.category).sum ≤ W9) (hdg : decode c.code g.pc = .ok (.invokestatic index, 3))
    (hpre : ∀ vm₁, s.WarmedH vm₁ → Pre ⟨T.setVm vm₁, locs, cells, slots⟩ argsL.toArray) :
    (∃ (v : Option Value) (vm₁ : Vm) (B : Pt), s.WarmedH vm₁ ∧ Stand p l e R s m args below meth c B.U B.locs B.cells B.slots ∧ Post ⟨T.setVm vm₁, locs, cells, slots⟩ argsL.toArray v B ∧
      ∀ target, Steps p.tables e below (B.U.setTop { g with pc := g.pc + 3, stack := v.toList ++ rest }) target → Steps p.tables e below (T.setTop g) target) ∨
    (∃ (q : Addr) (vm₁ : Vm) (B : Pt), s.WarmedH vm₁ ∧ Stand p l e R s m args below meth c B.U B.locs B.cells B.slots ∧ PostX ⟨T.setVm vm₁, locs, cells, slots⟩ argsL.toArray q B ∧
      Steps p.tables e below (T.setTop g) ((B.U.setTop { g with stack := rest }).pushFrame (.throwing q))) := by
  obtain ⟨mk, hnamed⟩ := Cond.code_named hcode
  obtain ⟨methM, cM, hmethM, -, -, -, -, -, -, hsigM⟩ := Cond.code_spec hnamed hcode
  have hstatic : methM.isStatic = true := Cond.static_spec hnamed hmethM hstat
  obtain ⟨kP, hkP, -⟩ := className_of_methodNamed hnamed
  have hinitP : kP.init = .initialized := Cond.initialized_spec (findClass_of_methodNamed hnamed) hkP hinit
  obtain ⟨vm₁, X₁, hstep₁⟩ := X.invokestatic hexec hown hlink hnamed hmethM hstatic hkP hinitP hy (g := g) hg (argsL := argsL) (rest := rest) (hlen _ hsigM) hstack hdg
  rcases hK m meth c ⟨T.setVm vm₁, locs, cells, slots⟩ { g with stack := rest } (.invokestatic index) mk argsL.toArray X₁ hg hsize hdg hW (X₁.named hnamed) (hpre vm₁ X₁.warmed) with ⟨v, B, X', hpost, hsteps⟩ | ⟨q, B, X', hpost, hsteps⟩
  · exact Or.inl ⟨v, vm₁, B, X₁.warmed, X', hpost, fun target h => hstep₁ _ fun acts => by rw [doInvoke_state]; exact hsteps.trans h⟩
  · exact Or.inr ⟨q, vm₁, B, X₁.warmed, X', hpost, hstep₁ _ fun acts => by rw [doInvoke_state]; exact hsteps⟩
end Calls
theorem vx_cls {s : State} {T : State} {vm₁ : Vm} {E : String} {k : ClassId} (hW : s.WarmedH vm₁) (h : (T.setVm vm₁).vm.findClass E = some k) : s.vm.findClass E = some k := by
  have h1 : vm₁.findClass E = some k := h
  rw [hW.alike.findClass] at h1
  exact h1
/-- the method's frame g, with q thrown over it -/
def vx_W (p : Program) (l : Launch) (e : Env) (R : Room) (s : State) (m : MethodId) (args : Array Value) (below : List Frame) (meth : Method) (c : Code) (H : Heap) (locs : List Loc) (cells slots : Nat) (Q : State → Prop) (g : JFrame) (q : Addr) : Prop :=
  ∀ T : State, T.heap = H → Stand p l e R s m args below meth c T locs cells slots → ∃ t, Steps p.tables e below ((T.setTop g).pushFrame (.throwing q)) t ∧ Q t
def vx_Run (p : Program) (l : Launch) (e : Env) (R : Room) (s : State) (m : MethodId) (args : Array Value) (below : List Frame) (meth : Method) (c : Code) (H : Heap) (locs : List Loc) (cells slots mc ms : Nat) (g : JFrame) (rest : List Value) (Qa : State → Outcome → State → Prop) (XC : String → State → State → Prop) (free : Addr → Prop) : Prop :=
  ∀ T : State, T.heap = H → Stand p l e R s m args below meth c T locs cells slots →
    (∃ (v : Option Value) (st₀ t T' : State) (L : List Loc), st₀.heap = H ∧ Stand p l e R s m args below meth c T' (locs ++ L) (cells + mc) (slots + ms) ∧ (∀ q ∈ L, free q.base) ∧ T'.heap = t.heap ∧ T'.vm = t.vm ∧ Qa st₀ (.returned v) t ∧
      Goes p e below T g T' { g with pc := g.pc + 3, stack := v.toList ++ rest }) ∨
    (∃ (q : Addr) (st₀ t T' : State) (L : List Loc) (E : String) (ce : Cell), st₀.heap = H ∧ Stand p l e R s m args below meth c T' (locs ++ L) (cells + mc) (slots + ms) ∧ (∀ z ∈ L, free z.base) ∧ T'.heap = t.heap ∧ T'.vm = t.vm ∧ XC E st₀ t ∧ t.heap[q]? = some ce ∧ ce.vm = .none ∧ s.vm.findClass E = some ce.cls ∧
      Steps p.tables e below (T.setTop g) ((T'.setTop { g with stack := rest }).pushFrame (.throwing q)))
def vx_X {S : Type} (px : S → Prop) (B : String → S → State → Prop) (A : Nat → Prop) : String → State → State → Prop := fun E st t => ∃ u : S, px u ∧ B E u t ∧ va_F A st t
section Runs
variable {p : Program} {l : Launch} {e : Env} {R : Room} {s : State} {m : MethodId} {args : Array Value} {below : List Frame} {meth : Method} {c : Code} {H : Heap} {locs : List Loc} {cells slots : Nat}
variable {y : MethodName} {bytes cc : ByteArray} {maxL nL mc ms n index : Nat} {ret : Option FieldType} {ws : List Cond} {rm : Room} {Pc : Array Value → State → Prop} {Qc : Array Value → State → Outcome → State → Prop} {XC : String → State → State → Prop} {free : Addr → Prop} {Ts : List Cond} {own C : String} {b : Addr} {As rest : List Value} {g : JFrame}
theorem vx_callBack (cb : CallB R s args own index y bytes maxL ret ws rm mc ms n) (hM : vx_Met l y ws rm Pc Qc XC mc ms free) (hbl : FrameBlind Pc) : vx_Back l R p e below s args y 3 8 (PreOf R mc ms Pc) (PostOf Qc mc ms free) (vx_Post XC mc ms free) := by
  obtain ⟨hrc, hrs, hfr, hlo, hws, hcw, -, hini, -⟩ := cb
  exact vx_back (bytes := bytes) (maxL := maxL) (ret := ret) hM hbl hrc hrs hfr hlo hws hcw (fun a' U hW => word_at hW (Or.inl (by first | rfl | simp [Cond.onTables, Cond.keeps, Cond.steady])) hini)
theorem vx_runV (S : CallFix p m c cc nL s args Ts own) (hM : vx_Met l y ws rm Pc Qc XC mc ms free) (cw : CallW R s args own C index y bytes maxL ret ws rm mc ms n) (hp : PreV s H C b Pc As)
    (hg : g.method = m) (hn : As.length = n) (hsize : g.locals.size = nL) (hstack : g.stack = As.reverse ++ .ref b :: rest) (hW : 2 * g.monitorRoom + (rest.map fun v => v.category).sum ≤ 8) (hdg : decode cc g.pc = .ok (.invokevirtual index, 3)) (hf : cells + mc ≤ R.cells ∧ slots + ms ≤ R.slots) :
    vx_Run p l e R s m args below meth c H locs cells slots mc ms g rest (Qc (Value.ref b :: As).toArray) XC free := by
  have hK : vx_Back l R p e below s args y 3 8 (PreOf R mc ms Pc) (PostOf Qc mc ms free) (vx_Post XC mc ms free) := vx_callBack cw.1 hM hp.1
  obtain ⟨⟨-, -, -, -, -, -, hcode, -, hy, hlen, hl⟩, hin, hse⟩ := cw
  obtain ⟨hx, hb, hml, ho, -⟩ := S
  obtain ⟨-, ⟨cellB, hcB, hoB, hclB⟩, hPc⟩ := hp
  intro T hT X
  rcases vx_callV X hx (C := C) (bytes := bytes) (maxL := maxL) (ret := ret) ho hl hin hse hcode hy hK (by rw [hT]; exact hcB) hoB hclB hg (hsize.trans hml.symm) (argsL := As) (rest := rest) (fun sig h => hn.trans (hlen sig h)) hstack hW (by rw [hb]; exact hdg)
    (fun vm₁ hW₁ => ⟨hf.1, hf.2, hPc (T.setVm vm₁) hT hW₁⟩) with ⟨v, vm₁, ⟨U', l2, c2, s2⟩, hW₁, X', ⟨g', mk, t, L, e1, e2, hq, h1, hL, h2, h3⟩, st⟩ | ⟨q, vm₁, ⟨U', l2, c2, s2⟩, hW₁, X', ⟨g', mk, t, L, E, ce, e1, e2, hq, hce, hcv, hcl, h1, hL, h2, h3⟩, st⟩
  · dsimp only [Pt.U, Pt.locs, Pt.cells, Pt.slots] at X' e1 e2 h1 h2 h3 st
    subst h1; subst h2; subst h3
    exact Or.inl ⟨v, (T.setVm vm₁).calling g' mk (Value.ref b :: As).toArray, t, U', L, hT, X', hL, e1, e2, hq, st⟩
  · dsimp only [Pt.U, Pt.locs, Pt.cells, Pt.slots] at X' e1 e2 h1 h2 h3 st hcl
    subst h1; subst h2; subst h3
    exact Or.inr ⟨q, (T.setVm vm₁).calling g' mk (Value.ref b :: As).toArray, t, U', L, E, ce, hT, X', hL, e1, e2, hq, hce, hcv, vx_cls hW₁ hcl, st⟩
theorem vx_runS (S : CallFix p m c cc nL s args Ts own) (hM : vx_Met l y ws rm Pc Qc XC mc ms free) (cw : CallB R s args own index y bytes maxL ret ws rm mc ms n ∧ (Cond.static y).before args s = true) (hp : PreS s H Pc As)
    (hg : g.method = m) (hn : As.length = n) (hsize : g.locals.size = nL) (hstack : g.stack = As.reverse ++ rest) (hW : 2 * g.monitorRoom + (rest.map fun v => v.category).sum ≤ 8) (hdg : decode cc g.pc = .ok (.invokestatic index, 3)) (hf : cells + mc ≤ R.cells ∧ slots + ms ≤ R.slots) :
    vx_Run p l e R s m args below meth c H locs cells slots mc ms g rest (Qc As.toArray) XC free := by
  have hK : vx_Back l R p e below s args y 3 8 (PreOf R mc ms Pc) (PostOf Qc mc ms free) (vx_Post XC mc ms free) := vx_callBack cw.1 hM hp.1
  obtain ⟨⟨-, -, -, -, -, -, hcode, hini, hy, hlen, hl⟩, hstt⟩ := cw
  obtain ⟨hx, hb, hml, ho, -⟩ := S
  intro T hT X
  rcases vx_callS X hx (bytes := bytes) (maxL := maxL) (ret := ret) ho hl hstt hini hcode hy hK hg (hsize.trans hml.symm) (argsL := As) (rest := rest) (fun sig h => hn.trans (hlen sig h)) hstack hW (by rw [hb]; exact hdg)
    (fun vm₁ hW₁ => ⟨hf.1, hf.2, hp.2 (T.setVm vm₁) hT hW₁⟩) with ⟨v, vm₁, ⟨U', l2, c2, s2⟩, hW₁, X', ⟨g', mk, t, L, e1, e2, hq, h1, hL, h2, h3⟩, st⟩ | ⟨q, vm₁, ⟨U', l2, c2, s2⟩, hW₁, X', ⟨g', mk, t, L, E, ce, e1, e2, hq, hce, hcv, hcl, h1, hL, h2, h3⟩, st⟩
  · dsimp only [Pt.U, Pt.locs, Pt.cells, Pt.slots] at X' e1 e2 h1 h2 h3 st
    subst h1; subst h2; subst h3
    exact Or.inl ⟨v, (T.setVm vm₁).calling g' mk As.toArray, t, U', L, hT, X', hL, e1, e2, hq, st⟩
  · dsimp only [Pt.U, Pt.locs, Pt.cells, Pt.slots] at X' e1 e2 h1 h2 h3 st hcl
    subst h1; subst h2; subst h3
    exact Or.inr ⟨q, (T.setVm vm₁).calling g' mk As.toArray, t, U', L, E, ce, hT, X', hL, e1, e2, hq, hce, hcv, vx_cls hW₁ hcl, st⟩
end Runs
section Rows
variable {p : Program} {l : Launch} {e : Env} {R : Room} {s : State} {m : MethodId} {args : Array Value} {below : List Frame} {meth : Method} {c : Code} {H : Heap} {locs : List Loc} {cells slots : Nat} {Q : State → Prop}
variable {mc ms : Nat} {free : Addr → Prop} {A0 A1 : Nat → Prop} {H0 : Heap} {a : Array Value} {pc : Nat} {ls : Array Slot} {st0 rest : List Value}
theorem vx_keep {st₀ t T' : State} {L : List Loc} (h0 : st₀.heap = H) (e1 : T'.heap = t.heap) (hS : va_S A0 H0 H locs) (hA : ∀ q, q < H.size → A1 q → A0 q) (hf : ∀ q, free q → A0 q) (hL : ∀ q ∈ L, free q.base) (hF : va_F A1 st₀ t) :
    H.size ≤ T'.heap.size ∧ (∀ q : Nat, q < H.size → ¬ A1 q → T'.heap[q]? = H[q]?) ∧ va_S A0 H0 T'.heap (locs ++ L) := by
  obtain ⟨hz, hk⟩ := hF
  rw [h0] at hz hk
  exact ⟨by rw [e1]; exact hz, fun q h1 h2 => by rw [e1]; exact hk q h1 h2,
    ⟨Nat.le_trans hS.1 (by rw [e1]; exact hz), fun q h1 h2 => by rw [e1, hk q (Nat.lt_of_lt_of_le h1 hS.1) (fun z => h2 (hA q (Nat.lt_of_lt_of_le h1 hS.1) z))]; exact hS.2.1 q h1 h2, fun q hq => by
      rcases List.mem_append.mp hq with h | h
      · exact hS.2.2 q h
      · exact hf _ (hL q h)⟩⟩
theorem vx_calli {S SX : Type} {post : Int32 → S → Prop} {px : SX → Prop} {B : S → State → Prop} {BX : String → SX → State → Prop} {AX : Nat → Prop} (hr : vx_Run p l e R s m args below meth c H locs cells slots mc ms (F0 m pc ls st0) rest (va_Qi post B A1 a) (vx_X px BX AX) free) (hS : va_S A0 H0 H locs) (hA : ∀ q, q < H.size → A1 q → A0 q) (hf : ∀ q, free q → A0 q) (hAX : ∀ q, q < H.size → AX q → A0 q)
    (kx : ∀ (E : String) (ce : Cell) (q9 : Addr) (u : SX) (t : State) (H1 : Heap) (locs1 : List Loc), t.heap = H1 → s.vm.Alike t.vm → px u → BX E u t → H.size ≤ H1.size → (∀ q : Nat, q < H.size → ¬ AX q → H1[q]? = H[q]?) → va_S A0 H0 H1 locs1 → H1[q9]? = some ce → ce.vm = .none → s.vm.findClass E = some ce.cls → vx_W p l e R s m args below meth c H1 locs1 (cells + mc) (slots + ms) Q (F0 m pc ls rest) q9)
    (kk : ∀ (r : Int32) (u : S) (t : State) (H1 : Heap) (locs1 : List Loc), t.heap = H1 → s.vm.Alike t.vm → post r u → B u t → H.size ≤ H1.size → (∀ q : Nat, q < H.size → ¬ A1 q → H1[q]? = H[q]?) → va_S A0 H0 H1 locs1 → W p l e R s m args below meth c H1 locs1 (cells + mc) (slots + ms) Q (F0 m (pc + 3) ls (.int r :: rest))) : W p l e R s m args below meth c H locs cells slots Q (F0 m pc ls st0) := by
  intro T hT X
  rcases hr T hT X with ⟨v, st₀, t, T', L, h0, X', hL, e1, e2, ⟨⟨r, u, hv, hp, hb⟩, hF⟩, st⟩ | ⟨q, st₀, t, T', L, E, ce, h0, X', hL, e1, e2, ⟨u, hp, hb, hF⟩, hce, hcv, hcl, st⟩
  · cases hv
    obtain ⟨k1, k2, k3⟩ := vx_keep h0 e1 hS hA hf hL hF
    obtain ⟨t2, a1, b1⟩ := kk r u t T'.heap (locs ++ L) e1.symm (by rw [← e2]; exact X'.warmed.alike) hp hb k1 k2 k3 T' rfl X'
    exact ⟨t2, st t2 a1, b1⟩
  · obtain ⟨k1, k2, k3⟩ := vx_keep h0 e1 hS hAX hf hL hF
    obtain ⟨t2, a1, b1⟩ := kx E ce q u t T'.heap (locs ++ L) e1.symm (by rw [← e2]; exact X'.warmed.alike) hp hb k1 k2 k3 (by rw [e1]; exact hce) hcv hcl T' rfl X'
    exact ⟨t2, st.trans a1, b1⟩
theorem vx_calll {S SX : Type} {post : Int64 → S → Prop} {px : SX → Prop} {B : S → State → Prop} {BX : String → SX → State → Prop} {AX : Nat → Prop} (hr : vx_Run p l e R s m args below meth c H locs cells slots mc ms (F0 m pc ls st0) rest (va_Ql post B A1 a) (vx_X px BX AX) free) (hS : va_S A0 H0 H locs) (hA : ∀ q, q < H.size → A1 q → A0 q) (hf : ∀ q, free q → A0 q) (hAX : ∀ q, q < H.size → AX q → A0 q)
    (kx : ∀ (E : String) (ce : Cell) (q9 : Addr) (u : SX) (t : State) (H1 : Heap) (locs1 : List Loc), t.heap = H1 → s.vm.Alike t.vm → px u → BX E u t → H.size ≤ H1.size → (∀ q : Nat, q < H.size → ¬ AX q → H1[q]? = H[q]?) → va_S A0 H0 H1 locs1 → H1[q9]? = some ce → ce.vm = .none → s.vm.findClass E = some ce.cls → vx_W p l e R s m args below meth c H1 locs1 (cells + mc) (slots + ms) Q (F0 m pc ls rest) q9)
    (kk : ∀ (r : Int64) (u : S) (t : State) (H1 : Heap) (locs1 : List Loc), t.heap = H1 → s.vm.Alike t.vm → post r u → B u t → H.size ≤ H1.size → (∀ q : Nat, q < H.size → ¬ A1 q → H1[q]? = H[q]?) → va_S A0 H0 H1 locs1 → W p l e R s m args below meth c H1 locs1 (cells + mc) (slots + ms) Q (F0 m (pc + 3) ls (.long r :: rest))) : W p l e R s m args below meth c H locs cells slots Q (F0 m pc ls st0) := by
  intro T hT X
  rcases hr T hT X with ⟨v, st₀, t, T', L, h0, X', hL, e1, e2, ⟨⟨r, u, hv, hp, hb⟩, hF⟩, st⟩ | ⟨q, st₀, t, T', L, E, ce, h0, X', hL, e1, e2, ⟨u, hp, hb, hF⟩, hce, hcv, hcl, st⟩
  · cases hv
    obtain ⟨k1, k2, k3⟩ := vx_keep h0 e1 hS hA hf hL hF
    obtain ⟨t2, a1, b1⟩ := kk r u t T'.heap (locs ++ L) e1.symm (by rw [← e2]; exact X'.warmed.alike) hp hb k1 k2 k3 T' rfl X'
    exact ⟨t2, st t2 a1, b1⟩
  · obtain ⟨k1, k2, k3⟩ := vx_keep h0 e1 hS hAX hf hL hF
    obtain ⟨t2, a1, b1⟩ := kx E ce q u t T'.heap (locs ++ L) e1.symm (by rw [← e2]; exact X'.warmed.alike) hp hb k1 k2 k3 (by rw [e1]; exact hce) hcv hcl T' rfl X'
    exact ⟨t2, st.trans a1, b1⟩
theorem vx_callf {S SX : Type} {post : UInt32 → S → Prop} {px : SX → Prop} {B : S → State → Prop} {BX : String → SX → State → Prop} {AX : Nat → Prop} (hr : vx_Run p l e R s m args below meth c H locs cells slots mc ms (F0 m pc ls st0) rest (va_Qf post B A1 a) (vx_X px BX AX) free) (hS : va_S A0 H0 H locs) (hA : ∀ q, q < H.size → A1 q → A0 q) (hf : ∀ q, free q → A0 q) (hAX : ∀ q, q < H.size → AX q → A0 q)
    (kx : ∀ (E : String) (ce : Cell) (q9 : Addr) (u : SX) (t : State) (H1 : Heap) (locs1 : List Loc), t.heap = H1 → s.vm.Alike t.vm → px u → BX E u t → H.size ≤ H1.size → (∀ q : Nat, q < H.size → ¬ AX q → H1[q]? = H[q]?) → va_S A0 H0 H1 locs1 → H1[q9]? = some ce → ce.vm = .none → s.vm.findClass E = some ce.cls → vx_W p l e R s m args below meth c H1 locs1 (cells + mc) (slots + ms) Q (F0 m pc ls rest) q9)
    (kk : ∀ (r : UInt32) (u : S) (t : State) (H1 : Heap) (locs1 : List Loc), t.heap = H1 → s.vm.Alike t.vm → post r u → B u t → H.size ≤ H1.size → (∀ q : Nat, q < H.size → ¬ A1 q → H1[q]? = H[q]?) → va_S A0 H0 H1 locs1 → W p l e R s m args below meth c H1 locs1 (cells + mc) (slots + ms) Q (F0 m (pc + 3) ls (.float r :: rest))) : W p l e R s m args below meth c H locs cells slots Q (F0 m pc ls st0) := by
  intro T hT X
  rcases hr T hT X with ⟨v, st₀, t, T', L, h0, X', hL, e1, e2, ⟨⟨r, u, hv, hp, hb⟩, hF⟩, st⟩ | ⟨q, st₀, t, T', L, E, ce, h0, X', hL, e1, e2, ⟨u, hp, hb, hF⟩, hce, hcv, hcl, st⟩
  · cases hv
    obtain ⟨k1, k2, k3⟩ := vx_keep h0 e1 hS hA hf hL hF
    obtain ⟨t2, a1, b1⟩ := kk r u t T'.heap (locs ++ L) e1.symm (by rw [← e2]; exact X'.warmed.alike) hp hb k1 k2 k3 T' rfl X'
    exact ⟨t2, st t2 a1, b1⟩
  · obtain ⟨k1, k2, k3⟩ := vx_keep h0 e1 hS hAX hf hL hF
    obtain ⟨t2, a1, b1⟩ := kx E ce q u t T'.heap (locs ++ L) e1.symm (by rw [← e2]; exact X'.warmed.alike) hp hb k1 k2 k3 (by rw [e1]; exact hce) hcv hcl T' rfl X'
    exact ⟨t2, st.trans a1, b1⟩
theorem vx_calld {S SX : Type} {post : UInt64 → S → Prop} {px : SX → Prop} {B : S → State → Prop} {BX : String → SX → State → Prop} {AX : Nat → Prop} (hr : vx_Run p l e R s m args below meth c H locs cells slots mc ms (F0 m pc ls st0) rest (va_Qd post B A1 a) (vx_X px BX AX) free) (hS : va_S A0 H0 H locs) (hA : ∀ q, q < H.size → A1 q → A0 q) (hf : ∀ q, free q → A0 q) (hAX : ∀ q, q < H.size → AX q → A0 q)
    (kx : ∀ (E : String) (ce : Cell) (q9 : Addr) (u : SX) (t : State) (H1 : Heap) (locs1 : List Loc), t.heap = H1 → s.vm.Alike t.vm → px u → BX E u t → H.size ≤ H1.size → (∀ q : Nat, q < H.size → ¬ AX q → H1[q]? = H[q]?) → va_S A0 H0 H1 locs1 → H1[q9]? = some ce → ce.vm = .none → s.vm.findClass E = some ce.cls → vx_W p l e R s m args below meth c H1 locs1 (cells + mc) (slots + ms) Q (F0 m pc ls rest) q9)
    (kk : ∀ (r : UInt64) (u : S) (t : State) (H1 : Heap) (locs1 : List Loc), t.heap = H1 → s.vm.Alike t.vm → post r u → B u t → H.size ≤ H1.size → (∀ q : Nat, q < H.size → ¬ A1 q → H1[q]? = H[q]?) → va_S A0 H0 H1 locs1 → W p l e R s m args below meth c H1 locs1 (cells + mc) (slots + ms) Q (F0 m (pc + 3) ls (.double r :: rest))) : W p l e R s m args below meth c H locs cells slots Q (F0 m pc ls st0) := by
  intro T hT X
  rcases hr T hT X with ⟨v, st₀, t, T', L, h0, X', hL, e1, e2, ⟨⟨r, u, hv, hp, hb⟩, hF⟩, st⟩ | ⟨q, st₀, t, T', L, E, ce, h0, X', hL, e1, e2, ⟨u, hp, hb, hF⟩, hce, hcv, hcl, st⟩
  · cases hv
    obtain ⟨k1, k2, k3⟩ := vx_keep h0 e1 hS hA hf hL hF
    obtain ⟨t2, a1, b1⟩ := kk r u t T'.heap (locs ++ L) e1.symm (by rw [← e2]; exact X'.warmed.alike) hp hb k1 k2 k3 T' rfl X'
    exact ⟨t2, st t2 a1, b1⟩
  · obtain ⟨k1, k2, k3⟩ := vx_keep h0 e1 hS hAX hf hL hF
    obtain ⟨t2, a1, b1⟩ := kx E ce q u t T'.heap (locs ++ L) e1.symm (by rw [← e2]; exact X'.warmed.alike) hp hb k1 k2 k3 (by rw [e1]; exact hce) hcv hcl T' rfl X'
    exact ⟨t2, st.trans a1, b1⟩
theorem vx_callv {S SX : Type} {post : S → Prop} {px : SX → Prop} {B : S → State → Prop} {BX : String → SX → State → Prop} {AX : Nat → Prop} (hr : vx_Run p l e R s m args below meth c H locs cells slots mc ms (F0 m pc ls st0) rest (va_Qv post B A1 a) (vx_X px BX AX) free) (hS : va_S A0 H0 H locs) (hA : ∀ q, q < H.size → A1 q → A0 q) (hf : ∀ q, free q → A0 q) (hAX : ∀ q, q < H.size → AX q → A0 q)
    (kx : ∀ (E : String) (ce : Cell) (q9 : Addr) (u : SX) (t : State) (H1 : Heap) (locs1 : List Loc), t.heap = H1 → s.vm.Alike t.vm → px u → BX E u t → H.size ≤ H1.size → (∀ q : Nat, q < H.size → ¬ AX q → H1[q]? = H[q]?) → va_S A0 H0 H1 locs1 → H1[q9]? = some ce → ce.vm = .none → s.vm.findClass E = some ce.cls → vx_W p l e R s m args below meth c H1 locs1 (cells + mc) (slots + ms) Q (F0 m pc ls rest) q9)
    (kk : ∀ (u : S) (t : State) (H1 : Heap) (locs1 : List Loc), t.heap = H1 → s.vm.Alike t.vm → post u → B u t → H.size ≤ H1.size → (∀ q : Nat, q < H.size → ¬ A1 q → H1[q]? = H[q]?) → va_S A0 H0 H1 locs1 → W p l e R s m args below meth c H1 locs1 (cells + mc) (slots + ms) Q (F0 m (pc + 3) ls (rest))) : W p l e R s m args below meth c H locs cells slots Q (F0 m pc ls st0) := by
  intro T hT X
  rcases hr T hT X with ⟨v, st₀, t, T', L, h0, X', hL, e1, e2, ⟨⟨u, hv, hp, hb⟩, hF⟩, st⟩ | ⟨q, st₀, t, T', L, E, ce, h0, X', hL, e1, e2, ⟨u, hp, hb, hF⟩, hce, hcv, hcl, st⟩
  · cases hv
    obtain ⟨k1, k2, k3⟩ := vx_keep h0 e1 hS hA hf hL hF
    obtain ⟨t2, a1, b1⟩ := kk u t T'.heap (locs ++ L) e1.symm (by rw [← e2]; exact X'.warmed.alike) hp hb k1 k2 k3 T' rfl X'
    exact ⟨t2, st t2 a1, b1⟩
  · obtain ⟨k1, k2, k3⟩ := vx_keep h0 e1 hS hAX hf hL hF
    obtain ⟨t2, a1, b1⟩ := kx E ce q u t T'.heap (locs ++ L) e1.symm (by rw [← e2]; exact X'.warmed.alike) hp hb k1 k2 k3 (by rw [e1]; exact hce) hcv hcl T' rfl X'
    exact ⟨t2, st.trans a1, b1⟩
/-- caught by the row x of this method's table; the rows ahead don't take it -/
theorem vx_catch {own name : String} {E : String} {ce : Cell} {q : Addr} (hown : s.vm.findClass own = some m.cls) (pre : List ExceptionTableEntry) (x : ExceptionTableEntry) (suf : List ExceptionTableEntry) (hsplit : c.exceptionTable.toList = pre ++ x :: suf)
    (hpass : ∀ z ∈ pre, covers z pc = false ∨ (z.catchType ≠ 0 ∧ ∃ nm : String, (Cond.classLink own z.catchType nm).before args s = true ∧ va_Nc E nm s)) (hx : covers x pc = true) (h0 : x.catchType ≠ 0)
    (hlink : (Cond.classLink own x.catchType name).before args s = true) (hcast : (Cond.castable E name).before args s = true) (hcell : H[q]? = some ce) (hv : ce.vm = .none) (hcl : s.vm.findClass E = some ce.cls)
    (kk : W p l e R s m args below meth c H locs cells slots Q (F0 m x.handlerPc ls [.ref q])) : vx_W p l e R s m args below meth c H locs cells slots Q (F0 m pc ls rest) q := by
  intro T hT X
  have hpl : e.platform.magicAccessors = ({} : Platform).magicAccessors := by rw [X.admits.platform]
  obtain ⟨c3, c4, hc3, hc4, hasg⟩ := Cond.castable_spec hcast
  cases Option.some.inj (hc3.symm.trans hcl)
  obtain ⟨c5, hc5, hcl5⟩ := Cond.classLink_spec hown hlink e.platform hpl
  cases Option.some.inj (hc4.symm.trans hc5)
  obtain ⟨vm', X', st⟩ := X.thenCaughtThrough q (g := F0 m pc ls rest) rfl (Steps.refl _) (by rw [hT]; exact hcell) (by rw [hv]; rfl) (by obtain ⟨k9, h9, -⟩ := Vm.findClass_spec hcl; exact ⟨k9, h9⟩) pre x suf hsplit
    (fun z hz => by
      rcases hpass z hz with h | ⟨hz0, nm, hl1, hn1⟩
      · exact Or.inl h
      · obtain ⟨c6, hc6, hcl6⟩ := Cond.classLink_spec hown hl1 e.platform hpl
        obtain ⟨a8, b8, h1, h2, h3⟩ := hn1
        cases Option.some.inj (h1.symm.trans hcl)
        cases Option.some.inj (h2.symm.trans hc6)
        exact Or.inr ⟨hz0, _, hcl6, h3⟩) hx (Or.inr ⟨h0, c4, hcl5, hasg⟩)
  obtain ⟨t, a1, b1⟩ := kk (T.setVm vm') hT X'
  exact ⟨t, st.trans a1, b1⟩
end Rows
section Ends
variable {p : Program} {l : Launch} {e : Env} {R : Room} {s : State} {m : MethodId} {args : Array Value} {below : List Frame} {meth : Method} {c : Code} {H : Heap} {locs : List Loc} {cells slots : Nat} {Q : State → Prop}
variable {mc ms : Nat} {free : Addr → Prop} {A0 A1 : Nat → Prop} {H0 : Heap} {a : Array Value} {ls : Array Slot} {st0 rest : List Value}
variable {Qc : Array Value → State → Outcome → State → Prop} {XC : String → State → State → Prop}
/-- what a body that may throw owes at its end -/
def vx_MQ (below : List Frame) (Qc : Array Value → State → Outcome → State → Prop) (XC : String → State → State → Prop) (a : Array Value) (s : State) (mc ms : Nat) (free : Addr → Prop) : State → Prop := fun t =>
  ∃ o, t.status = .running ∧ Ended t below o ∧ vx_Q Qc XC mc ms free a s o t
theorem vx_ret {g : JFrame} {mc ms : Nat} (k : W p l e R s m args below meth c H locs cells slots (MQ below Qc args s mc ms free) g) : W p l e R s m args below meth c H locs cells slots (vx_MQ below Qc XC args s mc ms free) g := by
  intro T hT X
  obtain ⟨t, a1, o, b1, b2, b3, b4⟩ := k T hT X
  exact ⟨t, a1, o, b1, b2, Or.inl ⟨b3, b4⟩⟩
/-- not caught here: it goes on to the caller -/
theorem vx_widen {g : JFrame} {q : Addr} {k n : Nat} (h1 : cells ≤ k) (h2 : slots ≤ n) (kk : vx_W p l e R s m args below meth c H locs k n Q g q) : vx_W p l e R s m args below meth c H locs cells slots Q g q := fun T hT X => kk T hT (stand_widen X h1 h2)
theorem vx_out {pc : Nat} {E : String} {ce : Cell} {q : Addr} {mc ms : Nat} (hout : ∀ x ∈ c.exceptionTable.toList, covers x pc = false) (hlocks : meth.locks = false) (hcell : H[q]? = some ce) (hv : ce.vm = .none) (hcl : s.vm.findClass E = some ce.cls)
    (hx : ∀ t : State, t.heap = H → s.vm.Alike t.vm → XC E s t) (hf : ∀ z ∈ locs, free z.base) (hc : cells ≤ mc) (hs : slots ≤ ms) :
    vx_W p l e R s m args below meth c H locs cells slots (vx_MQ below Qc XC args s mc ms free) (F0 m pc ls rest) q := by
  intro T hT X
  obtain ⟨st1, hrun, hend, hW, hsm⟩ := X.leaveThrown q (g := F0 m pc ls rest) rfl rfl rfl hout hlocks
  have hcell9 : (T.setFrames (.throwing q :: below)).heap[q]? = some ce := by
    show T.heap[q]? = some ce
    rw [hT]; exact hcell
  exact ⟨_, st1, .threw q, hrun, hend, Or.inr ⟨q, rfl, E, ce, locs, hx _ hT hW.alike, hcell9, hv, hcl, hW, hsm.mono hc hs, hf⟩⟩
theorem vx_frame {U : State} {k n : Nat} (h : s.sameButNew ({ U with vm := s.vm } : State) locs k n) : s.heap.size ≤ U.heap.size ∧ ∀ q : Nat, q < s.heap.size → (∀ z ∈ locs, z.base ≠ q) → U.heap[q]? = s.heap[q]? := by
  obtain ⟨-, h2, -, -, -, h6⟩ := h
  refine ⟨h2, fun q hq hz => ?_⟩
  obtain ⟨c9, e1, e2, e3, e4⟩ := h6 q _ (Array.getElem?_eq_getElem hq)
  have hs : c9.slots = (s.heap[q]).slots := Array.ext_getElem? fun i => e4 i fun hm => hz _ hm rfl
  have h9 : c9 = s.heap[q] := by
    rw [hs] at e2
    exact e2
  have e5 : U.heap[q]? = some c9 := e1
  rw [e5, h9, Array.getElem?_eq_getElem hq]
/-- the words of a throw but the four that speak of the heap -/
def vx_no (w : Cond) : Bool := decide (w ≠ .isRef (.static Bundle.tN "UNASSIGNED_STACK" Bundle.steD)) && decide (w ≠ .isRef (.static Bundle.tN "SUPPRESSED_SENTINEL" Bundle.listD)) && decide (w ≠ .laysStatic Bundle.tN "UNASSIGNED_STACK" Bundle.steD) && decide (w ≠ .laysStatic Bundle.tN "SUPPRESSED_SENTINEL" Bundle.listD)
def vx_at0 (own : String) (ic : Nat) (X : String) (names : List String) : List Cond := (Bundle.ownAtoms0 own ic X names).filter vx_no
def vx_atS (own : String) (ic : Nat) (X : String) (names : List String) : List Cond := (Bundle.ownAtoms own ic X names).filter vx_no
/-- a word that the tables alone decide, or a good one -/
def vx_ot (w : Cond) : Bool := w.onTables || goodWord w
theorem vx_ot_at {args a' : Array Value} {s U : State} {w : Cond} (hW : s.WarmedH U.vm) (hvm : s.vm = U.vm) (hg : vx_ot w = true) (h : w.before args s = true) : w.before a' U = true := by
  simp only [vx_ot, Bool.or_eq_true] at hg
  rcases hg with hg | hg
  · exact va_tabs hg hvm h
  · exact word_at hW (good_of_word hg) h
/-- a list's words: the good ones out of the method's own list, the others by premises of their own -/
theorem vx_hat {args : Array Value} {s : State} {L B : List Cond} (h1 : ∀ w ∈ L.filter goodWord, w.before args s = true) (h2 : ∀ w ∈ L.filter (fun w => !goodWord w), w ∈ B) (h3 : ∀ w ∈ B, w.before args s = true) : ∀ w ∈ L, w.before args s = true := by
  intro w hw
  by_cases g : goodWord w = true
  · exact h1 w (List.mem_filter.mpr ⟨hw, g⟩)
  · refine h3 w (h2 w (List.mem_filter.mpr ⟨hw, ?_⟩))
    show (!goodWord w) = true
    cases hgw : goodWord w
    · rfl
    · exact absurd hgw g
theorem vx_c {args : Array Value} {s : State} {w : Cond} {B : List Cond} (h : w.before args s = true) (t : ∀ w ∈ B, w.before args s = true) : ∀ w' ∈ w :: B, w'.before args s = true := fun w' h' => (List.mem_cons.mp h').elim (fun e => by rw [e]; exact h) (t w')
theorem vx_n {args : Array Value} {s : State} : ∀ w ∈ ([] : List Cond), w.before args s = true := fun _ h => nomatch h
theorem vx_own {args : Array Value} {s : State} {L : List Cond} (h1 : ∀ w ∈ L.filter vx_no, w.before args s = true)
    (hU : (Cond.isRef (.static Bundle.tN "UNASSIGNED_STACK" Bundle.steD)).before args s = true) (hN : (Cond.isRef (.static Bundle.tN "SUPPRESSED_SENTINEL" Bundle.listD)).before args s = true)
    (lU : (Cond.laysStatic Bundle.tN "UNASSIGNED_STACK" Bundle.steD).before args s = true) (lN : (Cond.laysStatic Bundle.tN "SUPPRESSED_SENTINEL" Bundle.listD).before args s = true) : ∀ w ∈ L, w.before args s = true := by
  intro w hw
  by_cases e1 : w = .isRef (.static Bundle.tN "UNASSIGNED_STACK" Bundle.steD)
  · rw [e1]; exact hU
  · by_cases e2 : w = .isRef (.static Bundle.tN "SUPPRESSED_SENTINEL" Bundle.listD)
    · rw [e2]; exact hN
    · by_cases e3 : w = .laysStatic Bundle.tN "UNASSIGNED_STACK" Bundle.steD
      · rw [e3]; exact lU
      · by_cases e4 : w = .laysStatic Bundle.tN "SUPPRESSED_SENTINEL" Bundle.listD
        · rw [e4]; exact lN
        · exact h1 w (List.mem_filter.mpr ⟨hw, by unfold vx_no; rw [decide_eq_true e1, decide_eq_true e2, decide_eq_true e3, decide_eq_true e4]; rfl⟩)
/-- where a static field lies, its class's statics cell in H -/
def vx_L (C n d : String) (A : Nat → Prop) (U : State) (H : Heap) : Prop := ∃ (c : ClassId) (k : Class) (i : Nat) (f : Field) (a : Nat) (cell : Cell), U.vm.findClass C = some c ∧ U.fieldFound? C n d = some (c, k, i, f) ∧ f.isStatic = true ∧ k.statics = some a ∧ H[a]? = some cell ∧ cell.vm.isStatics = true ∧ cell.cls = c ∧ f.slot < cell.slots.size ∧ k.staticTypes[f.slot]? = some f.type ∧ ¬ A a
theorem vx_L.moved {C n d : String} {A : Nat → Prop} {u U : State} {H : Heap} (hvm : u.vm.Alike U.vm) (h : vx_L C n d A u H) : vx_L C n d A U H := by
  obtain ⟨c, k, i, f, a, cell, h1, h2, h3, h4, h5, h6, h7, h8, h9, h10⟩ := h
  obtain ⟨k', hi', he⟩ := State.fieldFound?_setVm hvm h2
  exact ⟨c, k', i, f, a, cell, by rw [hvm.findClass]; exact h1, hi', h3, by rw [he]; exact h4, h5, h6, h7, h8, by rw [he]; exact h9, h10⟩
theorem vx_L.kept {C n d : String} {A : Nat → Prop} {U : State} {H H1 : Heap} (h : vx_L C n d A U H) (hq : ∀ a : Nat, a < H.size → ¬ A a → H1[a]? = H[a]?) : vx_L C n d A U H1 := by
  obtain ⟨c, k, i, f, a, cell, h1, h2, h3, h4, h5, h6, h7, h8, h9, h10⟩ := h
  exact ⟨c, k, i, f, a, cell, h1, h2, h3, h4, by rw [hq a (Array.getElem?_eq_some_iff.mp h5).1 h10]; exact h5, h6, h7, h8, h9, h10⟩
theorem vx_L.narrow {C n d : String} {A B : Nat → Prop} {U : State} {H : Heap} (h : vx_L C n d A U H) (hAB : ∀ q, B q → A q) : vx_L C n d B U H := by
  obtain ⟨c, k, i, f, a, cell, h1, h2, h3, h4, h5, h6, h7, h8, h9, h10⟩ := h
  exact ⟨c, k, i, f, a, cell, h1, h2, h3, h4, h5, h6, h7, h8, h9, fun z => h10 (hAB _ z)⟩
theorem vx_L.word {C n d : String} {A : Nat → Prop} {s : State} {args : Array Value} (h : vx_L C n d A s s.heap) : (Cond.laysStatic C n d).before args s = true := by
  obtain ⟨c, k, i, f, a, cell, h1, h2, h3, h4, h5, h6, h7, h8, h9, -⟩ := h
  show (Cond.laysStatic C n d).holds args s none s [] = true
  exact Cond.laysStatic_of h1 h2 h3 h4 h5 h6 h7 h8 h9
/-- .. and what it holds: null or some reference -/
def vx_Zq (C n d : String) (A : Nat → Prop) (U : State) (H : Heap) : Prop := va_Zq C n d A U H ∧ vx_L C n d A U H
theorem vx_Zq.moved {C n d : String} {A : Nat → Prop} {u U : State} {H : Heap} (hvm : u.vm.Alike U.vm) (h : vx_Zq C n d A u H) : vx_Zq C n d A U H := ⟨va_Zq.moved hvm h.1, vx_L.moved hvm h.2⟩
theorem vx_Zq.kept {C n d : String} {A : Nat → Prop} {U : State} {H H1 : Heap} (h : vx_Zq C n d A U H) (hq : ∀ a : Nat, a < H.size → ¬ A a → H1[a]? = H[a]?) : vx_Zq C n d A U H1 := ⟨va_Zq.kept h.1 hq, vx_L.kept h.2 hq⟩
theorem vx_Zq.narrow {C n d : String} {A B : Nat → Prop} {U : State} {H : Heap} (h : vx_Zq C n d A U H) (hAB : ∀ q, B q → A q) : vx_Zq C n d B U H := ⟨va_Zq.narrow h.1 hAB, vx_L.narrow h.2 hAB⟩
theorem vx_Zqof {args : Array Value} {s : State} {C n d : String} {A : Nat → Prop} (hl : (Cond.laysStatic C n d).before args s = true) (hini : (Cond.initialized C).before args s = true) (h : (Cond.isRef (.static C n d)).before args s = true) (hA : ∀ a : Nat, a < s.heap.size → ¬ A a) : vx_Zq C n d A s s.heap := by
  refine ⟨va_Zqof hl hini h hA, ?_⟩
  obtain ⟨c, k, i, f, a, cell, h1, h2, h3, h4, h5, h6, h7, h8, h9⟩ := Cond.laysStatic_spec hl
  exact ⟨c, k, i, f, a, cell, h1, h2, h3, h4, h5, h6, h7, h8, h9, hA a (Array.getElem?_eq_some_iff.mp h5).1⟩
theorem vx_isRef {C n d : String} {v : Value} {A : Nat → Prop} {s : State} {args : Array Value} (h : va_Z C n d v A s s.heap) (hv : v.isRef = true) : (Cond.isRef (.static C n d)).before args s = true := by
  obtain ⟨cf, kf, fi, f, a, cell, h1, h2, h3, h4, h5, h6, h7, -⟩ := h
  have he : (Term.static C n d).eval args s none [] s = some v := by
    simp [Term.eval, State.fieldNamed?, h1, h2, h4, h5, h6, h7]
  simp only [Cond.before, Cond.holds, Cond.value, he]
  cases v <;> simp_all [Value.isRef]
theorem vx_isRefq {C n d : String} {A : Nat → Prop} {s : State} {args : Array Value} (h : va_Zq C n d A s s.heap) : (Cond.isRef (.static C n d)).before args s = true := by
  rcases h with h | ⟨t, h⟩
  · exact vx_isRef h rfl
  · exact vx_isRef h rfl
/-- the same frame, seen from here: as if the method were called anew in this heap -/
theorem vx_rebase {T : State} (X : Stand p l e R s m args below meth c T locs cells slots) {R' : Room} (hf : R'.frames ≤ R.frames) (hl : R'.locals ≤ R.locals) (hc : cells + R'.cells ≤ R.cells) (hs : slots + R'.slots ≤ R.slots) :
    Stand p l e R' ((T.setVm s.vm).setFrames (.invoking m args :: below)) m args below meth c T [] 0 0 := by
  have htop : (T.setVm s.vm).topJava?.isSome := X.here.top
  have hF : ((T.setVm s.vm).setFrames (.invoking m args :: below)).frames = .invoking m args :: below := State.frames_setFrames _ (State.cur_lt_of_top htop)
  obtain ⟨g₀, hg0⟩ := Option.isSome_iff_exists.mp htop
  obtain ⟨r, hr⟩ := State.topJava?_eq_some.mp hg0
  have hl9 : e.platform.stackLimits (T.setVm s.vm).me = e.platform.stackLimits s.me := X.limits
  have hb9 : (T.setVm s.vm).me.stackBytes = s.me.stackBytes := X.bytes
  refine ⟨X.admits, X.cas, X.clock, hF, ?_, X.hears, X.method, X.code, X.here, X.tail, X.warmed, ?_, ?_, ?_⟩
  · have h := X.room
    have hU : ((T.setVm s.vm).setFrames (.invoking m args :: below)).localsInUse = s.localsInUse := by
      rw [State.localsInUse_invoking hF (meth := meth) (c := c) X.method X.code, State.localsInUse_invoking X.frames X.method X.code]
    simp only [State.hasRoom, Bool.and_eq_true, decide_eq_true_eq] at h ⊢
    obtain ⟨⟨⟨⟨h1, h2, h3, h4, h5, h6⟩, h7⟩, h8⟩, h9⟩ := h
    rw [X.frames, List.length_cons] at h2 h3
    have q1 := X.heapSize
    have q2 := X.used
    simp only [hF, hU, List.length_cons, State.stackLimits_setFrames, State.stackBytes_setFrames, hl9, hb9]
    refine ⟨⟨⟨⟨by omega, by omega, by omega, by omega, by omega, h6⟩, ?_⟩, ?_⟩, X.book⟩
    · show T.heap.size + R'.cells ≤ e.platform.maxCells
      omega
    · show T.slotsUsed + R'.slots ≤ e.platform.maxSlots
      omega
  · rw [State.stackLimits_setFrames]; rfl
  · rw [State.stackBytes_setFrames]; rfl
  · refine ⟨?_, Nat.le_refl _, Nat.le_refl _, ?_, ?_, fun a c9 h9 => ⟨c9, h9, rfl, rfl, fun _ _ => rfl⟩⟩
    · obtain ⟨t, ht, -⟩ := State.frames_cons hr
      show T.setVm s.vm = { ((T.setVm s.vm).setFrames (.invoking m args :: below)).setFrames (T.setVm s.vm).frames with heap := T.heap, slotsUsed := T.slotsUsed }
      rw [State.setFrames_setFrames, State.setFrames_self ht]
      rfl
    · show T.slotsUsed = T.slotsUsed + ((T.heap.toList.drop T.heap.size).map (·.slots.size)).sum
      rw [List.drop_eq_nil_of_le (Nat.le_of_eq Array.length_toList)]
      rfl
    · show ((T.heap.toList.drop T.heap.size).map (·.slots.size)).sum ≤ 0
      rw [List.drop_eq_nil_of_le (Nat.le_of_eq Array.length_toList)]
      exact Nat.le_refl _
/-- 'throw new E()': new; dup; invokespecial; athrow -/
theorem vx_throw0 {cc : ByteArray} {pc : Nat} (hexec : p.tables.exec = Jvm.exec) (hb : c.code = cc) (hl : l.stackTraces = false) {own cls : String} {names : List String} {ik ic mc ms : Nat} {A : Nat → Prop}
    (hown : s.vm.findClass own = some m.cls) (hcls : Bundle.fit cls = true) (hnames : ∀ n ∈ names, Bundle.fit n = true)
    (hk : (Cond.classLink own ik cls).before args s = true) (hini : (Cond.initialized cls).before args s = true) (hat : ∀ w ∈ vx_at0 own ic cls names, w.before args s = true)
    (hgood : ∀ w ∈ Cond.classLink own ik cls :: Cond.initialized cls :: vx_at0 own ic cls names, vx_ot w = true)
    (hU : vx_Zq Bundle.tN "UNASSIGNED_STACK" Bundle.steD A s s.heap) (hN : vx_Zq Bundle.tN "SUPPRESSED_SENTINEL" Bundle.listD A s s.heap) (hS : va_S A s.heap H locs) (hsize : ls.size = c.maxLocals)
    (d0 : decode cc pc = .ok (.new ik, 3)) (d3 : decode cc (pc + 3) = .ok (.dup, 1)) (d4 : decode cc (pc + 4) = .ok (.invokespecial ic, 3)) (d7 : decode cc (pc + 7) = .ok (.athrow, 1))
    (hout : ∀ x ∈ c.exceptionTable.toList, covers x (pc + 7) = false)
    (hRframes : names.length + 3 < R.frames) (hRlocals : (rest.map fun v => v.category).sum + (13 * (names.length + 1) + 42) ≤ R.locals) (hRcells : cells + 1 ≤ R.cells) (hRslots : slots + 6 ≤ R.slots) (hlocks : meth.locks = false)
    (hx : ∀ t : State, s.vm.Alike t.vm → H.size ≤ t.heap.size → (∀ q : Nat, q < H.size → t.heap[q]? = H[q]?) → XC cls s t)
    (hf : ∀ z ∈ locs, free z.base) (hc : cells + 1 ≤ mc) (hs : slots + 6 ≤ ms) :
    W p l e R s m args below meth c H locs cells slots (vx_MQ below Qc XC args s mc ms free) (F0 m pc ls rest) := by
  intro T hT X
  have htr : e.platform.stackTraces = false := (show e.platform.stackTraces = l.stackTraces by rw [X.admits.platform]).trans hl
  have Y := vx_rebase X (R' := { frames := R.frames, locals := R.locals, cells := 1, slots := 6 }) (Nat.le_refl _) (Nat.le_refl _) hRcells hRslots
  obtain ⟨s', hA⟩ : ∃ z, z = (T.setVm s.vm).setFrames (.invoking m args :: below) := ⟨_, rfl⟩
  rw [← hA] at Y
  have hvm : s'.vm = s.vm := by rw [hA]; rfl
  have hhp : s'.heap = H := by rw [hA]; exact hT
  have hW0 : s.WarmedH s'.vm := by rw [hvm]; exact State.WarmedH.refl s
  have hat' : ∀ w ∈ vx_at0 own ic cls names, w.before args s' = true := fun w hw => vx_ot_at hW0 hvm.symm (hgood w (List.mem_cons_of_mem _ (List.mem_cons_of_mem _ hw))) (hat w hw)
  have hk' : (Cond.classLink own ik cls).before args s' = true := vx_ot_at hW0 hvm.symm (hgood _ List.mem_cons_self) hk
  have hini' : (Cond.initialized cls).before args s' = true := vx_ot_at hW0 hvm.symm (hgood _ (List.mem_cons_of_mem _ List.mem_cons_self)) hini
  have hU' : vx_Zq Bundle.tN "UNASSIGNED_STACK" Bundle.steD A s' s'.heap := by rw [hhp]; exact vx_Zq.moved hW0.alike (hU.kept hS.2.1)
  have hN' : vx_Zq Bundle.tN "SUPPRESSED_SENTINEL" Bundle.listD A s' s'.heap := by rw [hhp]; exact vx_Zq.moved hW0.alike (hN.kept hS.2.1)
  have h : ∀ w ∈ Bundle.ownAtoms0 own ic cls names, w.before args s' = true := vx_own hat' (vx_isRefq hU'.1) (vx_isRefq hN'.1) hU'.2.word hN'.2.word
  have hown' : s'.vm.findClass own = some m.cls := by rw [hvm]; exact hown
  have hins : (Cond.instantiable cls 6).before args s' = true := h _ (by simp [Bundle.ownAtoms0])
  obtain ⟨vm₁, cX, kX, hfX, hkX, -, -, X₁, st1⟩ := Y.newCold hexec (own := own) (C := cls) (index := ik) (n := 6) hown' hk' hins hini'
    (g := F0 m pc ls rest) rfl (by rw [hb]; exact d0) (Nat.le_refl _) (Nat.le_refl _)
  generalize hT1 : (T.setVm vm₁).pushCell { cls := cX, slots := kX.instanceTypes.map defaultValue, vm := .none } = T1 at X₁ st1
  have hcat : (Value.ref T.heap.size).category = 1 := rfl
  have hcellA : T1.heap[T.heap.size]? = some (freshCell cX kX) := by rw [← hT1]; exact State.heap_pushCell_size _ _
  have d3' : decode c.code (pc + 3) = .ok (.dup, 1) := by rw [hb]; exact d3
  obtain ⟨U, hsteps, hrun, hend, hW, hsame, ce, hce, hO⟩ := X₁.ctorThrow0 hexec htr (own := own) (cls := cls) (names := names) (ic := ic) hown' hcls hnames h (fun x hx => nomatch hx) hfX hkX hcellA (by rw [hhp, hT]; exact Nat.le_refl _)
    (g := { method := m, pc := pc + 4, locals := ls, stack := .ref T.heap.size :: .ref T.heap.size :: rest, locked := none }) rfl hsize rfl rfl (rest := rest) rfl
    (by rw [hb]; exact d4) (by rw [hb]; exact d7) hout hRframes (by simp only [List.map_cons, List.sum_cons, hcat]; omega) hlocks
  obtain ⟨f1, f2⟩ := vx_frame hsame
  rw [hhp] at f1 f2
  have hWs : s.WarmedH U.vm := State.WarmedH.trans hW0 hW
  have hcl : s.vm.findClass cls = some ce.cls := by
    have h9 := hO.cls
    rw [hvm] at h9
    exact h9
  have hall : s.sameButNew ({ U with vm := s.vm } : State) locs mc ms := by
    subst hA
    obtain ⟨e1, e2⟩ := hsame
    rw [State.setFrames_setFrames] at e1
    have h2 : (T.setVm s.vm).sameButNew ({ U with vm := s.vm } : State) [] (0 + 1) (0 + 6) := ⟨e1, e2⟩
    have h3 := X.same.trans h2
    rw [List.append_nil] at h3
    exact h3.mono hc hs
  refine ⟨U, ?_, .threw T.heap.size, hrun, hend, Or.inr ⟨T.heap.size, rfl, cls, ce, locs, hx U hWs.alike f1 (fun q hq => f2 q hq (fun z hz => nomatch hz)), hce, hO.vm, hcl, hWs, hall, hf⟩⟩
  refine st1 _ ?_
  show Steps p.tables e below (T1.setTop { method := m, pc := pc + 3, locals := ls, stack := .ref T.heap.size :: rest, locked := none }) _
  jvm_step X₁.here [X₁.here.top, hexec, d3', Value.category]
  exact hsteps
/-- 'throw new E("text")': new; dup; ldc; invokespecial; athrow -/
theorem vx_throwS {cc : ByteArray} {pc : Nat} (hexec : p.tables.exec = Jvm.exec) (hb : c.code = cc) (hl : l.stackTraces = false) {own cls text : String} {names : List String} {ik is ic mc ms sa : Nat} {A : Nat → Prop}
    (hown : s.vm.findClass own = some m.cls) (hcls : Bundle.fit cls = true) (hnames : ∀ n ∈ names, Bundle.fit n = true)
    (hk : (Cond.classLink own ik cls).before args s = true) (hini : (Cond.initialized cls).before args s = true) (hstr : vk_R own is text sa s) (hat : ∀ w ∈ vx_atS own ic cls names, w.before args s = true)
    (hgood : ∀ w ∈ Cond.classLink own ik cls :: Cond.initialized cls :: vx_atS own ic cls names, vx_ot w = true)
    (hU : vx_Zq Bundle.tN "UNASSIGNED_STACK" Bundle.steD A s s.heap) (hN : vx_Zq Bundle.tN "SUPPRESSED_SENTINEL" Bundle.listD A s s.heap) (hS : va_S A s.heap H locs) (hsize : ls.size = c.maxLocals)
    (d0 : decode cc pc = .ok (.new ik, 3)) (d3 : decode cc (pc + 3) = .ok (.dup, 1)) (d4 : decode cc (pc + 4) = .ok (.ldc is, 2)) (d6 : decode cc (pc + 6) = .ok (.invokespecial ic, 3)) (d9 : decode cc (pc + 9) = .ok (.athrow, 1))
    (hout : ∀ x ∈ c.exceptionTable.toList, covers x (pc + 9) = false)
    (hRframes : names.length + 3 < R.frames) (hRlocals : (rest.map fun v => v.category).sum + (13 * (names.length + 1) + 43) ≤ R.locals) (hRcells : cells + 1 ≤ R.cells) (hRslots : slots + 6 ≤ R.slots) (hlocks : meth.locks = false)
    (hx : ∀ t : State, s.vm.Alike t.vm → H.size ≤ t.heap.size → (∀ q : Nat, q < H.size → t.heap[q]? = H[q]?) → XC cls s t)
    (hf : ∀ z ∈ locs, free z.base) (hc : cells + 1 ≤ mc) (hs : slots + 6 ≤ ms) :
    W p l e R s m args below meth c H locs cells slots (vx_MQ below Qc XC args s mc ms free) (F0 m pc ls rest) := by
  intro T hT X
  have htr : e.platform.stackTraces = false := (show e.platform.stackTraces = l.stackTraces by rw [X.admits.platform]).trans hl
  have Y := vx_rebase X (R' := { frames := R.frames, locals := R.locals, cells := 1, slots := 6 }) (Nat.le_refl _) (Nat.le_refl _) hRcells hRslots
  obtain ⟨s', hA⟩ : ∃ z, z = (T.setVm s.vm).setFrames (.invoking m args :: below) := ⟨_, rfl⟩
  rw [← hA] at Y
  have hvm : s'.vm = s.vm := by rw [hA]; rfl
  have hhp : s'.heap = H := by rw [hA]; exact hT
  have hW0 : s.WarmedH s'.vm := by rw [hvm]; exact State.WarmedH.refl s
  have hat' : ∀ w ∈ vx_atS own ic cls names, w.before args s' = true := fun w hw => vx_ot_at hW0 hvm.symm (hgood w (List.mem_cons_of_mem _ (List.mem_cons_of_mem _ hw))) (hat w hw)
  have hk' : (Cond.classLink own ik cls).before args s' = true := vx_ot_at hW0 hvm.symm (hgood _ List.mem_cons_self) hk
  have hini' : (Cond.initialized cls).before args s' = true := vx_ot_at hW0 hvm.symm (hgood _ (List.mem_cons_of_mem _ List.mem_cons_self)) hini
  have hU' : vx_Zq Bundle.tN "UNASSIGNED_STACK" Bundle.steD A s' s'.heap := by rw [hhp]; exact vx_Zq.moved hW0.alike (hU.kept hS.2.1)
  have hN' : vx_Zq Bundle.tN "SUPPRESSED_SENTINEL" Bundle.listD A s' s'.heap := by rw [hhp]; exact vx_Zq.moved hW0.alike (hN.kept hS.2.1)
  have h : ∀ w ∈ Bundle.ownAtoms own ic cls names, w.before args s' = true := vx_own hat' (vx_isRefq hU'.1) (vx_isRefq hN'.1) hU'.2.word hN'.2.word
  have hown' : s'.vm.findClass own = some m.cls := by rw [hvm]; exact hown
  have hins : (Cond.instantiable cls 6).before args s' = true := h _ (by simp [Bundle.ownAtoms])
  obtain ⟨vm₁, cX, kX, hfX, hkX, -, -, X₁, st1⟩ := Y.newCold hexec (own := own) (C := cls) (index := ik) (n := 6) hown' hk' hins hini'
    (g := F0 m pc ls rest) rfl (by rw [hb]; exact d0) (Nat.le_refl _) (Nat.le_refl _)
  generalize hT1 : (T.setVm vm₁).pushCell { cls := cX, slots := kX.instanceTypes.map defaultValue, vm := .none } = T1 at X₁ st1
  have hcat : (Value.ref T.heap.size).category = 1 := rfl
  have hcellA : T1.heap[T.heap.size]? = some (freshCell cX kX) := by rw [← hT1]; exact State.heap_pushCell_size _ _
  have d3' : decode c.code (pc + 3) = .ok (.dup, 1) := by rw [hb]; exact d3
  have d4' : decode c.code (pc + 4) = .ok (.ldc is, 2) := by rw [hb]; exact d4
  have hstr' : vk_R own is text sa s' := vk_R.warm hW0 hstr
  obtain ⟨U, hsteps, hrun, hend, hW, hsame, ce, hce, hO⟩ := X₁.ctorThrowS hexec htr (own := own) (cls := cls) (names := names) (ic := ic) hown' hcls hnames h (fun x hx => nomatch hx) hfX hkX hcellA (by rw [hhp, hT]; exact Nat.le_refl _) (msg := .ref sa) rfl
    (g := { method := m, pc := pc + 6, locals := ls, stack := .ref sa :: .ref T.heap.size :: .ref T.heap.size :: rest, locked := none }) rfl hsize rfl rfl (rest := rest) rfl
    (by rw [hb]; exact d6) (by rw [hb]; exact d9) hout hRframes (by simp only [List.map_cons, List.sum_cons, hcat]; omega) hlocks
  obtain ⟨f1, f2⟩ := vx_frame hsame
  rw [hhp] at f1 f2
  have hWs : s.WarmedH U.vm := State.WarmedH.trans hW0 hW
  have hcl : s.vm.findClass cls = some ce.cls := by
    have h9 := hO.cls
    rw [hvm] at h9
    exact h9
  have hall : s.sameButNew ({ U with vm := s.vm } : State) locs mc ms := by
    subst hA
    obtain ⟨e1, e2⟩ := hsame
    rw [State.setFrames_setFrames] at e1
    have h2 : (T.setVm s.vm).sameButNew ({ U with vm := s.vm } : State) [] (0 + 1) (0 + 6) := ⟨e1, e2⟩
    have h3 := X.same.trans h2
    rw [List.append_nil] at h3
    exact h3.mono hc hs
  refine ⟨U, ?_, .threw T.heap.size, hrun, hend, Or.inr ⟨T.heap.size, rfl, cls, ce, locs, hx U hWs.alike f1 (fun q hq => f2 q hq (fun z hz => nomatch hz)), hce, hO.vm, hcl, hWs, hall, hf⟩⟩
  refine st1 _ ?_
  show Steps p.tables e below (T1.setTop { method := m, pc := pc + 3, locals := ls, stack := .ref T.heap.size :: rest, locked := none }) _
  jvm_step X₁.here [X₁.here.top, hexec, d3', Value.category]
  exact X₁.ldcString hexec (own := own) (text := text) (index := is) (a := sa) hown' hstr'.1 hstr'.2
    (g := { method := m, pc := pc + 4, locals := ls, stack := .ref T.heap.size :: .ref T.heap.size :: rest, locked := none }) rfl d4' _ hsteps
/-- 'throw new E("text")', the text by a wide index -/
theorem vx_throwSW {cc : ByteArray} {pc : Nat} (hexec : p.tables.exec = Jvm.exec) (hb : c.code = cc) (hl : l.stackTraces = false) {own cls text : String} {names : List String} {ik is ic mc ms sa : Nat} {A : Nat → Prop}
    (hown : s.vm.findClass own = some m.cls) (hcls : Bundle.fit cls = true) (hnames : ∀ n ∈ names, Bundle.fit n = true)
    (hk : (Cond.classLink own ik cls).before args s = true) (hini : (Cond.initialized cls).before args s = true) (hstr : vk_R own is text sa s) (hat : ∀ w ∈ vx_atS own ic cls names, w.before args s = true)
    (hgood : ∀ w ∈ Cond.classLink own ik cls :: Cond.initialized cls :: vx_atS own ic cls names, vx_ot w = true)
    (hU : vx_Zq Bundle.tN "UNASSIGNED_STACK" Bundle.steD A s s.heap) (hN : vx_Zq Bundle.tN "SUPPRESSED_SENTINEL" Bundle.listD A s s.heap) (hS : va_S A s.heap H locs) (hsize : ls.size = c.maxLocals)
    (d0 : decode cc pc = .ok (.new ik, 3)) (d3 : decode cc (pc + 3) = .ok (.dup, 1)) (d4 : decode cc (pc + 4) = .ok (.ldc_w is, 3)) (d7 : decode cc (pc + 7) = .ok (.invokespecial ic, 3)) (d10 : decode cc (pc + 10) = .ok (.athrow, 1))
    (hout : ∀ x ∈ c.exceptionTable.toList, covers x (pc + 10) = false)
    (hRframes : names.length + 3 < R.frames) (hRlocals : (rest.map fun v => v.category).sum + (13 * (names.length + 1) + 43) ≤ R.locals) (hRcells : cells + 1 ≤ R.cells) (hRslots : slots + 6 ≤ R.slots) (hlocks : meth.locks = false)
    (hx : ∀ t : State, s.vm.Alike t.vm → H.size ≤ t.heap.size → (∀ q : Nat, q < H.size → t.heap[q]? = H[q]?) → XC cls s t)
    (hf : ∀ z ∈ locs, free z.base) (hc : cells + 1 ≤ mc) (hs : slots + 6 ≤ ms) :
    W p l e R s m args below meth c H locs cells slots (vx_MQ below Qc XC args s mc ms free) (F0 m pc ls rest) := by
  intro T hT X
  have htr : e.platform.stackTraces = false := (show e.platform.stackTraces = l.stackTraces by rw [X.admits.platform]).trans hl
  have Y := vx_rebase X (R' := { frames := R.frames, locals := R.locals, cells := 1, slots := 6 }) (Nat.le_refl _) (Nat.le_refl _) hRcells hRslots
  obtain ⟨s', hA⟩ : ∃ z, z = (T.setVm s.vm).setFrames (.invoking m args :: below) := ⟨_, rfl⟩
  rw [← hA] at Y
  have hvm : s'.vm = s.vm := by rw [hA]; rfl
  have hhp : s'.heap = H := by rw [hA]; exact hT
  have hW0 : s.WarmedH s'.vm := by rw [hvm]; exact State.WarmedH.refl s
  have hat' : ∀ w ∈ vx_atS own ic cls names, w.before args s' = true := fun w hw => vx_ot_at hW0 hvm.symm (hgood w (List.mem_cons_of_mem _ (List.mem_cons_of_mem _ hw))) (hat w hw)
  have hk' : (Cond.classLink own ik cls).before args s' = true := vx_ot_at hW0 hvm.symm (hgood _ List.mem_cons_self) hk
  have hini' : (Cond.initialized cls).before args s' = true := vx_ot_at hW0 hvm.symm (hgood _ (List.mem_cons_of_mem _ List.mem_cons_self)) hini
  have hU' : vx_Zq Bundle.tN "UNASSIGNED_STACK" Bundle.steD A s' s'.heap := by rw [hhp]; exact vx_Zq.moved hW0.alike (hU.kept hS.2.1)
  have hN' : vx_Zq Bundle.tN "SUPPRESSED_SENTINEL" Bundle.listD A s' s'.heap := by rw [hhp]; exact vx_Zq.moved hW0.alike (hN.kept hS.2.1)
  have h : ∀ w ∈ Bundle.ownAtoms own ic cls names, w.before args s' = true := vx_own hat' (vx_isRefq hU'.1) (vx_isRefq hN'.1) hU'.2.word hN'.2.word
  have hown' : s'.vm.findClass own = some m.cls := by rw [hvm]; exact hown
  have hins : (Cond.instantiable cls 6).before args s' = true := h _ (by simp [Bundle.ownAtoms])
  obtain ⟨vm₁, cX, kX, hfX, hkX, -, -, X₁, st1⟩ := Y.newCold hexec (own := own) (C := cls) (index := ik) (n := 6) hown' hk' hins hini'
    (g := F0 m pc ls rest) rfl (by rw [hb]; exact d0) (Nat.le_refl _) (Nat.le_refl _)
  generalize hT1 : (T.setVm vm₁).pushCell { cls := cX, slots := kX.instanceTypes.map defaultValue, vm := .none } = T1 at X₁ st1
  have hcat : (Value.ref T.heap.size).category = 1 := rfl
  have hcellA : T1.heap[T.heap.size]? = some (freshCell cX kX) := by rw [← hT1]; exact State.heap_pushCell_size _ _
  have d3' : decode c.code (pc + 3) = .ok (.dup, 1) := by rw [hb]; exact d3
  have d4' : decode c.code (pc + 4) = .ok (.ldc_w is, 3) := by rw [hb]; exact d4
  have hstr' : vk_R own is text sa s' := vk_R.warm hW0 hstr
  obtain ⟨U, hsteps, hrun, hend, hW, hsame, ce, hce, hO⟩ := X₁.ctorThrowS hexec htr (own := own) (cls := cls) (names := names) (ic := ic) hown' hcls hnames h (fun x hx => nomatch hx) hfX hkX hcellA (by rw [hhp, hT]; exact Nat.le_refl _) (msg := .ref sa) rfl
    (g := { method := m, pc := pc + 7, locals := ls, stack := .ref sa :: .ref T.heap.size :: .ref T.heap.size :: rest, locked := none }) rfl hsize rfl rfl (rest := rest) rfl
    (by rw [hb]; exact d7) (by rw [hb]; exact d10) hout hRframes (by simp only [List.map_cons, List.sum_cons, hcat]; omega) hlocks
  obtain ⟨f1, f2⟩ := vx_frame hsame
  rw [hhp] at f1 f2
  have hWs : s.WarmedH U.vm := State.WarmedH.trans hW0 hW
  have hcl : s.vm.findClass cls = some ce.cls := by
    have h9 := hO.cls
    rw [hvm] at h9
    exact h9
  have hall : s.sameButNew ({ U with vm := s.vm } : State) locs mc ms := by
    subst hA
    obtain ⟨e1, e2⟩ := hsame
    rw [State.setFrames_setFrames] at e1
    have h2 : (T.setVm s.vm).sameButNew ({ U with vm := s.vm } : State) [] (0 + 1) (0 + 6) := ⟨e1, e2⟩
    have h3 := X.same.trans h2
    rw [List.append_nil] at h3
    exact h3.mono hc hs
  refine ⟨U, ?_, .threw T.heap.size, hrun, hend, Or.inr ⟨T.heap.size, rfl, cls, ce, locs, hx U hWs.alike f1 (fun q hq => f2 q hq (fun z hz => nomatch hz)), hce, hO.vm, hcl, hWs, hall, hf⟩⟩
  refine st1 _ ?_
  show Steps p.tables e below (T1.setTop { method := m, pc := pc + 3, locals := ls, stack := .ref T.heap.size :: rest, locked := none }) _
  jvm_step X₁.here [X₁.here.top, hexec, d3', Value.category]
  exact X₁.ldcStringW hexec (own := own) (text := text) (index := is) (a := sa) hown' hstr'.1 hstr'.2
    (g := { method := m, pc := pc + 4, locals := ls, stack := .ref T.heap.size :: .ref T.heap.size :: rest, locked := none }) rfl d4' _ hsteps
end Ends
section Bodies
variable {l : Launch}
theorem vx_ofW {y : MethodName} {ws ws' : List Cond} {rm : Room} {Pc : Array Value → State → Prop} {Qc : Array Value → State → Outcome → State → Prop} {XC : String → State → State → Prop} {mc ms : Nat} {free : Addr → Prop} {cc : ByteArray} {maxL : Nat} {ret : Option FieldType}
    (hy : plainName y.cls = true) (hw : ws = Cond.code y cc maxL ret :: ws')
    (body : ∀ p e s m args below meth c s₁, BodyLoose p l y (headSpec ws rm) cc maxL ret e s m args below meth c s₁ → c.maxLocals = maxL → (∀ x ∈ c.exceptionTable.toList, False) → Pc args s →
      W p l e (headSpec ws rm).room s m args below meth c s.heap [] 0 0 (vx_MQ below Qc XC args s mc ms free) (entryFrame m args maxL)) : vx_Met l y ws rm Pc Qc XC mc ms free := by
  refine MetFree.of_bodyS (code := cc) (maxLocals := maxL) (ret := ret) hy ?_ ?_
  · intro args s m h hn
    obtain ⟨meth, c, h1, h2, h3, h4, h5, h6, -, -⟩ := Cond.code_spec hn (atoms_spec (ws := ws) h _ (by rw [hw]; exact List.mem_cons_self))
    exact ⟨meth, c, h1, h2, h3, h4, h5, h6⟩
  · intro p e s m args below meth c s₁ B hml hP _
    have hh0 : s₁.heap = s.heap := by rw [B.state]; rfl
    have ht : ∀ x ∈ c.exceptionTable.toList, False := by
      obtain ⟨meth9, c9, h1, h2, -, -, -, -, h7, -⟩ := Cond.code_spec B.named (atoms_spec (ws := ws) B.pre _ (by rw [hw]; exact List.mem_cons_self))
      cases Option.some.inj (h1.symm.trans B.method)
      cases Option.some.inj (h2.symm.trans (Stand.of_body B).code)
      intro x hx
      rw [Array.isEmpty_iff.mp h7] at hx
      cases hx
    obtain ⟨t, a1, o, b1, b2, b3⟩ := body p e s m args below meth c s₁ B hml ht hP s₁ hh0 (Stand.of_body B)
    exact ⟨t, o, a1, b1, b2, b3⟩
/-- the table of a body with handlers -/
theorem vx_table {p : Program} {x y : MethodName} {S : Spec} {cc bytes : ByteArray} {maxL maxL' : Nat} {ret ret' : Option FieldType} {e : Env} {s s₁ : State} {m : MethodId} {args : Array Value} {below : List Frame} {meth : Method} {c : Code} {hh : List (Nat × Nat × Nat × Nat)}
    (B : BodyLoose p l y S cc maxL ret e s m args below meth c s₁) (h : (Cond.codeWith y bytes maxL' ret' hh).before args s = true) : c.exceptionTable.toList = tableOf hh := by
  obtain ⟨m9, meth9, c9, hn9, h1, h2, -, -, h6, -⟩ := Cond.codeWith_spec h
  cases Option.some.inj (hn9.symm.trans B.named)
  cases Option.some.inj (h1.symm.trans B.method)
  cases Option.some.inj (h2.symm.trans (Stand.of_body B).code)
  rw [← h6, table_eq]
end Bodies
end VXA
/-! ===== END ===== -/
/-! ===== BEGIN a static call of a method with an exception table ===== -/
section VXS
variable {p : Program} {l : Launch} {e : Env} {R : Room} {s : State} {m : MethodId} {args : Array Value} {below : List Frame} {meth : Method} {c : Code} {T : State} {H : Heap} {locs : List Loc} {cells slots : Nat}
abbrev vx_CSW (R : Room) (s : State) (args : Array Value) (own : String) (index : Nat) (y : MethodName) (bytes : ByteArray) (maxL : Nat) (ret : Option FieldType) (hh : List (Nat × Nat × Nat × Nat)) (ws : List Cond) (rm : Room) (mc ms n : Nat) : Prop :=
  (rm.cells = mc ∧ rm.slots = ms ∧ rm.frames + 1 ≤ R.frames ∧ 8 + (maxL + 11) + rm.locals ≤ R.locals ∧ (∀ w ∈ ws, ∀ (a' : Array Value) (U : State), s.WarmedH U.vm → w.before a' U = true) ∧ Cond.codeWith y bytes maxL ret hh ∈ ws) ∧
  (Cond.codeWith y bytes maxL ret hh).before args s = true ∧ (Cond.initialized y.cls).before args s = true ∧ (y.cls ≠ "java/lang/invoke/MethodHandle" ∧ y.cls ≠ "java/lang/invoke/VarHandle") ∧
  (∀ sig, parseMethodDescriptor y.desc = some sig → n = sig.parameters.length) ∧ (Cond.methodLink own index y).before args s = true ∧ (Cond.static y).before args s = true
theorem vx_cwSW {own : String} {index maxL mc ms : Nat} {y : MethodName} {bytes : ByteArray} {ret : Option FieldType} {hh : List (Nat × Nat × Nat × Nat)} {Ts ws ws' : List Cond} {rm : Room} (n : Nat) (ht : ∀ w ∈ Ts, w.before args s = true) (hT : GoodIn Ts (va_wsS own index y ws)) (hw : ws = Cond.codeWith y bytes maxL ret hh :: ws') (hrc : rm.cells = mc) (hrs : rm.slots = ms)
    (hd : y.cls ≠ "java/lang/invoke/MethodHandle" ∧ y.cls ≠ "java/lang/invoke/VarHandle" ∧ (parseMethodDescriptor y.desc).map (fun d => d.parameters.length) = some n) (hR : rm.frames + 1 ≤ R.frames ∧ 8 + (maxL + 11) + rm.locals ≤ R.locals) :
    vx_CSW R s args own index y bytes maxL ret hh ws rm mc ms n := by
  have ok : ∀ w ∈ va_wsS own index y ws, w.before args s = true := fun w h => ht w (hT w h).1
  have hG : GoodIn Ts ws := fun w h => hT w (by unfold va_wsS; exact List.mem_append_right _ h)
  have hc : Cond.codeWith y bytes maxL ret hh ∈ ws := by rw [hw]; exact List.mem_cons_self
  refine ⟨⟨hrc, hrs, hR.1, hR.2, pay_in ht hG, hc⟩, ht _ (hG _ hc).1, ok _ (by simp [va_wsS]), ⟨hd.1, hd.2.1⟩, fun sig h => ?_, ok _ (by simp [va_wsS]), ok _ (by simp [va_wsS])⟩
  have h2 := hd.2.2
  rw [h] at h2
  exact (Option.some.inj h2).symm
theorem vx_callSW (X : Stand p l e R s m args below meth c T locs cells slots) (hexec : p.tables.exec = Jvm.exec) {own : String} {index : Nat} {y : MethodName} {bytes : ByteArray} {maxL : Nat} {ret : Option FieldType} {hh : List (Nat × Nat × Nat × Nat)}
    (hown : s.vm.findClass own = some m.cls) (hlink : (Cond.methodLink own index y).before args s = true) (hstat : (Cond.static y).before args s = true) (hinit : (Cond.initialized y.cls).before args s = true)
    (hcode : (Cond.codeWith y bytes maxL ret hh).before args s = true) (hy : y.cls ≠ "java/lang/invoke/MethodHandle" ∧ y.cls ≠ "java/lang/invoke/VarHandle")
    {W9 : Nat} {Pre : Pt → Array Value → Prop} {Post : Pt → Array Value → Option Value → Pt → Prop} (hK : Back l R p e below s args y 3 W9 Pre Post)
    {g : JFrame} (hg : g.method = m) (hsize : g.locals.size = c.maxLocals) {argsL rest : List Value} (hlen : ∀ sig, parseMethodDescriptor y.desc = some sig → argsL.length = sig.parameters.length)
    (hstack : g.stack = argsL.reverse ++ rest) (hW : 2 * g.monitorRoom + (rest.map fun v => v.category).sum ≤ W9) (hdg : decode c.code g.pc = .ok (.invokestatic index, 3))
    (hpre : ∀ vm₁, s.WarmedH vm₁ → Pre ⟨T.setVm vm₁, locs, cells, slots⟩ argsL.toArray) :
    ∃ (v : Option Value) (vm₁ : Vm) (B : Pt), s.WarmedH vm₁ ∧ Stand p l e R s m args below meth c B.U B.locs B.cells B.slots ∧ Post ⟨T.setVm vm₁, locs, cells, slots⟩ argsL.toArray v B ∧
      ∀ target, Steps p.tables e below (B.U.setTop { g with pc := g.pc + 3, stack := v.toList ++ rest }) target → Steps p.tables e below (T.setTop g) target := by
  obtain ⟨mk, methM, cM, hnamed, hmethM, -, -, -, -, -, -, hsigM⟩ := Cond.codeWith_spec hcode
  have hstatic : methM.isStatic = true := Cond.static_spec hnamed hmethM hstat
  obtain ⟨kP, hkP, -⟩ := className_of_methodNamed hnamed
  have hinitP : kP.init = .initialized := Cond.initialized_spec (findClass_of_methodNamed hnamed) hkP hinit
  obtain ⟨vm₁, X₁, hstep₁⟩ := X.invokestatic hexec hown hlink hnamed hmethM hstatic hkP hinitP hy (g := g) hg (argsL := argsL) (rest := rest) (hlen _ hsigM) hstack hdg
  obtain ⟨v, B, X', hpost, hsteps⟩ := hK m meth c ⟨T.setVm vm₁, locs, cells, slots⟩ { g with stack := rest } (.invokestatic index) mk argsL.toArray X₁ hg hsize hdg hW (X₁.named hnamed) (hpre vm₁ X₁.warmed)
  exact ⟨v, vm₁, B, X₁.warmed, X', hpost, fun target h => hstep₁ _ fun acts => by rw [doInvoke_state]; exact hsteps.trans h⟩
theorem vx_runSW {y : MethodName} {bytes cc : ByteArray} {maxL nL mc ms n index : Nat} {ret : Option FieldType} {hh : List (Nat × Nat × Nat × Nat)} {ws : List Cond} {rm : Room} {Pc : Array Value → State → Prop} {Qc : Array Value → State → Outcome → State → Prop} {free : Addr → Prop} {Ts : List Cond} {own : String} {As rest : List Value} {g : JFrame}
    (S : CallFix p m c cc nL s args Ts own) (hM : Met l y ws rm Pc Qc mc ms free) (cw : vx_CSW R s args own index y bytes maxL ret hh ws rm mc ms n) (hp : PreS s H Pc As)
    (hg : g.method = m) (hn : As.length = n) (hsize : g.locals.size = nL) (hstack : g.stack = As.reverse ++ rest) (hW : 2 * g.monitorRoom + (rest.map fun v => v.category).sum ≤ 8) (hdg : decode cc g.pc = .ok (.invokestatic index, 3)) (hf : cells + mc ≤ R.cells ∧ slots + ms ≤ R.slots) :
    va_Run p l e R s m args below meth c H locs cells slots mc ms g rest (Qc As.toArray) (free) := by
  obtain ⟨⟨hrc, hrs, hfr, hlo, hws, hcw⟩, hcode, hini, hy, hlen, hl, hstt⟩ := cw
  have hK : Back l R p e below s args y 3 8 (PreOf R mc ms Pc) (PostOf Qc mc ms free) := va_backW (hh := hh) (bytes := bytes) (maxL := maxL) (ret := ret) hM hp.1 hrc hrs hfr hlo hws hcw (fun a' U hW => word_at hW (Or.inl (by first | rfl | simp [Cond.onTables, Cond.keeps, Cond.steady])) hini)
  obtain ⟨hx, hb, hml, ho, -⟩ := S
  intro T hT X
  obtain ⟨v, vm₁, ⟨U', l2, c2, s2⟩, hW₁, X', ⟨g', mk, t, L, e1, e2, hq, h1, hL, h2, h3⟩, st⟩ := vx_callSW X hx (hh := hh) (bytes := bytes) (maxL := maxL) (ret := ret) ho hl hstt hini hcode hy hK hg (hsize.trans hml.symm) (argsL := As) (rest := rest) (fun sig h => hn.trans (hlen sig h)) hstack hW (by rw [hb]; exact hdg)
    (fun vm₁ hW₁ => ⟨hf.1, hf.2, hp.2 (T.setVm vm₁) hT hW₁⟩)
  dsimp only [Pt.U, Pt.locs, Pt.cells, Pt.slots] at X' e1 e2 h1 h2 h3 st
  subst h1; subst h2; subst h3
  exact ⟨v, (T.setVm vm₁).calling g' mk As.toArray, t, U', L, hT, X', hL, e1, e2, hq, st⟩
/-- a thing of a world lies in the heap -/
theorem vx_lt {D : va_G} {cl : List vw_C} {ws : va_W} {H1 : Heap} (h : va_P D cl ws H1) {k : Nat} {q : Nat × va_E} (hk : ws[k]? = some q) : q.1 < H1.size := (h k q hk).lt
end VXS
/-! ===== END ===== -/
end
section
-- ===== PART A: goes FIRST, ahead of the names: the tables' words, and 'selects' of the private methods out of them =====
/-- a private method of a class that the tables say can be made, by its rows of tables_1 -/
def lw_okq (q : MethodName × Nat) : Prop := (q.1.cls ≠ "java/lang/invoke/MethodHandle" ∧ q.1.cls ≠ "java/lang/invoke/VarHandle") ∧ Cond.instantiable q.1.cls q.2 ∈ tables_1 ∧ Cond.privateMethod q.1 ∈ tables_1 ∧ Cond.instanceMethod q.1 ∈ tables_1
theorem lw_p0 : lw_okq (⟨"SegmentLogs", "segmentOf", "(I)I"⟩, 7) := ⟨⟨by decide +kernel, by decide +kernel⟩, List.mem_of_getElem? (i := 10) (by decide +kernel), List.mem_of_getElem? (i := 49) (by decide +kernel), List.mem_of_getElem? (i := 50) (by decide +kernel)⟩
theorem lw_p1 : lw_okq (⟨"SegmentLogs", "markTaken", "(I)V"⟩, 7) := ⟨⟨by decide +kernel, by decide +kernel⟩, List.mem_of_getElem? (i := 10) (by decide +kernel), List.mem_of_getElem? (i := 53) (by decide +kernel), List.mem_of_getElem? (i := 54) (by decide +kernel)⟩
theorem lw_p2 : lw_okq (⟨"SegmentLogs", "isSegment", "(I)Z"⟩, 7) := ⟨⟨by decide +kernel, by decide +kernel⟩, List.mem_of_getElem? (i := 10) (by decide +kernel), List.mem_of_getElem? (i := 57) (by decide +kernel), List.mem_of_getElem? (i := 58) (by decide +kernel)⟩
theorem lw_p3 : lw_okq (⟨"SegmentLogs", "isFree", "(I)Z"⟩, 7) := ⟨⟨by decide +kernel, by decide +kernel⟩, List.mem_of_getElem? (i := 10) (by decide +kernel), List.mem_of_getElem? (i := 65) (by decide +kernel), List.mem_of_getElem? (i := 66) (by decide +kernel)⟩
theorem lw_p4 : lw_okq (⟨"SegmentLogs", "gentleWorth", "(II)I"⟩, 7) := ⟨⟨by decide +kernel, by decide +kernel⟩, List.mem_of_getElem? (i := 10) (by decide +kernel), List.mem_of_getElem? (i := 84) (by decide +kernel), List.mem_of_getElem? (i := 85) (by decide +kernel)⟩
theorem lw_p5 : lw_okq (⟨"java/lang/Throwable", "fillInStackTrace", "(I)Ljava/lang/Throwable;"⟩, 6) := ⟨⟨by decide +kernel, by decide +kernel⟩, List.mem_of_getElem? (i := 140) (by decide +kernel), List.mem_of_getElem? (i := 138) (by decide +kernel), List.mem_of_getElem? (i := 139) (by decide +kernel)⟩
theorem lw_p6 : lw_okq (⟨"SegmentLogs", "blockAfter", "(I)I"⟩, 7) := ⟨⟨by decide +kernel, by decide +kernel⟩, List.mem_of_getElem? (i := 10) (by decide +kernel), List.mem_of_getElem? (i := 170) (by decide +kernel), List.mem_of_getElem? (i := 171) (by decide +kernel)⟩
theorem lw_p7 : lw_okq (⟨"SegmentLogs", "lowestFree", "()I"⟩, 7) := ⟨⟨by decide +kernel, by decide +kernel⟩, List.mem_of_getElem? (i := 10) (by decide +kernel), List.mem_of_getElem? (i := 177) (by decide +kernel), List.mem_of_getElem? (i := 178) (by decide +kernel)⟩
theorem lw_p8 : lw_okq (⟨"SegmentLogs", "putInUse", "(I)V"⟩, 7) := ⟨⟨by decide +kernel, by decide +kernel⟩, List.mem_of_getElem? (i := 10) (by decide +kernel), List.mem_of_getElem? (i := 197) (by decide +kernel), List.mem_of_getElem? (i := 198) (by decide +kernel)⟩
theorem lw_p9 : lw_okq (⟨"SegmentLogs", "moveLog", "(II)V"⟩, 7) := ⟨⟨by decide +kernel, by decide +kernel⟩, List.mem_of_getElem? (i := 10) (by decide +kernel), List.mem_of_getElem? (i := 204) (by decide +kernel), List.mem_of_getElem? (i := 205) (by decide +kernel)⟩
theorem lw_p10 : lw_okq (⟨"SegmentLogsModel", "lowest", "()I"⟩, 9) := ⟨⟨by decide +kernel, by decide +kernel⟩, List.mem_of_getElem? (i := 240) (by decide +kernel), List.mem_of_getElem? (i := 282) (by decide +kernel), List.mem_of_getElem? (i := 283) (by decide +kernel)⟩
theorem lw_p11 : lw_okq (⟨"SegmentLogsModel", "isFree", "(I)Z"⟩, 9) := ⟨⟨by decide +kernel, by decide +kernel⟩, List.mem_of_getElem? (i := 240) (by decide +kernel), List.mem_of_getElem? (i := 286) (by decide +kernel), List.mem_of_getElem? (i := 287) (by decide +kernel)⟩
theorem lw_p12 : lw_okq (⟨"SegmentLogsModel", "isTaken", "(I)Z"⟩, 9) := ⟨⟨by decide +kernel, by decide +kernel⟩, List.mem_of_getElem? (i := 240) (by decide +kernel), List.mem_of_getElem? (i := 290) (by decide +kernel), List.mem_of_getElem? (i := 291) (by decide +kernel)⟩
theorem lw_p13 : lw_okq (⟨"SegmentLogsModel", "throwing", "(ZZ)Z"⟩, 9) := ⟨⟨by decide +kernel, by decide +kernel⟩, List.mem_of_getElem? (i := 240) (by decide +kernel), List.mem_of_getElem? (i := 294) (by decide +kernel), List.mem_of_getElem? (i := 295) (by decide +kernel)⟩
theorem lw_p14 : lw_okq (⟨"SegmentLogsModel", "isNo", "(I)Z"⟩, 9) := ⟨⟨by decide +kernel, by decide +kernel⟩, List.mem_of_getElem? (i := 240) (by decide +kernel), List.mem_of_getElem? (i := 306) (by decide +kernel), List.mem_of_getElem? (i := 307) (by decide +kernel)⟩
theorem lw_p15 : lw_okq (⟨"SegmentLogsModel", "inUse", "(I)I"⟩, 9) := ⟨⟨by decide +kernel, by decide +kernel⟩, List.mem_of_getElem? (i := 240) (by decide +kernel), List.mem_of_getElem? (i := 327) (by decide +kernel), List.mem_of_getElem? (i := 328) (by decide +kernel)⟩
def lw_privs_1 : List (MethodName × Nat) := [(⟨"SegmentLogs", "segmentOf", "(I)I"⟩, 7), (⟨"SegmentLogs", "markTaken", "(I)V"⟩, 7), (⟨"SegmentLogs", "isSegment", "(I)Z"⟩, 7), (⟨"SegmentLogs", "isFree", "(I)Z"⟩, 7), (⟨"SegmentLogs", "gentleWorth", "(II)I"⟩, 7), (⟨"java/lang/Throwable", "fillInStackTrace", "(I)Ljava/lang/Throwable;"⟩, 6), (⟨"SegmentLogs", "blockAfter", "(I)I"⟩, 7), (⟨"SegmentLogs", "lowestFree", "()I"⟩, 7), (⟨"SegmentLogs", "putInUse", "(I)V"⟩, 7), (⟨"SegmentLogs", "moveLog", "(II)V"⟩, 7), (⟨"SegmentLogsModel", "lowest", "()I"⟩, 9), (⟨"SegmentLogsModel", "isFree", "(I)Z"⟩, 9), (⟨"SegmentLogsModel", "isTaken", "(I)Z"⟩, 9), (⟨"SegmentLogsModel", "throwing", "(ZZ)Z"⟩, 9), (⟨"SegmentLogsModel", "isNo", "(I)Z"⟩, 9), (⟨"SegmentLogsModel", "inUse", "(I)I"⟩, 9)]
theorem lw_r1 : ∀ q ∈ lw_privs_1, lw_okq q := List.forall_mem_cons.mpr ⟨lw_p0, List.forall_mem_cons.mpr ⟨lw_p1, List.forall_mem_cons.mpr ⟨lw_p2, List.forall_mem_cons.mpr ⟨lw_p3, List.forall_mem_cons.mpr ⟨lw_p4, List.forall_mem_cons.mpr ⟨lw_p5, List.forall_mem_cons.mpr ⟨lw_p6, List.forall_mem_cons.mpr ⟨lw_p7, List.forall_mem_cons.mpr ⟨lw_p8, List.forall_mem_cons.mpr ⟨lw_p9, List.forall_mem_cons.mpr ⟨lw_p10, List.forall_mem_cons.mpr ⟨lw_p11, List.forall_mem_cons.mpr ⟨lw_p12, List.forall_mem_cons.mpr ⟨lw_p13, List.forall_mem_cons.mpr ⟨lw_p14, List.forall_mem_cons.mpr ⟨lw_p15, fun _ h => absurd h List.not_mem_nil⟩⟩⟩⟩⟩⟩⟩⟩⟩⟩⟩⟩⟩⟩⟩⟩
def lw_privs : List (MethodName × Nat) := lw_privs_1
def lw_tbl : List Cond := k2_sels lw_privs ++ tables_1
theorem lw_privs_ok : ∀ q ∈ lw_privs, lw_okq q := lw_r1
def RX0 : String := "SegmentLogs"
def TX0 : u_T := fun k => match k with
  | 0 => ("SegmentLogs", "segments", "I", true)
  | 1 => ("SegmentLogs", "usedNow", "[I", true)
  | 2 => ("SegmentLogs", "usedThen", "[I", true)
  | 3 => ("SegmentLogs", "ages", "[I", true)
  | 4 => ("SegmentLogs", "taken", "[Z", true)
  | 5 => ("SegmentLogs", "nextBlocks", "[I", true)
  | _ => ("SegmentLogs", "takings", "I", false)
def tyX0 : Nat → FieldType := fun k => match k with
  | 0 => .int
  | 1 => .array .int
  | 2 => .array .int
  | 3 => .array .int
  | 4 => .array .boolean
  | 5 => .array .int
  | _ => .int
abbrev wsX00 : List Cond := u_ws RX0 TX0 7
theorem nmX0 : ∀ a, a < 7 → ∀ b, b < 7 → a ≠ b → (TX0 a).2.1 ≠ (TX0 b).2.1 := by decide +kernel
theorem tyX0_ok : ∀ k, k < 7 → parseFieldDescriptor (TX0 k).2.2.1 = some (tyX0 k) := by decide +kernel
abbrev cX0_init : ByteArray := prog_1_method_1_code
def yX0_init : MethodName := ⟨RX0, "<init>", "(I)V"⟩
abbrev cX0_take : ByteArray := prog_1_method_2_code
def yX0_take : MethodName := ⟨RX0, "take", "(I)I"⟩
abbrev cX0_next : ByteArray := prog_1_method_3_code
def yX0_next : MethodName := ⟨RX0, "next", "(I)I"⟩
abbrev cX0_drop : ByteArray := prog_1_method_4_code
def yX0_drop : MethodName := ⟨RX0, "drop", "(I)V"⟩
abbrev cX0_isUsed : ByteArray := prog_1_method_5_code
def yX0_isUsed : MethodName := ⟨RX0, "isUsed", "(I)Z"⟩
abbrev cX0_checkpoint : ByteArray := prog_1_method_6_code
def yX0_checkpoint : MethodName := ⟨RX0, "checkpoint", "()I"⟩
abbrev cX0_free : ByteArray := prog_1_method_7_code
def yX0_free : MethodName := ⟨RX0, "free", "()I"⟩
abbrev cX0_used : ByteArray := prog_1_method_8_code
def yX0_used : MethodName := ⟨RX0, "used", "()I"⟩
abbrev cX0_victim : ByteArray := prog_1_method_9_code
def yX0_victim : MethodName := ⟨RX0, "victim", "(Z)I"⟩
abbrev cX0_look : ByteArray := prog_1_method_10_code
def yX0_look : MethodName := ⟨RX0, "look", "(II)I"⟩
abbrev cX0_isLog : ByteArray := prog_1_method_11_code
def yX0_isLog : MethodName := ⟨RX0, "isLog", "(I)Z"⟩
abbrev cX0_isSegment : ByteArray := prog_1_method_12_code
def yX0_isSegment : MethodName := ⟨RX0, "isSegment", "(I)Z"⟩
abbrev cX0_firstBlockOf : ByteArray := prog_1_method_13_code
def yX0_firstBlockOf : MethodName := ⟨RX0, "firstBlockOf", "(I)I"⟩
abbrev cX0_segmentOf : ByteArray := prog_1_method_14_code
def yX0_segmentOf : MethodName := ⟨RX0, "segmentOf", "(I)I"⟩
abbrev cX0_placeOf : ByteArray := prog_1_method_15_code
def yX0_placeOf : MethodName := ⟨RX0, "placeOf", "(I)I"⟩
abbrev cX0_bitOf : ByteArray := prog_1_method_16_code
def yX0_bitOf : MethodName := ⟨RX0, "bitOf", "(I)I"⟩
abbrev cX0_isFree : ByteArray := prog_1_method_17_code
def yX0_isFree : MethodName := ⟨RX0, "isFree", "(I)Z"⟩
abbrev cX0_lowestFree : ByteArray := prog_1_method_18_code
def yX0_lowestFree : MethodName := ⟨RX0, "lowestFree", "()I"⟩
abbrev cX0_blockAfter : ByteArray := prog_1_method_19_code
def yX0_blockAfter : MethodName := ⟨RX0, "blockAfter", "(I)I"⟩
abbrev cX0_putInUse : ByteArray := prog_1_method_20_code
def yX0_putInUse : MethodName := ⟨RX0, "putInUse", "(I)V"⟩
abbrev cX0_moveLog : ByteArray := prog_1_method_21_code
def yX0_moveLog : MethodName := ⟨RX0, "moveLog", "(II)V"⟩
abbrev cX0_markTaken : ByteArray := prog_1_method_22_code
def yX0_markTaken : MethodName := ⟨RX0, "markTaken", "(I)V"⟩
abbrev cX0_gentleWorth : ByteArray := prog_1_method_23_code
def yX0_gentleWorth : MethodName := ⟨RX0, "gentleWorth", "(II)I"⟩

def RX1 : String := "SegmentLogsModel"
def TX1 : u_T := fun k => match k with
  | 0 => ("SegmentLogsModel", "thrown", "I", false)
  | 1 => ("SegmentLogsModel", "segments", "I", true)
  | 2 => ("SegmentLogsModel", "used", "[Z", true)
  | 3 => ("SegmentLogsModel", "then", "[Z", true)
  | 4 => ("SegmentLogsModel", "touched", "[Z", true)
  | 5 => ("SegmentLogsModel", "latest", "[I", true)
  | 6 => ("SegmentLogsModel", "open", "[I", true)
  | 7 => ("SegmentLogsModel", "next", "[I", true)
  | _ => ("SegmentLogsModel", "takings", "I", false)
def tyX1 : Nat → FieldType := fun k => match k with
  | 0 => .int
  | 1 => .int
  | 2 => .array .boolean
  | 3 => .array .boolean
  | 4 => .array .boolean
  | 5 => .array .int
  | 6 => .array .int
  | 7 => .array .int
  | _ => .int
abbrev wsX10 : List Cond := u_ws RX1 TX1 9
theorem nmX1 : ∀ a, a < 9 → ∀ b, b < 9 → a ≠ b → (TX1 a).2.1 ≠ (TX1 b).2.1 := by decide +kernel
theorem tyX1_ok : ∀ k, k < 9 → parseFieldDescriptor (TX1 k).2.2.1 = some (tyX1 k) := by decide +kernel
abbrev cX1_init : ByteArray := prog_3_method_1_code
def yX1_init : MethodName := ⟨RX1, "<init>", "(I)V"⟩
abbrev cX1_thrown : ByteArray := prog_3_method_2_code
def yX1_thrown : MethodName := ⟨RX1, "thrown", "()I"⟩
abbrev cX1_throwing : ByteArray := prog_3_method_3_code
def yX1_throwing : MethodName := ⟨RX1, "throwing", "(ZZ)Z"⟩
abbrev cX1_isTaken : ByteArray := prog_3_method_4_code
def yX1_isTaken : MethodName := ⟨RX1, "isTaken", "(I)Z"⟩
abbrev cX1_inUse : ByteArray := prog_3_method_5_code
def yX1_inUse : MethodName := ⟨RX1, "inUse", "(I)I"⟩
abbrev cX1_isFree : ByteArray := prog_3_method_6_code
def yX1_isFree : MethodName := ⟨RX1, "isFree", "(I)Z"⟩
abbrev cX1_lowest : ByteArray := prog_3_method_7_code
def yX1_lowest : MethodName := ⟨RX1, "lowest", "()I"⟩
abbrev cX1_take : ByteArray := prog_3_method_8_code
def yX1_take : MethodName := ⟨RX1, "take", "(I)I"⟩
abbrev cX1_next : ByteArray := prog_3_method_9_code
def yX1_next : MethodName := ⟨RX1, "next", "(I)I"⟩
abbrev cX1_isNo : ByteArray := prog_3_method_10_code
def yX1_isNo : MethodName := ⟨RX1, "isNo", "(I)Z"⟩
abbrev cX1_drop : ByteArray := prog_3_method_11_code
def yX1_drop : MethodName := ⟨RX1, "drop", "(I)V"⟩
abbrev cX1_isUsed : ByteArray := prog_3_method_12_code
def yX1_isUsed : MethodName := ⟨RX1, "isUsed", "(I)Z"⟩
abbrev cX1_checkpoint : ByteArray := prog_3_method_13_code
def yX1_checkpoint : MethodName := ⟨RX1, "checkpoint", "()I"⟩
abbrev cX1_free : ByteArray := prog_3_method_14_code
def yX1_free : MethodName := ⟨RX1, "free", "()I"⟩
abbrev cX1_used : ByteArray := prog_3_method_15_code
def yX1_used : MethodName := ⟨RX1, "used", "()I"⟩
abbrev cX1_victim : ByteArray := prog_3_method_16_code
def yX1_victim : MethodName := ⟨RX1, "victim", "(Z)I"⟩
abbrev cX1_look : ByteArray := prog_3_method_17_code
def yX1_look : MethodName := ⟨RX1, "look", "(II)I"⟩

def RJ6 : String := "java/lang/Integer"
def TJ6 : u_T := fun k => match k with
  | _ => ("", "", "", false)
def tyJ6 : Nat → FieldType := fun k => match k with
  | _ => .int
abbrev wsJ60 : List Cond := u_ws RJ6 TJ6 0
theorem nmJ6 : ∀ a, a < 0 → ∀ b, b < 0 → a ≠ b → (TJ6 a).2.1 ≠ (TJ6 b).2.1 := by decide +kernel
theorem tyJ6_ok : ∀ k, k < 0 → parseFieldDescriptor (TJ6 k).2.2.1 = some (tyJ6 k) := by decide +kernel
abbrev cJ6_bitCount_0f7a4 : ByteArray := prog_7_method_49_code
def yJ6_bitCount_0f7a4 : MethodName := ⟨RJ6, "bitCount", "(I)I"⟩

def RL : String := "SegmentLogsLaw"
abbrev cL_cell : ByteArray := method_2_code
def yL_cell : MethodName := ⟨RL, "cell", "([II)I"⟩
abbrev cL_take : ByteArray := method_3_code
def yL_take : MethodName := ⟨RL, "take", "(LSegmentLogs;I[J)I"⟩
abbrev cL_next : ByteArray := method_4_code
def yL_next : MethodName := ⟨RL, "next", "(LSegmentLogs;I[J)I"⟩
abbrev cL_drop : ByteArray := method_5_code
def yL_drop : MethodName := ⟨RL, "drop", "(LSegmentLogs;I)I"⟩
abbrev cL_isUsed : ByteArray := method_6_code
def yL_isUsed : MethodName := ⟨RL, "isUsed", "(LSegmentLogs;I[J)I"⟩
abbrev cL_look : ByteArray := method_7_code
def yL_look : MethodName := ⟨RL, "look", "(LSegmentLogs;II[J)I"⟩
abbrev cL_law : ByteArray := code
def yL_law : MethodName := ⟨RL, "law", "([I)Z"⟩
/-- the good words of the tables: every method's own list is its code and these -/
def xT : List Cond := lw_tbl.filter goodWord
theorem xT_in {w : Cond} (h : w ∈ xT) : w ∈ lw_tbl := (List.mem_filter.mp h).1
theorem xT_good : GoodIn xT xT := fun w h => ⟨h, good_of_word (List.mem_filter.mp h).2⟩
def xw (y : MethodName) (b : ByteArray) (n : Nat) (r : Option FieldType) : List Cond := .code y b n r :: xT
theorem xw_good {y : MethodName} {b : ByteArray} {n : Nat} {r : Option FieldType} (h : .code y b n r ∈ xT) : GoodIn xT (xw y b n r) := fun w hw => (List.mem_cons.mp hw).elim (fun e => by rw [e]; exact xT_good _ h) (fun h => xT_good w h)
theorem xg_V {own C : String} {i : Nat} {y : MethodName} {b : ByteArray} {n : Nat} {r : Option FieldType} (h1 : .methodLink own i y ∈ xT) (h2 : .instanceMethod y ∈ xT) (h3 : .selects C y y ∈ xT) (h4 : .initialized C ∈ xT) (h5 : .code y b n r ∈ xT) : GoodIn xT (wsV own i C y (xw y b n r)) := fun w hw =>
  (List.mem_append.mp hw).elim (fun h => by
    rcases List.mem_cons.mp h with rfl | h
    · exact xT_good _ h1
    rcases List.mem_cons.mp h with rfl | h
    · exact xT_good _ h2
    rcases List.mem_cons.mp h with rfl | h
    · exact xT_good _ h3
    rcases List.mem_cons.mp h with rfl | h
    · exact xT_good _ h4
    cases h) (fun h => xw_good h5 w h)
theorem xg_S {own : String} {i : Nat} {y : MethodName} {b : ByteArray} {n : Nat} {r : Option FieldType} (h1 : .methodLink own i y ∈ xT) (h2 : .static y ∈ xT) (h4 : .initialized y.cls ∈ xT) (h5 : .code y b n r ∈ xT) : GoodIn xT (va_wsS own i y (xw y b n r)) := fun w hw =>
  (List.mem_append.mp hw).elim (fun h => by
    rcases List.mem_cons.mp h with rfl | h
    · exact xT_good _ h1
    rcases List.mem_cons.mp h with rfl | h
    · exact xT_good _ h2
    rcases List.mem_cons.mp h with rfl | h
    · exact xT_good _ h4
    cases h) (fun h => xw_good h5 w h)
theorem kin_RL : (.initialized RL : Cond) ∈ xT := List.mem_filter.mpr ⟨List.mem_of_getElem? (i := 16) (by decide +kernel), by decide +kernel⟩
theorem kin_RX0 : (.initialized RX0 : Cond) ∈ xT := List.mem_filter.mpr ⟨List.mem_of_getElem? (i := 17) (by decide +kernel), by decide +kernel⟩
theorem kin_RX1 : (.initialized RX1 : Cond) ∈ xT := List.mem_filter.mpr ⟨List.mem_of_getElem? (i := 18) (by decide +kernel), by decide +kernel⟩
theorem kin_java_lang_Throwable : (.initialized "java/lang/Throwable" : Cond) ∈ xT := List.mem_filter.mpr ⟨List.mem_of_getElem? (i := 19) (by decide +kernel), by decide +kernel⟩
theorem kin_java_lang_Exception : (.initialized "java/lang/Exception" : Cond) ∈ xT := List.mem_filter.mpr ⟨List.mem_of_getElem? (i := 20) (by decide +kernel), by decide +kernel⟩
theorem kin_java_lang_RuntimeException : (.initialized "java/lang/RuntimeException" : Cond) ∈ xT := List.mem_filter.mpr ⟨List.mem_of_getElem? (i := 21) (by decide +kernel), by decide +kernel⟩
theorem kin_java_lang_IllegalArgumentException : (.initialized "java/lang/IllegalArgumentException" : Cond) ∈ xT := List.mem_filter.mpr ⟨List.mem_of_getElem? (i := 22) (by decide +kernel), by decide +kernel⟩
theorem kin_java_lang_IllegalStateException : (.initialized "java/lang/IllegalStateException" : Cond) ∈ xT := List.mem_filter.mpr ⟨List.mem_of_getElem? (i := 23) (by decide +kernel), by decide +kernel⟩
theorem kin_RJ6 : (.initialized RJ6 : Cond) ∈ xT := List.mem_filter.mpr ⟨List.mem_of_getElem? (i := 24) (by decide +kernel), by decide +kernel⟩
theorem kcl_RL_8 : (.classLink RL 8 RX0 : Cond) ∈ xT := List.mem_filter.mpr ⟨List.mem_of_getElem? (i := 25) (by decide +kernel), by decide +kernel⟩
theorem kia_RX0 : (.instantiable RX0 7 : Cond) ∈ xT := List.mem_filter.mpr ⟨List.mem_of_getElem? (i := 26) (by decide +kernel), by decide +kernel⟩
theorem kml_RL_38 : (.methodLink RL 38 yX0_init : Cond) ∈ xT := List.mem_filter.mpr ⟨List.mem_of_getElem? (i := 27) (by decide +kernel), by decide +kernel⟩
theorem kim_yX0_init : (.instanceMethod yX0_init : Cond) ∈ xT := List.mem_filter.mpr ⟨List.mem_of_getElem? (i := 28) (by decide +kernel), by decide +kernel⟩
theorem kco_yX0_init : (.code yX0_init cX0_init 3 none : Cond) ∈ xT := List.mem_filter.mpr ⟨List.mem_of_getElem? (i := 29) (by decide +kernel), by decide +kernel⟩
theorem kml_RX0_1 : (.methodLink RX0 1 objectInit : Cond) ∈ xT := List.mem_filter.mpr ⟨List.mem_of_getElem? (i := 30) (by decide +kernel), by decide +kernel⟩
theorem kim_objectInit : (.instanceMethod objectInit : Cond) ∈ xT := List.mem_filter.mpr ⟨List.mem_of_getElem? (i := 31) (by decide +kernel), by decide +kernel⟩
theorem kco_objectInit : (.code objectInit ⟨#[0xb1]⟩ 1 none : Cond) ∈ xT := List.mem_filter.mpr ⟨List.mem_of_getElem? (i := 32) (by decide +kernel), by decide +kernel⟩
theorem kml_RX0_33 : (.methodLink RX0 33 yX0_firstBlockOf : Cond) ∈ xT := List.mem_filter.mpr ⟨List.mem_of_getElem? (i := 33) (by decide +kernel), by decide +kernel⟩
theorem kst_yX0_firstBlockOf : (.static yX0_firstBlockOf : Cond) ∈ xT := List.mem_filter.mpr ⟨List.mem_of_getElem? (i := 34) (by decide +kernel), by decide +kernel⟩
theorem kco_yX0_firstBlockOf : (.code yX0_firstBlockOf cX0_firstBlockOf 1 (some .int) : Cond) ∈ xT := List.mem_filter.mpr ⟨List.mem_of_getElem? (i := 35) (by decide +kernel), by decide +kernel⟩
theorem kfl_RX0_9 : (.fieldLink RX0 9 "SegmentLogs" "segments" "I" : Cond) ∈ xT := List.mem_filter.mpr ⟨List.mem_of_getElem? (i := 36) (by decide +kernel), by decide +kernel⟩
theorem kfl_RX0_13 : (.fieldLink RX0 13 "SegmentLogs" "usedNow" "[I" : Cond) ∈ xT := List.mem_filter.mpr ⟨List.mem_of_getElem? (i := 37) (by decide +kernel), by decide +kernel⟩
theorem kfl_RX0_17 : (.fieldLink RX0 17 "SegmentLogs" "usedThen" "[I" : Cond) ∈ xT := List.mem_filter.mpr ⟨List.mem_of_getElem? (i := 38) (by decide +kernel), by decide +kernel⟩
theorem kfl_RX0_20 : (.fieldLink RX0 20 "SegmentLogs" "ages" "[I" : Cond) ∈ xT := List.mem_filter.mpr ⟨List.mem_of_getElem? (i := 39) (by decide +kernel), by decide +kernel⟩
theorem kfl_RX0_23 : (.fieldLink RX0 23 "SegmentLogs" "taken" "[Z" : Cond) ∈ xT := List.mem_filter.mpr ⟨List.mem_of_getElem? (i := 40) (by decide +kernel), by decide +kernel⟩
theorem kfl_RX0_27 : (.fieldLink RX0 27 "SegmentLogs" "nextBlocks" "[I" : Cond) ∈ xT := List.mem_filter.mpr ⟨List.mem_of_getElem? (i := 41) (by decide +kernel), by decide +kernel⟩
theorem kfl_RX0_30 : (.fieldLink RX0 30 "SegmentLogs" "takings" "I" : Cond) ∈ xT := List.mem_filter.mpr ⟨List.mem_of_getElem? (i := 42) (by decide +kernel), by decide +kernel⟩
theorem kar_int : (.arrayClass .int : Cond) ∈ xT := List.mem_filter.mpr ⟨List.mem_of_getElem? (i := 58) (by decide +kernel), by decide +kernel⟩
theorem kar_boolean : (.arrayClass .boolean : Cond) ∈ xT := List.mem_filter.mpr ⟨List.mem_of_getElem? (i := 59) (by decide +kernel), by decide +kernel⟩
theorem kml_RL_61 : (.methodLink RL 61 yX0_checkpoint : Cond) ∈ xT := List.mem_filter.mpr ⟨List.mem_of_getElem? (i := 60) (by decide +kernel), by decide +kernel⟩
theorem kim_yX0_checkpoint : (.instanceMethod yX0_checkpoint : Cond) ∈ xT := List.mem_filter.mpr ⟨List.mem_of_getElem? (i := 61) (by decide +kernel), by decide +kernel⟩
theorem ksl_yX0_checkpoint : (.selects RX0 yX0_checkpoint yX0_checkpoint : Cond) ∈ xT := List.mem_filter.mpr ⟨List.mem_of_getElem? (i := 62) (by decide +kernel), by decide +kernel⟩
theorem kco_yX0_checkpoint : (.code yX0_checkpoint cX0_checkpoint 2 (some .int) : Cond) ∈ xT := List.mem_filter.mpr ⟨List.mem_of_getElem? (i := 63) (by decide +kernel), by decide +kernel⟩
theorem kml_RX0_64 : (.methodLink RX0 64 yX0_segmentOf : Cond) ∈ xT := List.mem_filter.mpr ⟨List.mem_of_getElem? (i := 64) (by decide +kernel), by decide +kernel⟩
theorem kim_yX0_segmentOf : (.instanceMethod yX0_segmentOf : Cond) ∈ xT := List.mem_filter.mpr ⟨List.mem_of_getElem? (i := 66) (by decide +kernel), by decide +kernel⟩
theorem kco_yX0_segmentOf : (.code yX0_segmentOf cX0_segmentOf 2 (some .int) : Cond) ∈ xT := List.mem_filter.mpr ⟨List.mem_of_getElem? (i := 67) (by decide +kernel), by decide +kernel⟩
theorem kml_RX0_74 : (.methodLink RX0 74 yX0_markTaken : Cond) ∈ xT := List.mem_filter.mpr ⟨List.mem_of_getElem? (i := 68) (by decide +kernel), by decide +kernel⟩
theorem kim_yX0_markTaken : (.instanceMethod yX0_markTaken : Cond) ∈ xT := List.mem_filter.mpr ⟨List.mem_of_getElem? (i := 70) (by decide +kernel), by decide +kernel⟩
theorem kco_yX0_markTaken : (.code yX0_markTaken cX0_markTaken 2 none : Cond) ∈ xT := List.mem_filter.mpr ⟨List.mem_of_getElem? (i := 71) (by decide +kernel), by decide +kernel⟩
theorem kml_RX0_93 : (.methodLink RX0 93 yX0_isSegment : Cond) ∈ xT := List.mem_filter.mpr ⟨List.mem_of_getElem? (i := 72) (by decide +kernel), by decide +kernel⟩
theorem kim_yX0_isSegment : (.instanceMethod yX0_isSegment : Cond) ∈ xT := List.mem_filter.mpr ⟨List.mem_of_getElem? (i := 74) (by decide +kernel), by decide +kernel⟩
theorem kco_yX0_isSegment : (.code yX0_isSegment cX0_isSegment 2 (some .boolean) : Cond) ∈ xT := List.mem_filter.mpr ⟨List.mem_of_getElem? (i := 75) (by decide +kernel), by decide +kernel⟩
theorem kml_RX0_77 : (.methodLink RX0 77 yX0_free : Cond) ∈ xT := List.mem_filter.mpr ⟨List.mem_of_getElem? (i := 76) (by decide +kernel), by decide +kernel⟩
theorem kim_yX0_free : (.instanceMethod yX0_free : Cond) ∈ xT := List.mem_filter.mpr ⟨List.mem_of_getElem? (i := 77) (by decide +kernel), by decide +kernel⟩
theorem ksl_yX0_free : (.selects RX0 yX0_free yX0_free : Cond) ∈ xT := List.mem_filter.mpr ⟨List.mem_of_getElem? (i := 78) (by decide +kernel), by decide +kernel⟩
theorem kco_yX0_free : (.code yX0_free cX0_free 3 (some .int) : Cond) ∈ xT := List.mem_filter.mpr ⟨List.mem_of_getElem? (i := 79) (by decide +kernel), by decide +kernel⟩
theorem kml_RX0_81 : (.methodLink RX0 81 yX0_isFree : Cond) ∈ xT := List.mem_filter.mpr ⟨List.mem_of_getElem? (i := 80) (by decide +kernel), by decide +kernel⟩
theorem kim_yX0_isFree : (.instanceMethod yX0_isFree : Cond) ∈ xT := List.mem_filter.mpr ⟨List.mem_of_getElem? (i := 82) (by decide +kernel), by decide +kernel⟩
theorem kco_yX0_isFree : (.code yX0_isFree cX0_isFree 2 (some .boolean) : Cond) ∈ xT := List.mem_filter.mpr ⟨List.mem_of_getElem? (i := 83) (by decide +kernel), by decide +kernel⟩
theorem kml_RL_65 : (.methodLink RL 65 yX0_free : Cond) ∈ xT := List.mem_filter.mpr ⟨List.mem_of_getElem? (i := 84) (by decide +kernel), by decide +kernel⟩
theorem kml_RL_69 : (.methodLink RL 69 yX0_used : Cond) ∈ xT := List.mem_filter.mpr ⟨List.mem_of_getElem? (i := 85) (by decide +kernel), by decide +kernel⟩
theorem kim_yX0_used : (.instanceMethod yX0_used : Cond) ∈ xT := List.mem_filter.mpr ⟨List.mem_of_getElem? (i := 86) (by decide +kernel), by decide +kernel⟩
theorem ksl_yX0_used : (.selects RX0 yX0_used yX0_used : Cond) ∈ xT := List.mem_filter.mpr ⟨List.mem_of_getElem? (i := 87) (by decide +kernel), by decide +kernel⟩
theorem kco_yX0_used : (.code yX0_used cX0_used 3 (some .int) : Cond) ∈ xT := List.mem_filter.mpr ⟨List.mem_of_getElem? (i := 88) (by decide +kernel), by decide +kernel⟩
theorem kml_RX0_84 : (.methodLink RX0 84 yJ6_bitCount_0f7a4 : Cond) ∈ xT := List.mem_filter.mpr ⟨List.mem_of_getElem? (i := 89) (by decide +kernel), by decide +kernel⟩
theorem kst_yJ6_bitCount_0f7a4 : (.static yJ6_bitCount_0f7a4 : Cond) ∈ xT := List.mem_filter.mpr ⟨List.mem_of_getElem? (i := 90) (by decide +kernel), by decide +kernel⟩
theorem kco_yJ6_bitCount_0f7a4 : (.code yJ6_bitCount_0f7a4 cJ6_bitCount_0f7a4 1 (some .int) : Cond) ∈ xT := List.mem_filter.mpr ⟨List.mem_of_getElem? (i := 91) (by decide +kernel), by decide +kernel⟩
theorem kct_RJ6_265 : (.constant RJ6 265 1431655765 : Cond) ∈ xT := List.mem_filter.mpr ⟨List.mem_of_getElem? (i := 92) (by decide +kernel), by decide +kernel⟩
theorem kct_RJ6_266 : (.constant RJ6 266 858993459 : Cond) ∈ xT := List.mem_filter.mpr ⟨List.mem_of_getElem? (i := 93) (by decide +kernel), by decide +kernel⟩
theorem kct_RJ6_267 : (.constant RJ6 267 252645135 : Cond) ∈ xT := List.mem_filter.mpr ⟨List.mem_of_getElem? (i := 94) (by decide +kernel), by decide +kernel⟩
theorem kml_RL_73 : (.methodLink RL 73 yX0_victim : Cond) ∈ xT := List.mem_filter.mpr ⟨List.mem_of_getElem? (i := 95) (by decide +kernel), by decide +kernel⟩
theorem kim_yX0_victim : (.instanceMethod yX0_victim : Cond) ∈ xT := List.mem_filter.mpr ⟨List.mem_of_getElem? (i := 96) (by decide +kernel), by decide +kernel⟩
theorem ksl_yX0_victim : (.selects RX0 yX0_victim yX0_victim : Cond) ∈ xT := List.mem_filter.mpr ⟨List.mem_of_getElem? (i := 97) (by decide +kernel), by decide +kernel⟩
theorem kco_yX0_victim : (.code yX0_victim cX0_victim 7 (some .int) : Cond) ∈ xT := List.mem_filter.mpr ⟨List.mem_of_getElem? (i := 98) (by decide +kernel), by decide +kernel⟩
theorem kml_RX0_89 : (.methodLink RX0 89 yX0_gentleWorth : Cond) ∈ xT := List.mem_filter.mpr ⟨List.mem_of_getElem? (i := 99) (by decide +kernel), by decide +kernel⟩
theorem kim_yX0_gentleWorth : (.instanceMethod yX0_gentleWorth : Cond) ∈ xT := List.mem_filter.mpr ⟨List.mem_of_getElem? (i := 101) (by decide +kernel), by decide +kernel⟩
theorem kco_yX0_gentleWorth : (.code yX0_gentleWorth cX0_gentleWorth 3 (some .int) : Cond) ∈ xT := List.mem_filter.mpr ⟨List.mem_of_getElem? (i := 102) (by decide +kernel), by decide +kernel⟩
theorem kml_RL_32 : (.methodLink RL 32 yL_cell : Cond) ∈ xT := List.mem_filter.mpr ⟨List.mem_of_getElem? (i := 103) (by decide +kernel), by decide +kernel⟩
theorem kst_yL_cell : (.static yL_cell : Cond) ∈ xT := List.mem_filter.mpr ⟨List.mem_of_getElem? (i := 104) (by decide +kernel), by decide +kernel⟩
theorem kco_yL_cell : (.code yL_cell cL_cell 2 (some .int) : Cond) ∈ xT := List.mem_filter.mpr ⟨List.mem_of_getElem? (i := 105) (by decide +kernel), by decide +kernel⟩
theorem kml_RL_43 : (.methodLink RL 43 yL_take : Cond) ∈ xT := List.mem_filter.mpr ⟨List.mem_of_getElem? (i := 106) (by decide +kernel), by decide +kernel⟩
theorem kst_yL_take : (.static yL_take : Cond) ∈ xT := List.mem_filter.mpr ⟨List.mem_of_getElem? (i := 107) (by decide +kernel), by decide +kernel⟩
theorem kco_yL_take : (.codeWith yL_take cL_take 4 (some .int) [((0 : Nat), (9 : Nat), (12 : Nat), (13 : Nat)), ((0 : Nat), (9 : Nat), (15 : Nat), (15 : Nat))] : Cond) ∈ xT := List.mem_filter.mpr ⟨List.mem_of_getElem? (i := 108) (by decide +kernel), by decide +kernel⟩
theorem kcl_RL_13 : (.classLink RL 13 "java/lang/IllegalArgumentException" : Cond) ∈ xT := List.mem_filter.mpr ⟨List.mem_of_getElem? (i := 109) (by decide +kernel), by decide +kernel⟩
theorem kcl_RL_15 : (.classLink RL 15 "java/lang/IllegalStateException" : Cond) ∈ xT := List.mem_filter.mpr ⟨List.mem_of_getElem? (i := 110) (by decide +kernel), by decide +kernel⟩
theorem kml_RL_7 : (.methodLink RL 7 yX0_take : Cond) ∈ xT := List.mem_filter.mpr ⟨List.mem_of_getElem? (i := 111) (by decide +kernel), by decide +kernel⟩
theorem kim_yX0_take : (.instanceMethod yX0_take : Cond) ∈ xT := List.mem_filter.mpr ⟨List.mem_of_getElem? (i := 112) (by decide +kernel), by decide +kernel⟩
theorem ksl_yX0_take : (.selects RX0 yX0_take yX0_take : Cond) ∈ xT := List.mem_filter.mpr ⟨List.mem_of_getElem? (i := 113) (by decide +kernel), by decide +kernel⟩
theorem kco_yX0_take : (.code yX0_take cX0_take 4 (some .int) : Cond) ∈ xT := List.mem_filter.mpr ⟨List.mem_of_getElem? (i := 114) (by decide +kernel), by decide +kernel⟩
theorem kml_RX0_37 : (.methodLink RX0 37 yX0_isLog : Cond) ∈ xT := List.mem_filter.mpr ⟨List.mem_of_getElem? (i := 115) (by decide +kernel), by decide +kernel⟩
theorem kst_yX0_isLog : (.static yX0_isLog : Cond) ∈ xT := List.mem_filter.mpr ⟨List.mem_of_getElem? (i := 116) (by decide +kernel), by decide +kernel⟩
theorem kco_yX0_isLog : (.code yX0_isLog cX0_isLog 1 (some .boolean) : Cond) ∈ xT := List.mem_filter.mpr ⟨List.mem_of_getElem? (i := 117) (by decide +kernel), by decide +kernel⟩
theorem kcl_RX0_41 : (.classLink RX0 41 "java/lang/IllegalArgumentException" : Cond) ∈ xT := List.mem_filter.mpr ⟨List.mem_of_getElem? (i := 118) (by decide +kernel), by decide +kernel⟩
theorem kia_java_lang_IllegalArgumentException : (.instantiable "java/lang/IllegalArgumentException" 6 : Cond) ∈ xT := List.mem_filter.mpr ⟨List.mem_of_getElem? (i := 119) (by decide +kernel), by decide +kernel⟩
theorem kia_java_lang_Throwable : (.instantiable "java/lang/Throwable" 6 : Cond) ∈ xT := List.mem_filter.mpr ⟨List.mem_of_getElem? (i := 156) (by decide +kernel), by decide +kernel⟩
theorem kar_byte : (.arrayClass .byte : Cond) ∈ xT := List.mem_filter.mpr ⟨List.mem_of_getElem? (i := 184) (by decide +kernel), by decide +kernel⟩
theorem kml_RX0_48 : (.methodLink RX0 48 yX0_blockAfter : Cond) ∈ xT := List.mem_filter.mpr ⟨List.mem_of_getElem? (i := 185) (by decide +kernel), by decide +kernel⟩
theorem kim_yX0_blockAfter : (.instanceMethod yX0_blockAfter : Cond) ∈ xT := List.mem_filter.mpr ⟨List.mem_of_getElem? (i := 187) (by decide +kernel), by decide +kernel⟩
theorem kco_yX0_blockAfter : (.code yX0_blockAfter cX0_blockAfter 3 (some .int) : Cond) ∈ xT := List.mem_filter.mpr ⟨List.mem_of_getElem? (i := 188) (by decide +kernel), by decide +kernel⟩
theorem kml_RX0_100 : (.methodLink RX0 100 yX0_placeOf : Cond) ∈ xT := List.mem_filter.mpr ⟨List.mem_of_getElem? (i := 189) (by decide +kernel), by decide +kernel⟩
theorem kst_yX0_placeOf : (.static yX0_placeOf : Cond) ∈ xT := List.mem_filter.mpr ⟨List.mem_of_getElem? (i := 190) (by decide +kernel), by decide +kernel⟩
theorem kco_yX0_placeOf : (.code yX0_placeOf cX0_placeOf 1 (some .int) : Cond) ∈ xT := List.mem_filter.mpr ⟨List.mem_of_getElem? (i := 191) (by decide +kernel), by decide +kernel⟩
theorem kml_RX0_103 : (.methodLink RX0 103 yX0_lowestFree : Cond) ∈ xT := List.mem_filter.mpr ⟨List.mem_of_getElem? (i := 192) (by decide +kernel), by decide +kernel⟩
theorem kim_yX0_lowestFree : (.instanceMethod yX0_lowestFree : Cond) ∈ xT := List.mem_filter.mpr ⟨List.mem_of_getElem? (i := 194) (by decide +kernel), by decide +kernel⟩
theorem kco_yX0_lowestFree : (.code yX0_lowestFree cX0_lowestFree 2 (some .int) : Cond) ∈ xT := List.mem_filter.mpr ⟨List.mem_of_getElem? (i := 195) (by decide +kernel), by decide +kernel⟩
theorem kcl_RX0_51 : (.classLink RX0 51 "java/lang/IllegalStateException" : Cond) ∈ xT := List.mem_filter.mpr ⟨List.mem_of_getElem? (i := 196) (by decide +kernel), by decide +kernel⟩
theorem kia_java_lang_IllegalStateException : (.instantiable "java/lang/IllegalStateException" 6 : Cond) ∈ xT := List.mem_filter.mpr ⟨List.mem_of_getElem? (i := 197) (by decide +kernel), by decide +kernel⟩
theorem kml_RX0_56 : (.methodLink RX0 56 yX0_putInUse : Cond) ∈ xT := List.mem_filter.mpr ⟨List.mem_of_getElem? (i := 212) (by decide +kernel), by decide +kernel⟩
theorem kim_yX0_putInUse : (.instanceMethod yX0_putInUse : Cond) ∈ xT := List.mem_filter.mpr ⟨List.mem_of_getElem? (i := 214) (by decide +kernel), by decide +kernel⟩
theorem kco_yX0_putInUse : (.code yX0_putInUse cX0_putInUse 3 none : Cond) ∈ xT := List.mem_filter.mpr ⟨List.mem_of_getElem? (i := 215) (by decide +kernel), by decide +kernel⟩
theorem kml_RX0_69 : (.methodLink RX0 69 yX0_bitOf : Cond) ∈ xT := List.mem_filter.mpr ⟨List.mem_of_getElem? (i := 216) (by decide +kernel), by decide +kernel⟩
theorem kst_yX0_bitOf : (.static yX0_bitOf : Cond) ∈ xT := List.mem_filter.mpr ⟨List.mem_of_getElem? (i := 217) (by decide +kernel), by decide +kernel⟩
theorem kco_yX0_bitOf : (.code yX0_bitOf cX0_bitOf 1 (some .int) : Cond) ∈ xT := List.mem_filter.mpr ⟨List.mem_of_getElem? (i := 218) (by decide +kernel), by decide +kernel⟩
theorem kml_RX0_60 : (.methodLink RX0 60 yX0_moveLog : Cond) ∈ xT := List.mem_filter.mpr ⟨List.mem_of_getElem? (i := 219) (by decide +kernel), by decide +kernel⟩
theorem kim_yX0_moveLog : (.instanceMethod yX0_moveLog : Cond) ∈ xT := List.mem_filter.mpr ⟨List.mem_of_getElem? (i := 221) (by decide +kernel), by decide +kernel⟩
theorem kco_yX0_moveLog : (.code yX0_moveLog cX0_moveLog 3 none : Cond) ∈ xT := List.mem_filter.mpr ⟨List.mem_of_getElem? (i := 222) (by decide +kernel), by decide +kernel⟩
theorem kml_RL_51 : (.methodLink RL 51 yL_next : Cond) ∈ xT := List.mem_filter.mpr ⟨List.mem_of_getElem? (i := 223) (by decide +kernel), by decide +kernel⟩
theorem kst_yL_next : (.static yL_next : Cond) ∈ xT := List.mem_filter.mpr ⟨List.mem_of_getElem? (i := 224) (by decide +kernel), by decide +kernel⟩
theorem kco_yL_next : (.codeWith yL_next cL_next 4 (some .int) [((0 : Nat), (9 : Nat), (12 : Nat), (13 : Nat))] : Cond) ∈ xT := List.mem_filter.mpr ⟨List.mem_of_getElem? (i := 225) (by decide +kernel), by decide +kernel⟩
theorem kml_RL_17 : (.methodLink RL 17 yX0_next : Cond) ∈ xT := List.mem_filter.mpr ⟨List.mem_of_getElem? (i := 226) (by decide +kernel), by decide +kernel⟩
theorem kim_yX0_next : (.instanceMethod yX0_next : Cond) ∈ xT := List.mem_filter.mpr ⟨List.mem_of_getElem? (i := 227) (by decide +kernel), by decide +kernel⟩
theorem ksl_yX0_next : (.selects RX0 yX0_next yX0_next : Cond) ∈ xT := List.mem_filter.mpr ⟨List.mem_of_getElem? (i := 228) (by decide +kernel), by decide +kernel⟩
theorem kco_yX0_next : (.code yX0_next cX0_next 2 (some .int) : Cond) ∈ xT := List.mem_filter.mpr ⟨List.mem_of_getElem? (i := 229) (by decide +kernel), by decide +kernel⟩
theorem kml_RL_54 : (.methodLink RL 54 yL_drop : Cond) ∈ xT := List.mem_filter.mpr ⟨List.mem_of_getElem? (i := 230) (by decide +kernel), by decide +kernel⟩
theorem kst_yL_drop : (.static yL_drop : Cond) ∈ xT := List.mem_filter.mpr ⟨List.mem_of_getElem? (i := 231) (by decide +kernel), by decide +kernel⟩
theorem kco_yL_drop : (.codeWith yL_drop cL_drop 3 (some .int) [((0 : Nat), (5 : Nat), (8 : Nat), (13 : Nat)), ((0 : Nat), (5 : Nat), (11 : Nat), (15 : Nat))] : Cond) ∈ xT := List.mem_filter.mpr ⟨List.mem_of_getElem? (i := 232) (by decide +kernel), by decide +kernel⟩
theorem kml_RL_20 : (.methodLink RL 20 yX0_drop : Cond) ∈ xT := List.mem_filter.mpr ⟨List.mem_of_getElem? (i := 233) (by decide +kernel), by decide +kernel⟩
theorem kim_yX0_drop : (.instanceMethod yX0_drop : Cond) ∈ xT := List.mem_filter.mpr ⟨List.mem_of_getElem? (i := 234) (by decide +kernel), by decide +kernel⟩
theorem ksl_yX0_drop : (.selects RX0 yX0_drop yX0_drop : Cond) ∈ xT := List.mem_filter.mpr ⟨List.mem_of_getElem? (i := 235) (by decide +kernel), by decide +kernel⟩
theorem kco_yX0_drop : (.code yX0_drop cX0_drop 3 none : Cond) ∈ xT := List.mem_filter.mpr ⟨List.mem_of_getElem? (i := 236) (by decide +kernel), by decide +kernel⟩
theorem kml_RL_58 : (.methodLink RL 58 yL_isUsed : Cond) ∈ xT := List.mem_filter.mpr ⟨List.mem_of_getElem? (i := 239) (by decide +kernel), by decide +kernel⟩
theorem kst_yL_isUsed : (.static yL_isUsed : Cond) ∈ xT := List.mem_filter.mpr ⟨List.mem_of_getElem? (i := 240) (by decide +kernel), by decide +kernel⟩
theorem kco_yL_isUsed : (.codeWith yL_isUsed cL_isUsed 4 (some .int) [((0 : Nat), (16 : Nat), (19 : Nat), (13 : Nat))] : Cond) ∈ xT := List.mem_filter.mpr ⟨List.mem_of_getElem? (i := 241) (by decide +kernel), by decide +kernel⟩
theorem kml_RL_24 : (.methodLink RL 24 yX0_isUsed : Cond) ∈ xT := List.mem_filter.mpr ⟨List.mem_of_getElem? (i := 242) (by decide +kernel), by decide +kernel⟩
theorem kim_yX0_isUsed : (.instanceMethod yX0_isUsed : Cond) ∈ xT := List.mem_filter.mpr ⟨List.mem_of_getElem? (i := 243) (by decide +kernel), by decide +kernel⟩
theorem ksl_yX0_isUsed : (.selects RX0 yX0_isUsed yX0_isUsed : Cond) ∈ xT := List.mem_filter.mpr ⟨List.mem_of_getElem? (i := 244) (by decide +kernel), by decide +kernel⟩
theorem kco_yX0_isUsed : (.code yX0_isUsed cX0_isUsed 3 (some .boolean) : Cond) ∈ xT := List.mem_filter.mpr ⟨List.mem_of_getElem? (i := 245) (by decide +kernel), by decide +kernel⟩
theorem kml_RL_78 : (.methodLink RL 78 yL_look : Cond) ∈ xT := List.mem_filter.mpr ⟨List.mem_of_getElem? (i := 246) (by decide +kernel), by decide +kernel⟩
theorem kst_yL_look : (.static yL_look : Cond) ∈ xT := List.mem_filter.mpr ⟨List.mem_of_getElem? (i := 247) (by decide +kernel), by decide +kernel⟩
theorem kco_yL_look : (.codeWith yL_look cL_look 5 (some .int) [((0 : Nat), (10 : Nat), (13 : Nat), (13 : Nat))] : Cond) ∈ xT := List.mem_filter.mpr ⟨List.mem_of_getElem? (i := 248) (by decide +kernel), by decide +kernel⟩
theorem kml_RL_28 : (.methodLink RL 28 yX0_look : Cond) ∈ xT := List.mem_filter.mpr ⟨List.mem_of_getElem? (i := 249) (by decide +kernel), by decide +kernel⟩
theorem kim_yX0_look : (.instanceMethod yX0_look : Cond) ∈ xT := List.mem_filter.mpr ⟨List.mem_of_getElem? (i := 250) (by decide +kernel), by decide +kernel⟩
theorem ksl_yX0_look : (.selects RX0 yX0_look yX0_look : Cond) ∈ xT := List.mem_filter.mpr ⟨List.mem_of_getElem? (i := 251) (by decide +kernel), by decide +kernel⟩
theorem kco_yX0_look : (.code yX0_look cX0_look 3 (some .int) : Cond) ∈ xT := List.mem_filter.mpr ⟨List.mem_of_getElem? (i := 252) (by decide +kernel), by decide +kernel⟩
theorem kcl_RL_40 : (.classLink RL 40 RX1 : Cond) ∈ xT := List.mem_filter.mpr ⟨List.mem_of_getElem? (i := 255) (by decide +kernel), by decide +kernel⟩
theorem kia_RX1 : (.instantiable RX1 9 : Cond) ∈ xT := List.mem_filter.mpr ⟨List.mem_of_getElem? (i := 256) (by decide +kernel), by decide +kernel⟩
theorem kml_RL_42 : (.methodLink RL 42 yX1_init : Cond) ∈ xT := List.mem_filter.mpr ⟨List.mem_of_getElem? (i := 257) (by decide +kernel), by decide +kernel⟩
theorem kim_yX1_init : (.instanceMethod yX1_init : Cond) ∈ xT := List.mem_filter.mpr ⟨List.mem_of_getElem? (i := 258) (by decide +kernel), by decide +kernel⟩
theorem kco_yX1_init : (.code yX1_init cX1_init 3 none : Cond) ∈ xT := List.mem_filter.mpr ⟨List.mem_of_getElem? (i := 259) (by decide +kernel), by decide +kernel⟩
theorem kml_RX1_1 : (.methodLink RX1 1 objectInit : Cond) ∈ xT := List.mem_filter.mpr ⟨List.mem_of_getElem? (i := 260) (by decide +kernel), by decide +kernel⟩
theorem kfl_RX1_33 : (.fieldLink RX1 33 "SegmentLogsModel" "thrown" "I" : Cond) ∈ xT := List.mem_filter.mpr ⟨List.mem_of_getElem? (i := 261) (by decide +kernel), by decide +kernel⟩
theorem kfl_RX1_29 : (.fieldLink RX1 29 "SegmentLogsModel" "segments" "I" : Cond) ∈ xT := List.mem_filter.mpr ⟨List.mem_of_getElem? (i := 262) (by decide +kernel), by decide +kernel⟩
theorem kfl_RX1_7 : (.fieldLink RX1 7 "SegmentLogsModel" "used" "[Z" : Cond) ∈ xT := List.mem_filter.mpr ⟨List.mem_of_getElem? (i := 263) (by decide +kernel), by decide +kernel⟩
theorem kfl_RX1_13 : (.fieldLink RX1 13 "SegmentLogsModel" "then" "[Z" : Cond) ∈ xT := List.mem_filter.mpr ⟨List.mem_of_getElem? (i := 264) (by decide +kernel), by decide +kernel⟩
theorem kfl_RX1_16 : (.fieldLink RX1 16 "SegmentLogsModel" "touched" "[Z" : Cond) ∈ xT := List.mem_filter.mpr ⟨List.mem_of_getElem? (i := 265) (by decide +kernel), by decide +kernel⟩
theorem kfl_RX1_19 : (.fieldLink RX1 19 "SegmentLogsModel" "latest" "[I" : Cond) ∈ xT := List.mem_filter.mpr ⟨List.mem_of_getElem? (i := 266) (by decide +kernel), by decide +kernel⟩
theorem kfl_RX1_23 : (.fieldLink RX1 23 "SegmentLogsModel" "open" "[I" : Cond) ∈ xT := List.mem_filter.mpr ⟨List.mem_of_getElem? (i := 267) (by decide +kernel), by decide +kernel⟩
theorem kfl_RX1_26 : (.fieldLink RX1 26 "SegmentLogsModel" "next" "[I" : Cond) ∈ xT := List.mem_filter.mpr ⟨List.mem_of_getElem? (i := 268) (by decide +kernel), by decide +kernel⟩
theorem kfl_RX1_51 : (.fieldLink RX1 51 "SegmentLogsModel" "takings" "I" : Cond) ∈ xT := List.mem_filter.mpr ⟨List.mem_of_getElem? (i := 269) (by decide +kernel), by decide +kernel⟩
theorem kml_RL_47 : (.methodLink RL 47 yX1_thrown : Cond) ∈ xT := List.mem_filter.mpr ⟨List.mem_of_getElem? (i := 289) (by decide +kernel), by decide +kernel⟩
theorem kim_yX1_thrown : (.instanceMethod yX1_thrown : Cond) ∈ xT := List.mem_filter.mpr ⟨List.mem_of_getElem? (i := 290) (by decide +kernel), by decide +kernel⟩
theorem ksl_yX1_thrown : (.selects RX1 yX1_thrown yX1_thrown : Cond) ∈ xT := List.mem_filter.mpr ⟨List.mem_of_getElem? (i := 291) (by decide +kernel), by decide +kernel⟩
theorem kco_yX1_thrown : (.code yX1_thrown cX1_thrown 1 (some .int) : Cond) ∈ xT := List.mem_filter.mpr ⟨List.mem_of_getElem? (i := 292) (by decide +kernel), by decide +kernel⟩
theorem kml_RL_46 : (.methodLink RL 46 yX1_take : Cond) ∈ xT := List.mem_filter.mpr ⟨List.mem_of_getElem? (i := 293) (by decide +kernel), by decide +kernel⟩
theorem kim_yX1_take : (.instanceMethod yX1_take : Cond) ∈ xT := List.mem_filter.mpr ⟨List.mem_of_getElem? (i := 294) (by decide +kernel), by decide +kernel⟩
theorem ksl_yX1_take : (.selects RX1 yX1_take yX1_take : Cond) ∈ xT := List.mem_filter.mpr ⟨List.mem_of_getElem? (i := 295) (by decide +kernel), by decide +kernel⟩
theorem kco_yX1_take : (.code yX1_take cX1_take 7 (some .int) : Cond) ∈ xT := List.mem_filter.mpr ⟨List.mem_of_getElem? (i := 296) (by decide +kernel), by decide +kernel⟩
theorem kml_RX1_43 : (.methodLink RX1 43 yX1_lowest : Cond) ∈ xT := List.mem_filter.mpr ⟨List.mem_of_getElem? (i := 297) (by decide +kernel), by decide +kernel⟩
theorem kim_yX1_lowest : (.instanceMethod yX1_lowest : Cond) ∈ xT := List.mem_filter.mpr ⟨List.mem_of_getElem? (i := 299) (by decide +kernel), by decide +kernel⟩
theorem kco_yX1_lowest : (.code yX1_lowest cX1_lowest 2 (some .int) : Cond) ∈ xT := List.mem_filter.mpr ⟨List.mem_of_getElem? (i := 300) (by decide +kernel), by decide +kernel⟩
theorem kml_RX1_40 : (.methodLink RX1 40 yX1_isFree : Cond) ∈ xT := List.mem_filter.mpr ⟨List.mem_of_getElem? (i := 301) (by decide +kernel), by decide +kernel⟩
theorem kim_yX1_isFree : (.instanceMethod yX1_isFree : Cond) ∈ xT := List.mem_filter.mpr ⟨List.mem_of_getElem? (i := 303) (by decide +kernel), by decide +kernel⟩
theorem kco_yX1_isFree : (.code yX1_isFree cX1_isFree 4 (some .boolean) : Cond) ∈ xT := List.mem_filter.mpr ⟨List.mem_of_getElem? (i := 304) (by decide +kernel), by decide +kernel⟩
theorem kml_RX1_36 : (.methodLink RX1 36 yX1_isTaken : Cond) ∈ xT := List.mem_filter.mpr ⟨List.mem_of_getElem? (i := 305) (by decide +kernel), by decide +kernel⟩
theorem kim_yX1_isTaken : (.instanceMethod yX1_isTaken : Cond) ∈ xT := List.mem_filter.mpr ⟨List.mem_of_getElem? (i := 307) (by decide +kernel), by decide +kernel⟩
theorem kco_yX1_isTaken : (.code yX1_isTaken cX1_isTaken 4 (some .boolean) : Cond) ∈ xT := List.mem_filter.mpr ⟨List.mem_of_getElem? (i := 308) (by decide +kernel), by decide +kernel⟩
theorem kml_RX1_47 : (.methodLink RX1 47 yX1_throwing : Cond) ∈ xT := List.mem_filter.mpr ⟨List.mem_of_getElem? (i := 309) (by decide +kernel), by decide +kernel⟩
theorem kim_yX1_throwing : (.instanceMethod yX1_throwing : Cond) ∈ xT := List.mem_filter.mpr ⟨List.mem_of_getElem? (i := 311) (by decide +kernel), by decide +kernel⟩
theorem kco_yX1_throwing : (.code yX1_throwing cX1_throwing 3 (some .boolean) : Cond) ∈ xT := List.mem_filter.mpr ⟨List.mem_of_getElem? (i := 312) (by decide +kernel), by decide +kernel⟩
theorem kml_RL_53 : (.methodLink RL 53 yX1_next : Cond) ∈ xT := List.mem_filter.mpr ⟨List.mem_of_getElem? (i := 313) (by decide +kernel), by decide +kernel⟩
theorem kim_yX1_next : (.instanceMethod yX1_next : Cond) ∈ xT := List.mem_filter.mpr ⟨List.mem_of_getElem? (i := 314) (by decide +kernel), by decide +kernel⟩
theorem ksl_yX1_next : (.selects RX1 yX1_next yX1_next : Cond) ∈ xT := List.mem_filter.mpr ⟨List.mem_of_getElem? (i := 315) (by decide +kernel), by decide +kernel⟩
theorem kco_yX1_next : (.code yX1_next cX1_next 3 (some .int) : Cond) ∈ xT := List.mem_filter.mpr ⟨List.mem_of_getElem? (i := 316) (by decide +kernel), by decide +kernel⟩
theorem kml_RL_57 : (.methodLink RL 57 yX1_drop : Cond) ∈ xT := List.mem_filter.mpr ⟨List.mem_of_getElem? (i := 317) (by decide +kernel), by decide +kernel⟩
theorem kim_yX1_drop : (.instanceMethod yX1_drop : Cond) ∈ xT := List.mem_filter.mpr ⟨List.mem_of_getElem? (i := 318) (by decide +kernel), by decide +kernel⟩
theorem ksl_yX1_drop : (.selects RX1 yX1_drop yX1_drop : Cond) ∈ xT := List.mem_filter.mpr ⟨List.mem_of_getElem? (i := 319) (by decide +kernel), by decide +kernel⟩
theorem kco_yX1_drop : (.code yX1_drop cX1_drop 3 none : Cond) ∈ xT := List.mem_filter.mpr ⟨List.mem_of_getElem? (i := 320) (by decide +kernel), by decide +kernel⟩
theorem kml_RX1_54 : (.methodLink RX1 54 yX1_isNo : Cond) ∈ xT := List.mem_filter.mpr ⟨List.mem_of_getElem? (i := 321) (by decide +kernel), by decide +kernel⟩
theorem kim_yX1_isNo : (.instanceMethod yX1_isNo : Cond) ∈ xT := List.mem_filter.mpr ⟨List.mem_of_getElem? (i := 323) (by decide +kernel), by decide +kernel⟩
theorem kco_yX1_isNo : (.code yX1_isNo cX1_isNo 2 (some .boolean) : Cond) ∈ xT := List.mem_filter.mpr ⟨List.mem_of_getElem? (i := 324) (by decide +kernel), by decide +kernel⟩
theorem kml_RL_60 : (.methodLink RL 60 yX1_isUsed : Cond) ∈ xT := List.mem_filter.mpr ⟨List.mem_of_getElem? (i := 325) (by decide +kernel), by decide +kernel⟩
theorem kim_yX1_isUsed : (.instanceMethod yX1_isUsed : Cond) ∈ xT := List.mem_filter.mpr ⟨List.mem_of_getElem? (i := 326) (by decide +kernel), by decide +kernel⟩
theorem ksl_yX1_isUsed : (.selects RX1 yX1_isUsed yX1_isUsed : Cond) ∈ xT := List.mem_filter.mpr ⟨List.mem_of_getElem? (i := 327) (by decide +kernel), by decide +kernel⟩
theorem kco_yX1_isUsed : (.code yX1_isUsed cX1_isUsed 2 (some .boolean) : Cond) ∈ xT := List.mem_filter.mpr ⟨List.mem_of_getElem? (i := 328) (by decide +kernel), by decide +kernel⟩
theorem kml_RL_64 : (.methodLink RL 64 yX1_checkpoint : Cond) ∈ xT := List.mem_filter.mpr ⟨List.mem_of_getElem? (i := 329) (by decide +kernel), by decide +kernel⟩
theorem kim_yX1_checkpoint : (.instanceMethod yX1_checkpoint : Cond) ∈ xT := List.mem_filter.mpr ⟨List.mem_of_getElem? (i := 330) (by decide +kernel), by decide +kernel⟩
theorem ksl_yX1_checkpoint : (.selects RX1 yX1_checkpoint yX1_checkpoint : Cond) ∈ xT := List.mem_filter.mpr ⟨List.mem_of_getElem? (i := 331) (by decide +kernel), by decide +kernel⟩
theorem kco_yX1_checkpoint : (.code yX1_checkpoint cX1_checkpoint 2 (some .int) : Cond) ∈ xT := List.mem_filter.mpr ⟨List.mem_of_getElem? (i := 332) (by decide +kernel), by decide +kernel⟩
theorem kml_RX1_57 : (.methodLink RX1 57 yX1_free : Cond) ∈ xT := List.mem_filter.mpr ⟨List.mem_of_getElem? (i := 333) (by decide +kernel), by decide +kernel⟩
theorem kim_yX1_free : (.instanceMethod yX1_free : Cond) ∈ xT := List.mem_filter.mpr ⟨List.mem_of_getElem? (i := 334) (by decide +kernel), by decide +kernel⟩
theorem ksl_yX1_free : (.selects RX1 yX1_free yX1_free : Cond) ∈ xT := List.mem_filter.mpr ⟨List.mem_of_getElem? (i := 335) (by decide +kernel), by decide +kernel⟩
theorem kco_yX1_free : (.code yX1_free cX1_free 3 (some .int) : Cond) ∈ xT := List.mem_filter.mpr ⟨List.mem_of_getElem? (i := 336) (by decide +kernel), by decide +kernel⟩
theorem kml_RL_68 : (.methodLink RL 68 yX1_free : Cond) ∈ xT := List.mem_filter.mpr ⟨List.mem_of_getElem? (i := 337) (by decide +kernel), by decide +kernel⟩
theorem kml_RL_72 : (.methodLink RL 72 yX1_used : Cond) ∈ xT := List.mem_filter.mpr ⟨List.mem_of_getElem? (i := 338) (by decide +kernel), by decide +kernel⟩
theorem kim_yX1_used : (.instanceMethod yX1_used : Cond) ∈ xT := List.mem_filter.mpr ⟨List.mem_of_getElem? (i := 339) (by decide +kernel), by decide +kernel⟩
theorem ksl_yX1_used : (.selects RX1 yX1_used yX1_used : Cond) ∈ xT := List.mem_filter.mpr ⟨List.mem_of_getElem? (i := 340) (by decide +kernel), by decide +kernel⟩
theorem kco_yX1_used : (.code yX1_used cX1_used 3 (some .int) : Cond) ∈ xT := List.mem_filter.mpr ⟨List.mem_of_getElem? (i := 341) (by decide +kernel), by decide +kernel⟩
theorem kml_RX1_60 : (.methodLink RX1 60 yX1_inUse : Cond) ∈ xT := List.mem_filter.mpr ⟨List.mem_of_getElem? (i := 342) (by decide +kernel), by decide +kernel⟩
theorem kim_yX1_inUse : (.instanceMethod yX1_inUse : Cond) ∈ xT := List.mem_filter.mpr ⟨List.mem_of_getElem? (i := 344) (by decide +kernel), by decide +kernel⟩
theorem kco_yX1_inUse : (.code yX1_inUse cX1_inUse 4 (some .int) : Cond) ∈ xT := List.mem_filter.mpr ⟨List.mem_of_getElem? (i := 345) (by decide +kernel), by decide +kernel⟩
theorem kml_RL_77 : (.methodLink RL 77 yX1_victim : Cond) ∈ xT := List.mem_filter.mpr ⟨List.mem_of_getElem? (i := 346) (by decide +kernel), by decide +kernel⟩
theorem kim_yX1_victim : (.instanceMethod yX1_victim : Cond) ∈ xT := List.mem_filter.mpr ⟨List.mem_of_getElem? (i := 347) (by decide +kernel), by decide +kernel⟩
theorem ksl_yX1_victim : (.selects RX1 yX1_victim yX1_victim : Cond) ∈ xT := List.mem_filter.mpr ⟨List.mem_of_getElem? (i := 348) (by decide +kernel), by decide +kernel⟩
theorem kco_yX1_victim : (.code yX1_victim cX1_victim 7 (some .int) : Cond) ∈ xT := List.mem_filter.mpr ⟨List.mem_of_getElem? (i := 349) (by decide +kernel), by decide +kernel⟩
theorem kml_RL_81 : (.methodLink RL 81 yX1_look : Cond) ∈ xT := List.mem_filter.mpr ⟨List.mem_of_getElem? (i := 350) (by decide +kernel), by decide +kernel⟩
theorem kim_yX1_look : (.instanceMethod yX1_look : Cond) ∈ xT := List.mem_filter.mpr ⟨List.mem_of_getElem? (i := 351) (by decide +kernel), by decide +kernel⟩
theorem ksl_yX1_look : (.selects RX1 yX1_look yX1_look : Cond) ∈ xT := List.mem_filter.mpr ⟨List.mem_of_getElem? (i := 352) (by decide +kernel), by decide +kernel⟩
theorem kco_yX1_look : (.code yX1_look cX1_look 5 (some .int) : Cond) ∈ xT := List.mem_filter.mpr ⟨List.mem_of_getElem? (i := 353) (by decide +kernel), by decide +kernel⟩
theorem kar_long : (.arrayClass .long : Cond) ∈ xT := List.mem_filter.mpr ⟨List.mem_of_getElem? (i := 354) (by decide +kernel), by decide +kernel⟩
theorem ksl_yX0_segmentOf : (.selects RX0 yX0_segmentOf yX0_segmentOf : Cond) ∈ xT := List.mem_filter.mpr ⟨List.mem_of_getElem? (i := 0) (by decide +kernel), by decide +kernel⟩
theorem ksl_yX0_markTaken : (.selects RX0 yX0_markTaken yX0_markTaken : Cond) ∈ xT := List.mem_filter.mpr ⟨List.mem_of_getElem? (i := 1) (by decide +kernel), by decide +kernel⟩
theorem ksl_yX0_isSegment : (.selects RX0 yX0_isSegment yX0_isSegment : Cond) ∈ xT := List.mem_filter.mpr ⟨List.mem_of_getElem? (i := 2) (by decide +kernel), by decide +kernel⟩
theorem ksl_yX0_isFree : (.selects RX0 yX0_isFree yX0_isFree : Cond) ∈ xT := List.mem_filter.mpr ⟨List.mem_of_getElem? (i := 3) (by decide +kernel), by decide +kernel⟩
theorem ksl_yX0_gentleWorth : (.selects RX0 yX0_gentleWorth yX0_gentleWorth : Cond) ∈ xT := List.mem_filter.mpr ⟨List.mem_of_getElem? (i := 4) (by decide +kernel), by decide +kernel⟩
theorem ksl_yX0_blockAfter : (.selects RX0 yX0_blockAfter yX0_blockAfter : Cond) ∈ xT := List.mem_filter.mpr ⟨List.mem_of_getElem? (i := 6) (by decide +kernel), by decide +kernel⟩
theorem ksl_yX0_lowestFree : (.selects RX0 yX0_lowestFree yX0_lowestFree : Cond) ∈ xT := List.mem_filter.mpr ⟨List.mem_of_getElem? (i := 7) (by decide +kernel), by decide +kernel⟩
theorem ksl_yX0_putInUse : (.selects RX0 yX0_putInUse yX0_putInUse : Cond) ∈ xT := List.mem_filter.mpr ⟨List.mem_of_getElem? (i := 8) (by decide +kernel), by decide +kernel⟩
theorem ksl_yX0_moveLog : (.selects RX0 yX0_moveLog yX0_moveLog : Cond) ∈ xT := List.mem_filter.mpr ⟨List.mem_of_getElem? (i := 9) (by decide +kernel), by decide +kernel⟩
theorem ksl_yX1_lowest : (.selects RX1 yX1_lowest yX1_lowest : Cond) ∈ xT := List.mem_filter.mpr ⟨List.mem_of_getElem? (i := 10) (by decide +kernel), by decide +kernel⟩
theorem ksl_yX1_isFree : (.selects RX1 yX1_isFree yX1_isFree : Cond) ∈ xT := List.mem_filter.mpr ⟨List.mem_of_getElem? (i := 11) (by decide +kernel), by decide +kernel⟩
theorem ksl_yX1_isTaken : (.selects RX1 yX1_isTaken yX1_isTaken : Cond) ∈ xT := List.mem_filter.mpr ⟨List.mem_of_getElem? (i := 12) (by decide +kernel), by decide +kernel⟩
theorem ksl_yX1_throwing : (.selects RX1 yX1_throwing yX1_throwing : Cond) ∈ xT := List.mem_filter.mpr ⟨List.mem_of_getElem? (i := 13) (by decide +kernel), by decide +kernel⟩
theorem ksl_yX1_isNo : (.selects RX1 yX1_isNo yX1_isNo : Cond) ∈ xT := List.mem_filter.mpr ⟨List.mem_of_getElem? (i := 14) (by decide +kernel), by decide +kernel⟩
theorem ksl_yX1_inUse : (.selects RX1 yX1_inUse yX1_inUse : Cond) ∈ xT := List.mem_filter.mpr ⟨List.mem_of_getElem? (i := 15) (by decide +kernel), by decide +kernel⟩
theorem xin_X0 : ∀ w ∈ wsX00, w ∈ xT := by decide +kernel
theorem xin_X1 : ∀ w ∈ wsX10, w ∈ xT := by decide +kernel
abbrev xcl : List vw_C := [(RX0, TX0, 7), (RX1, TX1, 9)]
end
section
theorem dX0_init_0 : decode cX0_init 0 = .ok (.aload_n 0, 1) := by decide +kernel
theorem dX0_init_1 : decode cX0_init 1 = .ok (.invokespecial 1, 3) := by decide +kernel
theorem dX0_init_4 : decode cX0_init 4 = .ok (.aload_n 0, 1) := by decide +kernel
theorem dX0_init_5 : decode cX0_init 5 = .ok (.iload_n 1, 1) := by decide +kernel
theorem dX0_init_6 : decode cX0_init 6 = .ok (.bipush 12, 2) := by decide +kernel
theorem dX0_init_8 : decode cX0_init 8 = .ok (.if_icmp .lt 10, 3) := by decide +kernel
theorem dX0_init_11 : decode cX0_init 11 = .ok (.iload_n 1, 1) := by decide +kernel
theorem dX0_init_12 : decode cX0_init 12 = .ok (.sipush 128, 3) := by decide +kernel
theorem dX0_init_15 : decode cX0_init 15 = .ok (.if_icmp .le 8, 3) := by decide +kernel
theorem dX0_init_18 : decode cX0_init 18 = .ok (.bipush 12, 2) := by decide +kernel
theorem dX0_init_20 : decode cX0_init 20 = .ok (.goto 4, 3) := by decide +kernel
theorem dX0_init_23 : decode cX0_init 23 = .ok (.iload_n 1, 1) := by decide +kernel
theorem dX0_init_24 : decode cX0_init 24 = .ok (.putfield 9, 3) := by decide +kernel
theorem dX0_init_27 : decode cX0_init 27 = .ok (.aload_n 0, 1) := by decide +kernel
theorem dX0_init_28 : decode cX0_init 28 = .ok (.aload_n 0, 1) := by decide +kernel
theorem dX0_init_29 : decode cX0_init 29 = .ok (.getfield 9, 3) := by decide +kernel
theorem dX0_init_32 : decode cX0_init 32 = .ok (.newarray .int, 2) := by decide +kernel
theorem dX0_init_34 : decode cX0_init 34 = .ok (.putfield 13, 3) := by decide +kernel
theorem dX0_init_37 : decode cX0_init 37 = .ok (.aload_n 0, 1) := by decide +kernel
theorem dX0_init_38 : decode cX0_init 38 = .ok (.aload_n 0, 1) := by decide +kernel
theorem dX0_init_39 : decode cX0_init 39 = .ok (.getfield 9, 3) := by decide +kernel
theorem dX0_init_42 : decode cX0_init 42 = .ok (.newarray .int, 2) := by decide +kernel
theorem dX0_init_44 : decode cX0_init 44 = .ok (.putfield 17, 3) := by decide +kernel
theorem dX0_init_47 : decode cX0_init 47 = .ok (.aload_n 0, 1) := by decide +kernel
theorem dX0_init_48 : decode cX0_init 48 = .ok (.aload_n 0, 1) := by decide +kernel
theorem dX0_init_49 : decode cX0_init 49 = .ok (.getfield 9, 3) := by decide +kernel
theorem dX0_init_52 : decode cX0_init 52 = .ok (.newarray .int, 2) := by decide +kernel
theorem dX0_init_54 : decode cX0_init 54 = .ok (.putfield 20, 3) := by decide +kernel
theorem dX0_init_57 : decode cX0_init 57 = .ok (.aload_n 0, 1) := by decide +kernel
theorem dX0_init_58 : decode cX0_init 58 = .ok (.aload_n 0, 1) := by decide +kernel
theorem dX0_init_59 : decode cX0_init 59 = .ok (.getfield 9, 3) := by decide +kernel
theorem dX0_init_62 : decode cX0_init 62 = .ok (.newarray .boolean, 2) := by decide +kernel
theorem dX0_init_64 : decode cX0_init 64 = .ok (.putfield 23, 3) := by decide +kernel
theorem dX0_init_67 : decode cX0_init 67 = .ok (.aload_n 0, 1) := by decide +kernel
theorem dX0_init_68 : decode cX0_init 68 = .ok (.bipush 6, 2) := by decide +kernel
theorem dX0_init_70 : decode cX0_init 70 = .ok (.newarray .int, 2) := by decide +kernel
theorem dX0_init_72 : decode cX0_init 72 = .ok (.putfield 27, 3) := by decide +kernel
theorem dX0_init_75 : decode cX0_init 75 = .ok (.aload_n 0, 1) := by decide +kernel
theorem dX0_init_76 : decode cX0_init 76 = .ok (.iconst 0, 1) := by decide +kernel
theorem dX0_init_77 : decode cX0_init 77 = .ok (.putfield 30, 3) := by decide +kernel
theorem dX0_init_80 : decode cX0_init 80 = .ok (.iconst 0, 1) := by decide +kernel
theorem dX0_init_81 : decode cX0_init 81 = .ok (.istore_n 2, 1) := by decide +kernel
theorem dX0_init_82 : decode cX0_init 82 = .ok (.iload_n 2, 1) := by decide +kernel
theorem dX0_init_83 : decode cX0_init 83 = .ok (.bipush 6, 2) := by decide +kernel
theorem dX0_init_85 : decode cX0_init 85 = .ok (.if_icmp .ge 26, 3) := by decide +kernel
theorem dX0_init_88 : decode cX0_init 88 = .ok (.aload_n 0, 1) := by decide +kernel
theorem dX0_init_89 : decode cX0_init 89 = .ok (.getfield 27, 3) := by decide +kernel
theorem dX0_init_92 : decode cX0_init 92 = .ok (.iload_n 2, 1) := by decide +kernel
theorem dX0_init_93 : decode cX0_init 93 = .ok (.iload_n 2, 1) := by decide +kernel
theorem dX0_init_94 : decode cX0_init 94 = .ok (.invokestatic 33, 3) := by decide +kernel
theorem dX0_init_97 : decode cX0_init 97 = .ok (.iastore, 1) := by decide +kernel
theorem dX0_init_98 : decode cX0_init 98 = .ok (.aload_n 0, 1) := by decide +kernel
theorem dX0_init_99 : decode cX0_init 99 = .ok (.getfield 23, 3) := by decide +kernel
theorem dX0_init_102 : decode cX0_init 102 = .ok (.iload_n 2, 1) := by decide +kernel
theorem dX0_init_103 : decode cX0_init 103 = .ok (.iconst 1, 1) := by decide +kernel
theorem dX0_init_104 : decode cX0_init 104 = .ok (.bastore, 1) := by decide +kernel
theorem dX0_init_105 : decode cX0_init 105 = .ok (.iinc 2 1, 3) := by decide +kernel
theorem dX0_init_108 : decode cX0_init 108 = .ok (.goto (-26), 3) := by decide +kernel
theorem dX0_init_111 : decode cX0_init 111 = .ok (.return_, 1) := by decide +kernel
theorem dX0_take_0 : decode cX0_take 0 = .ok (.iload_n 1, 1) := by decide +kernel
theorem dX0_take_1 : decode cX0_take 1 = .ok (.invokestatic 37, 3) := by decide +kernel
theorem dX0_take_4 : decode cX0_take 4 = .ok (.ifCond .ne 13, 3) := by decide +kernel
theorem dX0_take_7 : decode cX0_take 7 = .ok (.new 41, 3) := by decide +kernel
theorem dX0_take_10 : decode cX0_take 10 = .ok (.dup, 1) := by decide +kernel
theorem dX0_take_11 : decode cX0_take 11 = .ok (.ldc 43, 2) := by decide +kernel
theorem dX0_take_13 : decode cX0_take 13 = .ok (.invokespecial 45, 3) := by decide +kernel
theorem dX0_take_16 : decode cX0_take 16 = .ok (.athrow, 1) := by decide +kernel
theorem dX0_take_17 : decode cX0_take 17 = .ok (.aload_n 0, 1) := by decide +kernel
theorem dX0_take_18 : decode cX0_take 18 = .ok (.getfield 27, 3) := by decide +kernel
theorem dX0_take_21 : decode cX0_take 21 = .ok (.iload_n 1, 1) := by decide +kernel
theorem dX0_take_22 : decode cX0_take 22 = .ok (.iaload, 1) := by decide +kernel
theorem dX0_take_23 : decode cX0_take 23 = .ok (.istore_n 2, 1) := by decide +kernel
theorem dX0_take_24 : decode cX0_take 24 = .ok (.aload_n 0, 1) := by decide +kernel
theorem dX0_take_25 : decode cX0_take 25 = .ok (.iload_n 2, 1) := by decide +kernel
theorem dX0_take_26 : decode cX0_take 26 = .ok (.invokevirtual 48, 3) := by decide +kernel
theorem dX0_take_29 : decode cX0_take 29 = .ok (.istore_n 3, 1) := by decide +kernel
theorem dX0_take_30 : decode cX0_take 30 = .ok (.iload_n 3, 1) := by decide +kernel
theorem dX0_take_31 : decode cX0_take 31 = .ok (.iconst (-1), 1) := by decide +kernel
theorem dX0_take_32 : decode cX0_take 32 = .ok (.if_icmp .ne 13, 3) := by decide +kernel
theorem dX0_take_35 : decode cX0_take 35 = .ok (.new 51, 3) := by decide +kernel
theorem dX0_take_38 : decode cX0_take 38 = .ok (.dup, 1) := by decide +kernel
theorem dX0_take_39 : decode cX0_take 39 = .ok (.ldc 53, 2) := by decide +kernel
theorem dX0_take_41 : decode cX0_take 41 = .ok (.invokespecial 55, 3) := by decide +kernel
theorem dX0_take_44 : decode cX0_take 44 = .ok (.athrow, 1) := by decide +kernel
theorem dX0_take_45 : decode cX0_take 45 = .ok (.aload_n 0, 1) := by decide +kernel
theorem dX0_take_46 : decode cX0_take 46 = .ok (.iload_n 2, 1) := by decide +kernel
theorem dX0_take_47 : decode cX0_take 47 = .ok (.invokevirtual 56, 3) := by decide +kernel
theorem dX0_take_50 : decode cX0_take 50 = .ok (.aload_n 0, 1) := by decide +kernel
theorem dX0_take_51 : decode cX0_take 51 = .ok (.iload_n 1, 1) := by decide +kernel
theorem dX0_take_52 : decode cX0_take 52 = .ok (.iload_n 3, 1) := by decide +kernel
theorem dX0_take_53 : decode cX0_take 53 = .ok (.invokevirtual 60, 3) := by decide +kernel
theorem dX0_take_56 : decode cX0_take 56 = .ok (.iload_n 2, 1) := by decide +kernel
theorem dX0_take_57 : decode cX0_take 57 = .ok (.ireturn, 1) := by decide +kernel
theorem dX0_next_0 : decode cX0_next 0 = .ok (.iload_n 1, 1) := by decide +kernel
theorem dX0_next_1 : decode cX0_next 1 = .ok (.invokestatic 37, 3) := by decide +kernel
theorem dX0_next_4 : decode cX0_next 4 = .ok (.ifCond .ne 13, 3) := by decide +kernel
theorem dX0_next_7 : decode cX0_next 7 = .ok (.new 41, 3) := by decide +kernel
theorem dX0_next_10 : decode cX0_next 10 = .ok (.dup, 1) := by decide +kernel
theorem dX0_next_11 : decode cX0_next 11 = .ok (.ldc 43, 2) := by decide +kernel
theorem dX0_next_13 : decode cX0_next 13 = .ok (.invokespecial 45, 3) := by decide +kernel
theorem dX0_next_16 : decode cX0_next 16 = .ok (.athrow, 1) := by decide +kernel
theorem dX0_next_17 : decode cX0_next 17 = .ok (.aload_n 0, 1) := by decide +kernel
theorem dX0_next_18 : decode cX0_next 18 = .ok (.getfield 27, 3) := by decide +kernel
theorem dX0_next_21 : decode cX0_next 21 = .ok (.iload_n 1, 1) := by decide +kernel
theorem dX0_next_22 : decode cX0_next 22 = .ok (.iaload, 1) := by decide +kernel
theorem dX0_next_23 : decode cX0_next 23 = .ok (.ireturn, 1) := by decide +kernel
theorem dX0_drop_0 : decode cX0_drop 0 = .ok (.aload_n 0, 1) := by decide +kernel
theorem dX0_drop_1 : decode cX0_drop 1 = .ok (.iload_n 1, 1) := by decide +kernel
theorem dX0_drop_2 : decode cX0_drop 2 = .ok (.invokevirtual 64, 3) := by decide +kernel
theorem dX0_drop_5 : decode cX0_drop 5 = .ok (.istore_n 2, 1) := by decide +kernel
theorem dX0_drop_6 : decode cX0_drop 6 = .ok (.iload_n 2, 1) := by decide +kernel
theorem dX0_drop_7 : decode cX0_drop 7 = .ok (.iconst (-1), 1) := by decide +kernel
theorem dX0_drop_8 : decode cX0_drop 8 = .ok (.if_icmp .ne 13, 3) := by decide +kernel
theorem dX0_drop_11 : decode cX0_drop 11 = .ok (.new 41, 3) := by decide +kernel
theorem dX0_drop_14 : decode cX0_drop 14 = .ok (.dup, 1) := by decide +kernel
theorem dX0_drop_15 : decode cX0_drop 15 = .ok (.ldc 67, 2) := by decide +kernel
theorem dX0_drop_17 : decode cX0_drop 17 = .ok (.invokespecial 45, 3) := by decide +kernel
theorem dX0_drop_20 : decode cX0_drop 20 = .ok (.athrow, 1) := by decide +kernel
theorem dX0_drop_21 : decode cX0_drop 21 = .ok (.aload_n 0, 1) := by decide +kernel
theorem dX0_drop_22 : decode cX0_drop 22 = .ok (.getfield 13, 3) := by decide +kernel
theorem dX0_drop_25 : decode cX0_drop 25 = .ok (.iload_n 2, 1) := by decide +kernel
theorem dX0_drop_26 : decode cX0_drop 26 = .ok (.iaload, 1) := by decide +kernel
theorem dX0_drop_27 : decode cX0_drop 27 = .ok (.iload_n 1, 1) := by decide +kernel
theorem dX0_drop_28 : decode cX0_drop 28 = .ok (.invokestatic 69, 3) := by decide +kernel
theorem dX0_drop_31 : decode cX0_drop 31 = .ok (.iand, 1) := by decide +kernel
theorem dX0_drop_32 : decode cX0_drop 32 = .ok (.ifCond .ne 13, 3) := by decide +kernel
theorem dX0_drop_35 : decode cX0_drop 35 = .ok (.new 51, 3) := by decide +kernel
theorem dX0_drop_38 : decode cX0_drop 38 = .ok (.dup, 1) := by decide +kernel
theorem dX0_drop_39 : decode cX0_drop 39 = .ok (.ldc 72, 2) := by decide +kernel
theorem dX0_drop_41 : decode cX0_drop 41 = .ok (.invokespecial 55, 3) := by decide +kernel
theorem dX0_drop_44 : decode cX0_drop 44 = .ok (.athrow, 1) := by decide +kernel
theorem dX0_drop_45 : decode cX0_drop 45 = .ok (.aload_n 0, 1) := by decide +kernel
theorem dX0_drop_46 : decode cX0_drop 46 = .ok (.getfield 13, 3) := by decide +kernel
theorem dX0_drop_49 : decode cX0_drop 49 = .ok (.iload_n 2, 1) := by decide +kernel
theorem dX0_drop_50 : decode cX0_drop 50 = .ok (.dup2, 1) := by decide +kernel
theorem dX0_drop_51 : decode cX0_drop 51 = .ok (.iaload, 1) := by decide +kernel
theorem dX0_drop_52 : decode cX0_drop 52 = .ok (.iload_n 1, 1) := by decide +kernel
theorem dX0_drop_53 : decode cX0_drop 53 = .ok (.invokestatic 69, 3) := by decide +kernel
theorem dX0_drop_56 : decode cX0_drop 56 = .ok (.iconst (-1), 1) := by decide +kernel
theorem dX0_drop_57 : decode cX0_drop 57 = .ok (.ixor, 1) := by decide +kernel
theorem dX0_drop_58 : decode cX0_drop 58 = .ok (.iand, 1) := by decide +kernel
theorem dX0_drop_59 : decode cX0_drop 59 = .ok (.iastore, 1) := by decide +kernel
theorem dX0_drop_60 : decode cX0_drop 60 = .ok (.return_, 1) := by decide +kernel
theorem dX0_isUsed_0 : decode cX0_isUsed 0 = .ok (.aload_n 0, 1) := by decide +kernel
theorem dX0_isUsed_1 : decode cX0_isUsed 1 = .ok (.iload_n 1, 1) := by decide +kernel
theorem dX0_isUsed_2 : decode cX0_isUsed 2 = .ok (.invokevirtual 64, 3) := by decide +kernel
theorem dX0_isUsed_5 : decode cX0_isUsed 5 = .ok (.istore_n 2, 1) := by decide +kernel
theorem dX0_isUsed_6 : decode cX0_isUsed 6 = .ok (.iload_n 2, 1) := by decide +kernel
theorem dX0_isUsed_7 : decode cX0_isUsed 7 = .ok (.iconst (-1), 1) := by decide +kernel
theorem dX0_isUsed_8 : decode cX0_isUsed 8 = .ok (.if_icmp .ne 13, 3) := by decide +kernel
theorem dX0_isUsed_11 : decode cX0_isUsed 11 = .ok (.new 41, 3) := by decide +kernel
theorem dX0_isUsed_14 : decode cX0_isUsed 14 = .ok (.dup, 1) := by decide +kernel
theorem dX0_isUsed_15 : decode cX0_isUsed 15 = .ok (.ldc 67, 2) := by decide +kernel
theorem dX0_isUsed_17 : decode cX0_isUsed 17 = .ok (.invokespecial 45, 3) := by decide +kernel
theorem dX0_isUsed_20 : decode cX0_isUsed 20 = .ok (.athrow, 1) := by decide +kernel
theorem dX0_isUsed_21 : decode cX0_isUsed 21 = .ok (.aload_n 0, 1) := by decide +kernel
theorem dX0_isUsed_22 : decode cX0_isUsed 22 = .ok (.getfield 13, 3) := by decide +kernel
theorem dX0_isUsed_25 : decode cX0_isUsed 25 = .ok (.iload_n 2, 1) := by decide +kernel
theorem dX0_isUsed_26 : decode cX0_isUsed 26 = .ok (.iaload, 1) := by decide +kernel
theorem dX0_isUsed_27 : decode cX0_isUsed 27 = .ok (.iload_n 1, 1) := by decide +kernel
theorem dX0_isUsed_28 : decode cX0_isUsed 28 = .ok (.invokestatic 69, 3) := by decide +kernel
theorem dX0_isUsed_31 : decode cX0_isUsed 31 = .ok (.iand, 1) := by decide +kernel
theorem dX0_isUsed_32 : decode cX0_isUsed 32 = .ok (.ifCond .eq 7, 3) := by decide +kernel
theorem dX0_isUsed_35 : decode cX0_isUsed 35 = .ok (.iconst 1, 1) := by decide +kernel
theorem dX0_isUsed_36 : decode cX0_isUsed 36 = .ok (.goto 4, 3) := by decide +kernel
theorem dX0_isUsed_39 : decode cX0_isUsed 39 = .ok (.iconst 0, 1) := by decide +kernel
theorem dX0_isUsed_40 : decode cX0_isUsed 40 = .ok (.ireturn, 1) := by decide +kernel
theorem dX0_checkpoint_0 : decode cX0_checkpoint 0 = .ok (.iconst 0, 1) := by decide +kernel
theorem dX0_checkpoint_1 : decode cX0_checkpoint 1 = .ok (.istore_n 1, 1) := by decide +kernel
theorem dX0_checkpoint_2 : decode cX0_checkpoint 2 = .ok (.iload_n 1, 1) := by decide +kernel
theorem dX0_checkpoint_3 : decode cX0_checkpoint 3 = .ok (.aload_n 0, 1) := by decide +kernel
theorem dX0_checkpoint_4 : decode cX0_checkpoint 4 = .ok (.getfield 9, 3) := by decide +kernel
theorem dX0_checkpoint_7 : decode cX0_checkpoint 7 = .ok (.if_icmp .ge 28, 3) := by decide +kernel
theorem dX0_checkpoint_10 : decode cX0_checkpoint 10 = .ok (.aload_n 0, 1) := by decide +kernel
theorem dX0_checkpoint_11 : decode cX0_checkpoint 11 = .ok (.getfield 17, 3) := by decide +kernel
theorem dX0_checkpoint_14 : decode cX0_checkpoint 14 = .ok (.iload_n 1, 1) := by decide +kernel
theorem dX0_checkpoint_15 : decode cX0_checkpoint 15 = .ok (.aload_n 0, 1) := by decide +kernel
theorem dX0_checkpoint_16 : decode cX0_checkpoint 16 = .ok (.getfield 13, 3) := by decide +kernel
theorem dX0_checkpoint_19 : decode cX0_checkpoint 19 = .ok (.iload_n 1, 1) := by decide +kernel
theorem dX0_checkpoint_20 : decode cX0_checkpoint 20 = .ok (.iaload, 1) := by decide +kernel
theorem dX0_checkpoint_21 : decode cX0_checkpoint 21 = .ok (.iastore, 1) := by decide +kernel
theorem dX0_checkpoint_22 : decode cX0_checkpoint 22 = .ok (.aload_n 0, 1) := by decide +kernel
theorem dX0_checkpoint_23 : decode cX0_checkpoint 23 = .ok (.getfield 23, 3) := by decide +kernel
theorem dX0_checkpoint_26 : decode cX0_checkpoint 26 = .ok (.iload_n 1, 1) := by decide +kernel
theorem dX0_checkpoint_27 : decode cX0_checkpoint 27 = .ok (.iconst 0, 1) := by decide +kernel
theorem dX0_checkpoint_28 : decode cX0_checkpoint 28 = .ok (.bastore, 1) := by decide +kernel
theorem dX0_checkpoint_29 : decode cX0_checkpoint 29 = .ok (.iinc 1 1, 3) := by decide +kernel
theorem dX0_checkpoint_32 : decode cX0_checkpoint 32 = .ok (.goto (-30), 3) := by decide +kernel
theorem dX0_checkpoint_35 : decode cX0_checkpoint 35 = .ok (.iconst 0, 1) := by decide +kernel
theorem dX0_checkpoint_36 : decode cX0_checkpoint 36 = .ok (.istore_n 1, 1) := by decide +kernel
theorem dX0_checkpoint_37 : decode cX0_checkpoint 37 = .ok (.iload_n 1, 1) := by decide +kernel
theorem dX0_checkpoint_38 : decode cX0_checkpoint 38 = .ok (.bipush 6, 2) := by decide +kernel
theorem dX0_checkpoint_40 : decode cX0_checkpoint 40 = .ok (.if_icmp .ge 23, 3) := by decide +kernel
theorem dX0_checkpoint_43 : decode cX0_checkpoint 43 = .ok (.aload_n 0, 1) := by decide +kernel
theorem dX0_checkpoint_44 : decode cX0_checkpoint 44 = .ok (.aload_n 0, 1) := by decide +kernel
theorem dX0_checkpoint_45 : decode cX0_checkpoint 45 = .ok (.aload_n 0, 1) := by decide +kernel
theorem dX0_checkpoint_46 : decode cX0_checkpoint 46 = .ok (.getfield 27, 3) := by decide +kernel
theorem dX0_checkpoint_49 : decode cX0_checkpoint 49 = .ok (.iload_n 1, 1) := by decide +kernel
theorem dX0_checkpoint_50 : decode cX0_checkpoint 50 = .ok (.iaload, 1) := by decide +kernel
theorem dX0_checkpoint_51 : decode cX0_checkpoint 51 = .ok (.invokevirtual 64, 3) := by decide +kernel
theorem dX0_checkpoint_54 : decode cX0_checkpoint 54 = .ok (.invokevirtual 74, 3) := by decide +kernel
theorem dX0_checkpoint_57 : decode cX0_checkpoint 57 = .ok (.iinc 1 1, 3) := by decide +kernel
theorem dX0_checkpoint_60 : decode cX0_checkpoint 60 = .ok (.goto (-23), 3) := by decide +kernel
theorem dX0_checkpoint_63 : decode cX0_checkpoint 63 = .ok (.aload_n 0, 1) := by decide +kernel
theorem dX0_checkpoint_64 : decode cX0_checkpoint 64 = .ok (.invokevirtual 77, 3) := by decide +kernel
theorem dX0_checkpoint_67 : decode cX0_checkpoint 67 = .ok (.ireturn, 1) := by decide +kernel
theorem dX0_free_0 : decode cX0_free 0 = .ok (.iconst 0, 1) := by decide +kernel
theorem dX0_free_1 : decode cX0_free 1 = .ok (.istore_n 1, 1) := by decide +kernel
theorem dX0_free_2 : decode cX0_free 2 = .ok (.iconst 0, 1) := by decide +kernel
theorem dX0_free_3 : decode cX0_free 3 = .ok (.istore_n 2, 1) := by decide +kernel
theorem dX0_free_4 : decode cX0_free 4 = .ok (.iload_n 2, 1) := by decide +kernel
theorem dX0_free_5 : decode cX0_free 5 = .ok (.aload_n 0, 1) := by decide +kernel
theorem dX0_free_6 : decode cX0_free 6 = .ok (.getfield 9, 3) := by decide +kernel
theorem dX0_free_9 : decode cX0_free 9 = .ok (.if_icmp .ge 20, 3) := by decide +kernel
theorem dX0_free_12 : decode cX0_free 12 = .ok (.aload_n 0, 1) := by decide +kernel
theorem dX0_free_13 : decode cX0_free 13 = .ok (.iload_n 2, 1) := by decide +kernel
theorem dX0_free_14 : decode cX0_free 14 = .ok (.invokevirtual 81, 3) := by decide +kernel
theorem dX0_free_17 : decode cX0_free 17 = .ok (.ifCond .eq 6, 3) := by decide +kernel
theorem dX0_free_20 : decode cX0_free 20 = .ok (.iinc 1 1, 3) := by decide +kernel
theorem dX0_free_23 : decode cX0_free 23 = .ok (.iinc 2 1, 3) := by decide +kernel
theorem dX0_free_26 : decode cX0_free 26 = .ok (.goto (-22), 3) := by decide +kernel
theorem dX0_free_29 : decode cX0_free 29 = .ok (.iload_n 1, 1) := by decide +kernel
theorem dX0_free_30 : decode cX0_free 30 = .ok (.ireturn, 1) := by decide +kernel
theorem dX0_used_0 : decode cX0_used 0 = .ok (.iconst 0, 1) := by decide +kernel
theorem dX0_used_1 : decode cX0_used 1 = .ok (.istore_n 1, 1) := by decide +kernel
theorem dX0_used_2 : decode cX0_used 2 = .ok (.iconst 0, 1) := by decide +kernel
theorem dX0_used_3 : decode cX0_used 3 = .ok (.istore_n 2, 1) := by decide +kernel
theorem dX0_used_4 : decode cX0_used 4 = .ok (.iload_n 2, 1) := by decide +kernel
theorem dX0_used_5 : decode cX0_used 5 = .ok (.aload_n 0, 1) := by decide +kernel
theorem dX0_used_6 : decode cX0_used 6 = .ok (.getfield 9, 3) := by decide +kernel
theorem dX0_used_9 : decode cX0_used 9 = .ok (.if_icmp .ge 21, 3) := by decide +kernel
theorem dX0_used_12 : decode cX0_used 12 = .ok (.iload_n 1, 1) := by decide +kernel
theorem dX0_used_13 : decode cX0_used 13 = .ok (.aload_n 0, 1) := by decide +kernel
theorem dX0_used_14 : decode cX0_used 14 = .ok (.getfield 13, 3) := by decide +kernel
theorem dX0_used_17 : decode cX0_used 17 = .ok (.iload_n 2, 1) := by decide +kernel
theorem dX0_used_18 : decode cX0_used 18 = .ok (.iaload, 1) := by decide +kernel
theorem dX0_used_19 : decode cX0_used 19 = .ok (.invokestatic 84, 3) := by decide +kernel
theorem dX0_used_22 : decode cX0_used 22 = .ok (.iadd, 1) := by decide +kernel
theorem dX0_used_23 : decode cX0_used 23 = .ok (.istore_n 1, 1) := by decide +kernel
theorem dX0_used_24 : decode cX0_used 24 = .ok (.iinc 2 1, 3) := by decide +kernel
theorem dX0_used_27 : decode cX0_used 27 = .ok (.goto (-23), 3) := by decide +kernel
theorem dX0_used_30 : decode cX0_used 30 = .ok (.iload_n 1, 1) := by decide +kernel
theorem dX0_used_31 : decode cX0_used 31 = .ok (.ireturn, 1) := by decide +kernel
theorem dX0_victim_0 : decode cX0_victim 0 = .ok (.iconst (-1), 1) := by decide +kernel
theorem dX0_victim_1 : decode cX0_victim 1 = .ok (.istore_n 2, 1) := by decide +kernel
theorem dX0_victim_2 : decode cX0_victim 2 = .ok (.iconst 0, 1) := by decide +kernel
theorem dX0_victim_3 : decode cX0_victim 3 = .ok (.istore_n 3, 1) := by decide +kernel
theorem dX0_victim_4 : decode cX0_victim 4 = .ok (.iconst 0, 1) := by decide +kernel
theorem dX0_victim_5 : decode cX0_victim 5 = .ok (.istore 4, 2) := by decide +kernel
theorem dX0_victim_7 : decode cX0_victim 7 = .ok (.iload 4, 2) := by decide +kernel
theorem dX0_victim_9 : decode cX0_victim 9 = .ok (.aload_n 0, 1) := by decide +kernel
theorem dX0_victim_10 : decode cX0_victim 10 = .ok (.getfield 9, 3) := by decide +kernel
theorem dX0_victim_13 : decode cX0_victim 13 = .ok (.if_icmp .ge 91, 3) := by decide +kernel
theorem dX0_victim_16 : decode cX0_victim 16 = .ok (.aload_n 0, 1) := by decide +kernel
theorem dX0_victim_17 : decode cX0_victim 17 = .ok (.getfield 13, 3) := by decide +kernel
theorem dX0_victim_20 : decode cX0_victim 20 = .ok (.iload 4, 2) := by decide +kernel
theorem dX0_victim_22 : decode cX0_victim 22 = .ok (.iaload, 1) := by decide +kernel
theorem dX0_victim_23 : decode cX0_victim 23 = .ok (.invokestatic 84, 3) := by decide +kernel
theorem dX0_victim_26 : decode cX0_victim 26 = .ok (.istore 5, 2) := by decide +kernel
theorem dX0_victim_28 : decode cX0_victim 28 = .ok (.aload_n 0, 1) := by decide +kernel
theorem dX0_victim_29 : decode cX0_victim 29 = .ok (.getfield 23, 3) := by decide +kernel
theorem dX0_victim_32 : decode cX0_victim 32 = .ok (.iload 4, 2) := by decide +kernel
theorem dX0_victim_34 : decode cX0_victim 34 = .ok (.baload, 1) := by decide +kernel
theorem dX0_victim_35 : decode cX0_victim 35 = .ok (.ifCond .ne 63, 3) := by decide +kernel
theorem dX0_victim_38 : decode cX0_victim 38 = .ok (.iload 5, 2) := by decide +kernel
theorem dX0_victim_40 : decode cX0_victim 40 = .ok (.iconst 1, 1) := by decide +kernel
theorem dX0_victim_41 : decode cX0_victim 41 = .ok (.if_icmp .lt 57, 3) := by decide +kernel
theorem dX0_victim_44 : decode cX0_victim 44 = .ok (.iload 5, 2) := by decide +kernel
theorem dX0_victim_46 : decode cX0_victim 46 = .ok (.bipush 16, 2) := by decide +kernel
theorem dX0_victim_48 : decode cX0_victim 48 = .ok (.if_icmp .lt 6, 3) := by decide +kernel
theorem dX0_victim_51 : decode cX0_victim 51 = .ok (.goto 47, 3) := by decide +kernel
theorem dX0_victim_54 : decode cX0_victim 54 = .ok (.iload_n 1, 1) := by decide +kernel
theorem dX0_victim_55 : decode cX0_victim 55 = .ok (.ifCond .eq 19, 3) := by decide +kernel
theorem dX0_victim_58 : decode cX0_victim 58 = .ok (.aload_n 0, 1) := by decide +kernel
theorem dX0_victim_59 : decode cX0_victim 59 = .ok (.iload 5, 2) := by decide +kernel
theorem dX0_victim_61 : decode cX0_victim 61 = .ok (.aload_n 0, 1) := by decide +kernel
theorem dX0_victim_62 : decode cX0_victim 62 = .ok (.getfield 20, 3) := by decide +kernel
theorem dX0_victim_65 : decode cX0_victim 65 = .ok (.iload 4, 2) := by decide +kernel
theorem dX0_victim_67 : decode cX0_victim 67 = .ok (.iaload, 1) := by decide +kernel
theorem dX0_victim_68 : decode cX0_victim 68 = .ok (.invokevirtual 89, 3) := by decide +kernel
theorem dX0_victim_71 : decode cX0_victim 71 = .ok (.goto 8, 3) := by decide +kernel
theorem dX0_victim_74 : decode cX0_victim 74 = .ok (.bipush 16, 2) := by decide +kernel
theorem dX0_victim_76 : decode cX0_victim 76 = .ok (.iload 5, 2) := by decide +kernel
theorem dX0_victim_78 : decode cX0_victim 78 = .ok (.isub, 1) := by decide +kernel
theorem dX0_victim_79 : decode cX0_victim 79 = .ok (.istore 6, 2) := by decide +kernel
theorem dX0_victim_81 : decode cX0_victim 81 = .ok (.iload_n 2, 1) := by decide +kernel
theorem dX0_victim_82 : decode cX0_victim 82 = .ok (.iconst (-1), 1) := by decide +kernel
theorem dX0_victim_83 : decode cX0_victim 83 = .ok (.if_icmp .eq 9, 3) := by decide +kernel
theorem dX0_victim_86 : decode cX0_victim 86 = .ok (.iload 6, 2) := by decide +kernel
theorem dX0_victim_88 : decode cX0_victim 88 = .ok (.iload_n 3, 1) := by decide +kernel
theorem dX0_victim_89 : decode cX0_victim 89 = .ok (.if_icmp .le 9, 3) := by decide +kernel
theorem dX0_victim_92 : decode cX0_victim 92 = .ok (.iload 4, 2) := by decide +kernel
theorem dX0_victim_94 : decode cX0_victim 94 = .ok (.istore_n 2, 1) := by decide +kernel
theorem dX0_victim_95 : decode cX0_victim 95 = .ok (.iload 6, 2) := by decide +kernel
theorem dX0_victim_97 : decode cX0_victim 97 = .ok (.istore_n 3, 1) := by decide +kernel
theorem dX0_victim_98 : decode cX0_victim 98 = .ok (.iinc 4 1, 3) := by decide +kernel
theorem dX0_victim_101 : decode cX0_victim 101 = .ok (.goto (-94), 3) := by decide +kernel
theorem dX0_victim_104 : decode cX0_victim 104 = .ok (.iload_n 2, 1) := by decide +kernel
theorem dX0_victim_105 : decode cX0_victim 105 = .ok (.ireturn, 1) := by decide +kernel
theorem dX0_look_0 : decode cX0_look 0 = .ok (.aload_n 0, 1) := by decide +kernel
theorem dX0_look_1 : decode cX0_look 1 = .ok (.iload_n 1, 1) := by decide +kernel
theorem dX0_look_2 : decode cX0_look 2 = .ok (.invokevirtual 93, 3) := by decide +kernel
theorem dX0_look_5 : decode cX0_look 5 = .ok (.ifCond .ne 13, 3) := by decide +kernel
theorem dX0_look_8 : decode cX0_look 8 = .ok (.new 41, 3) := by decide +kernel
theorem dX0_look_11 : decode cX0_look 11 = .ok (.dup, 1) := by decide +kernel
theorem dX0_look_12 : decode cX0_look 12 = .ok (.ldc 96, 2) := by decide +kernel
theorem dX0_look_14 : decode cX0_look 14 = .ok (.invokespecial 45, 3) := by decide +kernel
theorem dX0_look_17 : decode cX0_look 17 = .ok (.athrow, 1) := by decide +kernel
theorem dX0_look_18 : decode cX0_look 18 = .ok (.iload_n 2, 1) := by decide +kernel
theorem dX0_look_19 : decode cX0_look 19 = .ok (.tableswitch 65 0 3 #[29, 36, 43, 50], 29) := by decide +kernel
theorem dX0_look_48 : decode cX0_look 48 = .ok (.aload_n 0, 1) := by decide +kernel
theorem dX0_look_49 : decode cX0_look 49 = .ok (.getfield 13, 3) := by decide +kernel
theorem dX0_look_52 : decode cX0_look 52 = .ok (.iload_n 1, 1) := by decide +kernel
theorem dX0_look_53 : decode cX0_look 53 = .ok (.iaload, 1) := by decide +kernel
theorem dX0_look_54 : decode cX0_look 54 = .ok (.ireturn, 1) := by decide +kernel
theorem dX0_look_55 : decode cX0_look 55 = .ok (.aload_n 0, 1) := by decide +kernel
theorem dX0_look_56 : decode cX0_look 56 = .ok (.getfield 17, 3) := by decide +kernel
theorem dX0_look_59 : decode cX0_look 59 = .ok (.iload_n 1, 1) := by decide +kernel
theorem dX0_look_60 : decode cX0_look 60 = .ok (.iaload, 1) := by decide +kernel
theorem dX0_look_61 : decode cX0_look 61 = .ok (.ireturn, 1) := by decide +kernel
theorem dX0_look_62 : decode cX0_look 62 = .ok (.aload_n 0, 1) := by decide +kernel
theorem dX0_look_63 : decode cX0_look 63 = .ok (.getfield 20, 3) := by decide +kernel
theorem dX0_look_66 : decode cX0_look 66 = .ok (.iload_n 1, 1) := by decide +kernel
theorem dX0_look_67 : decode cX0_look 67 = .ok (.iaload, 1) := by decide +kernel
theorem dX0_look_68 : decode cX0_look 68 = .ok (.ireturn, 1) := by decide +kernel
theorem dX0_look_69 : decode cX0_look 69 = .ok (.aload_n 0, 1) := by decide +kernel
theorem dX0_look_70 : decode cX0_look 70 = .ok (.getfield 23, 3) := by decide +kernel
theorem dX0_look_73 : decode cX0_look 73 = .ok (.iload_n 1, 1) := by decide +kernel
theorem dX0_look_74 : decode cX0_look 74 = .ok (.baload, 1) := by decide +kernel
theorem dX0_look_75 : decode cX0_look 75 = .ok (.ifCond .eq 7, 3) := by decide +kernel
theorem dX0_look_78 : decode cX0_look 78 = .ok (.iconst 1, 1) := by decide +kernel
theorem dX0_look_79 : decode cX0_look 79 = .ok (.goto 4, 3) := by decide +kernel
theorem dX0_look_82 : decode cX0_look 82 = .ok (.iconst 0, 1) := by decide +kernel
theorem dX0_look_83 : decode cX0_look 83 = .ok (.ireturn, 1) := by decide +kernel
theorem dX0_look_84 : decode cX0_look 84 = .ok (.new 41, 3) := by decide +kernel
theorem dX0_look_87 : decode cX0_look 87 = .ok (.dup, 1) := by decide +kernel
theorem dX0_look_88 : decode cX0_look 88 = .ok (.ldc 98, 2) := by decide +kernel
theorem dX0_look_90 : decode cX0_look 90 = .ok (.invokespecial 45, 3) := by decide +kernel
theorem dX0_look_93 : decode cX0_look 93 = .ok (.athrow, 1) := by decide +kernel
theorem dX0_isLog_0 : decode cX0_isLog 0 = .ok (.iload_n 0, 1) := by decide +kernel
theorem dX0_isLog_1 : decode cX0_isLog 1 = .ok (.ifCond .lt 13, 3) := by decide +kernel
theorem dX0_isLog_4 : decode cX0_isLog 4 = .ok (.iload_n 0, 1) := by decide +kernel
theorem dX0_isLog_5 : decode cX0_isLog 5 = .ok (.bipush 6, 2) := by decide +kernel
theorem dX0_isLog_7 : decode cX0_isLog 7 = .ok (.if_icmp .ge 7, 3) := by decide +kernel
theorem dX0_isLog_10 : decode cX0_isLog 10 = .ok (.iconst 1, 1) := by decide +kernel
theorem dX0_isLog_11 : decode cX0_isLog 11 = .ok (.goto 4, 3) := by decide +kernel
theorem dX0_isLog_14 : decode cX0_isLog 14 = .ok (.iconst 0, 1) := by decide +kernel
theorem dX0_isLog_15 : decode cX0_isLog 15 = .ok (.ireturn, 1) := by decide +kernel
theorem dX0_isSegment_0 : decode cX0_isSegment 0 = .ok (.iload_n 1, 1) := by decide +kernel
theorem dX0_isSegment_1 : decode cX0_isSegment 1 = .ok (.ifCond .lt 15, 3) := by decide +kernel
theorem dX0_isSegment_4 : decode cX0_isSegment 4 = .ok (.iload_n 1, 1) := by decide +kernel
theorem dX0_isSegment_5 : decode cX0_isSegment 5 = .ok (.aload_n 0, 1) := by decide +kernel
theorem dX0_isSegment_6 : decode cX0_isSegment 6 = .ok (.getfield 9, 3) := by decide +kernel
theorem dX0_isSegment_9 : decode cX0_isSegment 9 = .ok (.if_icmp .ge 7, 3) := by decide +kernel
theorem dX0_isSegment_12 : decode cX0_isSegment 12 = .ok (.iconst 1, 1) := by decide +kernel
theorem dX0_isSegment_13 : decode cX0_isSegment 13 = .ok (.goto 4, 3) := by decide +kernel
theorem dX0_isSegment_16 : decode cX0_isSegment 16 = .ok (.iconst 0, 1) := by decide +kernel
theorem dX0_isSegment_17 : decode cX0_isSegment 17 = .ok (.ireturn, 1) := by decide +kernel
theorem dX0_firstBlockOf_0 : decode cX0_firstBlockOf 0 = .ok (.bipush 96, 2) := by decide +kernel
theorem dX0_firstBlockOf_2 : decode cX0_firstBlockOf 2 = .ok (.bipush 16, 2) := by decide +kernel
theorem dX0_firstBlockOf_4 : decode cX0_firstBlockOf 4 = .ok (.iload_n 0, 1) := by decide +kernel
theorem dX0_firstBlockOf_5 : decode cX0_firstBlockOf 5 = .ok (.imul, 1) := by decide +kernel
theorem dX0_firstBlockOf_6 : decode cX0_firstBlockOf 6 = .ok (.iadd, 1) := by decide +kernel
theorem dX0_firstBlockOf_7 : decode cX0_firstBlockOf 7 = .ok (.ireturn, 1) := by decide +kernel
theorem dX0_segmentOf_0 : decode cX0_segmentOf 0 = .ok (.iload_n 1, 1) := by decide +kernel
theorem dX0_segmentOf_1 : decode cX0_segmentOf 1 = .ok (.bipush 96, 2) := by decide +kernel
theorem dX0_segmentOf_3 : decode cX0_segmentOf 3 = .ok (.if_icmp .lt 14, 3) := by decide +kernel
theorem dX0_segmentOf_6 : decode cX0_segmentOf 6 = .ok (.iload_n 1, 1) := by decide +kernel
theorem dX0_segmentOf_7 : decode cX0_segmentOf 7 = .ok (.aload_n 0, 1) := by decide +kernel
theorem dX0_segmentOf_8 : decode cX0_segmentOf 8 = .ok (.getfield 9, 3) := by decide +kernel
theorem dX0_segmentOf_11 : decode cX0_segmentOf 11 = .ok (.invokestatic 33, 3) := by decide +kernel
theorem dX0_segmentOf_14 : decode cX0_segmentOf 14 = .ok (.if_icmp .lt 5, 3) := by decide +kernel
theorem dX0_segmentOf_17 : decode cX0_segmentOf 17 = .ok (.iconst (-1), 1) := by decide +kernel
theorem dX0_segmentOf_18 : decode cX0_segmentOf 18 = .ok (.ireturn, 1) := by decide +kernel
theorem dX0_segmentOf_19 : decode cX0_segmentOf 19 = .ok (.iload_n 1, 1) := by decide +kernel
theorem dX0_segmentOf_20 : decode cX0_segmentOf 20 = .ok (.bipush 96, 2) := by decide +kernel
theorem dX0_segmentOf_22 : decode cX0_segmentOf 22 = .ok (.isub, 1) := by decide +kernel
theorem dX0_segmentOf_23 : decode cX0_segmentOf 23 = .ok (.bipush 16, 2) := by decide +kernel
theorem dX0_segmentOf_25 : decode cX0_segmentOf 25 = .ok (.idiv, 1) := by decide +kernel
theorem dX0_segmentOf_26 : decode cX0_segmentOf 26 = .ok (.ireturn, 1) := by decide +kernel
theorem dX0_placeOf_0 : decode cX0_placeOf 0 = .ok (.iload_n 0, 1) := by decide +kernel
theorem dX0_placeOf_1 : decode cX0_placeOf 1 = .ok (.bipush 96, 2) := by decide +kernel
theorem dX0_placeOf_3 : decode cX0_placeOf 3 = .ok (.isub, 1) := by decide +kernel
theorem dX0_placeOf_4 : decode cX0_placeOf 4 = .ok (.bipush 16, 2) := by decide +kernel
theorem dX0_placeOf_6 : decode cX0_placeOf 6 = .ok (.irem, 1) := by decide +kernel
theorem dX0_placeOf_7 : decode cX0_placeOf 7 = .ok (.ireturn, 1) := by decide +kernel
theorem dX0_bitOf_0 : decode cX0_bitOf 0 = .ok (.iconst 1, 1) := by decide +kernel
theorem dX0_bitOf_1 : decode cX0_bitOf 1 = .ok (.iload_n 0, 1) := by decide +kernel
theorem dX0_bitOf_2 : decode cX0_bitOf 2 = .ok (.invokestatic 100, 3) := by decide +kernel
theorem dX0_bitOf_5 : decode cX0_bitOf 5 = .ok (.ishl, 1) := by decide +kernel
theorem dX0_bitOf_6 : decode cX0_bitOf 6 = .ok (.ireturn, 1) := by decide +kernel
theorem dX0_isFree_0 : decode cX0_isFree 0 = .ok (.aload_n 0, 1) := by decide +kernel
theorem dX0_isFree_1 : decode cX0_isFree 1 = .ok (.iload_n 1, 1) := by decide +kernel
theorem dX0_isFree_2 : decode cX0_isFree 2 = .ok (.invokevirtual 93, 3) := by decide +kernel
theorem dX0_isFree_5 : decode cX0_isFree 5 = .ok (.ifCond .eq 34, 3) := by decide +kernel
theorem dX0_isFree_8 : decode cX0_isFree 8 = .ok (.aload_n 0, 1) := by decide +kernel
theorem dX0_isFree_9 : decode cX0_isFree 9 = .ok (.getfield 13, 3) := by decide +kernel
theorem dX0_isFree_12 : decode cX0_isFree 12 = .ok (.iload_n 1, 1) := by decide +kernel
theorem dX0_isFree_13 : decode cX0_isFree 13 = .ok (.iaload, 1) := by decide +kernel
theorem dX0_isFree_14 : decode cX0_isFree 14 = .ok (.ifCond .ne 25, 3) := by decide +kernel
theorem dX0_isFree_17 : decode cX0_isFree 17 = .ok (.aload_n 0, 1) := by decide +kernel
theorem dX0_isFree_18 : decode cX0_isFree 18 = .ok (.getfield 17, 3) := by decide +kernel
theorem dX0_isFree_21 : decode cX0_isFree 21 = .ok (.iload_n 1, 1) := by decide +kernel
theorem dX0_isFree_22 : decode cX0_isFree 22 = .ok (.iaload, 1) := by decide +kernel
theorem dX0_isFree_23 : decode cX0_isFree 23 = .ok (.ifCond .ne 16, 3) := by decide +kernel
theorem dX0_isFree_26 : decode cX0_isFree 26 = .ok (.aload_n 0, 1) := by decide +kernel
theorem dX0_isFree_27 : decode cX0_isFree 27 = .ok (.getfield 23, 3) := by decide +kernel
theorem dX0_isFree_30 : decode cX0_isFree 30 = .ok (.iload_n 1, 1) := by decide +kernel
theorem dX0_isFree_31 : decode cX0_isFree 31 = .ok (.baload, 1) := by decide +kernel
theorem dX0_isFree_32 : decode cX0_isFree 32 = .ok (.ifCond .ne 7, 3) := by decide +kernel
theorem dX0_isFree_35 : decode cX0_isFree 35 = .ok (.iconst 1, 1) := by decide +kernel
theorem dX0_isFree_36 : decode cX0_isFree 36 = .ok (.goto 4, 3) := by decide +kernel
theorem dX0_isFree_39 : decode cX0_isFree 39 = .ok (.iconst 0, 1) := by decide +kernel
theorem dX0_isFree_40 : decode cX0_isFree 40 = .ok (.ireturn, 1) := by decide +kernel
theorem dX0_lowestFree_0 : decode cX0_lowestFree 0 = .ok (.iconst 0, 1) := by decide +kernel
theorem dX0_lowestFree_1 : decode cX0_lowestFree 1 = .ok (.istore_n 1, 1) := by decide +kernel
theorem dX0_lowestFree_2 : decode cX0_lowestFree 2 = .ok (.iload_n 1, 1) := by decide +kernel
theorem dX0_lowestFree_3 : decode cX0_lowestFree 3 = .ok (.aload_n 0, 1) := by decide +kernel
theorem dX0_lowestFree_4 : decode cX0_lowestFree 4 = .ok (.getfield 9, 3) := by decide +kernel
theorem dX0_lowestFree_7 : decode cX0_lowestFree 7 = .ok (.if_icmp .ge 19, 3) := by decide +kernel
theorem dX0_lowestFree_10 : decode cX0_lowestFree 10 = .ok (.aload_n 0, 1) := by decide +kernel
theorem dX0_lowestFree_11 : decode cX0_lowestFree 11 = .ok (.iload_n 1, 1) := by decide +kernel
theorem dX0_lowestFree_12 : decode cX0_lowestFree 12 = .ok (.invokevirtual 81, 3) := by decide +kernel
theorem dX0_lowestFree_15 : decode cX0_lowestFree 15 = .ok (.ifCond .eq 5, 3) := by decide +kernel
theorem dX0_lowestFree_18 : decode cX0_lowestFree 18 = .ok (.iload_n 1, 1) := by decide +kernel
theorem dX0_lowestFree_19 : decode cX0_lowestFree 19 = .ok (.ireturn, 1) := by decide +kernel
theorem dX0_lowestFree_20 : decode cX0_lowestFree 20 = .ok (.iinc 1 1, 3) := by decide +kernel
theorem dX0_lowestFree_23 : decode cX0_lowestFree 23 = .ok (.goto (-21), 3) := by decide +kernel
theorem dX0_lowestFree_26 : decode cX0_lowestFree 26 = .ok (.iconst (-1), 1) := by decide +kernel
theorem dX0_lowestFree_27 : decode cX0_lowestFree 27 = .ok (.ireturn, 1) := by decide +kernel
theorem dX0_blockAfter_0 : decode cX0_blockAfter 0 = .ok (.iload_n 1, 1) := by decide +kernel
theorem dX0_blockAfter_1 : decode cX0_blockAfter 1 = .ok (.invokestatic 100, 3) := by decide +kernel
theorem dX0_blockAfter_4 : decode cX0_blockAfter 4 = .ok (.bipush 15, 2) := by decide +kernel
theorem dX0_blockAfter_6 : decode cX0_blockAfter 6 = .ok (.if_icmp .ge 7, 3) := by decide +kernel
theorem dX0_blockAfter_9 : decode cX0_blockAfter 9 = .ok (.iload_n 1, 1) := by decide +kernel
theorem dX0_blockAfter_10 : decode cX0_blockAfter 10 = .ok (.iconst 1, 1) := by decide +kernel
theorem dX0_blockAfter_11 : decode cX0_blockAfter 11 = .ok (.iadd, 1) := by decide +kernel
theorem dX0_blockAfter_12 : decode cX0_blockAfter 12 = .ok (.ireturn, 1) := by decide +kernel
theorem dX0_blockAfter_13 : decode cX0_blockAfter 13 = .ok (.aload_n 0, 1) := by decide +kernel
theorem dX0_blockAfter_14 : decode cX0_blockAfter 14 = .ok (.invokevirtual 103, 3) := by decide +kernel
theorem dX0_blockAfter_17 : decode cX0_blockAfter 17 = .ok (.istore_n 2, 1) := by decide +kernel
theorem dX0_blockAfter_18 : decode cX0_blockAfter 18 = .ok (.iload_n 2, 1) := by decide +kernel
theorem dX0_blockAfter_19 : decode cX0_blockAfter 19 = .ok (.iconst (-1), 1) := by decide +kernel
theorem dX0_blockAfter_20 : decode cX0_blockAfter 20 = .ok (.if_icmp .ne 7, 3) := by decide +kernel
theorem dX0_blockAfter_23 : decode cX0_blockAfter 23 = .ok (.iconst (-1), 1) := by decide +kernel
theorem dX0_blockAfter_24 : decode cX0_blockAfter 24 = .ok (.goto 7, 3) := by decide +kernel
theorem dX0_blockAfter_27 : decode cX0_blockAfter 27 = .ok (.iload_n 2, 1) := by decide +kernel
theorem dX0_blockAfter_28 : decode cX0_blockAfter 28 = .ok (.invokestatic 33, 3) := by decide +kernel
theorem dX0_blockAfter_31 : decode cX0_blockAfter 31 = .ok (.ireturn, 1) := by decide +kernel
theorem dX0_putInUse_0 : decode cX0_putInUse 0 = .ok (.aload_n 0, 1) := by decide +kernel
theorem dX0_putInUse_1 : decode cX0_putInUse 1 = .ok (.iload_n 1, 1) := by decide +kernel
theorem dX0_putInUse_2 : decode cX0_putInUse 2 = .ok (.invokevirtual 64, 3) := by decide +kernel
theorem dX0_putInUse_5 : decode cX0_putInUse 5 = .ok (.istore_n 2, 1) := by decide +kernel
theorem dX0_putInUse_6 : decode cX0_putInUse 6 = .ok (.iload_n 2, 1) := by decide +kernel
theorem dX0_putInUse_7 : decode cX0_putInUse 7 = .ok (.iconst (-1), 1) := by decide +kernel
theorem dX0_putInUse_8 : decode cX0_putInUse 8 = .ok (.if_icmp .ne 4, 3) := by decide +kernel
theorem dX0_putInUse_11 : decode cX0_putInUse 11 = .ok (.return_, 1) := by decide +kernel
theorem dX0_putInUse_12 : decode cX0_putInUse 12 = .ok (.aload_n 0, 1) := by decide +kernel
theorem dX0_putInUse_13 : decode cX0_putInUse 13 = .ok (.dup, 1) := by decide +kernel
theorem dX0_putInUse_14 : decode cX0_putInUse 14 = .ok (.getfield 30, 3) := by decide +kernel
theorem dX0_putInUse_17 : decode cX0_putInUse 17 = .ok (.iconst 1, 1) := by decide +kernel
theorem dX0_putInUse_18 : decode cX0_putInUse 18 = .ok (.iadd, 1) := by decide +kernel
theorem dX0_putInUse_19 : decode cX0_putInUse 19 = .ok (.putfield 30, 3) := by decide +kernel
theorem dX0_putInUse_22 : decode cX0_putInUse 22 = .ok (.aload_n 0, 1) := by decide +kernel
theorem dX0_putInUse_23 : decode cX0_putInUse 23 = .ok (.getfield 13, 3) := by decide +kernel
theorem dX0_putInUse_26 : decode cX0_putInUse 26 = .ok (.iload_n 2, 1) := by decide +kernel
theorem dX0_putInUse_27 : decode cX0_putInUse 27 = .ok (.dup2, 1) := by decide +kernel
theorem dX0_putInUse_28 : decode cX0_putInUse 28 = .ok (.iaload, 1) := by decide +kernel
theorem dX0_putInUse_29 : decode cX0_putInUse 29 = .ok (.iload_n 1, 1) := by decide +kernel
theorem dX0_putInUse_30 : decode cX0_putInUse 30 = .ok (.invokestatic 69, 3) := by decide +kernel
theorem dX0_putInUse_33 : decode cX0_putInUse 33 = .ok (.ior, 1) := by decide +kernel
theorem dX0_putInUse_34 : decode cX0_putInUse 34 = .ok (.iastore, 1) := by decide +kernel
theorem dX0_putInUse_35 : decode cX0_putInUse 35 = .ok (.aload_n 0, 1) := by decide +kernel
theorem dX0_putInUse_36 : decode cX0_putInUse 36 = .ok (.getfield 20, 3) := by decide +kernel
theorem dX0_putInUse_39 : decode cX0_putInUse 39 = .ok (.iload_n 2, 1) := by decide +kernel
theorem dX0_putInUse_40 : decode cX0_putInUse 40 = .ok (.aload_n 0, 1) := by decide +kernel
theorem dX0_putInUse_41 : decode cX0_putInUse 41 = .ok (.getfield 30, 3) := by decide +kernel
theorem dX0_putInUse_44 : decode cX0_putInUse 44 = .ok (.iastore, 1) := by decide +kernel
theorem dX0_putInUse_45 : decode cX0_putInUse 45 = .ok (.return_, 1) := by decide +kernel
theorem dX0_moveLog_0 : decode cX0_moveLog 0 = .ok (.iload_n 1, 1) := by decide +kernel
theorem dX0_moveLog_1 : decode cX0_moveLog 1 = .ok (.invokestatic 37, 3) := by decide +kernel
theorem dX0_moveLog_4 : decode cX0_moveLog 4 = .ok (.ifCond .eq 19, 3) := by decide +kernel
theorem dX0_moveLog_7 : decode cX0_moveLog 7 = .ok (.aload_n 0, 1) := by decide +kernel
theorem dX0_moveLog_8 : decode cX0_moveLog 8 = .ok (.getfield 27, 3) := by decide +kernel
theorem dX0_moveLog_11 : decode cX0_moveLog 11 = .ok (.iload_n 1, 1) := by decide +kernel
theorem dX0_moveLog_12 : decode cX0_moveLog 12 = .ok (.iload_n 2, 1) := by decide +kernel
theorem dX0_moveLog_13 : decode cX0_moveLog 13 = .ok (.iastore, 1) := by decide +kernel
theorem dX0_moveLog_14 : decode cX0_moveLog 14 = .ok (.aload_n 0, 1) := by decide +kernel
theorem dX0_moveLog_15 : decode cX0_moveLog 15 = .ok (.aload_n 0, 1) := by decide +kernel
theorem dX0_moveLog_16 : decode cX0_moveLog 16 = .ok (.iload_n 2, 1) := by decide +kernel
theorem dX0_moveLog_17 : decode cX0_moveLog 17 = .ok (.invokevirtual 64, 3) := by decide +kernel
theorem dX0_moveLog_20 : decode cX0_moveLog 20 = .ok (.invokevirtual 74, 3) := by decide +kernel
theorem dX0_moveLog_23 : decode cX0_moveLog 23 = .ok (.return_, 1) := by decide +kernel
theorem dX0_markTaken_0 : decode cX0_markTaken 0 = .ok (.aload_n 0, 1) := by decide +kernel
theorem dX0_markTaken_1 : decode cX0_markTaken 1 = .ok (.iload_n 1, 1) := by decide +kernel
theorem dX0_markTaken_2 : decode cX0_markTaken 2 = .ok (.invokevirtual 93, 3) := by decide +kernel
theorem dX0_markTaken_5 : decode cX0_markTaken 5 = .ok (.ifCond .eq 10, 3) := by decide +kernel
theorem dX0_markTaken_8 : decode cX0_markTaken 8 = .ok (.aload_n 0, 1) := by decide +kernel
theorem dX0_markTaken_9 : decode cX0_markTaken 9 = .ok (.getfield 23, 3) := by decide +kernel
theorem dX0_markTaken_12 : decode cX0_markTaken 12 = .ok (.iload_n 1, 1) := by decide +kernel
theorem dX0_markTaken_13 : decode cX0_markTaken 13 = .ok (.iconst 1, 1) := by decide +kernel
theorem dX0_markTaken_14 : decode cX0_markTaken 14 = .ok (.bastore, 1) := by decide +kernel
theorem dX0_markTaken_15 : decode cX0_markTaken 15 = .ok (.return_, 1) := by decide +kernel
theorem dX0_gentleWorth_0 : decode cX0_gentleWorth 0 = .ok (.bipush 16, 2) := by decide +kernel
theorem dX0_gentleWorth_2 : decode cX0_gentleWorth 2 = .ok (.iload_n 1, 1) := by decide +kernel
theorem dX0_gentleWorth_3 : decode cX0_gentleWorth 3 = .ok (.isub, 1) := by decide +kernel
theorem dX0_gentleWorth_4 : decode cX0_gentleWorth 4 = .ok (.aload_n 0, 1) := by decide +kernel
theorem dX0_gentleWorth_5 : decode cX0_gentleWorth 5 = .ok (.getfield 30, 3) := by decide +kernel
theorem dX0_gentleWorth_8 : decode cX0_gentleWorth 8 = .ok (.iload_n 2, 1) := by decide +kernel
theorem dX0_gentleWorth_9 : decode cX0_gentleWorth 9 = .ok (.isub, 1) := by decide +kernel
theorem dX0_gentleWorth_10 : decode cX0_gentleWorth 10 = .ok (.iconst 1, 1) := by decide +kernel
theorem dX0_gentleWorth_11 : decode cX0_gentleWorth 11 = .ok (.iadd, 1) := by decide +kernel
theorem dX0_gentleWorth_12 : decode cX0_gentleWorth 12 = .ok (.imul, 1) := by decide +kernel
theorem dX0_gentleWorth_13 : decode cX0_gentleWorth 13 = .ok (.iload_n 1, 1) := by decide +kernel
theorem dX0_gentleWorth_14 : decode cX0_gentleWorth 14 = .ok (.bipush 16, 2) := by decide +kernel
theorem dX0_gentleWorth_16 : decode cX0_gentleWorth 16 = .ok (.iadd, 1) := by decide +kernel
theorem dX0_gentleWorth_17 : decode cX0_gentleWorth 17 = .ok (.idiv, 1) := by decide +kernel
theorem dX0_gentleWorth_18 : decode cX0_gentleWorth 18 = .ok (.ireturn, 1) := by decide +kernel
theorem dJ6_bitCount_0f7a4_0 : decode cJ6_bitCount_0f7a4 0 = .ok (.iload_n 0, 1) := by decide +kernel
theorem dJ6_bitCount_0f7a4_1 : decode cJ6_bitCount_0f7a4 1 = .ok (.iload_n 0, 1) := by decide +kernel
theorem dJ6_bitCount_0f7a4_2 : decode cJ6_bitCount_0f7a4 2 = .ok (.iconst 1, 1) := by decide +kernel
theorem dJ6_bitCount_0f7a4_3 : decode cJ6_bitCount_0f7a4 3 = .ok (.iushr, 1) := by decide +kernel
theorem dJ6_bitCount_0f7a4_4 : decode cJ6_bitCount_0f7a4 4 = .ok (.ldc_w 265, 3) := by decide +kernel
theorem dJ6_bitCount_0f7a4_7 : decode cJ6_bitCount_0f7a4 7 = .ok (.iand, 1) := by decide +kernel
theorem dJ6_bitCount_0f7a4_8 : decode cJ6_bitCount_0f7a4 8 = .ok (.isub, 1) := by decide +kernel
theorem dJ6_bitCount_0f7a4_9 : decode cJ6_bitCount_0f7a4 9 = .ok (.istore_n 0, 1) := by decide +kernel
theorem dJ6_bitCount_0f7a4_10 : decode cJ6_bitCount_0f7a4 10 = .ok (.iload_n 0, 1) := by decide +kernel
theorem dJ6_bitCount_0f7a4_11 : decode cJ6_bitCount_0f7a4 11 = .ok (.ldc_w 266, 3) := by decide +kernel
theorem dJ6_bitCount_0f7a4_14 : decode cJ6_bitCount_0f7a4 14 = .ok (.iand, 1) := by decide +kernel
theorem dJ6_bitCount_0f7a4_15 : decode cJ6_bitCount_0f7a4 15 = .ok (.iload_n 0, 1) := by decide +kernel
theorem dJ6_bitCount_0f7a4_16 : decode cJ6_bitCount_0f7a4 16 = .ok (.iconst 2, 1) := by decide +kernel
theorem dJ6_bitCount_0f7a4_17 : decode cJ6_bitCount_0f7a4 17 = .ok (.iushr, 1) := by decide +kernel
theorem dJ6_bitCount_0f7a4_18 : decode cJ6_bitCount_0f7a4 18 = .ok (.ldc_w 266, 3) := by decide +kernel
theorem dJ6_bitCount_0f7a4_21 : decode cJ6_bitCount_0f7a4 21 = .ok (.iand, 1) := by decide +kernel
theorem dJ6_bitCount_0f7a4_22 : decode cJ6_bitCount_0f7a4 22 = .ok (.iadd, 1) := by decide +kernel
theorem dJ6_bitCount_0f7a4_23 : decode cJ6_bitCount_0f7a4 23 = .ok (.istore_n 0, 1) := by decide +kernel
theorem dJ6_bitCount_0f7a4_24 : decode cJ6_bitCount_0f7a4 24 = .ok (.iload_n 0, 1) := by decide +kernel
theorem dJ6_bitCount_0f7a4_25 : decode cJ6_bitCount_0f7a4 25 = .ok (.iload_n 0, 1) := by decide +kernel
theorem dJ6_bitCount_0f7a4_26 : decode cJ6_bitCount_0f7a4 26 = .ok (.iconst 4, 1) := by decide +kernel
theorem dJ6_bitCount_0f7a4_27 : decode cJ6_bitCount_0f7a4 27 = .ok (.iushr, 1) := by decide +kernel
theorem dJ6_bitCount_0f7a4_28 : decode cJ6_bitCount_0f7a4 28 = .ok (.iadd, 1) := by decide +kernel
theorem dJ6_bitCount_0f7a4_29 : decode cJ6_bitCount_0f7a4 29 = .ok (.ldc_w 267, 3) := by decide +kernel
theorem dJ6_bitCount_0f7a4_32 : decode cJ6_bitCount_0f7a4 32 = .ok (.iand, 1) := by decide +kernel
theorem dJ6_bitCount_0f7a4_33 : decode cJ6_bitCount_0f7a4 33 = .ok (.istore_n 0, 1) := by decide +kernel
theorem dJ6_bitCount_0f7a4_34 : decode cJ6_bitCount_0f7a4 34 = .ok (.iload_n 0, 1) := by decide +kernel
theorem dJ6_bitCount_0f7a4_35 : decode cJ6_bitCount_0f7a4 35 = .ok (.iload_n 0, 1) := by decide +kernel
theorem dJ6_bitCount_0f7a4_36 : decode cJ6_bitCount_0f7a4 36 = .ok (.bipush 8, 2) := by decide +kernel
theorem dJ6_bitCount_0f7a4_38 : decode cJ6_bitCount_0f7a4 38 = .ok (.iushr, 1) := by decide +kernel
theorem dJ6_bitCount_0f7a4_39 : decode cJ6_bitCount_0f7a4 39 = .ok (.iadd, 1) := by decide +kernel
theorem dJ6_bitCount_0f7a4_40 : decode cJ6_bitCount_0f7a4 40 = .ok (.istore_n 0, 1) := by decide +kernel
theorem dJ6_bitCount_0f7a4_41 : decode cJ6_bitCount_0f7a4 41 = .ok (.iload_n 0, 1) := by decide +kernel
theorem dJ6_bitCount_0f7a4_42 : decode cJ6_bitCount_0f7a4 42 = .ok (.iload_n 0, 1) := by decide +kernel
theorem dJ6_bitCount_0f7a4_43 : decode cJ6_bitCount_0f7a4 43 = .ok (.bipush 16, 2) := by decide +kernel
theorem dJ6_bitCount_0f7a4_45 : decode cJ6_bitCount_0f7a4 45 = .ok (.iushr, 1) := by decide +kernel
theorem dJ6_bitCount_0f7a4_46 : decode cJ6_bitCount_0f7a4 46 = .ok (.iadd, 1) := by decide +kernel
theorem dJ6_bitCount_0f7a4_47 : decode cJ6_bitCount_0f7a4 47 = .ok (.istore_n 0, 1) := by decide +kernel
theorem dJ6_bitCount_0f7a4_48 : decode cJ6_bitCount_0f7a4 48 = .ok (.iload_n 0, 1) := by decide +kernel
theorem dJ6_bitCount_0f7a4_49 : decode cJ6_bitCount_0f7a4 49 = .ok (.bipush 63, 2) := by decide +kernel
theorem dJ6_bitCount_0f7a4_51 : decode cJ6_bitCount_0f7a4 51 = .ok (.iand, 1) := by decide +kernel
theorem dJ6_bitCount_0f7a4_52 : decode cJ6_bitCount_0f7a4 52 = .ok (.ireturn, 1) := by decide +kernel
end
section
theorem dX1_init_0 : decode cX1_init 0 = .ok (.aload_n 0, 1) := by decide +kernel
theorem dX1_init_1 : decode cX1_init 1 = .ok (.invokespecial 1, 3) := by decide +kernel
theorem dX1_init_4 : decode cX1_init 4 = .ok (.aload_n 0, 1) := by decide +kernel
theorem dX1_init_5 : decode cX1_init 5 = .ok (.sipush 2048, 3) := by decide +kernel
theorem dX1_init_8 : decode cX1_init 8 = .ok (.newarray .boolean, 2) := by decide +kernel
theorem dX1_init_10 : decode cX1_init 10 = .ok (.putfield 7, 3) := by decide +kernel
theorem dX1_init_13 : decode cX1_init 13 = .ok (.aload_n 0, 1) := by decide +kernel
theorem dX1_init_14 : decode cX1_init 14 = .ok (.sipush 2048, 3) := by decide +kernel
theorem dX1_init_17 : decode cX1_init 17 = .ok (.newarray .boolean, 2) := by decide +kernel
theorem dX1_init_19 : decode cX1_init 19 = .ok (.putfield 13, 3) := by decide +kernel
theorem dX1_init_22 : decode cX1_init 22 = .ok (.aload_n 0, 1) := by decide +kernel
theorem dX1_init_23 : decode cX1_init 23 = .ok (.sipush 128, 3) := by decide +kernel
theorem dX1_init_26 : decode cX1_init 26 = .ok (.newarray .boolean, 2) := by decide +kernel
theorem dX1_init_28 : decode cX1_init 28 = .ok (.putfield 16, 3) := by decide +kernel
theorem dX1_init_31 : decode cX1_init 31 = .ok (.aload_n 0, 1) := by decide +kernel
theorem dX1_init_32 : decode cX1_init 32 = .ok (.sipush 128, 3) := by decide +kernel
theorem dX1_init_35 : decode cX1_init 35 = .ok (.newarray .int, 2) := by decide +kernel
theorem dX1_init_37 : decode cX1_init 37 = .ok (.putfield 19, 3) := by decide +kernel
theorem dX1_init_40 : decode cX1_init 40 = .ok (.aload_n 0, 1) := by decide +kernel
theorem dX1_init_41 : decode cX1_init 41 = .ok (.bipush 6, 2) := by decide +kernel
theorem dX1_init_43 : decode cX1_init 43 = .ok (.newarray .int, 2) := by decide +kernel
theorem dX1_init_45 : decode cX1_init 45 = .ok (.putfield 23, 3) := by decide +kernel
theorem dX1_init_48 : decode cX1_init 48 = .ok (.aload_n 0, 1) := by decide +kernel
theorem dX1_init_49 : decode cX1_init 49 = .ok (.bipush 6, 2) := by decide +kernel
theorem dX1_init_51 : decode cX1_init 51 = .ok (.newarray .int, 2) := by decide +kernel
theorem dX1_init_53 : decode cX1_init 53 = .ok (.putfield 26, 3) := by decide +kernel
theorem dX1_init_56 : decode cX1_init 56 = .ok (.aload_n 0, 1) := by decide +kernel
theorem dX1_init_57 : decode cX1_init 57 = .ok (.iload_n 1, 1) := by decide +kernel
theorem dX1_init_58 : decode cX1_init 58 = .ok (.bipush 12, 2) := by decide +kernel
theorem dX1_init_60 : decode cX1_init 60 = .ok (.if_icmp .lt 10, 3) := by decide +kernel
theorem dX1_init_63 : decode cX1_init 63 = .ok (.iload_n 1, 1) := by decide +kernel
theorem dX1_init_64 : decode cX1_init 64 = .ok (.sipush 128, 3) := by decide +kernel
theorem dX1_init_67 : decode cX1_init 67 = .ok (.if_icmp .le 8, 3) := by decide +kernel
theorem dX1_init_70 : decode cX1_init 70 = .ok (.bipush 12, 2) := by decide +kernel
theorem dX1_init_72 : decode cX1_init 72 = .ok (.goto 4, 3) := by decide +kernel
theorem dX1_init_75 : decode cX1_init 75 = .ok (.iload_n 1, 1) := by decide +kernel
theorem dX1_init_76 : decode cX1_init 76 = .ok (.putfield 29, 3) := by decide +kernel
theorem dX1_init_79 : decode cX1_init 79 = .ok (.iconst 0, 1) := by decide +kernel
theorem dX1_init_80 : decode cX1_init 80 = .ok (.istore_n 2, 1) := by decide +kernel
theorem dX1_init_81 : decode cX1_init 81 = .ok (.iload_n 2, 1) := by decide +kernel
theorem dX1_init_82 : decode cX1_init 82 = .ok (.bipush 6, 2) := by decide +kernel
theorem dX1_init_84 : decode cX1_init 84 = .ok (.if_icmp .ge 16, 3) := by decide +kernel
theorem dX1_init_87 : decode cX1_init 87 = .ok (.aload_n 0, 1) := by decide +kernel
theorem dX1_init_88 : decode cX1_init 88 = .ok (.getfield 23, 3) := by decide +kernel
theorem dX1_init_91 : decode cX1_init 91 = .ok (.iload_n 2, 1) := by decide +kernel
theorem dX1_init_92 : decode cX1_init 92 = .ok (.iload_n 2, 1) := by decide +kernel
theorem dX1_init_93 : decode cX1_init 93 = .ok (.iastore, 1) := by decide +kernel
theorem dX1_init_94 : decode cX1_init 94 = .ok (.iinc 2 1, 3) := by decide +kernel
theorem dX1_init_97 : decode cX1_init 97 = .ok (.goto (-16), 3) := by decide +kernel
theorem dX1_init_100 : decode cX1_init 100 = .ok (.return_, 1) := by decide +kernel
theorem dX1_thrown_0 : decode cX1_thrown 0 = .ok (.aload_n 0, 1) := by decide +kernel
theorem dX1_thrown_1 : decode cX1_thrown 1 = .ok (.getfield 33, 3) := by decide +kernel
theorem dX1_thrown_4 : decode cX1_thrown 4 = .ok (.ireturn, 1) := by decide +kernel
theorem dX1_throwing_0 : decode cX1_throwing 0 = .ok (.aload_n 0, 1) := by decide +kernel
theorem dX1_throwing_1 : decode cX1_throwing 1 = .ok (.iload_n 1, 1) := by decide +kernel
theorem dX1_throwing_2 : decode cX1_throwing 2 = .ok (.ifCond .eq 7, 3) := by decide +kernel
theorem dX1_throwing_5 : decode cX1_throwing 5 = .ok (.iconst 1, 1) := by decide +kernel
theorem dX1_throwing_6 : decode cX1_throwing 6 = .ok (.goto 12, 3) := by decide +kernel
theorem dX1_throwing_9 : decode cX1_throwing 9 = .ok (.iload_n 2, 1) := by decide +kernel
theorem dX1_throwing_10 : decode cX1_throwing 10 = .ok (.ifCond .eq 7, 3) := by decide +kernel
theorem dX1_throwing_13 : decode cX1_throwing 13 = .ok (.iconst 2, 1) := by decide +kernel
theorem dX1_throwing_14 : decode cX1_throwing 14 = .ok (.goto 4, 3) := by decide +kernel
theorem dX1_throwing_17 : decode cX1_throwing 17 = .ok (.iconst 0, 1) := by decide +kernel
theorem dX1_throwing_18 : decode cX1_throwing 18 = .ok (.putfield 33, 3) := by decide +kernel
theorem dX1_throwing_21 : decode cX1_throwing 21 = .ok (.aload_n 0, 1) := by decide +kernel
theorem dX1_throwing_22 : decode cX1_throwing 22 = .ok (.getfield 33, 3) := by decide +kernel
theorem dX1_throwing_25 : decode cX1_throwing 25 = .ok (.ifCond .le 7, 3) := by decide +kernel
theorem dX1_throwing_28 : decode cX1_throwing 28 = .ok (.iconst 1, 1) := by decide +kernel
theorem dX1_throwing_29 : decode cX1_throwing 29 = .ok (.goto 4, 3) := by decide +kernel
theorem dX1_throwing_32 : decode cX1_throwing 32 = .ok (.iconst 0, 1) := by decide +kernel
theorem dX1_throwing_33 : decode cX1_throwing 33 = .ok (.ireturn, 1) := by decide +kernel
theorem dX1_isTaken_0 : decode cX1_isTaken 0 = .ok (.aload_n 0, 1) := by decide +kernel
theorem dX1_isTaken_1 : decode cX1_isTaken 1 = .ok (.getfield 16, 3) := by decide +kernel
theorem dX1_isTaken_4 : decode cX1_isTaken 4 = .ok (.iload_n 1, 1) := by decide +kernel
theorem dX1_isTaken_5 : decode cX1_isTaken 5 = .ok (.baload, 1) := by decide +kernel
theorem dX1_isTaken_6 : decode cX1_isTaken 6 = .ok (.istore_n 2, 1) := by decide +kernel
theorem dX1_isTaken_7 : decode cX1_isTaken 7 = .ok (.iconst 0, 1) := by decide +kernel
theorem dX1_isTaken_8 : decode cX1_isTaken 8 = .ok (.istore_n 3, 1) := by decide +kernel
theorem dX1_isTaken_9 : decode cX1_isTaken 9 = .ok (.iload_n 3, 1) := by decide +kernel
theorem dX1_isTaken_10 : decode cX1_isTaken 10 = .ok (.bipush 6, 2) := by decide +kernel
theorem dX1_isTaken_12 : decode cX1_isTaken 12 = .ok (.if_icmp .ge 29, 3) := by decide +kernel
theorem dX1_isTaken_15 : decode cX1_isTaken 15 = .ok (.iload_n 2, 1) := by decide +kernel
theorem dX1_isTaken_16 : decode cX1_isTaken 16 = .ok (.ifCond .ne 13, 3) := by decide +kernel
theorem dX1_isTaken_19 : decode cX1_isTaken 19 = .ok (.aload_n 0, 1) := by decide +kernel
theorem dX1_isTaken_20 : decode cX1_isTaken 20 = .ok (.getfield 23, 3) := by decide +kernel
theorem dX1_isTaken_23 : decode cX1_isTaken 23 = .ok (.iload_n 3, 1) := by decide +kernel
theorem dX1_isTaken_24 : decode cX1_isTaken 24 = .ok (.iaload, 1) := by decide +kernel
theorem dX1_isTaken_25 : decode cX1_isTaken 25 = .ok (.iload_n 1, 1) := by decide +kernel
theorem dX1_isTaken_26 : decode cX1_isTaken 26 = .ok (.if_icmp .ne 7, 3) := by decide +kernel
theorem dX1_isTaken_29 : decode cX1_isTaken 29 = .ok (.iconst 1, 1) := by decide +kernel
theorem dX1_isTaken_30 : decode cX1_isTaken 30 = .ok (.goto 4, 3) := by decide +kernel
theorem dX1_isTaken_33 : decode cX1_isTaken 33 = .ok (.iconst 0, 1) := by decide +kernel
theorem dX1_isTaken_34 : decode cX1_isTaken 34 = .ok (.istore_n 2, 1) := by decide +kernel
theorem dX1_isTaken_35 : decode cX1_isTaken 35 = .ok (.iinc 3 1, 3) := by decide +kernel
theorem dX1_isTaken_38 : decode cX1_isTaken 38 = .ok (.goto (-29), 3) := by decide +kernel
theorem dX1_isTaken_41 : decode cX1_isTaken 41 = .ok (.iload_n 2, 1) := by decide +kernel
theorem dX1_isTaken_42 : decode cX1_isTaken 42 = .ok (.ireturn, 1) := by decide +kernel
theorem dX1_inUse_0 : decode cX1_inUse 0 = .ok (.iconst 0, 1) := by decide +kernel
theorem dX1_inUse_1 : decode cX1_inUse 1 = .ok (.istore_n 2, 1) := by decide +kernel
theorem dX1_inUse_2 : decode cX1_inUse 2 = .ok (.iconst 0, 1) := by decide +kernel
theorem dX1_inUse_3 : decode cX1_inUse 3 = .ok (.istore_n 3, 1) := by decide +kernel
theorem dX1_inUse_4 : decode cX1_inUse 4 = .ok (.iload_n 3, 1) := by decide +kernel
theorem dX1_inUse_5 : decode cX1_inUse 5 = .ok (.bipush 16, 2) := by decide +kernel
theorem dX1_inUse_7 : decode cX1_inUse 7 = .ok (.if_icmp .ge 31, 3) := by decide +kernel
theorem dX1_inUse_10 : decode cX1_inUse 10 = .ok (.iload_n 2, 1) := by decide +kernel
theorem dX1_inUse_11 : decode cX1_inUse 11 = .ok (.aload_n 0, 1) := by decide +kernel
theorem dX1_inUse_12 : decode cX1_inUse 12 = .ok (.getfield 7, 3) := by decide +kernel
theorem dX1_inUse_15 : decode cX1_inUse 15 = .ok (.bipush 16, 2) := by decide +kernel
theorem dX1_inUse_17 : decode cX1_inUse 17 = .ok (.iload_n 1, 1) := by decide +kernel
theorem dX1_inUse_18 : decode cX1_inUse 18 = .ok (.imul, 1) := by decide +kernel
theorem dX1_inUse_19 : decode cX1_inUse 19 = .ok (.iload_n 3, 1) := by decide +kernel
theorem dX1_inUse_20 : decode cX1_inUse 20 = .ok (.iadd, 1) := by decide +kernel
theorem dX1_inUse_21 : decode cX1_inUse 21 = .ok (.baload, 1) := by decide +kernel
theorem dX1_inUse_22 : decode cX1_inUse 22 = .ok (.ifCond .eq 7, 3) := by decide +kernel
theorem dX1_inUse_25 : decode cX1_inUse 25 = .ok (.iconst 1, 1) := by decide +kernel
theorem dX1_inUse_26 : decode cX1_inUse 26 = .ok (.goto 4, 3) := by decide +kernel
theorem dX1_inUse_29 : decode cX1_inUse 29 = .ok (.iconst 0, 1) := by decide +kernel
theorem dX1_inUse_30 : decode cX1_inUse 30 = .ok (.iadd, 1) := by decide +kernel
theorem dX1_inUse_31 : decode cX1_inUse 31 = .ok (.istore_n 2, 1) := by decide +kernel
theorem dX1_inUse_32 : decode cX1_inUse 32 = .ok (.iinc 3 1, 3) := by decide +kernel
theorem dX1_inUse_35 : decode cX1_inUse 35 = .ok (.goto (-31), 3) := by decide +kernel
theorem dX1_inUse_38 : decode cX1_inUse 38 = .ok (.iload_n 2, 1) := by decide +kernel
theorem dX1_inUse_39 : decode cX1_inUse 39 = .ok (.ireturn, 1) := by decide +kernel
theorem dX1_isFree_0 : decode cX1_isFree 0 = .ok (.aload_n 0, 1) := by decide +kernel
theorem dX1_isFree_1 : decode cX1_isFree 1 = .ok (.iload_n 1, 1) := by decide +kernel
theorem dX1_isFree_2 : decode cX1_isFree 2 = .ok (.invokevirtual 36, 3) := by decide +kernel
theorem dX1_isFree_5 : decode cX1_isFree 5 = .ok (.ifCond .ne 7, 3) := by decide +kernel
theorem dX1_isFree_8 : decode cX1_isFree 8 = .ok (.iconst 1, 1) := by decide +kernel
theorem dX1_isFree_9 : decode cX1_isFree 9 = .ok (.goto 4, 3) := by decide +kernel
theorem dX1_isFree_12 : decode cX1_isFree 12 = .ok (.iconst 0, 1) := by decide +kernel
theorem dX1_isFree_13 : decode cX1_isFree 13 = .ok (.istore_n 2, 1) := by decide +kernel
theorem dX1_isFree_14 : decode cX1_isFree 14 = .ok (.iconst 0, 1) := by decide +kernel
theorem dX1_isFree_15 : decode cX1_isFree 15 = .ok (.istore_n 3, 1) := by decide +kernel
theorem dX1_isFree_16 : decode cX1_isFree 16 = .ok (.iload_n 3, 1) := by decide +kernel
theorem dX1_isFree_17 : decode cX1_isFree 17 = .ok (.bipush 16, 2) := by decide +kernel
theorem dX1_isFree_19 : decode cX1_isFree 19 = .ok (.if_icmp .ge 47, 3) := by decide +kernel
theorem dX1_isFree_22 : decode cX1_isFree 22 = .ok (.iload_n 2, 1) := by decide +kernel
theorem dX1_isFree_23 : decode cX1_isFree 23 = .ok (.ifCond .eq 35, 3) := by decide +kernel
theorem dX1_isFree_26 : decode cX1_isFree 26 = .ok (.aload_n 0, 1) := by decide +kernel
theorem dX1_isFree_27 : decode cX1_isFree 27 = .ok (.getfield 7, 3) := by decide +kernel
theorem dX1_isFree_30 : decode cX1_isFree 30 = .ok (.bipush 16, 2) := by decide +kernel
theorem dX1_isFree_32 : decode cX1_isFree 32 = .ok (.iload_n 1, 1) := by decide +kernel
theorem dX1_isFree_33 : decode cX1_isFree 33 = .ok (.imul, 1) := by decide +kernel
theorem dX1_isFree_34 : decode cX1_isFree 34 = .ok (.iload_n 3, 1) := by decide +kernel
theorem dX1_isFree_35 : decode cX1_isFree 35 = .ok (.iadd, 1) := by decide +kernel
theorem dX1_isFree_36 : decode cX1_isFree 36 = .ok (.baload, 1) := by decide +kernel
theorem dX1_isFree_37 : decode cX1_isFree 37 = .ok (.ifCond .ne 21, 3) := by decide +kernel
theorem dX1_isFree_40 : decode cX1_isFree 40 = .ok (.aload_n 0, 1) := by decide +kernel
theorem dX1_isFree_41 : decode cX1_isFree 41 = .ok (.getfield 13, 3) := by decide +kernel
theorem dX1_isFree_44 : decode cX1_isFree 44 = .ok (.bipush 16, 2) := by decide +kernel
theorem dX1_isFree_46 : decode cX1_isFree 46 = .ok (.iload_n 1, 1) := by decide +kernel
theorem dX1_isFree_47 : decode cX1_isFree 47 = .ok (.imul, 1) := by decide +kernel
theorem dX1_isFree_48 : decode cX1_isFree 48 = .ok (.iload_n 3, 1) := by decide +kernel
theorem dX1_isFree_49 : decode cX1_isFree 49 = .ok (.iadd, 1) := by decide +kernel
theorem dX1_isFree_50 : decode cX1_isFree 50 = .ok (.baload, 1) := by decide +kernel
theorem dX1_isFree_51 : decode cX1_isFree 51 = .ok (.ifCond .ne 7, 3) := by decide +kernel
theorem dX1_isFree_54 : decode cX1_isFree 54 = .ok (.iconst 1, 1) := by decide +kernel
theorem dX1_isFree_55 : decode cX1_isFree 55 = .ok (.goto 4, 3) := by decide +kernel
theorem dX1_isFree_58 : decode cX1_isFree 58 = .ok (.iconst 0, 1) := by decide +kernel
theorem dX1_isFree_59 : decode cX1_isFree 59 = .ok (.istore_n 2, 1) := by decide +kernel
theorem dX1_isFree_60 : decode cX1_isFree 60 = .ok (.iinc 3 1, 3) := by decide +kernel
theorem dX1_isFree_63 : decode cX1_isFree 63 = .ok (.goto (-47), 3) := by decide +kernel
theorem dX1_isFree_66 : decode cX1_isFree 66 = .ok (.iload_n 2, 1) := by decide +kernel
theorem dX1_isFree_67 : decode cX1_isFree 67 = .ok (.ireturn, 1) := by decide +kernel
theorem dX1_lowest_0 : decode cX1_lowest 0 = .ok (.iconst 0, 1) := by decide +kernel
theorem dX1_lowest_1 : decode cX1_lowest 1 = .ok (.istore_n 1, 1) := by decide +kernel
theorem dX1_lowest_2 : decode cX1_lowest 2 = .ok (.iload_n 1, 1) := by decide +kernel
theorem dX1_lowest_3 : decode cX1_lowest 3 = .ok (.aload_n 0, 1) := by decide +kernel
theorem dX1_lowest_4 : decode cX1_lowest 4 = .ok (.getfield 29, 3) := by decide +kernel
theorem dX1_lowest_7 : decode cX1_lowest 7 = .ok (.if_icmp .ge 17, 3) := by decide +kernel
theorem dX1_lowest_10 : decode cX1_lowest 10 = .ok (.aload_n 0, 1) := by decide +kernel
theorem dX1_lowest_11 : decode cX1_lowest 11 = .ok (.iload_n 1, 1) := by decide +kernel
theorem dX1_lowest_12 : decode cX1_lowest 12 = .ok (.invokevirtual 40, 3) := by decide +kernel
theorem dX1_lowest_15 : decode cX1_lowest 15 = .ok (.ifCond .ne 9, 3) := by decide +kernel
theorem dX1_lowest_18 : decode cX1_lowest 18 = .ok (.iinc 1 1, 3) := by decide +kernel
theorem dX1_lowest_21 : decode cX1_lowest 21 = .ok (.goto (-19), 3) := by decide +kernel
theorem dX1_lowest_24 : decode cX1_lowest 24 = .ok (.iload_n 1, 1) := by decide +kernel
theorem dX1_lowest_25 : decode cX1_lowest 25 = .ok (.aload_n 0, 1) := by decide +kernel
theorem dX1_lowest_26 : decode cX1_lowest 26 = .ok (.getfield 29, 3) := by decide +kernel
theorem dX1_lowest_29 : decode cX1_lowest 29 = .ok (.if_icmp .ge 7, 3) := by decide +kernel
theorem dX1_lowest_32 : decode cX1_lowest 32 = .ok (.iload_n 1, 1) := by decide +kernel
theorem dX1_lowest_33 : decode cX1_lowest 33 = .ok (.goto 4, 3) := by decide +kernel
theorem dX1_lowest_36 : decode cX1_lowest 36 = .ok (.iconst (-1), 1) := by decide +kernel
theorem dX1_lowest_37 : decode cX1_lowest 37 = .ok (.ireturn, 1) := by decide +kernel
theorem dX1_take_0 : decode cX1_take 0 = .ok (.iload_n 1, 1) := by decide +kernel
theorem dX1_take_1 : decode cX1_take 1 = .ok (.ifCond .lt 8, 3) := by decide +kernel
theorem dX1_take_4 : decode cX1_take 4 = .ok (.iload_n 1, 1) := by decide +kernel
theorem dX1_take_5 : decode cX1_take 5 = .ok (.iconst 5, 1) := by decide +kernel
theorem dX1_take_6 : decode cX1_take 6 = .ok (.if_icmp .le 7, 3) := by decide +kernel
theorem dX1_take_9 : decode cX1_take 9 = .ok (.iconst 1, 1) := by decide +kernel
theorem dX1_take_10 : decode cX1_take 10 = .ok (.goto 4, 3) := by decide +kernel
theorem dX1_take_13 : decode cX1_take 13 = .ok (.iconst 0, 1) := by decide +kernel
theorem dX1_take_14 : decode cX1_take 14 = .ok (.istore_n 2, 1) := by decide +kernel
theorem dX1_take_15 : decode cX1_take 15 = .ok (.iload_n 2, 1) := by decide +kernel
theorem dX1_take_16 : decode cX1_take 16 = .ok (.ifCond .ne 18, 3) := by decide +kernel
theorem dX1_take_19 : decode cX1_take 19 = .ok (.aload_n 0, 1) := by decide +kernel
theorem dX1_take_20 : decode cX1_take 20 = .ok (.getfield 26, 3) := by decide +kernel
theorem dX1_take_23 : decode cX1_take 23 = .ok (.iload_n 1, 1) := by decide +kernel
theorem dX1_take_24 : decode cX1_take 24 = .ok (.iaload, 1) := by decide +kernel
theorem dX1_take_25 : decode cX1_take 25 = .ok (.bipush 15, 2) := by decide +kernel
theorem dX1_take_27 : decode cX1_take 27 = .ok (.if_icmp .ne 7, 3) := by decide +kernel
theorem dX1_take_30 : decode cX1_take 30 = .ok (.iconst 1, 1) := by decide +kernel
theorem dX1_take_31 : decode cX1_take 31 = .ok (.goto 4, 3) := by decide +kernel
theorem dX1_take_34 : decode cX1_take 34 = .ok (.iconst 0, 1) := by decide +kernel
theorem dX1_take_35 : decode cX1_take 35 = .ok (.istore_n 3, 1) := by decide +kernel
theorem dX1_take_36 : decode cX1_take 36 = .ok (.iload_n 3, 1) := by decide +kernel
theorem dX1_take_37 : decode cX1_take 37 = .ok (.ifCond .eq 10, 3) := by decide +kernel
theorem dX1_take_40 : decode cX1_take 40 = .ok (.aload_n 0, 1) := by decide +kernel
theorem dX1_take_41 : decode cX1_take 41 = .ok (.invokevirtual 43, 3) := by decide +kernel
theorem dX1_take_44 : decode cX1_take 44 = .ok (.goto 4, 3) := by decide +kernel
theorem dX1_take_47 : decode cX1_take 47 = .ok (.iconst (-1), 1) := by decide +kernel
theorem dX1_take_48 : decode cX1_take 48 = .ok (.istore 4, 2) := by decide +kernel
theorem dX1_take_50 : decode cX1_take 50 = .ok (.aload_n 0, 1) := by decide +kernel
theorem dX1_take_51 : decode cX1_take 51 = .ok (.iload_n 2, 1) := by decide +kernel
theorem dX1_take_52 : decode cX1_take 52 = .ok (.iload_n 3, 1) := by decide +kernel
theorem dX1_take_53 : decode cX1_take 53 = .ok (.ifCond .eq 12, 3) := by decide +kernel
theorem dX1_take_56 : decode cX1_take 56 = .ok (.iload 4, 2) := by decide +kernel
theorem dX1_take_58 : decode cX1_take 58 = .ok (.ifCond .ge 7, 3) := by decide +kernel
theorem dX1_take_61 : decode cX1_take 61 = .ok (.iconst 1, 1) := by decide +kernel
theorem dX1_take_62 : decode cX1_take 62 = .ok (.goto 4, 3) := by decide +kernel
theorem dX1_take_65 : decode cX1_take 65 = .ok (.iconst 0, 1) := by decide +kernel
theorem dX1_take_66 : decode cX1_take 66 = .ok (.invokevirtual 47, 3) := by decide +kernel
theorem dX1_take_69 : decode cX1_take 69 = .ok (.ifCond .eq 5, 3) := by decide +kernel
theorem dX1_take_72 : decode cX1_take 72 = .ok (.iconst 0, 1) := by decide +kernel
theorem dX1_take_73 : decode cX1_take 73 = .ok (.ireturn, 1) := by decide +kernel
theorem dX1_take_74 : decode cX1_take 74 = .ok (.aload_n 0, 1) := by decide +kernel
theorem dX1_take_75 : decode cX1_take 75 = .ok (.getfield 23, 3) := by decide +kernel
theorem dX1_take_78 : decode cX1_take 78 = .ok (.iload_n 1, 1) := by decide +kernel
theorem dX1_take_79 : decode cX1_take 79 = .ok (.iaload, 1) := by decide +kernel
theorem dX1_take_80 : decode cX1_take 80 = .ok (.istore 5, 2) := by decide +kernel
theorem dX1_take_82 : decode cX1_take 82 = .ok (.bipush 16, 2) := by decide +kernel
theorem dX1_take_84 : decode cX1_take 84 = .ok (.iload 5, 2) := by decide +kernel
theorem dX1_take_86 : decode cX1_take 86 = .ok (.imul, 1) := by decide +kernel
theorem dX1_take_87 : decode cX1_take 87 = .ok (.aload_n 0, 1) := by decide +kernel
theorem dX1_take_88 : decode cX1_take 88 = .ok (.getfield 26, 3) := by decide +kernel
theorem dX1_take_91 : decode cX1_take 91 = .ok (.iload_n 1, 1) := by decide +kernel
theorem dX1_take_92 : decode cX1_take 92 = .ok (.iaload, 1) := by decide +kernel
theorem dX1_take_93 : decode cX1_take 93 = .ok (.iadd, 1) := by decide +kernel
theorem dX1_take_94 : decode cX1_take 94 = .ok (.istore 6, 2) := by decide +kernel
theorem dX1_take_96 : decode cX1_take 96 = .ok (.aload_n 0, 1) := by decide +kernel
theorem dX1_take_97 : decode cX1_take 97 = .ok (.getfield 7, 3) := by decide +kernel
theorem dX1_take_100 : decode cX1_take 100 = .ok (.iload 6, 2) := by decide +kernel
theorem dX1_take_102 : decode cX1_take 102 = .ok (.iconst 1, 1) := by decide +kernel
theorem dX1_take_103 : decode cX1_take 103 = .ok (.bastore, 1) := by decide +kernel
theorem dX1_take_104 : decode cX1_take 104 = .ok (.aload_n 0, 1) := by decide +kernel
theorem dX1_take_105 : decode cX1_take 105 = .ok (.getfield 16, 3) := by decide +kernel
theorem dX1_take_108 : decode cX1_take 108 = .ok (.iload 5, 2) := by decide +kernel
theorem dX1_take_110 : decode cX1_take 110 = .ok (.iconst 1, 1) := by decide +kernel
theorem dX1_take_111 : decode cX1_take 111 = .ok (.bastore, 1) := by decide +kernel
theorem dX1_take_112 : decode cX1_take 112 = .ok (.aload_n 0, 1) := by decide +kernel
theorem dX1_take_113 : decode cX1_take 113 = .ok (.dup, 1) := by decide +kernel
theorem dX1_take_114 : decode cX1_take 114 = .ok (.getfield 51, 3) := by decide +kernel
theorem dX1_take_117 : decode cX1_take 117 = .ok (.iconst 1, 1) := by decide +kernel
theorem dX1_take_118 : decode cX1_take 118 = .ok (.iadd, 1) := by decide +kernel
theorem dX1_take_119 : decode cX1_take 119 = .ok (.putfield 51, 3) := by decide +kernel
theorem dX1_take_122 : decode cX1_take 122 = .ok (.aload_n 0, 1) := by decide +kernel
theorem dX1_take_123 : decode cX1_take 123 = .ok (.getfield 19, 3) := by decide +kernel
theorem dX1_take_126 : decode cX1_take 126 = .ok (.iload 5, 2) := by decide +kernel
theorem dX1_take_128 : decode cX1_take 128 = .ok (.aload_n 0, 1) := by decide +kernel
theorem dX1_take_129 : decode cX1_take 129 = .ok (.getfield 51, 3) := by decide +kernel
theorem dX1_take_132 : decode cX1_take 132 = .ok (.iastore, 1) := by decide +kernel
theorem dX1_take_133 : decode cX1_take 133 = .ok (.aload_n 0, 1) := by decide +kernel
theorem dX1_take_134 : decode cX1_take 134 = .ok (.getfield 26, 3) := by decide +kernel
theorem dX1_take_137 : decode cX1_take 137 = .ok (.iload_n 1, 1) := by decide +kernel
theorem dX1_take_138 : decode cX1_take 138 = .ok (.dup2, 1) := by decide +kernel
theorem dX1_take_139 : decode cX1_take 139 = .ok (.iaload, 1) := by decide +kernel
theorem dX1_take_140 : decode cX1_take 140 = .ok (.iconst 1, 1) := by decide +kernel
theorem dX1_take_141 : decode cX1_take 141 = .ok (.iadd, 1) := by decide +kernel
theorem dX1_take_142 : decode cX1_take 142 = .ok (.iastore, 1) := by decide +kernel
theorem dX1_take_143 : decode cX1_take 143 = .ok (.iload_n 3, 1) := by decide +kernel
theorem dX1_take_144 : decode cX1_take 144 = .ok (.ifCond .eq 26, 3) := by decide +kernel
theorem dX1_take_147 : decode cX1_take 147 = .ok (.aload_n 0, 1) := by decide +kernel
theorem dX1_take_148 : decode cX1_take 148 = .ok (.getfield 23, 3) := by decide +kernel
theorem dX1_take_151 : decode cX1_take 151 = .ok (.iload_n 1, 1) := by decide +kernel
theorem dX1_take_152 : decode cX1_take 152 = .ok (.iload 4, 2) := by decide +kernel
theorem dX1_take_154 : decode cX1_take 154 = .ok (.iastore, 1) := by decide +kernel
theorem dX1_take_155 : decode cX1_take 155 = .ok (.aload_n 0, 1) := by decide +kernel
theorem dX1_take_156 : decode cX1_take 156 = .ok (.getfield 16, 3) := by decide +kernel
theorem dX1_take_159 : decode cX1_take 159 = .ok (.iload 4, 2) := by decide +kernel
theorem dX1_take_161 : decode cX1_take 161 = .ok (.iconst 1, 1) := by decide +kernel
theorem dX1_take_162 : decode cX1_take 162 = .ok (.bastore, 1) := by decide +kernel
theorem dX1_take_163 : decode cX1_take 163 = .ok (.aload_n 0, 1) := by decide +kernel
theorem dX1_take_164 : decode cX1_take 164 = .ok (.getfield 26, 3) := by decide +kernel
theorem dX1_take_167 : decode cX1_take 167 = .ok (.iload_n 1, 1) := by decide +kernel
theorem dX1_take_168 : decode cX1_take 168 = .ok (.iconst 0, 1) := by decide +kernel
theorem dX1_take_169 : decode cX1_take 169 = .ok (.iastore, 1) := by decide +kernel
theorem dX1_take_170 : decode cX1_take 170 = .ok (.bipush 96, 2) := by decide +kernel
theorem dX1_take_172 : decode cX1_take 172 = .ok (.iload 6, 2) := by decide +kernel
theorem dX1_take_174 : decode cX1_take 174 = .ok (.iadd, 1) := by decide +kernel
theorem dX1_take_175 : decode cX1_take 175 = .ok (.ireturn, 1) := by decide +kernel
theorem dX1_next_0 : decode cX1_next 0 = .ok (.iload_n 1, 1) := by decide +kernel
theorem dX1_next_1 : decode cX1_next 1 = .ok (.ifCond .lt 8, 3) := by decide +kernel
theorem dX1_next_4 : decode cX1_next 4 = .ok (.iload_n 1, 1) := by decide +kernel
theorem dX1_next_5 : decode cX1_next 5 = .ok (.iconst 5, 1) := by decide +kernel
theorem dX1_next_6 : decode cX1_next 6 = .ok (.if_icmp .le 7, 3) := by decide +kernel
theorem dX1_next_9 : decode cX1_next 9 = .ok (.iconst 1, 1) := by decide +kernel
theorem dX1_next_10 : decode cX1_next 10 = .ok (.goto 4, 3) := by decide +kernel
theorem dX1_next_13 : decode cX1_next 13 = .ok (.iconst 0, 1) := by decide +kernel
theorem dX1_next_14 : decode cX1_next 14 = .ok (.istore_n 2, 1) := by decide +kernel
theorem dX1_next_15 : decode cX1_next 15 = .ok (.aload_n 0, 1) := by decide +kernel
theorem dX1_next_16 : decode cX1_next 16 = .ok (.iload_n 2, 1) := by decide +kernel
theorem dX1_next_17 : decode cX1_next 17 = .ok (.iconst 0, 1) := by decide +kernel
theorem dX1_next_18 : decode cX1_next 18 = .ok (.invokevirtual 47, 3) := by decide +kernel
theorem dX1_next_21 : decode cX1_next 21 = .ok (.ifCond .eq 5, 3) := by decide +kernel
theorem dX1_next_24 : decode cX1_next 24 = .ok (.iconst 0, 1) := by decide +kernel
theorem dX1_next_25 : decode cX1_next 25 = .ok (.ireturn, 1) := by decide +kernel
theorem dX1_next_26 : decode cX1_next 26 = .ok (.bipush 96, 2) := by decide +kernel
theorem dX1_next_28 : decode cX1_next 28 = .ok (.bipush 16, 2) := by decide +kernel
theorem dX1_next_30 : decode cX1_next 30 = .ok (.aload_n 0, 1) := by decide +kernel
theorem dX1_next_31 : decode cX1_next 31 = .ok (.getfield 23, 3) := by decide +kernel
theorem dX1_next_34 : decode cX1_next 34 = .ok (.iload_n 1, 1) := by decide +kernel
theorem dX1_next_35 : decode cX1_next 35 = .ok (.iaload, 1) := by decide +kernel
theorem dX1_next_36 : decode cX1_next 36 = .ok (.imul, 1) := by decide +kernel
theorem dX1_next_37 : decode cX1_next 37 = .ok (.iadd, 1) := by decide +kernel
theorem dX1_next_38 : decode cX1_next 38 = .ok (.aload_n 0, 1) := by decide +kernel
theorem dX1_next_39 : decode cX1_next 39 = .ok (.getfield 26, 3) := by decide +kernel
theorem dX1_next_42 : decode cX1_next 42 = .ok (.iload_n 1, 1) := by decide +kernel
theorem dX1_next_43 : decode cX1_next 43 = .ok (.iaload, 1) := by decide +kernel
theorem dX1_next_44 : decode cX1_next 44 = .ok (.iadd, 1) := by decide +kernel
theorem dX1_next_45 : decode cX1_next 45 = .ok (.ireturn, 1) := by decide +kernel
theorem dX1_isNo_0 : decode cX1_isNo 0 = .ok (.iload_n 1, 1) := by decide +kernel
theorem dX1_isNo_1 : decode cX1_isNo 1 = .ok (.bipush 96, 2) := by decide +kernel
theorem dX1_isNo_3 : decode cX1_isNo 3 = .ok (.if_icmp .lt 17, 3) := by decide +kernel
theorem dX1_isNo_6 : decode cX1_isNo 6 = .ok (.iload_n 1, 1) := by decide +kernel
theorem dX1_isNo_7 : decode cX1_isNo 7 = .ok (.bipush 96, 2) := by decide +kernel
theorem dX1_isNo_9 : decode cX1_isNo 9 = .ok (.bipush 16, 2) := by decide +kernel
theorem dX1_isNo_11 : decode cX1_isNo 11 = .ok (.aload_n 0, 1) := by decide +kernel
theorem dX1_isNo_12 : decode cX1_isNo 12 = .ok (.getfield 29, 3) := by decide +kernel
theorem dX1_isNo_15 : decode cX1_isNo 15 = .ok (.imul, 1) := by decide +kernel
theorem dX1_isNo_16 : decode cX1_isNo 16 = .ok (.iadd, 1) := by decide +kernel
theorem dX1_isNo_17 : decode cX1_isNo 17 = .ok (.if_icmp .lt 7, 3) := by decide +kernel
theorem dX1_isNo_20 : decode cX1_isNo 20 = .ok (.iconst 1, 1) := by decide +kernel
theorem dX1_isNo_21 : decode cX1_isNo 21 = .ok (.goto 4, 3) := by decide +kernel
theorem dX1_isNo_24 : decode cX1_isNo 24 = .ok (.iconst 0, 1) := by decide +kernel
theorem dX1_isNo_25 : decode cX1_isNo 25 = .ok (.ireturn, 1) := by decide +kernel
theorem dX1_drop_0 : decode cX1_drop 0 = .ok (.aload_n 0, 1) := by decide +kernel
theorem dX1_drop_1 : decode cX1_drop 1 = .ok (.iload_n 1, 1) := by decide +kernel
theorem dX1_drop_2 : decode cX1_drop 2 = .ok (.invokevirtual 54, 3) := by decide +kernel
theorem dX1_drop_5 : decode cX1_drop 5 = .ok (.istore_n 2, 1) := by decide +kernel
theorem dX1_drop_6 : decode cX1_drop 6 = .ok (.aload_n 0, 1) := by decide +kernel
theorem dX1_drop_7 : decode cX1_drop 7 = .ok (.iload_n 2, 1) := by decide +kernel
theorem dX1_drop_8 : decode cX1_drop 8 = .ok (.iload_n 2, 1) := by decide +kernel
theorem dX1_drop_9 : decode cX1_drop 9 = .ok (.ifCond .ne 27, 3) := by decide +kernel
theorem dX1_drop_12 : decode cX1_drop 12 = .ok (.aload_n 0, 1) := by decide +kernel
theorem dX1_drop_13 : decode cX1_drop 13 = .ok (.getfield 7, 3) := by decide +kernel
theorem dX1_drop_16 : decode cX1_drop 16 = .ok (.iload_n 2, 1) := by decide +kernel
theorem dX1_drop_17 : decode cX1_drop 17 = .ok (.ifCond .eq 7, 3) := by decide +kernel
theorem dX1_drop_20 : decode cX1_drop 20 = .ok (.iconst 0, 1) := by decide +kernel
theorem dX1_drop_21 : decode cX1_drop 21 = .ok (.goto 7, 3) := by decide +kernel
theorem dX1_drop_24 : decode cX1_drop 24 = .ok (.iload_n 1, 1) := by decide +kernel
theorem dX1_drop_25 : decode cX1_drop 25 = .ok (.bipush 96, 2) := by decide +kernel
theorem dX1_drop_27 : decode cX1_drop 27 = .ok (.isub, 1) := by decide +kernel
theorem dX1_drop_28 : decode cX1_drop 28 = .ok (.baload, 1) := by decide +kernel
theorem dX1_drop_29 : decode cX1_drop 29 = .ok (.ifCond .ne 7, 3) := by decide +kernel
theorem dX1_drop_32 : decode cX1_drop 32 = .ok (.iconst 1, 1) := by decide +kernel
theorem dX1_drop_33 : decode cX1_drop 33 = .ok (.goto 4, 3) := by decide +kernel
theorem dX1_drop_36 : decode cX1_drop 36 = .ok (.iconst 0, 1) := by decide +kernel
theorem dX1_drop_37 : decode cX1_drop 37 = .ok (.invokevirtual 47, 3) := by decide +kernel
theorem dX1_drop_40 : decode cX1_drop 40 = .ok (.ifCond .eq 4, 3) := by decide +kernel
theorem dX1_drop_43 : decode cX1_drop 43 = .ok (.return_, 1) := by decide +kernel
theorem dX1_drop_44 : decode cX1_drop 44 = .ok (.aload_n 0, 1) := by decide +kernel
theorem dX1_drop_45 : decode cX1_drop 45 = .ok (.getfield 7, 3) := by decide +kernel
theorem dX1_drop_48 : decode cX1_drop 48 = .ok (.iload_n 1, 1) := by decide +kernel
theorem dX1_drop_49 : decode cX1_drop 49 = .ok (.bipush 96, 2) := by decide +kernel
theorem dX1_drop_51 : decode cX1_drop 51 = .ok (.isub, 1) := by decide +kernel
theorem dX1_drop_52 : decode cX1_drop 52 = .ok (.iconst 0, 1) := by decide +kernel
theorem dX1_drop_53 : decode cX1_drop 53 = .ok (.bastore, 1) := by decide +kernel
theorem dX1_drop_54 : decode cX1_drop 54 = .ok (.return_, 1) := by decide +kernel
theorem dX1_isUsed_0 : decode cX1_isUsed 0 = .ok (.aload_n 0, 1) := by decide +kernel
theorem dX1_isUsed_1 : decode cX1_isUsed 1 = .ok (.aload_n 0, 1) := by decide +kernel
theorem dX1_isUsed_2 : decode cX1_isUsed 2 = .ok (.iload_n 1, 1) := by decide +kernel
theorem dX1_isUsed_3 : decode cX1_isUsed 3 = .ok (.invokevirtual 54, 3) := by decide +kernel
theorem dX1_isUsed_6 : decode cX1_isUsed 6 = .ok (.iconst 0, 1) := by decide +kernel
theorem dX1_isUsed_7 : decode cX1_isUsed 7 = .ok (.invokevirtual 47, 3) := by decide +kernel
theorem dX1_isUsed_10 : decode cX1_isUsed 10 = .ok (.ifCond .eq 5, 3) := by decide +kernel
theorem dX1_isUsed_13 : decode cX1_isUsed 13 = .ok (.iconst 0, 1) := by decide +kernel
theorem dX1_isUsed_14 : decode cX1_isUsed 14 = .ok (.ireturn, 1) := by decide +kernel
theorem dX1_isUsed_15 : decode cX1_isUsed 15 = .ok (.aload_n 0, 1) := by decide +kernel
theorem dX1_isUsed_16 : decode cX1_isUsed 16 = .ok (.getfield 7, 3) := by decide +kernel
theorem dX1_isUsed_19 : decode cX1_isUsed 19 = .ok (.iload_n 1, 1) := by decide +kernel
theorem dX1_isUsed_20 : decode cX1_isUsed 20 = .ok (.bipush 96, 2) := by decide +kernel
theorem dX1_isUsed_22 : decode cX1_isUsed 22 = .ok (.isub, 1) := by decide +kernel
theorem dX1_isUsed_23 : decode cX1_isUsed 23 = .ok (.baload, 1) := by decide +kernel
theorem dX1_isUsed_24 : decode cX1_isUsed 24 = .ok (.ireturn, 1) := by decide +kernel
theorem dX1_checkpoint_0 : decode cX1_checkpoint 0 = .ok (.iconst 0, 1) := by decide +kernel
theorem dX1_checkpoint_1 : decode cX1_checkpoint 1 = .ok (.istore_n 1, 1) := by decide +kernel
theorem dX1_checkpoint_2 : decode cX1_checkpoint 2 = .ok (.iload_n 1, 1) := by decide +kernel
theorem dX1_checkpoint_3 : decode cX1_checkpoint 3 = .ok (.sipush 2048, 3) := by decide +kernel
theorem dX1_checkpoint_6 : decode cX1_checkpoint 6 = .ok (.if_icmp .ge 21, 3) := by decide +kernel
theorem dX1_checkpoint_9 : decode cX1_checkpoint 9 = .ok (.aload_n 0, 1) := by decide +kernel
theorem dX1_checkpoint_10 : decode cX1_checkpoint 10 = .ok (.getfield 13, 3) := by decide +kernel
theorem dX1_checkpoint_13 : decode cX1_checkpoint 13 = .ok (.iload_n 1, 1) := by decide +kernel
theorem dX1_checkpoint_14 : decode cX1_checkpoint 14 = .ok (.aload_n 0, 1) := by decide +kernel
theorem dX1_checkpoint_15 : decode cX1_checkpoint 15 = .ok (.getfield 7, 3) := by decide +kernel
theorem dX1_checkpoint_18 : decode cX1_checkpoint 18 = .ok (.iload_n 1, 1) := by decide +kernel
theorem dX1_checkpoint_19 : decode cX1_checkpoint 19 = .ok (.baload, 1) := by decide +kernel
theorem dX1_checkpoint_20 : decode cX1_checkpoint 20 = .ok (.bastore, 1) := by decide +kernel
theorem dX1_checkpoint_21 : decode cX1_checkpoint 21 = .ok (.iinc 1 1, 3) := by decide +kernel
theorem dX1_checkpoint_24 : decode cX1_checkpoint 24 = .ok (.goto (-22), 3) := by decide +kernel
theorem dX1_checkpoint_27 : decode cX1_checkpoint 27 = .ok (.iconst 0, 1) := by decide +kernel
theorem dX1_checkpoint_28 : decode cX1_checkpoint 28 = .ok (.istore_n 1, 1) := by decide +kernel
theorem dX1_checkpoint_29 : decode cX1_checkpoint 29 = .ok (.iload_n 1, 1) := by decide +kernel
theorem dX1_checkpoint_30 : decode cX1_checkpoint 30 = .ok (.sipush 128, 3) := by decide +kernel
theorem dX1_checkpoint_33 : decode cX1_checkpoint 33 = .ok (.if_icmp .ge 16, 3) := by decide +kernel
theorem dX1_checkpoint_36 : decode cX1_checkpoint 36 = .ok (.aload_n 0, 1) := by decide +kernel
theorem dX1_checkpoint_37 : decode cX1_checkpoint 37 = .ok (.getfield 16, 3) := by decide +kernel
theorem dX1_checkpoint_40 : decode cX1_checkpoint 40 = .ok (.iload_n 1, 1) := by decide +kernel
theorem dX1_checkpoint_41 : decode cX1_checkpoint 41 = .ok (.iconst 0, 1) := by decide +kernel
theorem dX1_checkpoint_42 : decode cX1_checkpoint 42 = .ok (.bastore, 1) := by decide +kernel
theorem dX1_checkpoint_43 : decode cX1_checkpoint 43 = .ok (.iinc 1 1, 3) := by decide +kernel
theorem dX1_checkpoint_46 : decode cX1_checkpoint 46 = .ok (.goto (-17), 3) := by decide +kernel
theorem dX1_checkpoint_49 : decode cX1_checkpoint 49 = .ok (.aload_n 0, 1) := by decide +kernel
theorem dX1_checkpoint_50 : decode cX1_checkpoint 50 = .ok (.invokevirtual 57, 3) := by decide +kernel
theorem dX1_checkpoint_53 : decode cX1_checkpoint 53 = .ok (.ireturn, 1) := by decide +kernel
theorem dX1_free_0 : decode cX1_free 0 = .ok (.aload_n 0, 1) := by decide +kernel
theorem dX1_free_1 : decode cX1_free 1 = .ok (.iconst 0, 1) := by decide +kernel
theorem dX1_free_2 : decode cX1_free 2 = .ok (.putfield 33, 3) := by decide +kernel
theorem dX1_free_5 : decode cX1_free 5 = .ok (.iconst 0, 1) := by decide +kernel
theorem dX1_free_6 : decode cX1_free 6 = .ok (.istore_n 1, 1) := by decide +kernel
theorem dX1_free_7 : decode cX1_free 7 = .ok (.iconst 0, 1) := by decide +kernel
theorem dX1_free_8 : decode cX1_free 8 = .ok (.istore_n 2, 1) := by decide +kernel
theorem dX1_free_9 : decode cX1_free 9 = .ok (.iload_n 2, 1) := by decide +kernel
theorem dX1_free_10 : decode cX1_free 10 = .ok (.aload_n 0, 1) := by decide +kernel
theorem dX1_free_11 : decode cX1_free 11 = .ok (.getfield 29, 3) := by decide +kernel
theorem dX1_free_14 : decode cX1_free 14 = .ok (.if_icmp .ge 25, 3) := by decide +kernel
theorem dX1_free_17 : decode cX1_free 17 = .ok (.iload_n 1, 1) := by decide +kernel
theorem dX1_free_18 : decode cX1_free 18 = .ok (.aload_n 0, 1) := by decide +kernel
theorem dX1_free_19 : decode cX1_free 19 = .ok (.iload_n 2, 1) := by decide +kernel
theorem dX1_free_20 : decode cX1_free 20 = .ok (.invokevirtual 40, 3) := by decide +kernel
theorem dX1_free_23 : decode cX1_free 23 = .ok (.ifCond .eq 7, 3) := by decide +kernel
theorem dX1_free_26 : decode cX1_free 26 = .ok (.iconst 1, 1) := by decide +kernel
theorem dX1_free_27 : decode cX1_free 27 = .ok (.goto 4, 3) := by decide +kernel
theorem dX1_free_30 : decode cX1_free 30 = .ok (.iconst 0, 1) := by decide +kernel
theorem dX1_free_31 : decode cX1_free 31 = .ok (.iadd, 1) := by decide +kernel
theorem dX1_free_32 : decode cX1_free 32 = .ok (.istore_n 1, 1) := by decide +kernel
theorem dX1_free_33 : decode cX1_free 33 = .ok (.iinc 2 1, 3) := by decide +kernel
theorem dX1_free_36 : decode cX1_free 36 = .ok (.goto (-27), 3) := by decide +kernel
theorem dX1_free_39 : decode cX1_free 39 = .ok (.iload_n 1, 1) := by decide +kernel
theorem dX1_free_40 : decode cX1_free 40 = .ok (.ireturn, 1) := by decide +kernel
theorem dX1_used_0 : decode cX1_used 0 = .ok (.aload_n 0, 1) := by decide +kernel
theorem dX1_used_1 : decode cX1_used 1 = .ok (.iconst 0, 1) := by decide +kernel
theorem dX1_used_2 : decode cX1_used 2 = .ok (.putfield 33, 3) := by decide +kernel
theorem dX1_used_5 : decode cX1_used 5 = .ok (.iconst 0, 1) := by decide +kernel
theorem dX1_used_6 : decode cX1_used 6 = .ok (.istore_n 1, 1) := by decide +kernel
theorem dX1_used_7 : decode cX1_used 7 = .ok (.iconst 0, 1) := by decide +kernel
theorem dX1_used_8 : decode cX1_used 8 = .ok (.istore_n 2, 1) := by decide +kernel
theorem dX1_used_9 : decode cX1_used 9 = .ok (.iload_n 2, 1) := by decide +kernel
theorem dX1_used_10 : decode cX1_used 10 = .ok (.aload_n 0, 1) := by decide +kernel
theorem dX1_used_11 : decode cX1_used 11 = .ok (.getfield 29, 3) := by decide +kernel
theorem dX1_used_14 : decode cX1_used 14 = .ok (.if_icmp .ge 17, 3) := by decide +kernel
theorem dX1_used_17 : decode cX1_used 17 = .ok (.iload_n 1, 1) := by decide +kernel
theorem dX1_used_18 : decode cX1_used 18 = .ok (.aload_n 0, 1) := by decide +kernel
theorem dX1_used_19 : decode cX1_used 19 = .ok (.iload_n 2, 1) := by decide +kernel
theorem dX1_used_20 : decode cX1_used 20 = .ok (.invokevirtual 60, 3) := by decide +kernel
theorem dX1_used_23 : decode cX1_used 23 = .ok (.iadd, 1) := by decide +kernel
theorem dX1_used_24 : decode cX1_used 24 = .ok (.istore_n 1, 1) := by decide +kernel
theorem dX1_used_25 : decode cX1_used 25 = .ok (.iinc 2 1, 3) := by decide +kernel
theorem dX1_used_28 : decode cX1_used 28 = .ok (.goto (-19), 3) := by decide +kernel
theorem dX1_used_31 : decode cX1_used 31 = .ok (.iload_n 1, 1) := by decide +kernel
theorem dX1_used_32 : decode cX1_used 32 = .ok (.ireturn, 1) := by decide +kernel
theorem dX1_victim_0 : decode cX1_victim 0 = .ok (.aload_n 0, 1) := by decide +kernel
theorem dX1_victim_1 : decode cX1_victim 1 = .ok (.iconst 0, 1) := by decide +kernel
theorem dX1_victim_2 : decode cX1_victim 2 = .ok (.putfield 33, 3) := by decide +kernel
theorem dX1_victim_5 : decode cX1_victim 5 = .ok (.iconst (-1), 1) := by decide +kernel
theorem dX1_victim_6 : decode cX1_victim 6 = .ok (.istore_n 2, 1) := by decide +kernel
theorem dX1_victim_7 : decode cX1_victim 7 = .ok (.iconst (-1), 1) := by decide +kernel
theorem dX1_victim_8 : decode cX1_victim 8 = .ok (.istore_n 3, 1) := by decide +kernel
theorem dX1_victim_9 : decode cX1_victim 9 = .ok (.iconst 0, 1) := by decide +kernel
theorem dX1_victim_10 : decode cX1_victim 10 = .ok (.istore 4, 2) := by decide +kernel
theorem dX1_victim_12 : decode cX1_victim 12 = .ok (.iload 4, 2) := by decide +kernel
theorem dX1_victim_14 : decode cX1_victim 14 = .ok (.aload_n 0, 1) := by decide +kernel
theorem dX1_victim_15 : decode cX1_victim 15 = .ok (.getfield 29, 3) := by decide +kernel
theorem dX1_victim_18 : decode cX1_victim 18 = .ok (.if_icmp .ge 90, 3) := by decide +kernel
theorem dX1_victim_21 : decode cX1_victim 21 = .ok (.aload_n 0, 1) := by decide +kernel
theorem dX1_victim_22 : decode cX1_victim 22 = .ok (.iload 4, 2) := by decide +kernel
theorem dX1_victim_24 : decode cX1_victim 24 = .ok (.invokevirtual 60, 3) := by decide +kernel
theorem dX1_victim_27 : decode cX1_victim 27 = .ok (.istore 5, 2) := by decide +kernel
theorem dX1_victim_29 : decode cX1_victim 29 = .ok (.iload_n 1, 1) := by decide +kernel
theorem dX1_victim_30 : decode cX1_victim 30 = .ok (.ifCond .eq 32, 3) := by decide +kernel
theorem dX1_victim_33 : decode cX1_victim 33 = .ok (.bipush 16, 2) := by decide +kernel
theorem dX1_victim_35 : decode cX1_victim 35 = .ok (.iload 5, 2) := by decide +kernel
theorem dX1_victim_37 : decode cX1_victim 37 = .ok (.isub, 1) := by decide +kernel
theorem dX1_victim_38 : decode cX1_victim 38 = .ok (.aload_n 0, 1) := by decide +kernel
theorem dX1_victim_39 : decode cX1_victim 39 = .ok (.getfield 51, 3) := by decide +kernel
theorem dX1_victim_42 : decode cX1_victim 42 = .ok (.aload_n 0, 1) := by decide +kernel
theorem dX1_victim_43 : decode cX1_victim 43 = .ok (.getfield 19, 3) := by decide +kernel
theorem dX1_victim_46 : decode cX1_victim 46 = .ok (.iload 4, 2) := by decide +kernel
theorem dX1_victim_48 : decode cX1_victim 48 = .ok (.iaload, 1) := by decide +kernel
theorem dX1_victim_49 : decode cX1_victim 49 = .ok (.isub, 1) := by decide +kernel
theorem dX1_victim_50 : decode cX1_victim 50 = .ok (.iconst 1, 1) := by decide +kernel
theorem dX1_victim_51 : decode cX1_victim 51 = .ok (.iadd, 1) := by decide +kernel
theorem dX1_victim_52 : decode cX1_victim 52 = .ok (.imul, 1) := by decide +kernel
theorem dX1_victim_53 : decode cX1_victim 53 = .ok (.iload 5, 2) := by decide +kernel
theorem dX1_victim_55 : decode cX1_victim 55 = .ok (.bipush 16, 2) := by decide +kernel
theorem dX1_victim_57 : decode cX1_victim 57 = .ok (.iadd, 1) := by decide +kernel
theorem dX1_victim_58 : decode cX1_victim 58 = .ok (.idiv, 1) := by decide +kernel
theorem dX1_victim_59 : decode cX1_victim 59 = .ok (.goto 8, 3) := by decide +kernel
theorem dX1_victim_62 : decode cX1_victim 62 = .ok (.bipush 16, 2) := by decide +kernel
theorem dX1_victim_64 : decode cX1_victim 64 = .ok (.iload 5, 2) := by decide +kernel
theorem dX1_victim_66 : decode cX1_victim 66 = .ok (.isub, 1) := by decide +kernel
theorem dX1_victim_67 : decode cX1_victim 67 = .ok (.istore 6, 2) := by decide +kernel
theorem dX1_victim_69 : decode cX1_victim 69 = .ok (.aload_n 0, 1) := by decide +kernel
theorem dX1_victim_70 : decode cX1_victim 70 = .ok (.iload 4, 2) := by decide +kernel
theorem dX1_victim_72 : decode cX1_victim 72 = .ok (.invokevirtual 36, 3) := by decide +kernel
theorem dX1_victim_75 : decode cX1_victim 75 = .ok (.ifCond .ne 27, 3) := by decide +kernel
theorem dX1_victim_78 : decode cX1_victim 78 = .ok (.iload 5, 2) := by decide +kernel
theorem dX1_victim_80 : decode cX1_victim 80 = .ok (.ifCond .le 22, 3) := by decide +kernel
theorem dX1_victim_83 : decode cX1_victim 83 = .ok (.iload 5, 2) := by decide +kernel
theorem dX1_victim_85 : decode cX1_victim 85 = .ok (.bipush 16, 2) := by decide +kernel
theorem dX1_victim_87 : decode cX1_victim 87 = .ok (.if_icmp .ge 15, 3) := by decide +kernel
theorem dX1_victim_90 : decode cX1_victim 90 = .ok (.iload 6, 2) := by decide +kernel
theorem dX1_victim_92 : decode cX1_victim 92 = .ok (.iload_n 3, 1) := by decide +kernel
theorem dX1_victim_93 : decode cX1_victim 93 = .ok (.if_icmp .le 9, 3) := by decide +kernel
theorem dX1_victim_96 : decode cX1_victim 96 = .ok (.iload 4, 2) := by decide +kernel
theorem dX1_victim_98 : decode cX1_victim 98 = .ok (.istore_n 2, 1) := by decide +kernel
theorem dX1_victim_99 : decode cX1_victim 99 = .ok (.iload 6, 2) := by decide +kernel
theorem dX1_victim_101 : decode cX1_victim 101 = .ok (.istore_n 3, 1) := by decide +kernel
theorem dX1_victim_102 : decode cX1_victim 102 = .ok (.iinc 4 1, 3) := by decide +kernel
theorem dX1_victim_105 : decode cX1_victim 105 = .ok (.goto (-93), 3) := by decide +kernel
theorem dX1_victim_108 : decode cX1_victim 108 = .ok (.iload_n 2, 1) := by decide +kernel
theorem dX1_victim_109 : decode cX1_victim 109 = .ok (.ireturn, 1) := by decide +kernel
theorem dX1_look_0 : decode cX1_look 0 = .ok (.aload_n 0, 1) := by decide +kernel
theorem dX1_look_1 : decode cX1_look 1 = .ok (.iload_n 1, 1) := by decide +kernel
theorem dX1_look_2 : decode cX1_look 2 = .ok (.ifCond .lt 20, 3) := by decide +kernel
theorem dX1_look_5 : decode cX1_look 5 = .ok (.iload_n 1, 1) := by decide +kernel
theorem dX1_look_6 : decode cX1_look 6 = .ok (.aload_n 0, 1) := by decide +kernel
theorem dX1_look_7 : decode cX1_look 7 = .ok (.getfield 29, 3) := by decide +kernel
theorem dX1_look_10 : decode cX1_look 10 = .ok (.if_icmp .ge 12, 3) := by decide +kernel
theorem dX1_look_13 : decode cX1_look 13 = .ok (.iload_n 2, 1) := by decide +kernel
theorem dX1_look_14 : decode cX1_look 14 = .ok (.ifCond .lt 8, 3) := by decide +kernel
theorem dX1_look_17 : decode cX1_look 17 = .ok (.iload_n 2, 1) := by decide +kernel
theorem dX1_look_18 : decode cX1_look 18 = .ok (.iconst 3, 1) := by decide +kernel
theorem dX1_look_19 : decode cX1_look 19 = .ok (.if_icmp .le 7, 3) := by decide +kernel
theorem dX1_look_22 : decode cX1_look 22 = .ok (.iconst 1, 1) := by decide +kernel
theorem dX1_look_23 : decode cX1_look 23 = .ok (.goto 4, 3) := by decide +kernel
theorem dX1_look_26 : decode cX1_look 26 = .ok (.iconst 0, 1) := by decide +kernel
theorem dX1_look_27 : decode cX1_look 27 = .ok (.iconst 0, 1) := by decide +kernel
theorem dX1_look_28 : decode cX1_look 28 = .ok (.invokevirtual 47, 3) := by decide +kernel
theorem dX1_look_31 : decode cX1_look 31 = .ok (.ifCond .eq 5, 3) := by decide +kernel
theorem dX1_look_34 : decode cX1_look 34 = .ok (.iconst 0, 1) := by decide +kernel
theorem dX1_look_35 : decode cX1_look 35 = .ok (.ireturn, 1) := by decide +kernel
theorem dX1_look_36 : decode cX1_look 36 = .ok (.iload_n 2, 1) := by decide +kernel
theorem dX1_look_37 : decode cX1_look 37 = .ok (.iconst 2, 1) := by decide +kernel
theorem dX1_look_38 : decode cX1_look 38 = .ok (.if_icmp .ne 10, 3) := by decide +kernel
theorem dX1_look_41 : decode cX1_look 41 = .ok (.aload_n 0, 1) := by decide +kernel
theorem dX1_look_42 : decode cX1_look 42 = .ok (.getfield 19, 3) := by decide +kernel
theorem dX1_look_45 : decode cX1_look 45 = .ok (.iload_n 1, 1) := by decide +kernel
theorem dX1_look_46 : decode cX1_look 46 = .ok (.iaload, 1) := by decide +kernel
theorem dX1_look_47 : decode cX1_look 47 = .ok (.ireturn, 1) := by decide +kernel
theorem dX1_look_48 : decode cX1_look 48 = .ok (.iload_n 2, 1) := by decide +kernel
theorem dX1_look_49 : decode cX1_look 49 = .ok (.iconst 3, 1) := by decide +kernel
theorem dX1_look_50 : decode cX1_look 50 = .ok (.if_icmp .ne 17, 3) := by decide +kernel
theorem dX1_look_53 : decode cX1_look 53 = .ok (.aload_n 0, 1) := by decide +kernel
theorem dX1_look_54 : decode cX1_look 54 = .ok (.iload_n 1, 1) := by decide +kernel
theorem dX1_look_55 : decode cX1_look 55 = .ok (.invokevirtual 36, 3) := by decide +kernel
theorem dX1_look_58 : decode cX1_look 58 = .ok (.ifCond .eq 7, 3) := by decide +kernel
theorem dX1_look_61 : decode cX1_look 61 = .ok (.iconst 1, 1) := by decide +kernel
theorem dX1_look_62 : decode cX1_look 62 = .ok (.goto 4, 3) := by decide +kernel
theorem dX1_look_65 : decode cX1_look 65 = .ok (.iconst 0, 1) := by decide +kernel
theorem dX1_look_66 : decode cX1_look 66 = .ok (.ireturn, 1) := by decide +kernel
theorem dX1_look_67 : decode cX1_look 67 = .ok (.iconst 0, 1) := by decide +kernel
theorem dX1_look_68 : decode cX1_look 68 = .ok (.istore_n 3, 1) := by decide +kernel
theorem dX1_look_69 : decode cX1_look 69 = .ok (.bipush 15, 2) := by decide +kernel
theorem dX1_look_71 : decode cX1_look 71 = .ok (.istore 4, 2) := by decide +kernel
theorem dX1_look_73 : decode cX1_look 73 = .ok (.iload 4, 2) := by decide +kernel
theorem dX1_look_75 : decode cX1_look 75 = .ok (.ifCond .lt 56, 3) := by decide +kernel
theorem dX1_look_78 : decode cX1_look 78 = .ok (.iconst 2, 1) := by decide +kernel
theorem dX1_look_79 : decode cX1_look 79 = .ok (.iload_n 3, 1) := by decide +kernel
theorem dX1_look_80 : decode cX1_look 80 = .ok (.imul, 1) := by decide +kernel
theorem dX1_look_81 : decode cX1_look 81 = .ok (.iload_n 2, 1) := by decide +kernel
theorem dX1_look_82 : decode cX1_look 82 = .ok (.ifCond .ne 21, 3) := by decide +kernel
theorem dX1_look_85 : decode cX1_look 85 = .ok (.aload_n 0, 1) := by decide +kernel
theorem dX1_look_86 : decode cX1_look 86 = .ok (.getfield 7, 3) := by decide +kernel
theorem dX1_look_89 : decode cX1_look 89 = .ok (.bipush 16, 2) := by decide +kernel
theorem dX1_look_91 : decode cX1_look 91 = .ok (.iload_n 1, 1) := by decide +kernel
theorem dX1_look_92 : decode cX1_look 92 = .ok (.imul, 1) := by decide +kernel
theorem dX1_look_93 : decode cX1_look 93 = .ok (.iload 4, 2) := by decide +kernel
theorem dX1_look_95 : decode cX1_look 95 = .ok (.iadd, 1) := by decide +kernel
theorem dX1_look_96 : decode cX1_look 96 = .ok (.baload, 1) := by decide +kernel
theorem dX1_look_97 : decode cX1_look 97 = .ok (.ifCond .eq 25, 3) := by decide +kernel
theorem dX1_look_100 : decode cX1_look 100 = .ok (.goto 18, 3) := by decide +kernel
theorem dX1_look_103 : decode cX1_look 103 = .ok (.aload_n 0, 1) := by decide +kernel
theorem dX1_look_104 : decode cX1_look 104 = .ok (.getfield 13, 3) := by decide +kernel
theorem dX1_look_107 : decode cX1_look 107 = .ok (.bipush 16, 2) := by decide +kernel
theorem dX1_look_109 : decode cX1_look 109 = .ok (.iload_n 1, 1) := by decide +kernel
theorem dX1_look_110 : decode cX1_look 110 = .ok (.imul, 1) := by decide +kernel
theorem dX1_look_111 : decode cX1_look 111 = .ok (.iload 4, 2) := by decide +kernel
theorem dX1_look_113 : decode cX1_look 113 = .ok (.iadd, 1) := by decide +kernel
theorem dX1_look_114 : decode cX1_look 114 = .ok (.baload, 1) := by decide +kernel
theorem dX1_look_115 : decode cX1_look 115 = .ok (.ifCond .eq 7, 3) := by decide +kernel
theorem dX1_look_118 : decode cX1_look 118 = .ok (.iconst 1, 1) := by decide +kernel
theorem dX1_look_119 : decode cX1_look 119 = .ok (.goto 4, 3) := by decide +kernel
theorem dX1_look_122 : decode cX1_look 122 = .ok (.iconst 0, 1) := by decide +kernel
theorem dX1_look_123 : decode cX1_look 123 = .ok (.iadd, 1) := by decide +kernel
theorem dX1_look_124 : decode cX1_look 124 = .ok (.istore_n 3, 1) := by decide +kernel
theorem dX1_look_125 : decode cX1_look 125 = .ok (.iinc 4 (-1), 3) := by decide +kernel
theorem dX1_look_128 : decode cX1_look 128 = .ok (.goto (-55), 3) := by decide +kernel
theorem dX1_look_131 : decode cX1_look 131 = .ok (.iload_n 3, 1) := by decide +kernel
theorem dX1_look_132 : decode cX1_look 132 = .ok (.ireturn, 1) := by decide +kernel
end
section
theorem dL_cell_0 : decode cL_cell 0 = .ok (.iload_n 1, 1) := by decide +kernel
theorem dL_cell_1 : decode cL_cell 1 = .ok (.aload_n 0, 1) := by decide +kernel
theorem dL_cell_2 : decode cL_cell 2 = .ok (.arraylength, 1) := by decide +kernel
theorem dL_cell_3 : decode cL_cell 3 = .ok (.if_icmp .ge 9, 3) := by decide +kernel
theorem dL_cell_6 : decode cL_cell 6 = .ok (.aload_n 0, 1) := by decide +kernel
theorem dL_cell_7 : decode cL_cell 7 = .ok (.iload_n 1, 1) := by decide +kernel
theorem dL_cell_8 : decode cL_cell 8 = .ok (.iaload, 1) := by decide +kernel
theorem dL_cell_9 : decode cL_cell 9 = .ok (.goto 4, 3) := by decide +kernel
theorem dL_cell_12 : decode cL_cell 12 = .ok (.iconst 0, 1) := by decide +kernel
theorem dL_cell_13 : decode cL_cell 13 = .ok (.ireturn, 1) := by decide +kernel
theorem dL_take_0 : decode cL_take 0 = .ok (.aload_n 2, 1) := by decide +kernel
theorem dL_take_1 : decode cL_take 1 = .ok (.iconst 0, 1) := by decide +kernel
theorem dL_take_2 : decode cL_take 2 = .ok (.aload_n 0, 1) := by decide +kernel
theorem dL_take_3 : decode cL_take 3 = .ok (.iload_n 1, 1) := by decide +kernel
theorem dL_take_4 : decode cL_take 4 = .ok (.invokevirtual 7, 3) := by decide +kernel
theorem dL_take_7 : decode cL_take 7 = .ok (.i2l, 1) := by decide +kernel
theorem dL_take_8 : decode cL_take 8 = .ok (.lastore, 1) := by decide +kernel
theorem dL_take_9 : decode cL_take 9 = .ok (.goto 9, 3) := by decide +kernel
theorem dL_take_12 : decode cL_take 12 = .ok (.astore_n 3, 1) := by decide +kernel
theorem dL_take_13 : decode cL_take 13 = .ok (.iconst 1, 1) := by decide +kernel
theorem dL_take_14 : decode cL_take 14 = .ok (.ireturn, 1) := by decide +kernel
theorem dL_take_15 : decode cL_take 15 = .ok (.astore_n 3, 1) := by decide +kernel
theorem dL_take_16 : decode cL_take 16 = .ok (.iconst 2, 1) := by decide +kernel
theorem dL_take_17 : decode cL_take 17 = .ok (.ireturn, 1) := by decide +kernel
theorem dL_take_18 : decode cL_take 18 = .ok (.iconst 0, 1) := by decide +kernel
theorem dL_take_19 : decode cL_take 19 = .ok (.ireturn, 1) := by decide +kernel
theorem dL_next_0 : decode cL_next 0 = .ok (.aload_n 2, 1) := by decide +kernel
theorem dL_next_1 : decode cL_next 1 = .ok (.iconst 0, 1) := by decide +kernel
theorem dL_next_2 : decode cL_next 2 = .ok (.aload_n 0, 1) := by decide +kernel
theorem dL_next_3 : decode cL_next 3 = .ok (.iload_n 1, 1) := by decide +kernel
theorem dL_next_4 : decode cL_next 4 = .ok (.invokevirtual 17, 3) := by decide +kernel
theorem dL_next_7 : decode cL_next 7 = .ok (.i2l, 1) := by decide +kernel
theorem dL_next_8 : decode cL_next 8 = .ok (.lastore, 1) := by decide +kernel
theorem dL_next_9 : decode cL_next 9 = .ok (.goto 6, 3) := by decide +kernel
theorem dL_next_12 : decode cL_next 12 = .ok (.astore_n 3, 1) := by decide +kernel
theorem dL_next_13 : decode cL_next 13 = .ok (.iconst 1, 1) := by decide +kernel
theorem dL_next_14 : decode cL_next 14 = .ok (.ireturn, 1) := by decide +kernel
theorem dL_next_15 : decode cL_next 15 = .ok (.iconst 0, 1) := by decide +kernel
theorem dL_next_16 : decode cL_next 16 = .ok (.ireturn, 1) := by decide +kernel
theorem dL_drop_0 : decode cL_drop 0 = .ok (.aload_n 0, 1) := by decide +kernel
theorem dL_drop_1 : decode cL_drop 1 = .ok (.iload_n 1, 1) := by decide +kernel
theorem dL_drop_2 : decode cL_drop 2 = .ok (.invokevirtual 20, 3) := by decide +kernel
theorem dL_drop_5 : decode cL_drop 5 = .ok (.goto 9, 3) := by decide +kernel
theorem dL_drop_8 : decode cL_drop 8 = .ok (.astore_n 2, 1) := by decide +kernel
theorem dL_drop_9 : decode cL_drop 9 = .ok (.iconst 1, 1) := by decide +kernel
theorem dL_drop_10 : decode cL_drop 10 = .ok (.ireturn, 1) := by decide +kernel
theorem dL_drop_11 : decode cL_drop 11 = .ok (.astore_n 2, 1) := by decide +kernel
theorem dL_drop_12 : decode cL_drop 12 = .ok (.iconst 2, 1) := by decide +kernel
theorem dL_drop_13 : decode cL_drop 13 = .ok (.ireturn, 1) := by decide +kernel
theorem dL_drop_14 : decode cL_drop 14 = .ok (.iconst 0, 1) := by decide +kernel
theorem dL_drop_15 : decode cL_drop 15 = .ok (.ireturn, 1) := by decide +kernel
theorem dL_isUsed_0 : decode cL_isUsed 0 = .ok (.aload_n 2, 1) := by decide +kernel
theorem dL_isUsed_1 : decode cL_isUsed 1 = .ok (.iconst 0, 1) := by decide +kernel
theorem dL_isUsed_2 : decode cL_isUsed 2 = .ok (.aload_n 0, 1) := by decide +kernel
theorem dL_isUsed_3 : decode cL_isUsed 3 = .ok (.iload_n 1, 1) := by decide +kernel
theorem dL_isUsed_4 : decode cL_isUsed 4 = .ok (.invokevirtual 24, 3) := by decide +kernel
theorem dL_isUsed_7 : decode cL_isUsed 7 = .ok (.ifCond .eq 7, 3) := by decide +kernel
theorem dL_isUsed_10 : decode cL_isUsed 10 = .ok (.lconst 1, 1) := by decide +kernel
theorem dL_isUsed_11 : decode cL_isUsed 11 = .ok (.goto 4, 3) := by decide +kernel
theorem dL_isUsed_14 : decode cL_isUsed 14 = .ok (.lconst 0, 1) := by decide +kernel
theorem dL_isUsed_15 : decode cL_isUsed 15 = .ok (.lastore, 1) := by decide +kernel
theorem dL_isUsed_16 : decode cL_isUsed 16 = .ok (.goto 6, 3) := by decide +kernel
theorem dL_isUsed_19 : decode cL_isUsed 19 = .ok (.astore_n 3, 1) := by decide +kernel
theorem dL_isUsed_20 : decode cL_isUsed 20 = .ok (.iconst 1, 1) := by decide +kernel
theorem dL_isUsed_21 : decode cL_isUsed 21 = .ok (.ireturn, 1) := by decide +kernel
theorem dL_isUsed_22 : decode cL_isUsed 22 = .ok (.iconst 0, 1) := by decide +kernel
theorem dL_isUsed_23 : decode cL_isUsed 23 = .ok (.ireturn, 1) := by decide +kernel
theorem dL_look_0 : decode cL_look 0 = .ok (.aload_n 3, 1) := by decide +kernel
theorem dL_look_1 : decode cL_look 1 = .ok (.iconst 0, 1) := by decide +kernel
theorem dL_look_2 : decode cL_look 2 = .ok (.aload_n 0, 1) := by decide +kernel
theorem dL_look_3 : decode cL_look 3 = .ok (.iload_n 1, 1) := by decide +kernel
theorem dL_look_4 : decode cL_look 4 = .ok (.iload_n 2, 1) := by decide +kernel
theorem dL_look_5 : decode cL_look 5 = .ok (.invokevirtual 28, 3) := by decide +kernel
theorem dL_look_8 : decode cL_look 8 = .ok (.i2l, 1) := by decide +kernel
theorem dL_look_9 : decode cL_look 9 = .ok (.lastore, 1) := by decide +kernel
theorem dL_look_10 : decode cL_look 10 = .ok (.goto 7, 3) := by decide +kernel
theorem dL_look_13 : decode cL_look 13 = .ok (.astore 4, 2) := by decide +kernel
theorem dL_look_15 : decode cL_look 15 = .ok (.iconst 1, 1) := by decide +kernel
theorem dL_look_16 : decode cL_look 16 = .ok (.ireturn, 1) := by decide +kernel
theorem dL_look_17 : decode cL_look 17 = .ok (.iconst 0, 1) := by decide +kernel
theorem dL_look_18 : decode cL_look 18 = .ok (.ireturn, 1) := by decide +kernel
theorem dL_law_0 : decode cL_law 0 = .ok (.new 8, 3) := by decide +kernel
theorem dL_law_3 : decode cL_law 3 = .ok (.dup, 1) := by decide +kernel
theorem dL_law_4 : decode cL_law 4 = .ok (.aload_n 0, 1) := by decide +kernel
theorem dL_law_5 : decode cL_law 5 = .ok (.iconst 0, 1) := by decide +kernel
theorem dL_law_6 : decode cL_law 6 = .ok (.invokestatic 32, 3) := by decide +kernel
theorem dL_law_9 : decode cL_law 9 = .ok (.invokespecial 38, 3) := by decide +kernel
theorem dL_law_12 : decode cL_law 12 = .ok (.astore_n 1, 1) := by decide +kernel
theorem dL_law_13 : decode cL_law 13 = .ok (.new 40, 3) := by decide +kernel
theorem dL_law_16 : decode cL_law 16 = .ok (.dup, 1) := by decide +kernel
theorem dL_law_17 : decode cL_law 17 = .ok (.aload_n 0, 1) := by decide +kernel
theorem dL_law_18 : decode cL_law 18 = .ok (.iconst 0, 1) := by decide +kernel
theorem dL_law_19 : decode cL_law 19 = .ok (.invokestatic 32, 3) := by decide +kernel
theorem dL_law_22 : decode cL_law 22 = .ok (.invokespecial 42, 3) := by decide +kernel
theorem dL_law_25 : decode cL_law 25 = .ok (.astore_n 2, 1) := by decide +kernel
theorem dL_law_26 : decode cL_law 26 = .ok (.iconst 1, 1) := by decide +kernel
theorem dL_law_27 : decode cL_law 27 = .ok (.newarray .long, 2) := by decide +kernel
theorem dL_law_29 : decode cL_law 29 = .ok (.astore_n 3, 1) := by decide +kernel
theorem dL_law_30 : decode cL_law 30 = .ok (.iconst 1, 1) := by decide +kernel
theorem dL_law_31 : decode cL_law 31 = .ok (.istore 4, 2) := by decide +kernel
theorem dL_law_33 : decode cL_law 33 = .ok (.iload 4, 2) := by decide +kernel
theorem dL_law_35 : decode cL_law 35 = .ok (.aload_n 0, 1) := by decide +kernel
theorem dL_law_36 : decode cL_law 36 = .ok (.arraylength, 1) := by decide +kernel
theorem dL_law_37 : decode cL_law 37 = .ok (.iconst 3, 1) := by decide +kernel
theorem dL_law_38 : decode cL_law 38 = .ok (.isub, 1) := by decide +kernel
theorem dL_law_39 : decode cL_law 39 = .ok (.if_icmp .gt 426, 3) := by decide +kernel
theorem dL_law_42 : decode cL_law 42 = .ok (.aload_n 0, 1) := by decide +kernel
theorem dL_law_43 : decode cL_law 43 = .ok (.iload 4, 2) := by decide +kernel
theorem dL_law_45 : decode cL_law 45 = .ok (.iaload, 1) := by decide +kernel
theorem dL_law_46 : decode cL_law 46 = .ok (.bipush 15, 2) := by decide +kernel
theorem dL_law_48 : decode cL_law 48 = .ok (.iand, 1) := by decide +kernel
theorem dL_law_49 : decode cL_law 49 = .ok (.tableswitch 410 0 8 #[51, 107, 163, 199, 262, 275, 288, 301, 342], 51) := by decide +kernel
theorem dL_law_100 : decode cL_law 100 = .ok (.aload_n 1, 1) := by decide +kernel
theorem dL_law_101 : decode cL_law 101 = .ok (.aload_n 0, 1) := by decide +kernel
theorem dL_law_102 : decode cL_law 102 = .ok (.iload 4, 2) := by decide +kernel
theorem dL_law_104 : decode cL_law 104 = .ok (.iconst 1, 1) := by decide +kernel
theorem dL_law_105 : decode cL_law 105 = .ok (.iadd, 1) := by decide +kernel
theorem dL_law_106 : decode cL_law 106 = .ok (.iaload, 1) := by decide +kernel
theorem dL_law_107 : decode cL_law 107 = .ok (.aload_n 3, 1) := by decide +kernel
theorem dL_law_108 : decode cL_law 108 = .ok (.invokestatic 43, 3) := by decide +kernel
theorem dL_law_111 : decode cL_law 111 = .ok (.istore 5, 2) := by decide +kernel
theorem dL_law_113 : decode cL_law 113 = .ok (.aload_n 2, 1) := by decide +kernel
theorem dL_law_114 : decode cL_law 114 = .ok (.aload_n 0, 1) := by decide +kernel
theorem dL_law_115 : decode cL_law 115 = .ok (.iload 4, 2) := by decide +kernel
theorem dL_law_117 : decode cL_law 117 = .ok (.iconst 1, 1) := by decide +kernel
theorem dL_law_118 : decode cL_law 118 = .ok (.iadd, 1) := by decide +kernel
theorem dL_law_119 : decode cL_law 119 = .ok (.iaload, 1) := by decide +kernel
theorem dL_law_120 : decode cL_law 120 = .ok (.invokevirtual 46, 3) := by decide +kernel
theorem dL_law_123 : decode cL_law 123 = .ok (.istore 6, 2) := by decide +kernel
theorem dL_law_125 : decode cL_law 125 = .ok (.aload_n 2, 1) := by decide +kernel
theorem dL_law_126 : decode cL_law 126 = .ok (.invokevirtual 47, 3) := by decide +kernel
theorem dL_law_129 : decode cL_law 129 = .ok (.iload 5, 2) := by decide +kernel
theorem dL_law_131 : decode cL_law 131 = .ok (.if_icmp .eq 5, 3) := by decide +kernel
theorem dL_law_134 : decode cL_law 134 = .ok (.iconst 0, 1) := by decide +kernel
theorem dL_law_135 : decode cL_law 135 = .ok (.ireturn, 1) := by decide +kernel
theorem dL_law_136 : decode cL_law 136 = .ok (.iload 5, 2) := by decide +kernel
theorem dL_law_138 : decode cL_law 138 = .ok (.ifCond .ne 15, 3) := by decide +kernel
theorem dL_law_141 : decode cL_law 141 = .ok (.aload_n 3, 1) := by decide +kernel
theorem dL_law_142 : decode cL_law 142 = .ok (.iconst 0, 1) := by decide +kernel
theorem dL_law_143 : decode cL_law 143 = .ok (.laload, 1) := by decide +kernel
theorem dL_law_144 : decode cL_law 144 = .ok (.iload 6, 2) := by decide +kernel
theorem dL_law_146 : decode cL_law 146 = .ok (.i2l, 1) := by decide +kernel
theorem dL_law_147 : decode cL_law 147 = .ok (.lcmp, 1) := by decide +kernel
theorem dL_law_148 : decode cL_law 148 = .ok (.ifCond .eq 5, 3) := by decide +kernel
theorem dL_law_151 : decode cL_law 151 = .ok (.iconst 0, 1) := by decide +kernel
theorem dL_law_152 : decode cL_law 152 = .ok (.ireturn, 1) := by decide +kernel
theorem dL_law_153 : decode cL_law 153 = .ok (.goto 306, 3) := by decide +kernel
theorem dL_law_156 : decode cL_law 156 = .ok (.aload_n 1, 1) := by decide +kernel
theorem dL_law_157 : decode cL_law 157 = .ok (.aload_n 0, 1) := by decide +kernel
theorem dL_law_158 : decode cL_law 158 = .ok (.iload 4, 2) := by decide +kernel
theorem dL_law_160 : decode cL_law 160 = .ok (.iconst 1, 1) := by decide +kernel
theorem dL_law_161 : decode cL_law 161 = .ok (.iadd, 1) := by decide +kernel
theorem dL_law_162 : decode cL_law 162 = .ok (.iaload, 1) := by decide +kernel
theorem dL_law_163 : decode cL_law 163 = .ok (.aload_n 3, 1) := by decide +kernel
theorem dL_law_164 : decode cL_law 164 = .ok (.invokestatic 51, 3) := by decide +kernel
theorem dL_law_167 : decode cL_law 167 = .ok (.istore 5, 2) := by decide +kernel
theorem dL_law_169 : decode cL_law 169 = .ok (.aload_n 2, 1) := by decide +kernel
theorem dL_law_170 : decode cL_law 170 = .ok (.aload_n 0, 1) := by decide +kernel
theorem dL_law_171 : decode cL_law 171 = .ok (.iload 4, 2) := by decide +kernel
theorem dL_law_173 : decode cL_law 173 = .ok (.iconst 1, 1) := by decide +kernel
theorem dL_law_174 : decode cL_law 174 = .ok (.iadd, 1) := by decide +kernel
theorem dL_law_175 : decode cL_law 175 = .ok (.iaload, 1) := by decide +kernel
theorem dL_law_176 : decode cL_law 176 = .ok (.invokevirtual 53, 3) := by decide +kernel
theorem dL_law_179 : decode cL_law 179 = .ok (.istore 6, 2) := by decide +kernel
theorem dL_law_181 : decode cL_law 181 = .ok (.aload_n 2, 1) := by decide +kernel
theorem dL_law_182 : decode cL_law 182 = .ok (.invokevirtual 47, 3) := by decide +kernel
theorem dL_law_185 : decode cL_law 185 = .ok (.iload 5, 2) := by decide +kernel
theorem dL_law_187 : decode cL_law 187 = .ok (.if_icmp .eq 5, 3) := by decide +kernel
theorem dL_law_190 : decode cL_law 190 = .ok (.iconst 0, 1) := by decide +kernel
theorem dL_law_191 : decode cL_law 191 = .ok (.ireturn, 1) := by decide +kernel
theorem dL_law_192 : decode cL_law 192 = .ok (.iload 5, 2) := by decide +kernel
theorem dL_law_194 : decode cL_law 194 = .ok (.ifCond .ne 15, 3) := by decide +kernel
theorem dL_law_197 : decode cL_law 197 = .ok (.aload_n 3, 1) := by decide +kernel
theorem dL_law_198 : decode cL_law 198 = .ok (.iconst 0, 1) := by decide +kernel
theorem dL_law_199 : decode cL_law 199 = .ok (.laload, 1) := by decide +kernel
theorem dL_law_200 : decode cL_law 200 = .ok (.iload 6, 2) := by decide +kernel
theorem dL_law_202 : decode cL_law 202 = .ok (.i2l, 1) := by decide +kernel
theorem dL_law_203 : decode cL_law 203 = .ok (.lcmp, 1) := by decide +kernel
theorem dL_law_204 : decode cL_law 204 = .ok (.ifCond .eq 5, 3) := by decide +kernel
theorem dL_law_207 : decode cL_law 207 = .ok (.iconst 0, 1) := by decide +kernel
theorem dL_law_208 : decode cL_law 208 = .ok (.ireturn, 1) := by decide +kernel
theorem dL_law_209 : decode cL_law 209 = .ok (.goto 250, 3) := by decide +kernel
theorem dL_law_212 : decode cL_law 212 = .ok (.aload_n 1, 1) := by decide +kernel
theorem dL_law_213 : decode cL_law 213 = .ok (.aload_n 0, 1) := by decide +kernel
theorem dL_law_214 : decode cL_law 214 = .ok (.iload 4, 2) := by decide +kernel
theorem dL_law_216 : decode cL_law 216 = .ok (.iconst 1, 1) := by decide +kernel
theorem dL_law_217 : decode cL_law 217 = .ok (.iadd, 1) := by decide +kernel
theorem dL_law_218 : decode cL_law 218 = .ok (.iaload, 1) := by decide +kernel
theorem dL_law_219 : decode cL_law 219 = .ok (.invokestatic 54, 3) := by decide +kernel
theorem dL_law_222 : decode cL_law 222 = .ok (.istore 5, 2) := by decide +kernel
theorem dL_law_224 : decode cL_law 224 = .ok (.aload_n 2, 1) := by decide +kernel
theorem dL_law_225 : decode cL_law 225 = .ok (.aload_n 0, 1) := by decide +kernel
theorem dL_law_226 : decode cL_law 226 = .ok (.iload 4, 2) := by decide +kernel
theorem dL_law_228 : decode cL_law 228 = .ok (.iconst 1, 1) := by decide +kernel
theorem dL_law_229 : decode cL_law 229 = .ok (.iadd, 1) := by decide +kernel
end
section
theorem dL_law_230 : decode cL_law 230 = .ok (.iaload, 1) := by decide +kernel
theorem dL_law_231 : decode cL_law 231 = .ok (.invokevirtual 57, 3) := by decide +kernel
theorem dL_law_234 : decode cL_law 234 = .ok (.aload_n 2, 1) := by decide +kernel
theorem dL_law_235 : decode cL_law 235 = .ok (.invokevirtual 47, 3) := by decide +kernel
theorem dL_law_238 : decode cL_law 238 = .ok (.iload 5, 2) := by decide +kernel
theorem dL_law_240 : decode cL_law 240 = .ok (.if_icmp .eq 5, 3) := by decide +kernel
theorem dL_law_243 : decode cL_law 243 = .ok (.iconst 0, 1) := by decide +kernel
theorem dL_law_244 : decode cL_law 244 = .ok (.ireturn, 1) := by decide +kernel
theorem dL_law_245 : decode cL_law 245 = .ok (.goto 214, 3) := by decide +kernel
theorem dL_law_248 : decode cL_law 248 = .ok (.aload_n 1, 1) := by decide +kernel
theorem dL_law_249 : decode cL_law 249 = .ok (.aload_n 0, 1) := by decide +kernel
theorem dL_law_250 : decode cL_law 250 = .ok (.iload 4, 2) := by decide +kernel
theorem dL_law_252 : decode cL_law 252 = .ok (.iconst 1, 1) := by decide +kernel
theorem dL_law_253 : decode cL_law 253 = .ok (.iadd, 1) := by decide +kernel
theorem dL_law_254 : decode cL_law 254 = .ok (.iaload, 1) := by decide +kernel
theorem dL_law_255 : decode cL_law 255 = .ok (.aload_n 3, 1) := by decide +kernel
theorem dL_law_256 : decode cL_law 256 = .ok (.invokestatic 58, 3) := by decide +kernel
theorem dL_law_259 : decode cL_law 259 = .ok (.istore 5, 2) := by decide +kernel
theorem dL_law_261 : decode cL_law 261 = .ok (.aload_n 2, 1) := by decide +kernel
theorem dL_law_262 : decode cL_law 262 = .ok (.aload_n 0, 1) := by decide +kernel
theorem dL_law_263 : decode cL_law 263 = .ok (.iload 4, 2) := by decide +kernel
theorem dL_law_265 : decode cL_law 265 = .ok (.iconst 1, 1) := by decide +kernel
theorem dL_law_266 : decode cL_law 266 = .ok (.iadd, 1) := by decide +kernel
theorem dL_law_267 : decode cL_law 267 = .ok (.iaload, 1) := by decide +kernel
theorem dL_law_268 : decode cL_law 268 = .ok (.invokevirtual 60, 3) := by decide +kernel
theorem dL_law_271 : decode cL_law 271 = .ok (.istore 6, 2) := by decide +kernel
theorem dL_law_273 : decode cL_law 273 = .ok (.aload_n 2, 1) := by decide +kernel
theorem dL_law_274 : decode cL_law 274 = .ok (.invokevirtual 47, 3) := by decide +kernel
theorem dL_law_277 : decode cL_law 277 = .ok (.iload 5, 2) := by decide +kernel
theorem dL_law_279 : decode cL_law 279 = .ok (.if_icmp .eq 5, 3) := by decide +kernel
theorem dL_law_282 : decode cL_law 282 = .ok (.iconst 0, 1) := by decide +kernel
theorem dL_law_283 : decode cL_law 283 = .ok (.ireturn, 1) := by decide +kernel
theorem dL_law_284 : decode cL_law 284 = .ok (.iload 5, 2) := by decide +kernel
theorem dL_law_286 : decode cL_law 286 = .ok (.ifCond .ne 22, 3) := by decide +kernel
theorem dL_law_289 : decode cL_law 289 = .ok (.aload_n 3, 1) := by decide +kernel
theorem dL_law_290 : decode cL_law 290 = .ok (.iconst 0, 1) := by decide +kernel
theorem dL_law_291 : decode cL_law 291 = .ok (.laload, 1) := by decide +kernel
theorem dL_law_292 : decode cL_law 292 = .ok (.iload 6, 2) := by decide +kernel
theorem dL_law_294 : decode cL_law 294 = .ok (.ifCond .eq 7, 3) := by decide +kernel
theorem dL_law_297 : decode cL_law 297 = .ok (.lconst 1, 1) := by decide +kernel
theorem dL_law_298 : decode cL_law 298 = .ok (.goto 4, 3) := by decide +kernel
theorem dL_law_301 : decode cL_law 301 = .ok (.lconst 0, 1) := by decide +kernel
theorem dL_law_302 : decode cL_law 302 = .ok (.lcmp, 1) := by decide +kernel
theorem dL_law_303 : decode cL_law 303 = .ok (.ifCond .eq 5, 3) := by decide +kernel
theorem dL_law_306 : decode cL_law 306 = .ok (.iconst 0, 1) := by decide +kernel
theorem dL_law_307 : decode cL_law 307 = .ok (.ireturn, 1) := by decide +kernel
theorem dL_law_308 : decode cL_law 308 = .ok (.goto 151, 3) := by decide +kernel
theorem dL_law_311 : decode cL_law 311 = .ok (.aload_n 1, 1) := by decide +kernel
theorem dL_law_312 : decode cL_law 312 = .ok (.invokevirtual 61, 3) := by decide +kernel
theorem dL_law_315 : decode cL_law 315 = .ok (.aload_n 2, 1) := by decide +kernel
theorem dL_law_316 : decode cL_law 316 = .ok (.invokevirtual 64, 3) := by decide +kernel
theorem dL_law_319 : decode cL_law 319 = .ok (.if_icmp .eq 140, 3) := by decide +kernel
theorem dL_law_322 : decode cL_law 322 = .ok (.iconst 0, 1) := by decide +kernel
theorem dL_law_323 : decode cL_law 323 = .ok (.ireturn, 1) := by decide +kernel
theorem dL_law_324 : decode cL_law 324 = .ok (.aload_n 1, 1) := by decide +kernel
theorem dL_law_325 : decode cL_law 325 = .ok (.invokevirtual 65, 3) := by decide +kernel
theorem dL_law_328 : decode cL_law 328 = .ok (.aload_n 2, 1) := by decide +kernel
theorem dL_law_329 : decode cL_law 329 = .ok (.invokevirtual 68, 3) := by decide +kernel
theorem dL_law_332 : decode cL_law 332 = .ok (.if_icmp .eq 127, 3) := by decide +kernel
theorem dL_law_335 : decode cL_law 335 = .ok (.iconst 0, 1) := by decide +kernel
theorem dL_law_336 : decode cL_law 336 = .ok (.ireturn, 1) := by decide +kernel
theorem dL_law_337 : decode cL_law 337 = .ok (.aload_n 1, 1) := by decide +kernel
theorem dL_law_338 : decode cL_law 338 = .ok (.invokevirtual 69, 3) := by decide +kernel
theorem dL_law_341 : decode cL_law 341 = .ok (.aload_n 2, 1) := by decide +kernel
theorem dL_law_342 : decode cL_law 342 = .ok (.invokevirtual 72, 3) := by decide +kernel
theorem dL_law_345 : decode cL_law 345 = .ok (.if_icmp .eq 114, 3) := by decide +kernel
theorem dL_law_348 : decode cL_law 348 = .ok (.iconst 0, 1) := by decide +kernel
theorem dL_law_349 : decode cL_law 349 = .ok (.ireturn, 1) := by decide +kernel
theorem dL_law_350 : decode cL_law 350 = .ok (.aload_n 1, 1) := by decide +kernel
theorem dL_law_351 : decode cL_law 351 = .ok (.aload_n 0, 1) := by decide +kernel
theorem dL_law_352 : decode cL_law 352 = .ok (.iload 4, 2) := by decide +kernel
theorem dL_law_354 : decode cL_law 354 = .ok (.iconst 1, 1) := by decide +kernel
theorem dL_law_355 : decode cL_law 355 = .ok (.iadd, 1) := by decide +kernel
theorem dL_law_356 : decode cL_law 356 = .ok (.iaload, 1) := by decide +kernel
theorem dL_law_357 : decode cL_law 357 = .ok (.ifCond .eq 7, 3) := by decide +kernel
theorem dL_law_360 : decode cL_law 360 = .ok (.iconst 1, 1) := by decide +kernel
theorem dL_law_361 : decode cL_law 361 = .ok (.goto 4, 3) := by decide +kernel
theorem dL_law_364 : decode cL_law 364 = .ok (.iconst 0, 1) := by decide +kernel
theorem dL_law_365 : decode cL_law 365 = .ok (.invokevirtual 73, 3) := by decide +kernel
theorem dL_law_368 : decode cL_law 368 = .ok (.aload_n 2, 1) := by decide +kernel
theorem dL_law_369 : decode cL_law 369 = .ok (.aload_n 0, 1) := by decide +kernel
theorem dL_law_370 : decode cL_law 370 = .ok (.iload 4, 2) := by decide +kernel
theorem dL_law_372 : decode cL_law 372 = .ok (.iconst 1, 1) := by decide +kernel
theorem dL_law_373 : decode cL_law 373 = .ok (.iadd, 1) := by decide +kernel
theorem dL_law_374 : decode cL_law 374 = .ok (.iaload, 1) := by decide +kernel
theorem dL_law_375 : decode cL_law 375 = .ok (.ifCond .eq 7, 3) := by decide +kernel
theorem dL_law_378 : decode cL_law 378 = .ok (.iconst 1, 1) := by decide +kernel
theorem dL_law_379 : decode cL_law 379 = .ok (.goto 4, 3) := by decide +kernel
theorem dL_law_382 : decode cL_law 382 = .ok (.iconst 0, 1) := by decide +kernel
theorem dL_law_383 : decode cL_law 383 = .ok (.invokevirtual 77, 3) := by decide +kernel
theorem dL_law_386 : decode cL_law 386 = .ok (.if_icmp .eq 73, 3) := by decide +kernel
theorem dL_law_389 : decode cL_law 389 = .ok (.iconst 0, 1) := by decide +kernel
theorem dL_law_390 : decode cL_law 390 = .ok (.ireturn, 1) := by decide +kernel
theorem dL_law_391 : decode cL_law 391 = .ok (.aload_n 1, 1) := by decide +kernel
theorem dL_law_392 : decode cL_law 392 = .ok (.aload_n 0, 1) := by decide +kernel
theorem dL_law_393 : decode cL_law 393 = .ok (.iload 4, 2) := by decide +kernel
theorem dL_law_395 : decode cL_law 395 = .ok (.iconst 1, 1) := by decide +kernel
theorem dL_law_396 : decode cL_law 396 = .ok (.iadd, 1) := by decide +kernel
theorem dL_law_397 : decode cL_law 397 = .ok (.iaload, 1) := by decide +kernel
theorem dL_law_398 : decode cL_law 398 = .ok (.aload_n 0, 1) := by decide +kernel
theorem dL_law_399 : decode cL_law 399 = .ok (.iload 4, 2) := by decide +kernel
theorem dL_law_401 : decode cL_law 401 = .ok (.iconst 2, 1) := by decide +kernel
theorem dL_law_402 : decode cL_law 402 = .ok (.iadd, 1) := by decide +kernel
theorem dL_law_403 : decode cL_law 403 = .ok (.iaload, 1) := by decide +kernel
theorem dL_law_404 : decode cL_law 404 = .ok (.aload_n 3, 1) := by decide +kernel
theorem dL_law_405 : decode cL_law 405 = .ok (.invokestatic 78, 3) := by decide +kernel
theorem dL_law_408 : decode cL_law 408 = .ok (.istore 5, 2) := by decide +kernel
theorem dL_law_410 : decode cL_law 410 = .ok (.aload_n 2, 1) := by decide +kernel
theorem dL_law_411 : decode cL_law 411 = .ok (.aload_n 0, 1) := by decide +kernel
theorem dL_law_412 : decode cL_law 412 = .ok (.iload 4, 2) := by decide +kernel
theorem dL_law_414 : decode cL_law 414 = .ok (.iconst 1, 1) := by decide +kernel
theorem dL_law_415 : decode cL_law 415 = .ok (.iadd, 1) := by decide +kernel
theorem dL_law_416 : decode cL_law 416 = .ok (.iaload, 1) := by decide +kernel
theorem dL_law_417 : decode cL_law 417 = .ok (.aload_n 0, 1) := by decide +kernel
theorem dL_law_418 : decode cL_law 418 = .ok (.iload 4, 2) := by decide +kernel
theorem dL_law_420 : decode cL_law 420 = .ok (.iconst 2, 1) := by decide +kernel
theorem dL_law_421 : decode cL_law 421 = .ok (.iadd, 1) := by decide +kernel
theorem dL_law_422 : decode cL_law 422 = .ok (.iaload, 1) := by decide +kernel
theorem dL_law_423 : decode cL_law 423 = .ok (.invokevirtual 81, 3) := by decide +kernel
theorem dL_law_426 : decode cL_law 426 = .ok (.istore 6, 2) := by decide +kernel
theorem dL_law_428 : decode cL_law 428 = .ok (.aload_n 2, 1) := by decide +kernel
theorem dL_law_429 : decode cL_law 429 = .ok (.invokevirtual 47, 3) := by decide +kernel
theorem dL_law_432 : decode cL_law 432 = .ok (.iload 5, 2) := by decide +kernel
theorem dL_law_434 : decode cL_law 434 = .ok (.if_icmp .eq 5, 3) := by decide +kernel
theorem dL_law_437 : decode cL_law 437 = .ok (.iconst 0, 1) := by decide +kernel
theorem dL_law_438 : decode cL_law 438 = .ok (.ireturn, 1) := by decide +kernel
theorem dL_law_439 : decode cL_law 439 = .ok (.iload 5, 2) := by decide +kernel
theorem dL_law_441 : decode cL_law 441 = .ok (.ifCond .ne 15, 3) := by decide +kernel
theorem dL_law_444 : decode cL_law 444 = .ok (.aload_n 3, 1) := by decide +kernel
theorem dL_law_445 : decode cL_law 445 = .ok (.iconst 0, 1) := by decide +kernel
theorem dL_law_446 : decode cL_law 446 = .ok (.laload, 1) := by decide +kernel
theorem dL_law_447 : decode cL_law 447 = .ok (.iload 6, 2) := by decide +kernel
theorem dL_law_449 : decode cL_law 449 = .ok (.i2l, 1) := by decide +kernel
theorem dL_law_450 : decode cL_law 450 = .ok (.lcmp, 1) := by decide +kernel
theorem dL_law_451 : decode cL_law 451 = .ok (.ifCond .eq 5, 3) := by decide +kernel
theorem dL_law_454 : decode cL_law 454 = .ok (.iconst 0, 1) := by decide +kernel
theorem dL_law_455 : decode cL_law 455 = .ok (.ireturn, 1) := by decide +kernel
theorem dL_law_456 : decode cL_law 456 = .ok (.goto 3, 3) := by decide +kernel
theorem dL_law_459 : decode cL_law 459 = .ok (.iinc 4 3, 3) := by decide +kernel
theorem dL_law_462 : decode cL_law 462 = .ok (.goto (-429), 3) := by decide +kernel
theorem dL_law_465 : decode cL_law 465 = .ok (.iconst 1, 1) := by decide +kernel
theorem dL_law_466 : decode cL_law 466 = .ok (.ireturn, 1) := by decide +kernel
end
section
/-! THE WORLDS OF THE CLASS AND OF THE REFERENCE, AND ROWS FOR CALLS -/
def xb (b : Bool) : Int32 := if b then 1 else 0
theorem xb_t : xb true = 1 := rfl
theorem xb_f : xb false = 0 := rfl
theorem xb_0 {b : Bool} : xb b = 0 ↔ b = false := by cases b <;> simp [xb] <;> decide
theorem xb_n0 {b : Bool} : ¬ xb b = 0 ↔ b = true := by cases b <;> simp [xb] <;> decide
/-- the class: A its addresses, K its arrays' kinds; U, TH masks of blocks in use now and at the checkpoint, AG ages, Z taken, B the logs' next blocks, TK takings -/
def xc_W (A : Nat → Nat) (K : Nat → ClassId) (n : Nat) (U TH AG : Nat → Nat) (Z : Nat → Bool) (B : Nat → Nat) (TK : Nat) : va_W :=
  [(A 0, .inr (0, [.int (nI n), .ref (A 1), .ref (A 2), .ref (A 3), .ref (A 4), .ref (A 5), .int (nI TK)])), (A 1, .inl (K 1, n, .inl (fun j => nI (U j)))), (A 2, .inl (K 2, n, .inl (fun j => nI (TH j)))), (A 3, .inl (K 3, n, .inl (fun j => nI (AG j)))), (A 4, .inl (K 4, n, .inl (fun j => xb (Z j)))), (A 5, .inl (K 5, 6, .inl (fun j => nI (B j))))]
def xc_T (K : Nat → ClassId) : List (ClassId × FieldType) := [(K 1, .int), (K 2, .int), (K 3, .int), (K 4, .boolean), (K 5, .int)]
/-- the reference: th what was thrown, V, TV blocks in use now and at the checkpoint, TO touched, AG ages, OP, NX the logs' segments and places, TK takings -/
def xm_W (A : Nat → Nat) (K : Nat → ClassId) (th n : Nat) (V TV TO : Nat → Bool) (AG OP NX : Nat → Nat) (TK : Nat) : va_W :=
  [(A 0, .inr (1, [.int (nI th), .int (nI n), .ref (A 1), .ref (A 2), .ref (A 3), .ref (A 4), .ref (A 5), .ref (A 6), .int (nI TK)])), (A 1, .inl (K 1, 2048, .inl (fun j => xb (V j)))), (A 2, .inl (K 2, 2048, .inl (fun j => xb (TV j)))), (A 3, .inl (K 3, 128, .inl (fun j => xb (TO j)))), (A 4, .inl (K 4, 128, .inl (fun j => nI (AG j)))), (A 5, .inl (K 5, 6, .inl (fun j => nI (OP j)))), (A 6, .inl (K 6, 6, .inl (fun j => nI (NX j))))]
def xm_T (K : Nat → ClassId) : List (ClassId × FieldType) := [(K 1, .boolean), (K 2, .boolean), (K 3, .boolean), (K 4, .int), (K 5, .int), (K 6, .int)]
/-! functions set at a place -/
theorem xu_n (f : Nat → Nat) (k v : Nat) : upd (fun j => nI (f j)) k (nI v) = fun j => nI (va_up f k v j) := by
  funext j
  by_cases h : j = k <;> simp [upd, va_up, h]
theorem xu_b (f : Nat → Bool) (k : Nat) (v : Bool) : upd (fun j => xb (f j)) k (xb v) = fun j => xb (va_up f k v j) := by
  funext j
  by_cases h : j = k <;> simp [upd, va_up, h]
/-! starts and ends of methods -/
def xk_P (As : List Value) (D : va_G) (tys : List (ClassId × FieldType)) (ws : va_W) : Array Value → State → Prop := va_Pc As (fun U => va_P D xcl ws U.heap ∧ va_K D xcl tys U)
def xk_E (As : List Value) : Array Value → State → Prop := fun v _ => v = As.toArray
def xk_M (As : List Value) (D : va_G) (tys : List (ClassId × FieldType)) (ws : va_W) (sz : Nat) : Array Value → State → Prop := va_Pc As (fun U => U.heap.size = sz ∧ va_P D xcl ws U.heap ∧ va_K D xcl tys U ∧ va_D (fun _ => True) ws)
def xk_Q (post : Option Value → Prop) (D : va_G) (ws ws' : va_W) : Array Value → State → Outcome → State → Prop := fun _ st oc t => (∃ v, oc = .returned v ∧ post v) ∧ va_P D xcl ws' t.heap ∧ va_F (va_A ws st.heap.size) st t
section XK
variable {p : Program} {l : Launch} {e : Env} {R : Room} {s : State} {m : MethodId} {args : Array Value} {below : List Frame} {meth : Method} {c : Code} {H : Heap} {locs : List Loc} {cells slots : Nat} {Q : State → Prop}
variable {D : va_G} {tys : List (ClassId × FieldType)} {ws ws' : va_W} {As rest st0 : List Value} {b : Addr} {pc : Nat} {ls : Array Slot}
theorem xk_blindP : FrameBlind (xk_P As D tys ws) := fun a U g mk q => by obtain ⟨q0, qP, qK⟩ := q; exact ⟨q0, qP, va_K.moved (u := U) (U := U.calling g mk a) (Vm.Alike.refl U.vm) qK⟩
theorem xk_preP (hP : va_P D xcl ws H) (hK : va_K D xcl tys s) : PreS s H (xk_P As D tys ws) As := ⟨xk_blindP, fun U hU hW => ⟨rfl, by rw [hU]; exact hP, va_K.moved hW.alike hK⟩⟩
theorem xk_preV {C : String} {T : u_T} {N ci : Nat} {fs : List Value} (hP : va_P D xcl ws H) (hK : va_K D xcl tys s) (he : ws[0]? = some (b, .inr (ci, fs))) (hc : xcl[ci]? = some (C, T, N)) : PreV s H C b (xk_P (.ref b :: As) D tys ws) As := ⟨xk_blindP, va_recv (q := (C, T, N)) hK hP hc he, (xk_preP (As := .ref b :: As) hP hK).2⟩
theorem xk_preE : PreS s H (xk_E As) As := ⟨fun _ _ _ _ q => q, fun _ _ _ => rfl⟩
theorem xk_blindM {sz : Nat} : FrameBlind (xk_M As D tys ws sz) := fun a U g mk q => by obtain ⟨q0, q1, qP, qK, qD⟩ := q; exact ⟨q0, q1, qP, va_K.moved (u := U) (U := U.calling g mk a) (Vm.Alike.refl U.vm) qK, qD⟩
theorem xk_preM {A0 : Nat → Prop} (hP : va_P D xcl ws H) (hK : va_K D xcl tys s) (hD : va_D A0 ws) : PreS s H (xk_M As D tys ws H.size) As := ⟨xk_blindM, fun U hU hW => ⟨rfl, by rw [hU], by rw [hU]; exact hP, va_K.moved hW.alike hK, hD.weaken (fun _ _ _ _ => trivial)⟩⟩
theorem xk_preMV {A0 : Nat → Prop} {C : String} {T : u_T} {N ci : Nat} {fs : List Value} (hP : va_P D xcl ws H) (hK : va_K D xcl tys s) (hD : va_D A0 ws) (he : ws[0]? = some (b, .inr (ci, fs))) (hc : xcl[ci]? = some (C, T, N)) : PreV s H C b (xk_M (.ref b :: As) D tys ws H.size) As := ⟨xk_blindM, va_recv (q := (C, T, N)) hK hP hc he, (xk_preM (As := .ref b :: As) hP hK hD).2⟩
/-- a world's addresses, set apart already, with other contents -/
theorem xD_same {A0 : Nat → Prop} (h : ws.map (·.1) = ws'.map (·.1)) (hD : va_D A0 ws) : va_D A0 ws' := by
  have key : ∀ (k : Nat) (q : Nat × va_E), ws'[k]? = some q → ∃ e0, ws[k]? = some (q.1, e0) := by
    intro k q hq
    have h1 : (ws'.map (·.1))[k]? = some q.1 := by rw [List.getElem?_map, hq]; rfl
    rw [← h, List.getElem?_map] at h1
    cases hw : ws[k]? with
    | none => rw [hw] at h1; cases h1
    | some x => rw [hw] at h1; obtain ⟨x1, x2⟩ := x; cases h1; exact ⟨x2, rfl⟩
  refine ⟨fun i j x y hx hy hxy => ?_, fun k q hq => ?_⟩
  · obtain ⟨e1, h1⟩ := key i x hx
    obtain ⟨e2, h2⟩ := key j y hy
    exact hD.1 i j _ _ h1 h2 hxy
  · obtain ⟨e1, h1⟩ := key k q hq
    exact hD.2 k (q.1, e1) h1
theorem xD_A {A0 : Nat → Prop} {H0 : Heap} (hD : va_D A0 ws) (hS : va_S A0 H0 H locs) (hA : ∀ q, H0.size ≤ q → A0 q) : ∀ q, va_A ws H.size q → A0 q := by
  rintro q (⟨k, e1, h⟩ | h)
  · exact hD.2 k _ h
  · exact hA q (Nat.le_trans hS.1 h)
variable {y : MethodName} {bytes cc : ByteArray} {maxL nL n index : Nat} {ret : Option FieldType} {rm : Room} {Pc : Array Value → State → Prop} {own C : String}
/-- a reader, called on an object -/
theorem xr_V {post : Int32 → Prop} (S : CallFix p m c cc nL s args xT own) (hM : Met l y (xw y bytes maxL ret) rm Pc (vp_Si post) 0 0 (fun _ => False)) (hG : GoodIn xT (wsV own index C y (xw y bytes maxL ret))) (hrm : rm.cells = 0 ∧ rm.slots = 0)
    (hd : y.cls = C ∧ y.cls ≠ "java/lang/invoke/MethodHandle" ∧ y.cls ≠ "java/lang/invoke/VarHandle" ∧ (parseMethodDescriptor y.desc).map (fun d => d.parameters.length) = some n) (hR : rm.frames + 1 ≤ R.frames ∧ 8 + (maxL + 11) + rm.locals ≤ R.locals) (hp : PreV s H C b Pc As)
    (hn : As.length = n) (hl : ls.size = nL) (hst : st0 = As.reverse ++ .ref b :: rest) (hW : (rest.map fun v => v.category).sum ≤ 8) (hdg : decode cc pc = .ok (.invokevirtual index, 3)) (hf : cells ≤ R.cells ∧ slots ≤ R.slots)
    (kk : ∀ r : Int32, post r → W p l e R s m args below meth c H locs cells slots Q (F0 m (pc + 3) ls (.int r :: rest))) : W p l e R s m args below meth c H locs cells slots Q (F0 m pc ls st0) :=
  vp_callSi (W.runV S hM (cwV n S.2.2.2.2 hG rfl hrm.1 hrm.2 hd hR) hp rfl hn hl hst (lv_room hW) hdg hf) kk
theorem xr_S {post : Int32 → Prop} (S : CallFix p m c cc nL s args xT own) (hM : Met l y (xw y bytes maxL ret) rm Pc (vp_Si post) 0 0 (fun _ => False)) (hG : GoodIn xT (va_wsS own index y (xw y bytes maxL ret))) (hrm : rm.cells = 0 ∧ rm.slots = 0)
    (hd : y.cls ≠ "java/lang/invoke/MethodHandle" ∧ y.cls ≠ "java/lang/invoke/VarHandle" ∧ (parseMethodDescriptor y.desc).map (fun d => d.parameters.length) = some n) (hR : rm.frames + 1 ≤ R.frames ∧ 8 + (maxL + 11) + rm.locals ≤ R.locals) (hp : PreS s H Pc As)
    (hn : As.length = n) (hl : ls.size = nL) (hst : st0 = As.reverse ++ rest) (hW : (rest.map fun v => v.category).sum ≤ 8) (hdg : decode cc pc = .ok (.invokestatic index, 3)) (hf : cells ≤ R.cells ∧ slots ≤ R.slots)
    (kk : ∀ r : Int32, post r → W p l e R s m args below meth c H locs cells slots Q (F0 m (pc + 3) ls (.int r :: rest))) : W p l e R s m args below meth c H locs cells slots Q (F0 m pc ls st0) :=
  vp_callSi (W.runS S hM (va_cwS n S.2.2.2.2 hG rfl hrm.1 hrm.2 hd hR) hp rfl hn hl hst (lv_room hW) hdg hf) kk
/-- behind a call that changes the callee's world ws to ws' -/
theorem xr_go {post : Option Value → Prop} {A0 : Nat → Prop} {H0 : Heap} {mc ms : Nat} {a : Array Value} (hr : va_Run p l e R s m args below meth c H locs cells slots mc ms (F0 m pc ls st0) rest (xk_Q post D ws ws' a) (va_A ws H.size)) (hS : va_S A0 H0 H locs) (hF : ∀ q, va_A ws H.size q → A0 q)
    (kk : ∀ (v : Option Value) (H1 : Heap) (locs1 : List Loc), post v → va_P D xcl ws' H1 → H.size ≤ H1.size → (∀ q : Nat, q < H.size → ¬ va_A ws H.size q → H1[q]? = H[q]?) → va_S A0 H0 H1 locs1 → W p l e R s m args below meth c H1 locs1 (cells + mc) (slots + ms) Q (F0 m (pc + 3) ls (v.toList ++ rest))) : W p l e R s m args below meth c H locs cells slots Q (F0 m pc ls st0) := by
  intro T hT X
  obtain ⟨v, st₀, t, T', L, h0, X', hL, e1, e2, ⟨⟨v', hv, hp⟩, hP, hz, hk⟩, st⟩ := hr T hT X
  cases hv
  rw [h0] at hz hk
  rw [← e1] at hP hz hk
  obtain ⟨t2, a1, b1⟩ := kk v T'.heap (locs ++ L) hp hP hz hk
    ⟨Nat.le_trans hS.1 hz, fun q h1 h2 => by rw [hk q (Nat.lt_of_lt_of_le h1 hS.1) (fun z => h2 (hF q z))]; exact hS.2.1 q h1 h2, fun q hq => by
      rcases List.mem_append.mp hq with h | h
      · exact hS.2.2 q h
      · exact hF _ (hL q h)⟩ T' rfl X'
  exact ⟨t2, st t2 a1, b1⟩
/-- a method of the object that changes it, called by another of its methods: the whole world is the callee's -/
theorem xr_M {post : Option Value → Prop} {A0 : Nat → Prop} {H0 : Heap} {T : u_T} {N ci : Nat} {fs : List Value} (S : CallFix p m c cc nL s args xT own) (hM : Met l y (xw y bytes maxL ret) rm (xk_M (.ref b :: As) D tys ws H.size) (xk_Q post D ws ws') 0 0 (va_A ws H.size)) (hG : GoodIn xT (wsV own index C y (xw y bytes maxL ret))) (hrm : rm.cells = 0 ∧ rm.slots = 0)
    (hd : y.cls = C ∧ y.cls ≠ "java/lang/invoke/MethodHandle" ∧ y.cls ≠ "java/lang/invoke/VarHandle" ∧ (parseMethodDescriptor y.desc).map (fun d => d.parameters.length) = some n) (hR : rm.frames + 1 ≤ R.frames ∧ 8 + (maxL + 11) + rm.locals ≤ R.locals)
    (hP : va_P D xcl ws H) (hK : va_K D xcl tys s) (hD : va_D A0 ws) (hS : va_S A0 H0 H locs) (hA : ∀ q, H0.size ≤ q → A0 q) (he : ws[0]? = some (b, .inr (ci, fs))) (hc : xcl[ci]? = some (C, T, N)) (hsame : ws.map (·.1) = ws'.map (·.1))
    (hn : As.length = n) (hl : ls.size = nL) (hst : st0 = As.reverse ++ .ref b :: rest) (hW : (rest.map fun v => v.category).sum ≤ 8) (hdg : decode cc pc = .ok (.invokevirtual index, 3)) (hf : cells ≤ R.cells ∧ slots ≤ R.slots)
    (kk : ∀ (v : Option Value) (H1 : Heap) (locs1 : List Loc), post v → va_P D xcl ws' H1 → va_D A0 ws' → va_S A0 H0 H1 locs1 → W p l e R s m args below meth c H1 locs1 cells slots Q (F0 m (pc + 3) ls (v.toList ++ rest))) : W p l e R s m args below meth c H locs cells slots Q (F0 m pc ls st0) :=
  xr_go (va_runV S hM (cwV n S.2.2.2.2 hG rfl hrm.1 hrm.2 hd hR) (xk_preMV hP hK hD he hc) rfl hn hl hst (lv_room hW) hdg hf) hS (xD_A hD hS hA) (fun v H1 locs1 h1 h2 _ _ h5 => kk v H1 locs1 h1 h2 (xD_same hsame hD) h5)
end XK
end
section
/-! PURE: numbers, blocks, least free segments, counts -/
theorem xp_96 : (96 : Int32) = nI 96 := rfl
theorem xp_ix (x : Int32) {n : Nat} (hn : n < 2 ^ 31) : (∃ j : Nat, j < n ∧ x = nI j) ∨ ((x < 0 ∨ nI n ≤ x) ∧ ¬ ∃ j : Nat, j < n ∧ x = nI j) := by
  rcases pk_ix x hn with h | h | ⟨j, hj, rfl⟩
  · refine Or.inr ⟨Or.inl h, ?_⟩
    rintro ⟨j, hj, rfl⟩
    exact nI_pos (by omega) h
  · refine Or.inr ⟨Or.inr h, ?_⟩
    rintro ⟨j, hj, rfl⟩
    exact nI_ge hj hn h
  · exact Or.inl ⟨j, hj, rfl⟩
theorem xp_blk (x : Int32) {n : Nat} (hn : n ≤ 128) : (∃ j k : Nat, j < n ∧ k < 16 ∧ x = nI (96 + 16 * j + k)) ∨ ((x < 96 ∨ nI (96 + 16 * n) ≤ x) ∧ ¬ ∃ j k : Nat, j < n ∧ k < 16 ∧ x = nI (96 + 16 * j + k)) := by
  by_cases h1 : x < 96
  · refine Or.inr ⟨Or.inl h1, ?_⟩
    rintro ⟨j, k, hj, hk, rfl⟩
    rw [xp_96] at h1
    exact nI_nlt (by omega) (by omega) h1
  · by_cases h2 : nI (96 + 16 * n) ≤ x
    · refine Or.inr ⟨Or.inr h2, ?_⟩
      rintro ⟨j, k, hj, hk, rfl⟩
      exact nI_ge (by omega) (by omega) h2
    · have h0 : ¬ x < 0 := fun h => h1 (by
        rw [Int32.lt_iff_toInt_lt] at h ⊢
        have e0 : (0 : Int32).toInt = 0 := by decide
        have e1 : (96 : Int32).toInt = 96 := by decide
        omega)
      obtain ⟨t, ht, rfl⟩ := nI_of h0
      have g1 : 96 ≤ t := by
        rcases Nat.lt_or_ge t 96 with q | q
        · exact absurd (by rw [xp_96]; exact nI_lt q (by omega)) h1
        · exact q
      have g2 : t < 96 + 16 * n := by
        rcases Nat.lt_or_ge t (96 + 16 * n) with q | q
        · exact q
        · exact absurd (nI_le q ht) h2
      exact Or.inl ⟨(t - 96) / 16, (t - 96) % 16, by omega, by omega, by congr 1; omega⟩
end
section
/-! ARRAYS AT A PLACE THAT IS A NUMBER -/
section XA
variable {p : Program} {l : Launch} {e : Env} {R : Room} {s : State} {m : MethodId} {args : Array Value} {below : List Frame} {meth : Method} {c : Code} {H : Heap} {locs : List Loc} {cells slots : Nat} {Q : State → Prop}
variable {cc : ByteArray} {pc : Nat} {ls : Array Slot} {rest : List Value} {D : va_G} {cl : List vw_C} {A : Nat → Prop} {a : Nat} {tys : List (ClassId × FieldType)} {ws : va_W} {H0 : Heap}
theorem xa_ild (hexec : p.tables.exec = Jvm.exec) (hb : c.code = cc) (hK : va_K D cl tys s) (hP : va_P D cl ws H) (q0 t0 : Nat) {cA : ClassId} {n j : Nat} {f : Nat → Int32} {v : Int32} (ha : ws[q0]? = some (a, .inl (cA, n, .inl f))) (ht : tys[t0]? = some (cA, .int)) (hj : j < n) (hn : n < 2 ^ 31) (hv : f j = v) (hdg : decode cc pc = .ok (.iaload, 1))
    (kk : W p l e R s m args below meth c H locs cells slots Q (F0 m (pc + 1) ls (.int v :: rest))) : W p l e R s m args below meth c H locs cells slots Q (F0 m pc ls (.int (nI j) :: .ref a :: rest)) := by
  refine va_iald hexec hb hK hP q0 t0 ha ht (vp_in_nI hj hn) hdg ?_
  rw [nI_clamp (by omega), hv]
  exact kk
theorem xa_zld (hexec : p.tables.exec = Jvm.exec) (hb : c.code = cc) (hK : va_K D cl tys s) (hP : va_P D cl ws H) (q0 t0 : Nat) {cA : ClassId} {n j : Nat} {f : Nat → Int32} {v : Int32} (ha : ws[q0]? = some (a, .inl (cA, n, .inl f))) (ht : tys[t0]? = some (cA, .boolean)) (hj : j < n) (hn : n < 2 ^ 31) (hv : f j = v) (hdg : decode cc pc = .ok (.baload, 1))
    (kk : W p l e R s m args below meth c H locs cells slots Q (F0 m (pc + 1) ls (.int v :: rest))) : W p l e R s m args below meth c H locs cells slots Q (F0 m pc ls (.int (nI j) :: .ref a :: rest)) := by
  refine va_zald hexec hb hK hP q0 t0 ha ht (vp_in_nI hj hn) hdg ?_
  rw [nI_clamp (by omega), hv]
  exact kk
theorem xa_ist (hexec : p.tables.exec = Jvm.exec) (hb : c.code = cc) (hK : va_K D cl tys s) (hP : va_P D cl ws H) (hD : va_D A ws) (hS : va_S A H0 H locs) (q0 t0 : Nat) {cA : ClassId} {n j : Nat} {f f' : Nat → Int32} {x : Int32} (ha : ws[q0]? = some (a, .inl (cA, n, .inl f))) (ht : tys[t0]? = some (cA, .int)) (hj : j < n) (hn : n < 2 ^ 31) (hf : upd f j x = f') (hdg : decode cc pc = .ok (.iastore, 1))
    (kk : ∀ (H1 : Heap) (locs1 : List Loc), va_P D cl (ws.set q0 (a, .inl (cA, n, .inl f'))) H1 → va_D A (ws.set q0 (a, .inl (cA, n, .inl f'))) → va_S A H0 H1 locs1 → W p l e R s m args below meth c H1 locs1 cells slots Q (F0 m (pc + 1) ls rest)) : W p l e R s m args below meth c H locs cells slots Q (F0 m pc ls (.int x :: .int (nI j) :: .ref a :: rest)) := by
  refine va_iast hexec hb hK hP hD hS q0 t0 ha ht (vp_in_nI hj hn) hdg ?_
  rw [nI_clamp (by omega), hf]
  exact kk
theorem xa_zst (hexec : p.tables.exec = Jvm.exec) (hb : c.code = cc) (hK : va_K D cl tys s) (hP : va_P D cl ws H) (hD : va_D A ws) (hS : va_S A H0 H locs) (q0 t0 : Nat) {cA : ClassId} {n j : Nat} {f f' : Nat → Int32} {x : Int32} (ha : ws[q0]? = some (a, .inl (cA, n, .inl f))) (ht : tys[t0]? = some (cA, .boolean)) (hj : j < n) (hn : n < 2 ^ 31) (hf : upd f j (vp_nar .boolean x) = f') (hdg : decode cc pc = .ok (.bastore, 1))
    (kk : ∀ (H1 : Heap) (locs1 : List Loc), va_P D cl (ws.set q0 (a, .inl (cA, n, .inl f'))) H1 → va_D A (ws.set q0 (a, .inl (cA, n, .inl f'))) → va_S A H0 H1 locs1 → W p l e R s m args below meth c H1 locs1 cells slots Q (F0 m (pc + 1) ls rest)) : W p l e R s m args below meth c H locs cells slots Q (F0 m pc ls (.int x :: .int (nI j) :: .ref a :: rest)) := by
  refine va_zast hexec hb hK hP hD hS q0 t0 ha ht (vp_in_nI hj hn) hdg ?_
  rw [nI_clamp (by omega), hf]
  exact kk
/-- the top of the stack by another name -/
theorem xa_top {x y : Int32} (h : x = y) (kk : W p l e R s m args below meth c H locs cells slots Q (F0 m pc ls (.int y :: rest))) : W p l e R s m args below meth c H locs cells slots Q (F0 m pc ls (.int x :: rest)) := by rw [h]; exact kk
end XA
theorem xn_b (b : Bool) : vp_nar .boolean (xb b) = xb b := by cases b <;> decide
theorem xn_b' (b : Bool) : narrow .boolean (.int (xb b)) = .int (xb b) := by cases b <;> decide
theorem xu_z (f : Nat → Bool) (k : Nat) (v : Bool) : upd (fun j => xb (f j)) k (vp_nar .boolean (xb v)) = fun j => xb (va_up f k v j) := by rw [xn_b, xu_b]
end
section
theorem xp_bit : ∀ k, k < 16 → (1 : Int32) <<< (nI k &&& 31) = nI (2 ^ k) := by decide +kernel
set_option maxHeartbeats 4000000 in
set_option maxRecDepth 100000 in
/-- isLog -/
theorem c_isLog (l : Launch) (x : Int32) : Met l yX0_isLog (xw yX0_isLog cX0_isLog 1 (some .boolean)) ({ frames := 0, cells := 0, slots := 0, locals := 0 }) (xk_E [.int x]) (vp_Si (fun r => (∃ j : Nat, j < 6 ∧ x = nI j ∧ r = 1) ∨ ((¬ ∃ j : Nat, j < 6 ∧ x = nI j) ∧ r = 0))) 0 0 (fun _ => False) := by
  refine Met.ofW (cc := cX0_isLog) (maxL := 1) (ret := (some .boolean)) (by decide) rfl ?_
  intro p e s m args below meth c s₁ B0 hml hv
  obtain rfl := hv
  have hx := B0.exec
  have hb := B0.bytes
  have hr := B0.returns
  have ht : ∀ w ∈ xT, w.before _ s = true := fun w h => atoms_spec (ws := xw yX0_isLog cX0_isLog 1 (some .boolean)) B0.pre w (List.mem_cons_of_mem _ h)
  have hown : s.vm.findClass RX0 = some m.cls := findClass_of_methodNamed B0.named
  have hlocks := B0.notSynchronized
  have hl := lv_entry ([.int x]) (n := 1) (Nat.le_of_ble_eq_true rfl)
  rw [lg_entry_eq]
  generalize (lg_sl ([.int x]) ++ List.replicate (1 - (lg_sl ([.int x])).length) Slot.unset).toArray = ls at hl ⊢
  have hl : lv_has ls 1 [(0, .int x)] := hl
  refine lv_iload_n hx hb dX0_isLog_0 rfl (lv_at hl 0 rfl) ?_
  refine lv_if_lt (tgt := 14) hx hb dX0_isLog_1 (by decide) (fun h1 => ?_) (fun h1 => ?_)
  · refine lv_iconst (v := 0) hx hb dX0_isLog_14 (by decide) ?_
    exact W.zret (v := 0) (ty := .boolean) hx hb hr (by decide) (fun t ht hW => ⟨0, rfl, Or.inr ⟨fun ⟨j, hj, he⟩ => nI_pos (n := j) (by omega) (by rw [← he]; exact h1), rfl⟩, ht⟩) (fun _ h => by cases h) dX0_isLog_15
  · refine lv_iload_n hx hb dX0_isLog_4 rfl (lv_at hl 0 rfl) ?_
    refine lv_bipush (v := 6) hx hb dX0_isLog_5 (by decide) ?_
    refine lv_icmp_ge (tgt := 14) hx hb dX0_isLog_7 (by decide) (fun h2 => ?_) (fun h2 => ?_)
    · refine lv_iconst (v := 0) hx hb dX0_isLog_14 (by decide) ?_
      exact W.zret (v := 0) (ty := .boolean) hx hb hr (by decide) (fun t ht hW => ⟨0, rfl, Or.inr ⟨fun ⟨j, hj, he⟩ => nI_ge hj (by decide) (by rw [← he]; exact h2), rfl⟩, ht⟩) (fun _ h => by cases h) dX0_isLog_15
    · rcases pk_ix x (n := 6) (by decide) with q | q | ⟨j, hj, rfl⟩
      · exact absurd q h1
      · exact absurd q h2
      refine lv_iconst (v := 1) hx hb dX0_isLog_10 (by decide) ?_
      refine lv_goto (tgt := 15) hx hb dX0_isLog_11 (by decide) ?_
      exact W.zret (v := 1) (ty := .boolean) hx hb hr (by decide) (fun t ht hW => ⟨1, rfl, Or.inl ⟨j, hj, rfl, rfl⟩, ht⟩) (fun _ h => by cases h) dX0_isLog_15

set_option maxHeartbeats 4000000 in
set_option maxRecDepth 100000 in
/-- isSegment -/
theorem c_isSegment (l : Launch) (D : va_G) (A : Nat → Nat) (K : Nat → ClassId) (n : Nat) (U TH AG : Nat → Nat) (Z : Nat → Bool) (B : Nat → Nat) (TK : Nat) (x : Int32) (hn : n ≤ 128) : Met l yX0_isSegment (xw yX0_isSegment cX0_isSegment 2 (some .boolean)) ({ frames := 0, cells := 0, slots := 0, locals := 0 }) (xk_P [.ref (A 0), .int x] D (xc_T K) (xc_W A K n U TH AG Z B TK)) (vp_Si (fun r => (∃ j : Nat, j < n ∧ x = nI j ∧ r = 1) ∨ ((¬ ∃ j : Nat, j < n ∧ x = nI j) ∧ r = 0))) 0 0 (fun _ => False) := by
  refine Met.ofW (cc := cX0_isSegment) (maxL := 2) (ret := (some .boolean)) (by decide) rfl ?_
  intro p e s m args below meth c s₁ B0 hml hv
  obtain ⟨rfl, hP, hK⟩ := hv
  have hx := B0.exec
  have hb := B0.bytes
  have hr := B0.returns
  have ht : ∀ w ∈ xT, w.before _ s = true := fun w h => atoms_spec (ws := xw yX0_isSegment cX0_isSegment 2 (some .boolean)) B0.pre w (List.mem_cons_of_mem _ h)
  have hown : s.vm.findClass RX0 = some m.cls := findClass_of_methodNamed B0.named
  have hlocks := B0.notSynchronized
  have hl := lv_entry ([.ref (A 0), .int x]) (n := 2) (Nat.le_of_ble_eq_true rfl)
  rw [lg_entry_eq]
  generalize (lg_sl ([.ref (A 0), .int x]) ++ List.replicate (2 - (lg_sl ([.ref (A 0), .int x])).length) Slot.unset).toArray = ls at hl ⊢
  have hl : lv_has ls 2 [(0, .ref (A 0)), (1, .int x)] := hl
  refine lv_iload_n hx hb dX0_isSegment_0 rfl (lv_at hl 1 rfl) ?_
  refine lv_if_lt (tgt := 16) hx hb dX0_isSegment_1 (by decide) (fun h1 => ?_) (fun h1 => ?_)
  · refine lv_iconst (v := 0) hx hb dX0_isSegment_16 (by decide) ?_
    exact W.zret (v := 0) (ty := .boolean) hx hb hr (by decide) (fun t ht hW => ⟨0, rfl, Or.inr ⟨fun ⟨j, hj, he⟩ => nI_pos (n := j) (by omega) (by rw [← he]; exact h1), rfl⟩, ht⟩) (fun _ h => by cases h) dX0_isSegment_17
  · refine lv_iload_n hx hb dX0_isSegment_4 rfl (lv_at hl 1 rfl) ?_
    refine lv_aload_n hx hb dX0_isSegment_5 rfl (lv_at hl 0 rfl) ?_
    refine va_get (D := D) (ci := 0) (v := .int (nI n)) (C := RX0) (T := TX0) (N := 7) hx hb ht xin_X0 hown hK hP 0 rfl rfl 0 (by decide) (ht _ kfl_RX0_9) (fun _ h9 => h9) rfl dX0_isSegment_6 ?_
    refine lv_icmp_ge (tgt := 16) hx hb dX0_isSegment_9 (by decide) (fun h2 => ?_) (fun h2 => ?_)
    · refine lv_iconst (v := 0) hx hb dX0_isSegment_16 (by decide) ?_
      exact W.zret (v := 0) (ty := .boolean) hx hb hr (by decide) (fun t ht hW => ⟨0, rfl, Or.inr ⟨fun ⟨j, hj, he⟩ => nI_ge hj (by omega) (by rw [← he]; exact h2), rfl⟩, ht⟩) (fun _ h => by cases h) dX0_isSegment_17
    · rcases pk_ix x (n := n) (by omega) with q | q | ⟨j, hj, rfl⟩
      · exact absurd q h1
      · exact absurd q h2
      refine lv_iconst (v := 1) hx hb dX0_isSegment_12 (by decide) ?_
      refine lv_goto (tgt := 17) hx hb dX0_isSegment_13 (by decide) ?_
      exact W.zret (v := 1) (ty := .boolean) hx hb hr (by decide) (fun t ht hW => ⟨1, rfl, Or.inl ⟨j, hj, rfl, rfl⟩, ht⟩) (fun _ h => by cases h) dX0_isSegment_17

set_option maxHeartbeats 4000000 in
set_option maxRecDepth 100000 in
/-- firstBlockOf -/
theorem c_firstBlockOf (l : Launch) (j : Nat) : Met l yX0_firstBlockOf (xw yX0_firstBlockOf cX0_firstBlockOf 1 (some .int)) ({ frames := 0, cells := 0, slots := 0, locals := 0 }) (xk_E [.int (nI j)]) (vp_Si (fun r => r = nI (96 + 16 * j))) 0 0 (fun _ => False) := by
  refine Met.ofW (cc := cX0_firstBlockOf) (maxL := 1) (ret := (some .int)) (by decide) rfl ?_
  intro p e s m args below meth c s₁ B0 hml hv
  obtain rfl := hv
  have hx := B0.exec
  have hb := B0.bytes
  have hr := B0.returns
  have ht : ∀ w ∈ xT, w.before _ s = true := fun w h => atoms_spec (ws := xw yX0_firstBlockOf cX0_firstBlockOf 1 (some .int)) B0.pre w (List.mem_cons_of_mem _ h)
  have hown : s.vm.findClass RX0 = some m.cls := findClass_of_methodNamed B0.named
  have hlocks := B0.notSynchronized
  have hl := lv_entry ([.int (nI j)]) (n := 1) (Nat.le_of_ble_eq_true rfl)
  rw [lg_entry_eq]
  generalize (lg_sl ([.int (nI j)]) ++ List.replicate (1 - (lg_sl ([.int (nI j)])).length) Slot.unset).toArray = ls at hl ⊢
  have hl : lv_has ls 1 [(0, .int (nI j))] := hl
  refine lv_bipush (v := 96) hx hb dX0_firstBlockOf_0 (by decide) ?_
  refine lv_bipush (v := 16) hx hb dX0_firstBlockOf_2 (by decide) ?_
  refine lv_iload_n hx hb dX0_firstBlockOf_4 rfl (lv_at hl 0 rfl) ?_
  refine lv_imul hx hb dX0_firstBlockOf_5 ?_
  refine lv_iadd hx hb dX0_firstBlockOf_6 ?_
  refine xa_top (y := nI (96 + 16 * j)) (by rw [show (16 : Int32) = nI 16 from rfl, xp_96, pk_mul, nI_add]) ?_
  exact W.iret (v := nI (96 + 16 * j)) hx hb hr (fun t ht hW => ⟨_, rfl, rfl, ht⟩) (fun _ h => by cases h) dX0_firstBlockOf_7

set_option maxHeartbeats 4000000 in
set_option maxRecDepth 100000 in
/-- placeOf -/
theorem c_placeOf (l : Launch) (j k : Nat) (hj : j < 128) (hk : k < 16) : Met l yX0_placeOf (xw yX0_placeOf cX0_placeOf 1 (some .int)) ({ frames := 0, cells := 0, slots := 0, locals := 0 }) (xk_E [.int (nI (96 + 16 * j + k))]) (vp_Si (fun r => r = nI k)) 0 0 (fun _ => False) := by
  refine Met.ofW (cc := cX0_placeOf) (maxL := 1) (ret := (some .int)) (by decide) rfl ?_
  intro p e s m args below meth c s₁ B0 hml hv
  obtain rfl := hv
  have hx := B0.exec
  have hb := B0.bytes
  have hr := B0.returns
  have ht : ∀ w ∈ xT, w.before _ s = true := fun w h => atoms_spec (ws := xw yX0_placeOf cX0_placeOf 1 (some .int)) B0.pre w (List.mem_cons_of_mem _ h)
  have hown : s.vm.findClass RX0 = some m.cls := findClass_of_methodNamed B0.named
  have hlocks := B0.notSynchronized
  have hl := lv_entry ([.int (nI (96 + 16 * j + k))]) (n := 1) (Nat.le_of_ble_eq_true rfl)
  rw [lg_entry_eq]
  generalize (lg_sl ([.int (nI (96 + 16 * j + k))]) ++ List.replicate (1 - (lg_sl ([.int (nI (96 + 16 * j + k))])).length) Slot.unset).toArray = ls at hl ⊢
  have hl : lv_has ls 1 [(0, .int (nI (96 + 16 * j + k)))] := hl
  refine lv_iload_n hx hb dX0_placeOf_0 rfl (lv_at hl 0 rfl) ?_
  refine lv_bipush (v := 96) hx hb dX0_placeOf_1 (by decide) ?_
  refine lv_isub hx hb dX0_placeOf_3 ?_
  refine lv_bipush (v := 16) hx hb dX0_placeOf_4 (by decide) ?_
  refine lv_irem hx hb dX0_placeOf_6 (by decide) ?_
  refine xa_top (y := nI k) (by rw [xp_96, show (16 : Int32) = nI 16 from rfl, pk_sub (by omega), pk_rem (by omega) (by decide) (by decide)]; congr 1; omega) ?_
  exact W.iret (v := nI k) hx hb hr (fun t ht hW => ⟨nI k, rfl, rfl, ht⟩) (fun _ h => by cases h) dX0_placeOf_7

set_option maxHeartbeats 4000000 in
set_option maxRecDepth 100000 in
/-- bitOf -/
theorem c_bitOf (l : Launch) (j k : Nat) (hj : j < 128) (hk : k < 16) : Met l yX0_bitOf (xw yX0_bitOf cX0_bitOf 1 (some .int)) ({ frames := 1, cells := 0, slots := 0, locals := 20 }) (xk_E [.int (nI (96 + 16 * j + k))]) (vp_Si (fun r => r = nI (2 ^ k))) 0 0 (fun _ => False) := by
  refine Met.ofW (cc := cX0_bitOf) (maxL := 1) (ret := (some .int)) (by decide) rfl ?_
  intro p e s m args below meth c s₁ B0 hml hv
  obtain rfl := hv
  have hx := B0.exec
  have hb := B0.bytes
  have hr := B0.returns
  have ht : ∀ w ∈ xT, w.before _ s = true := fun w h => atoms_spec (ws := xw yX0_bitOf cX0_bitOf 1 (some .int)) B0.pre w (List.mem_cons_of_mem _ h)
  have hown : s.vm.findClass RX0 = some m.cls := findClass_of_methodNamed B0.named
  have hlocks := B0.notSynchronized
  have hl := lv_entry ([.int (nI (96 + 16 * j + k))]) (n := 1) (Nat.le_of_ble_eq_true rfl)
  rw [lg_entry_eq]
  generalize (lg_sl ([.int (nI (96 + 16 * j + k))]) ++ List.replicate (1 - (lg_sl ([.int (nI (96 + 16 * j + k))])).length) Slot.unset).toArray = ls at hl ⊢
  have hl : lv_has ls 1 [(0, .int (nI (96 + 16 * j + k)))] := hl
  refine lv_iconst (v := 1) hx hb dX0_bitOf_0 (by decide) ?_
  refine lv_iload_n hx hb dX0_bitOf_1 rfl (lv_at hl 0 rfl) ?_
  refine xr_S (n := 1) (As := [.int (nI (96 + 16 * j + k))]) (rest := [.int 1]) ⟨hx, hb, hml, hown, ht⟩ (c_placeOf l j k hj hk) (xg_S kml_RX0_100 kst_yX0_placeOf kin_RX0 kco_yX0_placeOf) ⟨rfl, rfl⟩ (by decide +kernel) ⟨Nat.le_of_ble_eq_true rfl, Nat.le_of_ble_eq_true rfl⟩ xk_preE rfl hl.1 rfl (Nat.le_of_ble_eq_true rfl) dX0_bitOf_2 ⟨Nat.zero_le _, Nat.zero_le _⟩ (fun r1 e1 => ?_)
  subst e1
  refine lv_ishl hx hb dX0_bitOf_5 ?_
  refine xa_top (y := nI (2 ^ k)) (xp_bit k hk) ?_
  exact W.iret (v := nI (2 ^ k)) hx hb hr (fun t ht hW => ⟨nI (2 ^ k), rfl, rfl, ht⟩) (fun _ h => by cases h) dX0_bitOf_6

set_option maxHeartbeats 4000000 in
set_option maxRecDepth 100000 in
/-- segmentOf -/
theorem c_segmentOf (l : Launch) (D : va_G) (A : Nat → Nat) (K : Nat → ClassId) (n : Nat) (U TH AG : Nat → Nat) (Z : Nat → Bool) (B : Nat → Nat) (TK : Nat) (x : Int32) (hn : n ≤ 128) : Met l yX0_segmentOf (xw yX0_segmentOf cX0_segmentOf 2 (some .int)) ({ frames := 1, cells := 0, slots := 0, locals := 20 }) (xk_P [.ref (A 0), .int x] D (xc_T K) (xc_W A K n U TH AG Z B TK)) (vp_Si (fun r => (∃ j k : Nat, j < n ∧ k < 16 ∧ x = nI (96 + 16 * j + k) ∧ r = nI j) ∨ ((¬ ∃ j k : Nat, j < n ∧ k < 16 ∧ x = nI (96 + 16 * j + k)) ∧ r = -1))) 0 0 (fun _ => False) := by
  refine Met.ofW (cc := cX0_segmentOf) (maxL := 2) (ret := (some .int)) (by decide) rfl ?_
  intro p e s m args below meth c s₁ B0 hml hv
  obtain ⟨rfl, hP, hK⟩ := hv
  have hx := B0.exec
  have hb := B0.bytes
  have hr := B0.returns
  have ht : ∀ w ∈ xT, w.before _ s = true := fun w h => atoms_spec (ws := xw yX0_segmentOf cX0_segmentOf 2 (some .int)) B0.pre w (List.mem_cons_of_mem _ h)
  have hown : s.vm.findClass RX0 = some m.cls := findClass_of_methodNamed B0.named
  have hlocks := B0.notSynchronized
  have hl := lv_entry ([.ref (A 0), .int x]) (n := 2) (Nat.le_of_ble_eq_true rfl)
  rw [lg_entry_eq]
  generalize (lg_sl ([.ref (A 0), .int x]) ++ List.replicate (2 - (lg_sl ([.ref (A 0), .int x])).length) Slot.unset).toArray = ls at hl ⊢
  have hl : lv_has ls 2 [(0, .ref (A 0)), (1, .int x)] := hl
  have hq := xp_blk x hn
  refine lv_iload_n hx hb dX0_segmentOf_0 rfl (lv_at hl 1 rfl) ?_
  refine lv_bipush (v := 96) hx hb dX0_segmentOf_1 (by decide) ?_
  refine lv_icmp_lt (tgt := 17) hx hb dX0_segmentOf_3 (by decide) (fun h1 => ?_) (fun h1 => ?_)
  · have hno : ¬ ∃ j k : Nat, j < n ∧ k < 16 ∧ x = nI (96 + 16 * j + k) := by
      rintro ⟨j, k, hj, hk, rfl⟩
      exact nI_nlt (b := 96) (by omega) (by omega) h1
    refine lv_iconst (v := -1) hx hb dX0_segmentOf_17 (by decide) ?_
    exact W.iret (v := (-1)) hx hb hr (fun t ht hW => ⟨(-1), rfl, Or.inr ⟨hno, rfl⟩, ht⟩) (fun _ h => by cases h) dX0_segmentOf_18
  · refine lv_iload_n hx hb dX0_segmentOf_6 rfl (lv_at hl 1 rfl) ?_
    refine lv_aload_n hx hb dX0_segmentOf_7 rfl (lv_at hl 0 rfl) ?_
    refine va_get (D := D) (ci := 0) (v := .int (nI n)) (C := RX0) (T := TX0) (N := 7) hx hb ht xin_X0 hown hK hP 0 rfl rfl 0 (by decide) (ht _ kfl_RX0_9) (fun _ h9 => h9) rfl dX0_segmentOf_8 ?_
    refine xr_S (n := 1) (As := [.int (nI n)]) (rest := [.int x]) ⟨hx, hb, hml, hown, ht⟩ (c_firstBlockOf l n) (xg_S kml_RX0_33 kst_yX0_firstBlockOf kin_RX0 kco_yX0_firstBlockOf) ⟨rfl, rfl⟩ (by decide +kernel) ⟨Nat.le_of_ble_eq_true rfl, Nat.le_of_ble_eq_true rfl⟩ xk_preE rfl hl.1 rfl (Nat.le_of_ble_eq_true rfl) dX0_segmentOf_11 ⟨Nat.zero_le _, Nat.zero_le _⟩ (fun r1 e1 => ?_)
    subst e1
    refine lv_icmp_lt (tgt := 19) hx hb dX0_segmentOf_14 (by decide) (fun h2 => ?_) (fun h2 => ?_)
    · rcases hq with ⟨j, k, hj, hk, rfl⟩ | ⟨q, -⟩
      · refine lv_iload_n hx hb dX0_segmentOf_19 rfl (lv_at hl 1 rfl) ?_
        refine lv_bipush (v := 96) hx hb dX0_segmentOf_20 (by decide) ?_
        refine lv_isub hx hb dX0_segmentOf_22 ?_
        refine lv_bipush (v := 16) hx hb dX0_segmentOf_23 (by decide) ?_
        refine lv_idiv hx hb dX0_segmentOf_25 (by decide) ?_
        refine xa_top (y := nI j) (by rw [xp_96, show (16 : Int32) = nI 16 from rfl, pk_sub (by omega), pk_div (by omega) (by decide) (by decide)]; congr 1; omega) ?_
        exact W.iret (v := nI j) hx hb hr (fun t ht hW => ⟨nI j, rfl, Or.inl ⟨j, k, hj, hk, rfl, rfl⟩, ht⟩) (fun _ h => by cases h) dX0_segmentOf_26
      · rcases q with q | q
        · exact absurd q h1
        · exact absurd h2 (Int32.not_lt.mpr q)
    · have hno : ¬ ∃ j k : Nat, j < n ∧ k < 16 ∧ x = nI (96 + 16 * j + k) := by
        rintro ⟨j, k, hj, hk, rfl⟩
        exact h2 (nI_lt (by omega) (by omega))
      refine lv_iconst (v := -1) hx hb dX0_segmentOf_17 (by decide) ?_
      exact W.iret (v := (-1)) hx hb hr (fun t ht hW => ⟨(-1), rfl, Or.inr ⟨hno, rfl⟩, ht⟩) (fun _ h => by cases h) dX0_segmentOf_18
end
section
/-! SUMS, BITS, FREE SEGMENTS, VICTIMS -/
def xcnt (f : Nat → Nat) : Nat → Nat
  | 0 => 0
  | i + 1 => xcnt f i + f i
theorem xcnt_le {f : Nat → Nat} {b : Nat} (h : ∀ j, f j ≤ b) : ∀ n, xcnt f n ≤ b * n := by
  intro n
  induction n with
  | zero => exact Nat.zero_le _
  | succ n ih => rw [xcnt, Nat.mul_succ]; exact Nat.add_le_add ih (h n)
theorem xcnt_congr {f g : Nat → Nat} : ∀ n, (∀ j, j < n → f j = g j) → xcnt f n = xcnt g n := by
  intro n
  induction n with
  | zero => intro _; rfl
  | succ n ih => intro h; rw [xcnt, xcnt, ih (fun j hj => h j (by omega)), h n (by omega)]
/-- bits set among the lowest sixteen -/
def xpc (M : Nat) : Nat := xcnt (fun k => (M.testBit k).toNat) 16
theorem xpc_le (M : Nat) : xpc M ≤ 16 := Nat.le_trans (xcnt_le (b := 1) (fun j => by cases M.testBit j <;> decide) 16) (by decide)
/-- the steps of Integer.bitCount over numbers -/
def xg1 (M : Nat) : Nat := M - (M / 2 &&& 1431655765)
def xg2 (M : Nat) : Nat := (xg1 M &&& 858993459) + (xg1 M / 4 &&& 858993459)
def xg3 (M : Nat) : Nat := (xg2 M + xg2 M / 16) &&& 252645135
def xg4 (M : Nat) : Nat := xg3 M + xg3 M / 256
def xg5 (M : Nat) : Nat := xg4 M + xg4 M / 65536
def xg (M : Nat) : Nat := xg5 M &&& 63
theorem xgd_0 : ∀ h, h < 16 → ∀ q, q < 256 → xg (0 + 256 * h + q) = xpc (0 + 256 * h + q) := by decide +kernel
theorem xgd_1 : ∀ h, h < 16 → ∀ q, q < 256 → xg (4096 + 256 * h + q) = xpc (4096 + 256 * h + q) := by decide +kernel
theorem xgd_2 : ∀ h, h < 16 → ∀ q, q < 256 → xg (8192 + 256 * h + q) = xpc (8192 + 256 * h + q) := by decide +kernel
theorem xgd_3 : ∀ h, h < 16 → ∀ q, q < 256 → xg (12288 + 256 * h + q) = xpc (12288 + 256 * h + q) := by decide +kernel
theorem xgd_4 : ∀ h, h < 16 → ∀ q, q < 256 → xg (16384 + 256 * h + q) = xpc (16384 + 256 * h + q) := by decide +kernel
theorem xgd_5 : ∀ h, h < 16 → ∀ q, q < 256 → xg (20480 + 256 * h + q) = xpc (20480 + 256 * h + q) := by decide +kernel
theorem xgd_6 : ∀ h, h < 16 → ∀ q, q < 256 → xg (24576 + 256 * h + q) = xpc (24576 + 256 * h + q) := by decide +kernel
theorem xgd_7 : ∀ h, h < 16 → ∀ q, q < 256 → xg (28672 + 256 * h + q) = xpc (28672 + 256 * h + q) := by decide +kernel
theorem xgd_8 : ∀ h, h < 16 → ∀ q, q < 256 → xg (32768 + 256 * h + q) = xpc (32768 + 256 * h + q) := by decide +kernel
theorem xgd_9 : ∀ h, h < 16 → ∀ q, q < 256 → xg (36864 + 256 * h + q) = xpc (36864 + 256 * h + q) := by decide +kernel
theorem xgd_10 : ∀ h, h < 16 → ∀ q, q < 256 → xg (40960 + 256 * h + q) = xpc (40960 + 256 * h + q) := by decide +kernel
theorem xgd_11 : ∀ h, h < 16 → ∀ q, q < 256 → xg (45056 + 256 * h + q) = xpc (45056 + 256 * h + q) := by decide +kernel
theorem xgd_12 : ∀ h, h < 16 → ∀ q, q < 256 → xg (49152 + 256 * h + q) = xpc (49152 + 256 * h + q) := by decide +kernel
theorem xgd_13 : ∀ h, h < 16 → ∀ q, q < 256 → xg (53248 + 256 * h + q) = xpc (53248 + 256 * h + q) := by decide +kernel
theorem xgd_14 : ∀ h, h < 16 → ∀ q, q < 256 → xg (57344 + 256 * h + q) = xpc (57344 + 256 * h + q) := by decide +kernel
theorem xgd_15 : ∀ h, h < 16 → ∀ q, q < 256 → xg (61440 + 256 * h + q) = xpc (61440 + 256 * h + q) := by decide +kernel
theorem xg_pc {M : Nat} (h : M < 65536) : xg M = xpc M := by
  have hk : M / 4096 = 0 ∨ M / 4096 = 1 ∨ M / 4096 = 2 ∨ M / 4096 = 3 ∨ M / 4096 = 4 ∨ M / 4096 = 5 ∨ M / 4096 = 6 ∨ M / 4096 = 7 ∨ M / 4096 = 8 ∨ M / 4096 = 9 ∨ M / 4096 = 10 ∨ M / 4096 = 11 ∨ M / 4096 = 12 ∨ M / 4096 = 13 ∨ M / 4096 = 14 ∨ M / 4096 = 15 := by omega
  rcases hk with q | q | q | q | q | q | q | q | q | q | q | q | q | q | q | q
  · have := xgd_0 ((M - 0) / 256) (by omega) (M % 256) (by omega)
    rwa [show 0 + 256 * ((M - 0) / 256) + M % 256 = M by omega] at this
  · have := xgd_1 ((M - 4096) / 256) (by omega) (M % 256) (by omega)
    rwa [show 4096 + 256 * ((M - 4096) / 256) + M % 256 = M by omega] at this
  · have := xgd_2 ((M - 8192) / 256) (by omega) (M % 256) (by omega)
    rwa [show 8192 + 256 * ((M - 8192) / 256) + M % 256 = M by omega] at this
  · have := xgd_3 ((M - 12288) / 256) (by omega) (M % 256) (by omega)
    rwa [show 12288 + 256 * ((M - 12288) / 256) + M % 256 = M by omega] at this
  · have := xgd_4 ((M - 16384) / 256) (by omega) (M % 256) (by omega)
    rwa [show 16384 + 256 * ((M - 16384) / 256) + M % 256 = M by omega] at this
  · have := xgd_5 ((M - 20480) / 256) (by omega) (M % 256) (by omega)
    rwa [show 20480 + 256 * ((M - 20480) / 256) + M % 256 = M by omega] at this
  · have := xgd_6 ((M - 24576) / 256) (by omega) (M % 256) (by omega)
    rwa [show 24576 + 256 * ((M - 24576) / 256) + M % 256 = M by omega] at this
  · have := xgd_7 ((M - 28672) / 256) (by omega) (M % 256) (by omega)
    rwa [show 28672 + 256 * ((M - 28672) / 256) + M % 256 = M by omega] at this
  · have := xgd_8 ((M - 32768) / 256) (by omega) (M % 256) (by omega)
    rwa [show 32768 + 256 * ((M - 32768) / 256) + M % 256 = M by omega] at this
  · have := xgd_9 ((M - 36864) / 256) (by omega) (M % 256) (by omega)
    rwa [show 36864 + 256 * ((M - 36864) / 256) + M % 256 = M by omega] at this
  · have := xgd_10 ((M - 40960) / 256) (by omega) (M % 256) (by omega)
    rwa [show 40960 + 256 * ((M - 40960) / 256) + M % 256 = M by omega] at this
  · have := xgd_11 ((M - 45056) / 256) (by omega) (M % 256) (by omega)
    rwa [show 45056 + 256 * ((M - 45056) / 256) + M % 256 = M by omega] at this
  · have := xgd_12 ((M - 49152) / 256) (by omega) (M % 256) (by omega)
    rwa [show 49152 + 256 * ((M - 49152) / 256) + M % 256 = M by omega] at this
  · have := xgd_13 ((M - 53248) / 256) (by omega) (M % 256) (by omega)
    rwa [show 53248 + 256 * ((M - 53248) / 256) + M % 256 = M by omega] at this
  · have := xgd_14 ((M - 57344) / 256) (by omega) (M % 256) (by omega)
    rwa [show 57344 + 256 * ((M - 57344) / 256) + M % 256 = M by omega] at this
  · have := xgd_15 ((M - 61440) / 256) (by omega) (M % 256) (by omega)
    rwa [show 61440 + 256 * ((M - 61440) / 256) + M % 256 = M by omega] at this
end
section
theorem xand (a b : Nat) : nI a &&& nI b = nI (a &&& b) := by
  apply Int32.toBitVec_inj.mp
  rw [Int32.toBitVec_and]
  show BitVec.ofNat 32 a &&& BitVec.ofNat 32 b = BitVec.ofNat 32 (a &&& b)
  simp
theorem xor' (a b : Nat) : nI a ||| nI b = nI (a ||| b) := by
  apply Int32.toBitVec_inj.mp
  rw [Int32.toBitVec_or]
  show BitVec.ofNat 32 a ||| BitVec.ofNat 32 b = BitVec.ofNat 32 (a ||| b)
  simp
theorem xg1_lt {M : Nat} (h : M < 65536) : xg1 M < 65536 := by unfold xg1; omega
theorem xg2_lt {M : Nat} (h : M < 65536) : xg2 M < 200000 := by
  have h1 := xg1_lt h
  have h2 : xg1 M &&& 858993459 ≤ xg1 M := Nat.and_le_left
  have h3 : xg1 M / 4 &&& 858993459 ≤ xg1 M / 4 := Nat.and_le_left
  unfold xg2; omega
theorem xg3_lt {M : Nat} (h : M < 65536) : xg3 M < 400000 := by
  have h1 := xg2_lt h
  have h2 : (xg2 M + xg2 M / 16) &&& 252645135 ≤ xg2 M + xg2 M / 16 := Nat.and_le_left
  unfold xg3; omega
theorem xg4_lt {M : Nat} (h : M < 65536) : xg4 M < 800000 := by have h1 := xg3_lt h; unfold xg4; omega
theorem xg5_lt {M : Nat} (h : M < 65536) : xg5 M < 1600000 := by have h1 := xg4_lt h; unfold xg5; omega
/-- a segment is free -/
def xfr (U TH : Nat → Nat) (Z : Nat → Bool) (j : Nat) : Bool := U j == 0 && (TH j == 0 && !Z j)
theorem nI_0iff {M : Nat} (h : M < 65536) : nI M = 0 ↔ M = 0 := by
  constructor
  · intro q
    rcases Nat.eq_zero_or_pos M with z | z
    · exact z
    · exact absurd q (nI_ne0 z (by omega))
  · rintro rfl; rfl
/-- the victim: over the first i segments -/
def xvic (cand : Nat → Bool) (wo : Nat → Nat) : Nat → Option (Nat × Nat)
  | 0 => none
  | i + 1 => match xvic cand wo i with
    | none => if cand i then some (i, wo i) else none
    | some q => if cand i && decide (q.2 < wo i) then some (i, wo i) else some q
def xvR (q : Option (Nat × Nat)) : Int32 := match q with
  | none => -1
  | some q => nI q.1
def xcand (U : Nat → Nat) (Z : Nat → Bool) (j : Nat) : Bool := !Z j && (decide (0 < xpc (U j)) && decide (xpc (U j) < 16))
def xwo (g : Bool) (U AG : Nat → Nat) (TK : Nat) (j : Nat) : Nat := if g then (16 - xpc (U j)) * (TK - AG j + 1) / (xpc (U j) + 16) else 16 - xpc (U j)
theorem xworth {c a T : Nat} (hc : c ≤ 16) (ha : a ≤ T) (hT : T ≤ 100000) : (16 - nI c) * (nI T - nI a + 1) / (nI c + 16) = nI ((16 - c) * (T - a + 1) / (c + 16)) := by
  have h1 : (16 - c) * (T - a + 1) ≤ 16 * 100001 := Nat.mul_le_mul (by omega) (by omega)
  rw [show (16 : Int32) = nI 16 from rfl, pk_sub hc, pk_sub ha, nI_1, pk_mul, nI_add, pk_div (by omega) (by omega) (by omega)]
theorem xwo_lt {g : Bool} {U AG : Nat → Nat} {TK j : Nat} (hT : TK ≤ 100000) : xwo g U AG TK j < 2 ^ 31 := by
  unfold xwo
  cases g
  · simp; omega
  · have h1 : (16 - xpc (U j)) * (TK - AG j + 1) ≤ 16 * 100001 := Nat.mul_le_mul (by omega) (by omega)
    have h2 : (16 - xpc (U j)) * (TK - AG j + 1) / (xpc (U j) + 16) ≤ (16 - xpc (U j)) * (TK - AG j + 1) := Nat.div_le_self _ _
    simp; omega
end
section
theorem xp_m1 {n : Nat} (h : n < 2 ^ 31) : ¬ nI n = -1 := fun z => nI_pos h (by rw [z]; decide)
set_option maxHeartbeats 4000000 in
set_option maxRecDepth 100000 in
/-- Integer.bitCount -/
theorem c_bitCount (l : Launch) (M : Nat) (hM : M < 65536) : Met l yJ6_bitCount_0f7a4 (xw yJ6_bitCount_0f7a4 cJ6_bitCount_0f7a4 1 (some .int)) ({ frames := 0, cells := 0, slots := 0, locals := 0 }) (xk_E [.int (nI M)]) (vp_Si (fun r => r = nI (xpc M))) 0 0 (fun _ => False) := by
  refine Met.ofW (cc := cJ6_bitCount_0f7a4) (maxL := 1) (ret := (some .int)) (by decide) rfl ?_
  intro p e s m args below meth c s₁ B0 hml hv
  obtain rfl := hv
  have hx := B0.exec
  have hb := B0.bytes
  have hr := B0.returns
  have ht : ∀ w ∈ xT, w.before _ s = true := fun w h => atoms_spec (ws := xw yJ6_bitCount_0f7a4 cJ6_bitCount_0f7a4 1 (some .int)) B0.pre w (List.mem_cons_of_mem _ h)
  have hown : s.vm.findClass RJ6 = some m.cls := findClass_of_methodNamed B0.named
  have hlocks := B0.notSynchronized
  have hl := lv_entry ([.int (nI M)]) (n := 1) (Nat.le_of_ble_eq_true rfl)
  rw [lg_entry_eq]
  generalize (lg_sl ([.int (nI M)]) ++ List.replicate (1 - (lg_sl ([.int (nI M)])).length) Slot.unset).toArray = ls at hl ⊢
  have hl : lv_has ls 1 [(0, .int (nI M))] := hl
  have g1 := xg1_lt hM
  have g2 := xg2_lt hM
  have g3 := xg3_lt hM
  have g4 := xg4_lt hM
  have g5 := xg5_lt hM
  refine lv_iload_n hx hb dJ6_bitCount_0f7a4_0 rfl (lv_at hl 0 rfl) ?_
  refine lv_iload_n hx hb dJ6_bitCount_0f7a4_1 rfl (lv_at hl 0 rfl) ?_
  refine lv_iconst (v := 1) hx hb dJ6_bitCount_0f7a4_2 (by decide) ?_
  refine lv_iushr (v := nI (M / 2)) hx hb dJ6_bitCount_0f7a4_3 (pk_ushrN (by omega) 1 1 (by decide)) ?_
  refine lv_ldcw hx hb hown (ht _ kct_RJ6_265) dJ6_bitCount_0f7a4_4 ?_
  refine lv_iand hx hb dJ6_bitCount_0f7a4_7 ?_
  refine xa_top (y := nI (M / 2 &&& 1431655765)) (xand _ 1431655765) ?_
  refine lv_isub hx hb dJ6_bitCount_0f7a4_8 ?_
  refine xa_top (y := nI (xg1 M)) (pk_sub (Nat.le_trans Nat.and_le_left (by omega))) ?_
  refine lv_istore_n (lv' := [(0, .int (nI (xg1 M)))]) hx hb dJ6_bitCount_0f7a4_9 rfl hl (by decide) rfl (fun ls hl => ?_)
  refine lv_iload_n hx hb dJ6_bitCount_0f7a4_10 rfl (lv_at hl 0 rfl) ?_
  refine lv_ldcw hx hb hown (ht _ kct_RJ6_266) dJ6_bitCount_0f7a4_11 ?_
  refine lv_iand hx hb dJ6_bitCount_0f7a4_14 ?_
  refine xa_top (y := nI (xg1 M &&& 858993459)) (xand _ 858993459) ?_
  refine lv_iload_n hx hb dJ6_bitCount_0f7a4_15 rfl (lv_at hl 0 rfl) ?_
  refine lv_iconst (v := 2) hx hb dJ6_bitCount_0f7a4_16 (by decide) ?_
  refine lv_iushr (v := nI (xg1 M / 4)) hx hb dJ6_bitCount_0f7a4_17 (pk_ushrN (by omega) 2 2 (by decide)) ?_
  refine lv_ldcw hx hb hown (ht _ kct_RJ6_266) dJ6_bitCount_0f7a4_18 ?_
  refine lv_iand hx hb dJ6_bitCount_0f7a4_21 ?_
  refine xa_top (y := nI (xg1 M / 4 &&& 858993459)) (xand _ 858993459) ?_
  refine lv_iadd hx hb dJ6_bitCount_0f7a4_22 ?_
  refine xa_top (y := nI (xg2 M)) (nI_add _ _) ?_
  refine lv_istore_n (lv' := [(0, .int (nI (xg2 M)))]) hx hb dJ6_bitCount_0f7a4_23 rfl hl (by decide) rfl (fun ls hl => ?_)
  refine lv_iload_n hx hb dJ6_bitCount_0f7a4_24 rfl (lv_at hl 0 rfl) ?_
  refine lv_iload_n hx hb dJ6_bitCount_0f7a4_25 rfl (lv_at hl 0 rfl) ?_
  refine lv_iconst (v := 4) hx hb dJ6_bitCount_0f7a4_26 (by decide) ?_
  refine lv_iushr (v := nI (xg2 M / 16)) hx hb dJ6_bitCount_0f7a4_27 (pk_ushrN (by omega) 4 4 (by decide)) ?_
  refine lv_iadd hx hb dJ6_bitCount_0f7a4_28 ?_
  refine xa_top (y := nI (xg2 M + xg2 M / 16)) (nI_add _ _) ?_
  refine lv_ldcw hx hb hown (ht _ kct_RJ6_267) dJ6_bitCount_0f7a4_29 ?_
  refine lv_iand hx hb dJ6_bitCount_0f7a4_32 ?_
  refine xa_top (y := nI (xg3 M)) (xand _ 252645135) ?_
  refine lv_istore_n (lv' := [(0, .int (nI (xg3 M)))]) hx hb dJ6_bitCount_0f7a4_33 rfl hl (by decide) rfl (fun ls hl => ?_)
  refine lv_iload_n hx hb dJ6_bitCount_0f7a4_34 rfl (lv_at hl 0 rfl) ?_
  refine lv_iload_n hx hb dJ6_bitCount_0f7a4_35 rfl (lv_at hl 0 rfl) ?_
  refine lv_bipush (v := 8) hx hb dJ6_bitCount_0f7a4_36 (by decide) ?_
  refine lv_iushr (v := nI (xg3 M / 256)) hx hb dJ6_bitCount_0f7a4_38 (pk_ushrN (by omega) 8 8 (by decide)) ?_
  refine lv_iadd hx hb dJ6_bitCount_0f7a4_39 ?_
  refine xa_top (y := nI (xg4 M)) (nI_add _ _) ?_
  refine lv_istore_n (lv' := [(0, .int (nI (xg4 M)))]) hx hb dJ6_bitCount_0f7a4_40 rfl hl (by decide) rfl (fun ls hl => ?_)
  refine lv_iload_n hx hb dJ6_bitCount_0f7a4_41 rfl (lv_at hl 0 rfl) ?_
  refine lv_iload_n hx hb dJ6_bitCount_0f7a4_42 rfl (lv_at hl 0 rfl) ?_
  refine lv_bipush (v := 16) hx hb dJ6_bitCount_0f7a4_43 (by decide) ?_
  refine lv_iushr (v := nI (xg4 M / 65536)) hx hb dJ6_bitCount_0f7a4_45 (pk_ushrN (by omega) 16 16 (by decide)) ?_
  refine lv_iadd hx hb dJ6_bitCount_0f7a4_46 ?_
  refine xa_top (y := nI (xg5 M)) (nI_add _ _) ?_
  refine lv_istore_n (lv' := [(0, .int (nI (xg5 M)))]) hx hb dJ6_bitCount_0f7a4_47 rfl hl (by decide) rfl (fun ls hl => ?_)
  refine lv_iload_n hx hb dJ6_bitCount_0f7a4_48 rfl (lv_at hl 0 rfl) ?_
  refine lv_bipush (v := 63) hx hb dJ6_bitCount_0f7a4_49 (by decide) ?_
  refine lv_iand hx hb dJ6_bitCount_0f7a4_51 ?_
  refine xa_top (y := nI (xpc M)) ((xand _ 63).trans (congrArg nI (xg_pc hM))) ?_
  exact W.iret (v := nI (xpc M)) hx hb hr (fun t ht hW => ⟨nI (xpc M), rfl, rfl, ht⟩) (fun _ h => by cases h) dJ6_bitCount_0f7a4_52

set_option maxHeartbeats 4000000 in
set_option maxRecDepth 100000 in
/-- isFree -/
theorem c_isFree (l : Launch) (D : va_G) (A : Nat → Nat) (K : Nat → ClassId) (n : Nat) (U TH AG : Nat → Nat) (Z : Nat → Bool) (B : Nat → Nat) (TK : Nat) (hn : n ≤ 128) (hU : ∀ j, U j < 65536) (hT : ∀ j, TH j < 65536) (j : Nat) (hj : j < n) : Met l yX0_isFree (xw yX0_isFree cX0_isFree 2 (some .boolean)) ({ frames := 1, cells := 0, slots := 0, locals := 21 }) (xk_P [.ref (A 0), .int (nI j)] D (xc_T K) (xc_W A K n U TH AG Z B TK)) (vp_Si (fun r => r = xb (xfr U TH Z j))) 0 0 (fun _ => False) := by
  refine Met.ofW (cc := cX0_isFree) (maxL := 2) (ret := (some .boolean)) (by decide) rfl ?_
  intro p e s m args below meth c s₁ B0 hml hv
  obtain ⟨rfl, hP, hK⟩ := hv
  have hx := B0.exec
  have hb := B0.bytes
  have hr := B0.returns
  have ht : ∀ w ∈ xT, w.before _ s = true := fun w h => atoms_spec (ws := xw yX0_isFree cX0_isFree 2 (some .boolean)) B0.pre w (List.mem_cons_of_mem _ h)
  have hown : s.vm.findClass RX0 = some m.cls := findClass_of_methodNamed B0.named
  have hlocks := B0.notSynchronized
  have hl := lv_entry ([.ref (A 0), .int (nI j)]) (n := 2) (Nat.le_of_ble_eq_true rfl)
  rw [lg_entry_eq]
  generalize (lg_sl ([.ref (A 0), .int (nI j)]) ++ List.replicate (2 - (lg_sl ([.ref (A 0), .int (nI j)])).length) Slot.unset).toArray = ls at hl ⊢
  have hl : lv_has ls 2 [(0, .ref (A 0)), (1, .int (nI j))] := hl
  refine lv_aload_n hx hb dX0_isFree_0 rfl (lv_at hl 0 rfl) ?_
  refine lv_iload_n hx hb dX0_isFree_1 rfl (lv_at hl 1 rfl) ?_
  refine xr_V (n := 1) (As := [.int (nI j)]) (rest := []) ⟨hx, hb, hml, hown, ht⟩ (c_isSegment l D A K n U TH AG Z B TK (nI j) hn) (xg_V kml_RX0_93 kim_yX0_isSegment ksl_yX0_isSegment kin_RX0 kco_yX0_isSegment) ⟨rfl, rfl⟩ (by decide +kernel) ⟨Nat.le_of_ble_eq_true rfl, Nat.le_of_ble_eq_true rfl⟩ (xk_preV hP hK rfl rfl) rfl hl.1 rfl (Nat.le_of_ble_eq_true rfl) dX0_isFree_2 ⟨Nat.zero_le _, Nat.zero_le _⟩ (fun r1 e1 => ?_)
  have e1 : r1 = 1 := e1.elim (fun q => q.choose_spec.2.2) (fun q => absurd ⟨j, hj, rfl⟩ q.1)
  subst e1
  refine lv_if_eq (tgt := 39) hx hb dX0_isFree_5 (by decide) (fun h0 => ?_) (fun h0 => ?_)
  · exact absurd h0 (by decide)
  · refine lv_aload_n hx hb dX0_isFree_8 rfl (lv_at hl 0 rfl) ?_
    refine va_get (D := D) (ci := 0) (v := .ref (A 1)) (C := RX0) (T := TX0) (N := 7) hx hb ht xin_X0 hown hK hP 0 rfl rfl 1 (by decide) (ht _ kfl_RX0_13) (fun _ h9 => h9) rfl dX0_isFree_9 ?_
    refine lv_iload_n hx hb dX0_isFree_12 rfl (lv_at hl 1 rfl) ?_
    refine xa_ild hx hb hK hP 1 0 rfl rfl (v := nI (U j)) hj (by omega) rfl dX0_isFree_13 ?_
    refine lv_if_ne (tgt := 39) hx hb dX0_isFree_14 (by decide) (fun h1 => ?_) (fun h1 => ?_)
    · refine lv_iconst (v := 0) hx hb dX0_isFree_39 (by decide) ?_
      exact W.zret (v := 0) (ty := .boolean) hx hb hr (by decide) (fun t ht hW => ⟨0, rfl, (by rw [nI_0iff (hU j)] at h1; simp [xfr, h1, xb]), ht⟩) (fun _ h => by cases h) dX0_isFree_40
    · rw [nI_0iff (hU j)] at h1
      refine lv_aload_n hx hb dX0_isFree_17 rfl (lv_at hl 0 rfl) ?_
      refine va_get (D := D) (ci := 0) (v := .ref (A 2)) (C := RX0) (T := TX0) (N := 7) hx hb ht xin_X0 hown hK hP 0 rfl rfl 2 (by decide) (ht _ kfl_RX0_17) (fun _ h9 => h9) rfl dX0_isFree_18 ?_
      refine lv_iload_n hx hb dX0_isFree_21 rfl (lv_at hl 1 rfl) ?_
      refine xa_ild hx hb hK hP 2 1 rfl rfl (v := nI (TH j)) hj (by omega) rfl dX0_isFree_22 ?_
      refine lv_if_ne (tgt := 39) hx hb dX0_isFree_23 (by decide) (fun h2 => ?_) (fun h2 => ?_)
      · refine lv_iconst (v := 0) hx hb dX0_isFree_39 (by decide) ?_
        exact W.zret (v := 0) (ty := .boolean) hx hb hr (by decide) (fun t ht hW => ⟨0, rfl, (by rw [nI_0iff (hT j)] at h2; simp [xfr, h2, xb]), ht⟩) (fun _ h => by cases h) dX0_isFree_40
      · rw [nI_0iff (hT j)] at h2
        refine lv_aload_n hx hb dX0_isFree_26 rfl (lv_at hl 0 rfl) ?_
        refine va_get (D := D) (ci := 0) (v := .ref (A 4)) (C := RX0) (T := TX0) (N := 7) hx hb ht xin_X0 hown hK hP 0 rfl rfl 4 (by decide) (ht _ kfl_RX0_23) (fun _ h9 => h9) rfl dX0_isFree_27 ?_
        refine lv_iload_n hx hb dX0_isFree_30 rfl (lv_at hl 1 rfl) ?_
        refine xa_zld hx hb hK hP 4 3 rfl rfl (v := xb (Z j)) hj (by omega) rfl dX0_isFree_31 ?_
        refine lv_if_ne (tgt := 39) hx hb dX0_isFree_32 (by decide) (fun h3 => ?_) (fun h3 => ?_)
        · refine lv_iconst (v := 0) hx hb dX0_isFree_39 (by decide) ?_
          exact W.zret (v := 0) (ty := .boolean) hx hb hr (by decide) (fun t ht hW => ⟨0, rfl, (by rw [xb_n0] at h3; simp [xfr, h3, xb]), ht⟩) (fun _ h => by cases h) dX0_isFree_40
        · refine lv_iconst (v := 1) hx hb dX0_isFree_35 (by decide) ?_
          refine lv_goto (tgt := 40) hx hb dX0_isFree_36 (by decide) ?_
          exact W.zret (v := 1) (ty := .boolean) hx hb hr (by decide) (fun t ht hW => ⟨1, rfl, (by rw [xb_0] at h3; simp [xfr, h1, h2, h3, xb]), ht⟩) (fun _ h => by cases h) dX0_isFree_40

set_option maxHeartbeats 4000000 in
set_option maxRecDepth 100000 in
/-- lowestFree -/
theorem c_lowestFree (l : Launch) (D : va_G) (A : Nat → Nat) (K : Nat → ClassId) (n : Nat) (U TH AG : Nat → Nat) (Z : Nat → Bool) (B : Nat → Nat) (TK : Nat) (hn : n ≤ 128) (hU : ∀ j, U j < 65536) (hT : ∀ j, TH j < 65536) : Met l yX0_lowestFree (xw yX0_lowestFree cX0_lowestFree 2 (some .int)) ({ frames := 2, cells := 0, slots := 0, locals := 42 }) (xk_P [.ref (A 0)] D (xc_T K) (xc_W A K n U TH AG Z B TK)) (vp_Si (fun r => (∃ j : Nat, j < n ∧ xfr U TH Z j = true ∧ (∀ i, i < j → xfr U TH Z i = false) ∧ r = nI j) ∨ ((∀ i, i < n → xfr U TH Z i = false) ∧ r = -1))) 0 0 (fun _ => False) := by
  refine Met.ofW (cc := cX0_lowestFree) (maxL := 2) (ret := (some .int)) (by decide) rfl ?_
  intro p e s m args below meth c s₁ B0 hml hv
  obtain ⟨rfl, hP, hK⟩ := hv
  have hx := B0.exec
  have hb := B0.bytes
  have hr := B0.returns
  have ht : ∀ w ∈ xT, w.before _ s = true := fun w h => atoms_spec (ws := xw yX0_lowestFree cX0_lowestFree 2 (some .int)) B0.pre w (List.mem_cons_of_mem _ h)
  have hown : s.vm.findClass RX0 = some m.cls := findClass_of_methodNamed B0.named
  have hlocks := B0.notSynchronized
  have hl := lv_entry ([.ref (A 0)]) (n := 2) (Nat.le_of_ble_eq_true rfl)
  rw [lg_entry_eq]
  generalize (lg_sl ([.ref (A 0)]) ++ List.replicate (2 - (lg_sl ([.ref (A 0)])).length) Slot.unset).toArray = ls at hl ⊢
  have hl : lv_has ls 2 [(0, .ref (A 0))] := hl
  have loop : ∀ (f i : Nat), i ≤ n → n + 1 ≤ i + f → (∀ q, q < i → xfr U TH Z q = false) → ∀ ls : Array Slot, lv_has ls 2 [(1, .int (nI i)), (0, .ref (A 0))] → W p l e (headSpec (xw yX0_lowestFree cX0_lowestFree 2 (some .int)) ({ frames := 2, cells := 0, slots := 0, locals := 42 })).room s m ([.ref (A 0)] : List Value).toArray below meth c s.heap [] 0 0 (MQ below (vp_Si (fun r => (∃ j : Nat, j < n ∧ xfr U TH Z j = true ∧ (∀ i, i < j → xfr U TH Z i = false) ∧ r = nI j) ∨ ((∀ i, i < n → xfr U TH Z i = false) ∧ r = -1))) ([.ref (A 0)] : List Value).toArray s 0 0 (fun _ => False)) (F0 m 2 ls []) := by
    intro f
    induction f with
    | zero => intro i h1 h2; exact absurd h2 (by omega)
    | succ f ih =>
      intro i hi hf hc ls hl
      refine lv_iload_n hx hb dX0_lowestFree_2 rfl (lv_at hl 0 rfl) ?_
      refine lv_aload_n hx hb dX0_lowestFree_3 rfl (lv_at hl 1 rfl) ?_
      refine va_get (D := D) (ci := 0) (v := .int (nI n)) (C := RX0) (T := TX0) (N := 7) hx hb ht xin_X0 hown hK hP 0 rfl rfl 0 (by decide) (ht _ kfl_RX0_9) (fun _ h9 => h9) rfl dX0_lowestFree_4 ?_
      refine lv_icmp_ge (tgt := 26) hx hb dX0_lowestFree_7 (by decide) (fun h1 => ?_) (fun h1 => ?_)
      · have hin : i = n := by
          rcases Nat.lt_or_ge i n with q | q
          · exact absurd h1 (nI_ge q (by omega))
          · omega
        refine lv_iconst (v := -1) hx hb dX0_lowestFree_26 (by decide) ?_
        exact W.iret (v := (-1)) hx hb hr (fun t ht hW => ⟨(-1), rfl, Or.inr ⟨fun q hq => hc q (by omega), rfl⟩, ht⟩) (fun _ h => by cases h) dX0_lowestFree_27
      · have hin : i < n := by
          rcases Nat.lt_or_ge i n with q | q
          · exact q
          · exact absurd (nI_le q (by omega)) h1
        refine lv_aload_n hx hb dX0_lowestFree_10 rfl (lv_at hl 1 rfl) ?_
        refine lv_iload_n hx hb dX0_lowestFree_11 rfl (lv_at hl 0 rfl) ?_
        refine xr_V (n := 1) (As := [.int (nI i)]) (rest := []) ⟨hx, hb, hml, hown, ht⟩ (c_isFree l D A K n U TH AG Z B TK hn hU hT i hin) (xg_V kml_RX0_81 kim_yX0_isFree ksl_yX0_isFree kin_RX0 kco_yX0_isFree) ⟨rfl, rfl⟩ (by decide +kernel) ⟨Nat.le_of_ble_eq_true rfl, Nat.le_of_ble_eq_true rfl⟩ (xk_preV hP hK rfl rfl) rfl hl.1 rfl (Nat.le_of_ble_eq_true rfl) dX0_lowestFree_12 ⟨Nat.zero_le _, Nat.zero_le _⟩ (fun r1 e1 => ?_)
        subst e1
        refine lv_if_eq (tgt := 20) hx hb dX0_lowestFree_15 (by decide) (fun h2 => ?_) (fun h2 => ?_)
        · rw [xb_0] at h2
          refine lv_iinc (v := nI (i + 1)) (lv' := [(1, .int (nI (i + 1))), (0, .ref (A 0))]) hx hb dX0_lowestFree_20 hl (k := 0) rfl (nI_1 i) (by decide) rfl (fun ls hl => ?_)
          refine lv_goto (tgt := 2) hx hb dX0_lowestFree_23 (by decide) ?_
          exact ih (i + 1) (by omega) (by omega) (lt_s hc h2) ls (lv_sub hl [0, 1] rfl)
        · rw [xb_n0] at h2
          refine lv_iload_n hx hb dX0_lowestFree_18 rfl (lv_at hl 0 rfl) ?_
          exact W.iret (v := nI i) hx hb hr (fun t ht hW => ⟨nI i, rfl, Or.inl ⟨i, hin, h2, hc, rfl⟩, ht⟩) (fun _ h => by cases h) dX0_lowestFree_19
  refine lv_iconst (v := 0) hx hb dX0_lowestFree_0 (by decide) ?_
  refine lv_istore_n (lv' := [(1, .int 0), (0, .ref (A 0))]) hx hb dX0_lowestFree_1 rfl hl (by decide) rfl (fun ls hl => ?_)
  exact loop (n + 1) 0 (by omega) (by omega) (fun q hq => absurd hq (by omega)) ls (lv_sub hl [0, 1] rfl)

set_option maxHeartbeats 4000000 in
set_option maxRecDepth 100000 in
/-- blockAfter -/
theorem c_blockAfter (l : Launch) (D : va_G) (A : Nat → Nat) (K : Nat → ClassId) (n : Nat) (U TH AG : Nat → Nat) (Z : Nat → Bool) (B : Nat → Nat) (TK : Nat) (hn : n ≤ 128) (hU : ∀ j, U j < 65536) (hT : ∀ j, TH j < 65536) (j k : Nat) (hj : j < n) (hk : k < 16) : Met l yX0_blockAfter (xw yX0_blockAfter cX0_blockAfter 3 (some .int)) ({ frames := 3, cells := 0, slots := 0, locals := 63 }) (xk_P [.ref (A 0), .int (nI (96 + 16 * j + k))] D (xc_T K) (xc_W A K n U TH AG Z B TK)) (vp_Si (fun r => (k < 15 ∧ r = nI (96 + 16 * j + k + 1)) ∨ (k = 15 ∧ ((∃ q : Nat, q < n ∧ xfr U TH Z q = true ∧ (∀ i, i < q → xfr U TH Z i = false) ∧ r = nI (96 + 16 * q)) ∨ ((∀ i, i < n → xfr U TH Z i = false) ∧ r = -1))))) 0 0 (fun _ => False) := by
  refine Met.ofW (cc := cX0_blockAfter) (maxL := 3) (ret := (some .int)) (by decide) rfl ?_
  intro p e s m args below meth c s₁ B0 hml hv
  obtain ⟨rfl, hP, hK⟩ := hv
  have hx := B0.exec
  have hb := B0.bytes
  have hr := B0.returns
  have ht : ∀ w ∈ xT, w.before _ s = true := fun w h => atoms_spec (ws := xw yX0_blockAfter cX0_blockAfter 3 (some .int)) B0.pre w (List.mem_cons_of_mem _ h)
  have hown : s.vm.findClass RX0 = some m.cls := findClass_of_methodNamed B0.named
  have hlocks := B0.notSynchronized
  have hl := lv_entry ([.ref (A 0), .int (nI (96 + 16 * j + k))]) (n := 3) (Nat.le_of_ble_eq_true rfl)
  rw [lg_entry_eq]
  generalize (lg_sl ([.ref (A 0), .int (nI (96 + 16 * j + k))]) ++ List.replicate (3 - (lg_sl ([.ref (A 0), .int (nI (96 + 16 * j + k))])).length) Slot.unset).toArray = ls at hl ⊢
  have hl : lv_has ls 3 [(0, .ref (A 0)), (1, .int (nI (96 + 16 * j + k)))] := hl
  refine lv_iload_n hx hb dX0_blockAfter_0 rfl (lv_at hl 1 rfl) ?_
  refine xr_S (n := 1) (As := [.int (nI (96 + 16 * j + k))]) (rest := []) ⟨hx, hb, hml, hown, ht⟩ (c_placeOf l j k (by omega) hk) (xg_S kml_RX0_100 kst_yX0_placeOf kin_RX0 kco_yX0_placeOf) ⟨rfl, rfl⟩ (by decide +kernel) ⟨Nat.le_of_ble_eq_true rfl, Nat.le_of_ble_eq_true rfl⟩ xk_preE rfl hl.1 rfl (Nat.le_of_ble_eq_true rfl) dX0_blockAfter_1 ⟨Nat.zero_le _, Nat.zero_le _⟩ (fun r1 e1 => ?_)
  subst e1
  refine lv_bipush (v := 15) hx hb dX0_blockAfter_4 (by decide) ?_
  refine lv_icmp_ge (tgt := 13) hx hb dX0_blockAfter_6 (by decide) (fun h1 => ?_) (fun h1 => ?_)
  · have hk15 : k = 15 := by
      rcases Nat.lt_or_ge k 15 with q | q
      · exact absurd h1 (nI_ge (b := 15) q (by decide))
      · omega
    refine lv_aload_n hx hb dX0_blockAfter_13 rfl (lv_at hl 0 rfl) ?_
    refine xr_V (n := 0) (As := []) (rest := []) ⟨hx, hb, hml, hown, ht⟩ (c_lowestFree l D A K n U TH AG Z B TK hn hU hT) (xg_V kml_RX0_103 kim_yX0_lowestFree ksl_yX0_lowestFree kin_RX0 kco_yX0_lowestFree) ⟨rfl, rfl⟩ (by decide +kernel) ⟨Nat.le_of_ble_eq_true rfl, Nat.le_of_ble_eq_true rfl⟩ (xk_preV hP hK rfl rfl) rfl hl.1 rfl (Nat.le_of_ble_eq_true rfl) dX0_blockAfter_14 ⟨Nat.zero_le _, Nat.zero_le _⟩ (fun r2 e2 => ?_)
    rcases e2 with ⟨q, hq, f1, f2, rfl⟩ | ⟨f1, rfl⟩
    · refine lv_istore_n (lv' := [(2, .int (nI q)), (0, .ref (A 0)), (1, .int (nI (96 + 16 * j + k)))]) hx hb dX0_blockAfter_17 rfl hl (by decide) rfl (fun ls hl => ?_)
      refine lv_iload_n hx hb dX0_blockAfter_18 rfl (lv_at hl 0 rfl) ?_
      refine lv_iconst (v := -1) hx hb dX0_blockAfter_19 (by decide) ?_
      refine lv_icmp_ne (tgt := 27) hx hb dX0_blockAfter_20 (by decide) (fun h2 => ?_) (fun h2 => ?_)
      · refine lv_iload_n hx hb dX0_blockAfter_27 rfl (lv_at hl 0 rfl) ?_
        refine xr_S (n := 1) (As := [.int (nI q)]) (rest := []) ⟨hx, hb, hml, hown, ht⟩ (c_firstBlockOf l q) (xg_S kml_RX0_33 kst_yX0_firstBlockOf kin_RX0 kco_yX0_firstBlockOf) ⟨rfl, rfl⟩ (by decide +kernel) ⟨Nat.le_of_ble_eq_true rfl, Nat.le_of_ble_eq_true rfl⟩ xk_preE rfl hl.1 rfl (Nat.le_of_ble_eq_true rfl) dX0_blockAfter_28 ⟨Nat.zero_le _, Nat.zero_le _⟩ (fun r3 e3 => ?_)
        subst e3
        exact W.iret (v := nI (96 + 16 * q)) hx hb hr (fun t ht hW => ⟨nI (96 + 16 * q), rfl, Or.inr ⟨hk15, Or.inl ⟨q, hq, f1, f2, rfl⟩⟩, ht⟩) (fun _ h => by cases h) dX0_blockAfter_31
      · exact absurd h2 (xp_m1 (by omega))
    · refine lv_istore_n (lv' := [(2, .int (-1)), (0, .ref (A 0)), (1, .int (nI (96 + 16 * j + k)))]) hx hb dX0_blockAfter_17 rfl hl (by decide) rfl (fun ls hl => ?_)
      refine lv_iload_n hx hb dX0_blockAfter_18 rfl (lv_at hl 0 rfl) ?_
      refine lv_iconst (v := -1) hx hb dX0_blockAfter_19 (by decide) ?_
      refine lv_icmp_ne (tgt := 27) hx hb dX0_blockAfter_20 (by decide) (fun h2 => ?_) (fun h2 => ?_)
      · exact absurd rfl h2
      · refine lv_iconst (v := -1) hx hb dX0_blockAfter_23 (by decide) ?_
        refine lv_goto (tgt := 31) hx hb dX0_blockAfter_24 (by decide) ?_
        exact W.iret (v := (-1)) hx hb hr (fun t ht hW => ⟨(-1), rfl, Or.inr ⟨hk15, Or.inr ⟨f1, rfl⟩⟩, ht⟩) (fun _ h => by cases h) dX0_blockAfter_31
  · have hk15 : k < 15 := by
      rcases Nat.lt_or_ge k 15 with q | q
      · exact q
      · exact absurd (nI_le (a := 15) q (by omega)) h1
    refine lv_iload_n hx hb dX0_blockAfter_9 rfl (lv_at hl 1 rfl) ?_
    refine lv_iconst (v := 1) hx hb dX0_blockAfter_10 (by decide) ?_
    refine lv_iadd hx hb dX0_blockAfter_11 ?_
    refine xa_top (y := nI (96 + 16 * j + k + 1)) (nI_1 _) ?_
    exact W.iret (v := nI (96 + 16 * j + k + 1)) hx hb hr (fun t ht hW => ⟨nI (96 + 16 * j + k + 1), rfl, Or.inl ⟨hk15, rfl⟩, ht⟩) (fun _ h => by cases h) dX0_blockAfter_12

set_option maxHeartbeats 4000000 in
set_option maxRecDepth 100000 in
/-- gentleWorth -/
theorem c_gentleWorth (l : Launch) (D : va_G) (A : Nat → Nat) (K : Nat → ClassId) (n : Nat) (U TH AG : Nat → Nat) (Z : Nat → Bool) (B : Nat → Nat) (TK : Nat) (q a : Nat) (hq : q ≤ 16) (ha : a ≤ TK) (hTK : TK ≤ 100000) : Met l yX0_gentleWorth (xw yX0_gentleWorth cX0_gentleWorth 3 (some .int)) ({ frames := 0, cells := 0, slots := 0, locals := 0 }) (xk_P [.ref (A 0), .int (nI q), .int (nI a)] D (xc_T K) (xc_W A K n U TH AG Z B TK)) (vp_Si (fun r => r = nI ((16 - q) * (TK - a + 1) / (q + 16)))) 0 0 (fun _ => False) := by
  refine Met.ofW (cc := cX0_gentleWorth) (maxL := 3) (ret := (some .int)) (by decide) rfl ?_
  intro p e s m args below meth c s₁ B0 hml hv
  obtain ⟨rfl, hP, hK⟩ := hv
  have hx := B0.exec
  have hb := B0.bytes
  have hr := B0.returns
  have ht : ∀ w ∈ xT, w.before _ s = true := fun w h => atoms_spec (ws := xw yX0_gentleWorth cX0_gentleWorth 3 (some .int)) B0.pre w (List.mem_cons_of_mem _ h)
  have hown : s.vm.findClass RX0 = some m.cls := findClass_of_methodNamed B0.named
  have hlocks := B0.notSynchronized
  have hl := lv_entry ([.ref (A 0), .int (nI q), .int (nI a)]) (n := 3) (Nat.le_of_ble_eq_true rfl)
  rw [lg_entry_eq]
  generalize (lg_sl ([.ref (A 0), .int (nI q), .int (nI a)]) ++ List.replicate (3 - (lg_sl ([.ref (A 0), .int (nI q), .int (nI a)])).length) Slot.unset).toArray = ls at hl ⊢
  have hl : lv_has ls 3 [(0, .ref (A 0)), (1, .int (nI q)), (2, .int (nI a))] := hl
  refine lv_bipush (v := 16) hx hb dX0_gentleWorth_0 (by decide) ?_
  refine lv_iload_n hx hb dX0_gentleWorth_2 rfl (lv_at hl 1 rfl) ?_
  refine lv_isub hx hb dX0_gentleWorth_3 ?_
  refine lv_aload_n hx hb dX0_gentleWorth_4 rfl (lv_at hl 0 rfl) ?_
  refine va_get (D := D) (ci := 0) (v := .int (nI TK)) (C := RX0) (T := TX0) (N := 7) hx hb ht xin_X0 hown hK hP 0 rfl rfl 6 (by decide) (ht _ kfl_RX0_30) (fun _ h9 => h9) rfl dX0_gentleWorth_5 ?_
  refine lv_iload_n hx hb dX0_gentleWorth_8 rfl (lv_at hl 2 rfl) ?_
  refine lv_isub hx hb dX0_gentleWorth_9 ?_
  refine lv_iconst (v := 1) hx hb dX0_gentleWorth_10 (by decide) ?_
  refine lv_iadd hx hb dX0_gentleWorth_11 ?_
  refine lv_imul hx hb dX0_gentleWorth_12 ?_
  refine lv_iload_n hx hb dX0_gentleWorth_13 rfl (lv_at hl 1 rfl) ?_
  refine lv_bipush (v := 16) hx hb dX0_gentleWorth_14 (by decide) ?_
  refine lv_iadd hx hb dX0_gentleWorth_16 ?_
  refine lv_idiv hx hb dX0_gentleWorth_17 (fun z => nI_ne0 (n := q + 16) (by omega) (by omega) ((nI_add q 16).symm.trans z)) ?_
  refine xa_top (y := nI ((16 - q) * (TK - a + 1) / (q + 16))) (xworth hq ha hTK) ?_
  exact W.iret (v := nI ((16 - q) * (TK - a + 1) / (q + 16))) hx hb hr (fun t ht hW => ⟨nI ((16 - q) * (TK - a + 1) / (q + 16)), rfl, rfl, ht⟩) (fun _ h => by cases h) dX0_gentleWorth_18

set_option maxHeartbeats 4000000 in
set_option maxRecDepth 100000 in
/-- free -/
theorem c_free (l : Launch) (D : va_G) (A : Nat → Nat) (K : Nat → ClassId) (n : Nat) (U TH AG : Nat → Nat) (Z : Nat → Bool) (B : Nat → Nat) (TK : Nat) (hn : n ≤ 128) (hU : ∀ j, U j < 65536) (hT : ∀ j, TH j < 65536) : Met l yX0_free (xw yX0_free cX0_free 3 (some .int)) ({ frames := 2, cells := 0, slots := 0, locals := 42 }) (xk_P [.ref (A 0)] D (xc_T K) (xc_W A K n U TH AG Z B TK)) (vp_Si (fun r => r = nI (xcnt (fun j => (xfr U TH Z j).toNat) n))) 0 0 (fun _ => False) := by
  refine Met.ofW (cc := cX0_free) (maxL := 3) (ret := (some .int)) (by decide) rfl ?_
  intro p e s m args below meth c s₁ B0 hml hv
  obtain ⟨rfl, hP, hK⟩ := hv
  have hx := B0.exec
  have hb := B0.bytes
  have hr := B0.returns
  have ht : ∀ w ∈ xT, w.before _ s = true := fun w h => atoms_spec (ws := xw yX0_free cX0_free 3 (some .int)) B0.pre w (List.mem_cons_of_mem _ h)
  have hown : s.vm.findClass RX0 = some m.cls := findClass_of_methodNamed B0.named
  have hlocks := B0.notSynchronized
  have hl := lv_entry ([.ref (A 0)]) (n := 3) (Nat.le_of_ble_eq_true rfl)
  rw [lg_entry_eq]
  generalize (lg_sl ([.ref (A 0)]) ++ List.replicate (3 - (lg_sl ([.ref (A 0)])).length) Slot.unset).toArray = ls at hl ⊢
  have hl : lv_has ls 3 [(0, .ref (A 0))] := hl
  have loop : ∀ (f i : Nat), i ≤ n → n + 1 ≤ i + f → ∀ ls : Array Slot, lv_has ls 3 [(2, .int (nI i)), (1, .int (nI (xcnt (fun j => (xfr U TH Z j).toNat) i))), (0, .ref (A 0))] → W p l e (headSpec (xw yX0_free cX0_free 3 (some .int)) ({ frames := 2, cells := 0, slots := 0, locals := 42 })).room s m ([.ref (A 0)] : List Value).toArray below meth c s.heap [] 0 0 (MQ below (vp_Si (fun r => r = nI (xcnt (fun j => (xfr U TH Z j).toNat) n))) ([.ref (A 0)] : List Value).toArray s 0 0 (fun _ => False)) (F0 m 4 ls []) := by
    intro f
    induction f with
    | zero => intro i h1 h2; exact absurd h2 (by omega)
    | succ f ih =>
      intro i hi hf ls hl
      refine lv_iload_n hx hb dX0_free_4 rfl (lv_at hl 0 rfl) ?_
      refine lv_aload_n hx hb dX0_free_5 rfl (lv_at hl 2 rfl) ?_
      refine va_get (D := D) (ci := 0) (v := .int (nI n)) (C := RX0) (T := TX0) (N := 7) hx hb ht xin_X0 hown hK hP 0 rfl rfl 0 (by decide) (ht _ kfl_RX0_9) (fun _ h9 => h9) rfl dX0_free_6 ?_
      refine lv_icmp_ge (tgt := 29) hx hb dX0_free_9 (by decide) (fun h1 => ?_) (fun h1 => ?_)
      · have hin : i = n := by
          rcases Nat.lt_or_ge i n with q | q
          · exact absurd h1 (nI_ge q (by omega))
          · omega
        subst hin
        refine lv_iload_n hx hb dX0_free_29 rfl (lv_at hl 1 rfl) ?_
        exact W.iret (v := nI (xcnt (fun j => (xfr U TH Z j).toNat) i)) hx hb hr (fun t ht hW => ⟨nI (xcnt (fun j => (xfr U TH Z j).toNat) i), rfl, rfl, ht⟩) (fun _ h => by cases h) dX0_free_30
      · have hin : i < n := by
          rcases Nat.lt_or_ge i n with q | q
          · exact q
          · exact absurd (nI_le q (by omega)) h1
        refine lv_aload_n hx hb dX0_free_12 rfl (lv_at hl 2 rfl) ?_
        refine lv_iload_n hx hb dX0_free_13 rfl (lv_at hl 0 rfl) ?_
        refine xr_V (n := 1) (As := [.int (nI i)]) (rest := []) ⟨hx, hb, hml, hown, ht⟩ (c_isFree l D A K n U TH AG Z B TK hn hU hT i hin) (xg_V kml_RX0_81 kim_yX0_isFree ksl_yX0_isFree kin_RX0 kco_yX0_isFree) ⟨rfl, rfl⟩ (by decide +kernel) ⟨Nat.le_of_ble_eq_true rfl, Nat.le_of_ble_eq_true rfl⟩ (xk_preV hP hK rfl rfl) rfl hl.1 rfl (Nat.le_of_ble_eq_true rfl) dX0_free_14 ⟨Nat.zero_le _, Nat.zero_le _⟩ (fun r1 e1 => ?_)
        subst e1
        refine lv_if_eq (tgt := 23) hx hb dX0_free_17 (by decide) (fun h2 => ?_) (fun h2 => ?_)
        · rw [xb_0] at h2
          refine lv_iinc (v := nI (i + 1)) (lv' := [(2, .int (nI (i + 1))), (1, .int (nI (xcnt (fun j => (xfr U TH Z j).toNat) i))), (0, .ref (A 0))]) hx hb dX0_free_23 hl (k := 0) rfl (nI_1 i) (by decide) rfl (fun ls hl => ?_)
          refine lv_goto (tgt := 4) hx hb dX0_free_26 (by decide) ?_
          exact ih (i + 1) (by omega) (by omega) ls (by rw [xcnt, h2]; exact lv_sub hl [0, 1, 2] rfl)
        · rw [xb_n0] at h2
          refine lv_iinc (v := nI (xcnt (fun j => (xfr U TH Z j).toNat) i + 1)) (lv' := [(1, .int (nI (xcnt (fun j => (xfr U TH Z j).toNat) i + 1))), (2, .int (nI i)), (0, .ref (A 0))]) hx hb dX0_free_20 hl (k := 1) rfl (nI_1 _) (by decide) rfl (fun ls hl => ?_)
          refine lv_iinc (v := nI (i + 1)) (lv' := [(2, .int (nI (i + 1))), (1, .int (nI (xcnt (fun j => (xfr U TH Z j).toNat) i + 1))), (0, .ref (A 0))]) hx hb dX0_free_23 hl (k := 1) rfl (nI_1 i) (by decide) rfl (fun ls hl => ?_)
          refine lv_goto (tgt := 4) hx hb dX0_free_26 (by decide) ?_
          exact ih (i + 1) (by omega) (by omega) ls (by rw [xcnt, h2]; exact lv_sub hl [0, 1, 2] rfl)
  refine lv_iconst (v := 0) hx hb dX0_free_0 (by decide) ?_
  refine lv_istore_n (lv' := [(1, .int 0), (0, .ref (A 0))]) hx hb dX0_free_1 rfl hl (by decide) rfl (fun ls hl => ?_)
  refine lv_iconst (v := 0) hx hb dX0_free_2 (by decide) ?_
  refine lv_istore_n (lv' := [(2, .int 0), (1, .int 0), (0, .ref (A 0))]) hx hb dX0_free_3 rfl hl (by decide) rfl (fun ls hl => ?_)
  exact loop (n + 1) 0 (by omega) (by omega) ls (lv_sub hl [0, 1, 2] rfl)

set_option maxHeartbeats 4000000 in
set_option maxRecDepth 100000 in
/-- used -/
theorem c_used (l : Launch) (D : va_G) (A : Nat → Nat) (K : Nat → ClassId) (n : Nat) (U TH AG : Nat → Nat) (Z : Nat → Bool) (B : Nat → Nat) (TK : Nat) (hn : n ≤ 128) (hU : ∀ j, U j < 65536) (hT : ∀ j, TH j < 65536) : Met l yX0_used (xw yX0_used cX0_used 3 (some .int)) ({ frames := 1, cells := 0, slots := 0, locals := 20 }) (xk_P [.ref (A 0)] D (xc_T K) (xc_W A K n U TH AG Z B TK)) (vp_Si (fun r => r = nI (xcnt (fun j => xpc (U j)) n))) 0 0 (fun _ => False) := by
  refine Met.ofW (cc := cX0_used) (maxL := 3) (ret := (some .int)) (by decide) rfl ?_
  intro p e s m args below meth c s₁ B0 hml hv
  obtain ⟨rfl, hP, hK⟩ := hv
  have hx := B0.exec
  have hb := B0.bytes
  have hr := B0.returns
  have ht : ∀ w ∈ xT, w.before _ s = true := fun w h => atoms_spec (ws := xw yX0_used cX0_used 3 (some .int)) B0.pre w (List.mem_cons_of_mem _ h)
  have hown : s.vm.findClass RX0 = some m.cls := findClass_of_methodNamed B0.named
  have hlocks := B0.notSynchronized
  have hl := lv_entry ([.ref (A 0)]) (n := 3) (Nat.le_of_ble_eq_true rfl)
  rw [lg_entry_eq]
  generalize (lg_sl ([.ref (A 0)]) ++ List.replicate (3 - (lg_sl ([.ref (A 0)])).length) Slot.unset).toArray = ls at hl ⊢
  have hl : lv_has ls 3 [(0, .ref (A 0))] := hl
  have loop : ∀ (f i : Nat), i ≤ n → n + 1 ≤ i + f → ∀ ls : Array Slot, lv_has ls 3 [(2, .int (nI i)), (1, .int (nI (xcnt (fun j => xpc (U j)) i))), (0, .ref (A 0))] → W p l e (headSpec (xw yX0_used cX0_used 3 (some .int)) ({ frames := 1, cells := 0, slots := 0, locals := 20 })).room s m ([.ref (A 0)] : List Value).toArray below meth c s.heap [] 0 0 (MQ below (vp_Si (fun r => r = nI (xcnt (fun j => xpc (U j)) n))) ([.ref (A 0)] : List Value).toArray s 0 0 (fun _ => False)) (F0 m 4 ls []) := by
    intro f
    induction f with
    | zero => intro i h1 h2; exact absurd h2 (by omega)
    | succ f ih =>
      intro i hi hf ls hl
      refine lv_iload_n hx hb dX0_used_4 rfl (lv_at hl 0 rfl) ?_
      refine lv_aload_n hx hb dX0_used_5 rfl (lv_at hl 2 rfl) ?_
      refine va_get (D := D) (ci := 0) (v := .int (nI n)) (C := RX0) (T := TX0) (N := 7) hx hb ht xin_X0 hown hK hP 0 rfl rfl 0 (by decide) (ht _ kfl_RX0_9) (fun _ h9 => h9) rfl dX0_used_6 ?_
      refine lv_icmp_ge (tgt := 30) hx hb dX0_used_9 (by decide) (fun h1 => ?_) (fun h1 => ?_)
      · have hin : i = n := by
          rcases Nat.lt_or_ge i n with q | q
          · exact absurd h1 (nI_ge q (by omega))
          · omega
        subst hin
        refine lv_iload_n hx hb dX0_used_30 rfl (lv_at hl 1 rfl) ?_
        exact W.iret (v := nI (xcnt (fun j => xpc (U j)) i)) hx hb hr (fun t ht hW => ⟨nI (xcnt (fun j => xpc (U j)) i), rfl, rfl, ht⟩) (fun _ h => by cases h) dX0_used_31
      · have hin : i < n := by
          rcases Nat.lt_or_ge i n with q | q
          · exact q
          · exact absurd (nI_le q (by omega)) h1
        refine lv_iload_n hx hb dX0_used_12 rfl (lv_at hl 1 rfl) ?_
        refine lv_aload_n hx hb dX0_used_13 rfl (lv_at hl 2 rfl) ?_
        refine va_get (D := D) (ci := 0) (v := .ref (A 1)) (C := RX0) (T := TX0) (N := 7) hx hb ht xin_X0 hown hK hP 0 rfl rfl 1 (by decide) (ht _ kfl_RX0_13) (fun _ h9 => h9) rfl dX0_used_14 ?_
        refine lv_iload_n hx hb dX0_used_17 rfl (lv_at hl 0 rfl) ?_
        refine xa_ild hx hb hK hP 1 0 rfl rfl (v := nI (U i)) hin (by omega) rfl dX0_used_18 ?_
        refine xr_S (n := 1) (As := [.int (nI (U i))]) (rest := [.int (nI (xcnt (fun j => xpc (U j)) i))]) ⟨hx, hb, hml, hown, ht⟩ (c_bitCount l (U i) (hU i)) (xg_S kml_RX0_84 kst_yJ6_bitCount_0f7a4 kin_RJ6 kco_yJ6_bitCount_0f7a4) ⟨rfl, rfl⟩ (by decide +kernel) ⟨Nat.le_of_ble_eq_true rfl, Nat.le_of_ble_eq_true rfl⟩ xk_preE rfl hl.1 rfl (Nat.le_of_ble_eq_true rfl) dX0_used_19 ⟨Nat.zero_le _, Nat.zero_le _⟩ (fun r1 e1 => ?_)
        subst e1
        refine lv_iadd hx hb dX0_used_22 ?_
        refine xa_top (y := nI (xcnt (fun j => xpc (U j)) (i + 1))) (nI_add _ _) ?_
        refine lv_istore_n (lv' := [(1, .int (nI (xcnt (fun j => xpc (U j)) (i + 1)))), (2, .int (nI i)), (0, .ref (A 0))]) hx hb dX0_used_23 rfl hl (by decide) rfl (fun ls hl => ?_)
        refine lv_iinc (v := nI (i + 1)) (lv' := [(2, .int (nI (i + 1))), (1, .int (nI (xcnt (fun j => xpc (U j)) (i + 1)))), (0, .ref (A 0))]) hx hb dX0_used_24 hl (k := 1) rfl (nI_1 i) (by decide) rfl (fun ls hl => ?_)
        refine lv_goto (tgt := 4) hx hb dX0_used_27 (by decide) ?_
        exact ih (i + 1) (by omega) (by omega) ls (lv_sub hl [0, 1, 2] rfl)
  refine lv_iconst (v := 0) hx hb dX0_used_0 (by decide) ?_
  refine lv_istore_n (lv' := [(1, .int 0), (0, .ref (A 0))]) hx hb dX0_used_1 rfl hl (by decide) rfl (fun ls hl => ?_)
  refine lv_iconst (v := 0) hx hb dX0_used_2 (by decide) ?_
  refine lv_istore_n (lv' := [(2, .int 0), (1, .int 0), (0, .ref (A 0))]) hx hb dX0_used_3 rfl hl (by decide) rfl (fun ls hl => ?_)
  exact loop (n + 1) 0 (by omega) (by omega) ls (lv_sub hl [0, 1, 2] rfl)
end
section
def xvC (q : Option (Nat × Nat)) (bs bw : Int32) : Prop := match q with
  | none => bs = -1 ∧ bw = 0
  | some q => bs = nI q.1 ∧ bw = nI q.2 ∧ q.1 < 2 ^ 31 ∧ q.2 < 2 ^ 31
theorem xvic_skip {c : Nat → Bool} {w : Nat → Nat} {i : Nat} (h : c i = false) : xvic c w (i + 1) = xvic c w i := by
  rw [xvic]; cases xvic c w i <;> simp [h]
theorem xvic_new {c : Nat → Bool} {w : Nat → Nat} {i : Nat} (h : c i = true) (hq : xvic c w i = none) : xvic c w (i + 1) = some (i, w i) := by
  rw [xvic, hq]; simp [h]
theorem xvic_gt {c : Nat → Bool} {w : Nat → Nat} {i : Nat} {q : Nat × Nat} (h : c i = true) (hq : xvic c w i = some q) (hw : q.2 < w i) : xvic c w (i + 1) = some (i, w i) := by
  rw [xvic, hq]; simp [h, hw]
theorem xvic_le {c : Nat → Bool} {w : Nat → Nat} {i : Nat} {q : Nat × Nat} (hq : xvic c w i = some q) (hw : w i ≤ q.2) : xvic c w (i + 1) = some q := by
  rw [xvic, hq]; simp; omega
theorem xvC_R {q : Option (Nat × Nat)} {bs bw : Int32} (h : xvC q bs bw) : bs = xvR q := by
  cases q with
  | none => exact h.1
  | some q => exact h.1
set_option maxHeartbeats 4000000 in
set_option maxRecDepth 100000 in
/-- victim -/
theorem c_victim (l : Launch) (D : va_G) (A : Nat → Nat) (K : Nat → ClassId) (n : Nat) (U TH AG : Nat → Nat) (Z : Nat → Bool) (B : Nat → Nat) (TK : Nat) (hn : n ≤ 128) (hU : ∀ j, U j < 65536) (hAG : ∀ j, AG j ≤ TK) (hTK : TK ≤ 100000) (g : Bool) : Met l yX0_victim (xw yX0_victim cX0_victim 7 (some .int)) ({ frames := 1, cells := 0, slots := 0, locals := 22 }) (xk_P [.ref (A 0), .int (xb g)] D (xc_T K) (xc_W A K n U TH AG Z B TK)) (vp_Si (fun r => r = xvR (xvic (xcand U Z) (xwo g U AG TK) n))) 0 0 (fun _ => False) := by
  refine Met.ofW (cc := cX0_victim) (maxL := 7) (ret := (some .int)) (by decide) rfl ?_
  intro p e s m args below meth c s₁ B0 hml hv
  obtain ⟨rfl, hP, hK⟩ := hv
  have hx := B0.exec
  have hb := B0.bytes
  have hr := B0.returns
  have ht : ∀ w ∈ xT, w.before _ s = true := fun w h => atoms_spec (ws := xw yX0_victim cX0_victim 7 (some .int)) B0.pre w (List.mem_cons_of_mem _ h)
  have hown : s.vm.findClass RX0 = some m.cls := findClass_of_methodNamed B0.named
  have hlocks := B0.notSynchronized
  have hl := lv_entry ([.ref (A 0), .int (xb g)]) (n := 7) (Nat.le_of_ble_eq_true rfl)
  rw [lg_entry_eq]
  generalize (lg_sl ([.ref (A 0), .int (xb g)]) ++ List.replicate (7 - (lg_sl ([.ref (A 0), .int (xb g)])).length) Slot.unset).toArray = ls at hl ⊢
  have hl : lv_has ls 7 [(0, .ref (A 0)), (1, .int (xb g))] := hl
  have loop : ∀ (f i : Nat) (bs bw : Int32), i ≤ n → n + 1 ≤ i + f → xvC (xvic (xcand U Z) (xwo g U AG TK) i) bs bw → ∀ ls : Array Slot, lv_has ls 7 [(4, .int (nI i)), (3, .int bw), (2, .int bs), (0, .ref (A 0)), (1, .int (xb g))] → W p l e (headSpec (xw yX0_victim cX0_victim 7 (some .int)) ({ frames := 1, cells := 0, slots := 0, locals := 22 })).room s m ([.ref (A 0), .int (xb g)] : List Value).toArray below meth c s.heap [] 0 0 (MQ below (vp_Si (fun r => r = xvR (xvic (xcand U Z) (xwo g U AG TK) n))) ([.ref (A 0), .int (xb g)] : List Value).toArray s 0 0 (fun _ => False)) (F0 m 7 ls []) := by
    intro f
    induction f with
    | zero => intro i _ _ h1 h2; exact absurd h2 (by omega)
    | succ f ih =>
      intro i bs bw hi hf hc ls hl
      refine lv_iload hx hb dX0_victim_7 (lv_at hl 0 rfl) ?_
      refine lv_aload_n hx hb dX0_victim_9 rfl (lv_at hl 3 rfl) ?_
      refine va_get (D := D) (ci := 0) (v := .int (nI n)) (C := RX0) (T := TX0) (N := 7) hx hb ht xin_X0 hown hK hP 0 rfl rfl 0 (by decide) (ht _ kfl_RX0_9) (fun _ h9 => h9) rfl dX0_victim_10 ?_
      refine lv_icmp_ge (tgt := 104) hx hb dX0_victim_13 (by decide) (fun h1 => ?_) (fun h1 => ?_)
      · have hin : i = n := by
          rcases Nat.lt_or_ge i n with q | q
          · exact absurd h1 (nI_ge q (by omega))
          · omega
        subst hin
        refine lv_iload_n hx hb dX0_victim_104 rfl (lv_at hl 2 rfl) ?_
        exact W.iret (v := bs) hx hb hr (fun t ht hW => ⟨bs, rfl, xvC_R hc, ht⟩) (fun _ h => by cases h) dX0_victim_105
      · have hin : i < n := by
          rcases Nat.lt_or_ge i n with q | q
          · exact q
          · exact absurd (nI_le q (by omega)) h1
        have hpc := xpc_le (U i)
        refine lv_aload_n hx hb dX0_victim_16 rfl (lv_at hl 3 rfl) ?_
        refine va_get (D := D) (ci := 0) (v := .ref (A 1)) (C := RX0) (T := TX0) (N := 7) hx hb ht xin_X0 hown hK hP 0 rfl rfl 1 (by decide) (ht _ kfl_RX0_13) (fun _ h9 => h9) rfl dX0_victim_17 ?_
        refine lv_iload hx hb dX0_victim_20 (lv_at hl 0 rfl) ?_
        refine xa_ild hx hb hK hP 1 0 rfl rfl (v := nI (U i)) hin (by omega) rfl dX0_victim_22 ?_
        refine xr_S (n := 1) (As := [.int (nI (U i))]) (rest := []) ⟨hx, hb, hml, hown, ht⟩ (c_bitCount l (U i) (hU i)) (xg_S kml_RX0_84 kst_yJ6_bitCount_0f7a4 kin_RJ6 kco_yJ6_bitCount_0f7a4) ⟨rfl, rfl⟩ (by decide +kernel) ⟨Nat.le_of_ble_eq_true rfl, Nat.le_of_ble_eq_true rfl⟩ xk_preE rfl hl.1 rfl (Nat.le_of_ble_eq_true rfl) dX0_victim_23 ⟨Nat.zero_le _, Nat.zero_le _⟩ (fun r1 e1 => ?_)
        subst e1
        refine lv_istore (lv' := [(5, .int (nI (xpc (U i)))), (4, .int (nI i)), (3, .int bw), (2, .int bs), (0, .ref (A 0)), (1, .int (xb g))]) hx hb dX0_victim_26 hl (by decide) rfl (fun ls hl => ?_)
        refine lv_aload_n hx hb dX0_victim_28 rfl (lv_at hl 4 rfl) ?_
        refine va_get (D := D) (ci := 0) (v := .ref (A 4)) (C := RX0) (T := TX0) (N := 7) hx hb ht xin_X0 hown hK hP 0 rfl rfl 4 (by decide) (ht _ kfl_RX0_23) (fun _ h9 => h9) rfl dX0_victim_29 ?_
        refine lv_iload hx hb dX0_victim_32 (lv_at hl 1 rfl) ?_
        refine xa_zld hx hb hK hP 4 3 rfl rfl (v := xb (Z i)) hin (by omega) rfl dX0_victim_34 ?_
        refine lv_if_ne (tgt := 98) hx hb dX0_victim_35 (by decide) (fun h2 => ?_) (fun h2 => ?_)
        · refine lv_iinc (v := nI (i + 1)) (lv' := [(4, .int (nI (i + 1))), (5, .int (nI (xpc (U i)))), (3, .int bw), (2, .int bs), (0, .ref (A 0)), (1, .int (xb g))]) hx hb dX0_victim_98 hl (k := 1) rfl (nI_1 i) (by decide) rfl (fun ls hl => ?_)
          refine lv_goto (tgt := 7) hx hb dX0_victim_101 (by decide) ?_
          exact ih (i + 1) bs bw (by omega) (by omega) (by rw [xvic_skip (by rw [xb_n0] at h2; simp [xcand, h2])]; exact hc) ls (lv_sub hl [0, 2, 3, 4, 5] rfl)
        · rw [xb_0] at h2
          refine lv_iload hx hb dX0_victim_38 (lv_at hl 0 rfl) ?_
          refine lv_iconst (v := 1) hx hb dX0_victim_40 (by decide) ?_
          refine lv_icmp_lt (tgt := 98) hx hb dX0_victim_41 (by decide) (fun h3 => ?_) (fun h3 => ?_)
          · have hz : xpc (U i) = 0 := by
              rcases Nat.eq_zero_or_pos (xpc (U i)) with q | q
              · exact q
              · exact absurd h3 (nI_nlt (b := 1) q (by omega))
            refine lv_iinc (v := nI (i + 1)) (lv' := [(4, .int (nI (i + 1))), (5, .int (nI (xpc (U i)))), (3, .int bw), (2, .int bs), (0, .ref (A 0)), (1, .int (xb g))]) hx hb dX0_victim_98 hl (k := 1) rfl (nI_1 i) (by decide) rfl (fun ls hl => ?_)
            refine lv_goto (tgt := 7) hx hb dX0_victim_101 (by decide) ?_
            exact ih (i + 1) bs bw (by omega) (by omega) (by rw [xvic_skip (by simp [xcand, hz])]; exact hc) ls (lv_sub hl [0, 2, 3, 4, 5] rfl)
          · have hz : 0 < xpc (U i) := by
              rcases Nat.eq_zero_or_pos (xpc (U i)) with q | q
              · exact absurd (by rw [q]; decide) h3
              · exact q
            refine lv_iload hx hb dX0_victim_44 (lv_at hl 0 rfl) ?_
            refine lv_bipush (v := 16) hx hb dX0_victim_46 (by decide) ?_
            refine lv_icmp_lt (tgt := 54) hx hb dX0_victim_48 (by decide) (fun h4 => ?_) (fun h4 => ?_)
            · have hz6 : xpc (U i) < 16 := by
                rcases Nat.lt_or_ge (xpc (U i)) 16 with q | q
                · exact q
                · exact absurd h4 (nI_nlt (b := 16) q (by omega))
              have hca : xcand U Z i = true := by simp [xcand, h2, hz, hz6]
              have hwl : xwo g U AG TK i < 2 ^ 31 := xwo_lt hTK
              have tail : ∀ ls : Array Slot, lv_has ls 7 [(5, .int (nI (xpc (U i)))), (4, .int (nI i)), (3, .int bw), (2, .int bs), (0, .ref (A 0)), (1, .int (xb g))] → W p l e (headSpec (xw yX0_victim cX0_victim 7 (some .int)) ({ frames := 1, cells := 0, slots := 0, locals := 22 })).room s m ([.ref (A 0), .int (xb g)] : List Value).toArray below meth c s.heap [] 0 0 (MQ below (vp_Si (fun r => r = xvR (xvic (xcand U Z) (xwo g U AG TK) n))) ([.ref (A 0), .int (xb g)] : List Value).toArray s 0 0 (fun _ => False)) (F0 m 79 ls [.int (nI (xwo g U AG TK i))]) := by
                intro ls hl
                refine lv_istore (lv' := [(6, .int (nI (xwo g U AG TK i))), (5, .int (nI (xpc (U i)))), (4, .int (nI i)), (3, .int bw), (2, .int bs), (0, .ref (A 0)), (1, .int (xb g))]) hx hb dX0_victim_79 hl (by decide) rfl (fun ls hl => ?_)
                refine lv_iload_n hx hb dX0_victim_81 rfl (lv_at hl 4 rfl) ?_
                refine lv_iconst (v := -1) hx hb dX0_victim_82 (by decide) ?_
                cases hq : xvic (xcand U Z) (xwo g U AG TK) i with
                | none =>
                  rw [hq] at hc
                  obtain ⟨rfl, rfl⟩ := hc
                  refine lv_icmp_eq (tgt := 92) hx hb dX0_victim_83 (by decide) (fun h5 => ?_) (fun h5 => ?_)
                  · refine lv_iload hx hb dX0_victim_92 (lv_at hl 2 rfl) ?_
                    refine lv_istore_n (lv' := [(2, .int (nI i)), (6, .int (nI (xwo g U AG TK i))), (5, .int (nI (xpc (U i)))), (4, .int (nI i)), (3, .int 0), (0, .ref (A 0)), (1, .int (xb g))]) hx hb dX0_victim_94 rfl hl (by decide) rfl (fun ls hl => ?_)
                    refine lv_iload hx hb dX0_victim_95 (lv_at hl 1 rfl) ?_
                    refine lv_istore_n (lv' := [(3, .int (nI (xwo g U AG TK i))), (2, .int (nI i)), (6, .int (nI (xwo g U AG TK i))), (5, .int (nI (xpc (U i)))), (4, .int (nI i)), (0, .ref (A 0)), (1, .int (xb g))]) hx hb dX0_victim_97 rfl hl (by decide) rfl (fun ls hl => ?_)
                    refine lv_iinc (v := nI (i + 1)) (lv' := [(4, .int (nI (i + 1))), (3, .int (nI (xwo g U AG TK i))), (2, .int (nI i)), (6, .int (nI (xwo g U AG TK i))), (5, .int (nI (xpc (U i)))), (0, .ref (A 0)), (1, .int (xb g))]) hx hb dX0_victim_98 hl (k := 4) rfl (nI_1 i) (by decide) rfl (fun ls hl => ?_)
                    refine lv_goto (tgt := 7) hx hb dX0_victim_101 (by decide) ?_
                    exact ih (i + 1) (nI i) (nI (xwo g U AG TK i)) (by omega) (by omega) (by rw [xvic_new hca hq]; exact ⟨rfl, rfl, by omega, hwl⟩) ls (lv_sub hl [0, 1, 2, 5, 6] rfl)
                  · exact absurd rfl h5
                | some q =>
                  rw [hq] at hc
                  obtain ⟨rfl, rfl, hq1, hq2⟩ := hc
                  refine lv_icmp_eq (tgt := 92) hx hb dX0_victim_83 (by decide) (fun h5 => ?_) (fun h5 => ?_)
                  · exact absurd h5 (xp_m1 hq1)
                  · refine lv_iload hx hb dX0_victim_86 (lv_at hl 0 rfl) ?_
                    refine lv_iload_n hx hb dX0_victim_88 rfl (lv_at hl 3 rfl) ?_
                    refine lv_icmp_le (tgt := 98) hx hb dX0_victim_89 (by decide) (fun h6 => ?_) (fun h6 => ?_)
                    · have hle : xwo g U AG TK i ≤ q.2 := (nI_leI hwl hq2).mp h6
                      refine lv_iinc (v := nI (i + 1)) (lv' := [(4, .int (nI (i + 1))), (6, .int (nI (xwo g U AG TK i))), (5, .int (nI (xpc (U i)))), (3, .int (nI q.2)), (2, .int (nI q.1)), (0, .ref (A 0)), (1, .int (xb g))]) hx hb dX0_victim_98 hl (k := 2) rfl (nI_1 i) (by decide) rfl (fun ls hl => ?_)
                      refine lv_goto (tgt := 7) hx hb dX0_victim_101 (by decide) ?_
                      exact ih (i + 1) (nI q.1) (nI q.2) (by omega) (by omega) (by rw [xvic_le hq hle]; exact ⟨rfl, rfl, hq1, hq2⟩) ls (lv_sub hl [0, 3, 4, 5, 6] rfl)
                    · have hlt : q.2 < xwo g U AG TK i := Nat.lt_of_not_le (fun z => h6 ((nI_leI hwl hq2).mpr z))
                      refine lv_iload hx hb dX0_victim_92 (lv_at hl 2 rfl) ?_
                      refine lv_istore_n (lv' := [(2, .int (nI i)), (6, .int (nI (xwo g U AG TK i))), (5, .int (nI (xpc (U i)))), (4, .int (nI i)), (3, .int (nI q.2)), (0, .ref (A 0)), (1, .int (xb g))]) hx hb dX0_victim_94 rfl hl (by decide) rfl (fun ls hl => ?_)
                      refine lv_iload hx hb dX0_victim_95 (lv_at hl 1 rfl) ?_
                      refine lv_istore_n (lv' := [(3, .int (nI (xwo g U AG TK i))), (2, .int (nI i)), (6, .int (nI (xwo g U AG TK i))), (5, .int (nI (xpc (U i)))), (4, .int (nI i)), (0, .ref (A 0)), (1, .int (xb g))]) hx hb dX0_victim_97 rfl hl (by decide) rfl (fun ls hl => ?_)
                      refine lv_iinc (v := nI (i + 1)) (lv' := [(4, .int (nI (i + 1))), (3, .int (nI (xwo g U AG TK i))), (2, .int (nI i)), (6, .int (nI (xwo g U AG TK i))), (5, .int (nI (xpc (U i)))), (0, .ref (A 0)), (1, .int (xb g))]) hx hb dX0_victim_98 hl (k := 4) rfl (nI_1 i) (by decide) rfl (fun ls hl => ?_)
                      refine lv_goto (tgt := 7) hx hb dX0_victim_101 (by decide) ?_
                      exact ih (i + 1) (nI i) (nI (xwo g U AG TK i)) (by omega) (by omega) (by rw [xvic_gt hca hq hlt]; exact ⟨rfl, rfl, by omega, hwl⟩) ls (lv_sub hl [0, 1, 2, 5, 6] rfl)
              refine lv_iload_n hx hb dX0_victim_54 rfl (lv_at hl 5 rfl) ?_
              refine lv_if_eq (tgt := 74) hx hb dX0_victim_55 (by decide) (fun h7 => ?_) (fun h7 => ?_)
              · rw [xb_0] at h7
                subst h7
                refine lv_bipush (v := 16) hx hb dX0_victim_74 (by decide) ?_
                refine lv_iload hx hb dX0_victim_76 (lv_at hl 0 rfl) ?_
                refine lv_isub hx hb dX0_victim_78 ?_
                refine xa_top (y := nI (xwo false U AG TK i)) ((pk_sub (a := 16) hpc).trans rfl) ?_
                exact tail ls (lv_sub hl [0, 1, 2, 3, 4, 5] rfl)
              · rw [xb_n0] at h7
                subst h7
                refine lv_aload_n hx hb dX0_victim_58 rfl (lv_at hl 4 rfl) ?_
                refine lv_iload hx hb dX0_victim_59 (lv_at hl 0 rfl) ?_
                refine lv_aload_n hx hb dX0_victim_61 rfl (lv_at hl 4 rfl) ?_
                refine va_get (D := D) (ci := 0) (v := .ref (A 3)) (C := RX0) (T := TX0) (N := 7) hx hb ht xin_X0 hown hK hP 0 rfl rfl 3 (by decide) (ht _ kfl_RX0_20) (fun _ h9 => h9) rfl dX0_victim_62 ?_
                refine lv_iload hx hb dX0_victim_65 (lv_at hl 1 rfl) ?_
                refine xa_ild hx hb hK hP 3 2 rfl rfl (v := nI (AG i)) hin (by omega) rfl dX0_victim_67 ?_
                refine xr_V (n := 2) (As := [.int (nI (xpc (U i))), .int (nI (AG i))]) (rest := []) ⟨hx, hb, hml, hown, ht⟩ (c_gentleWorth l D A K n U TH AG Z B TK (xpc (U i)) (AG i) hpc (hAG i) hTK) (xg_V kml_RX0_89 kim_yX0_gentleWorth ksl_yX0_gentleWorth kin_RX0 kco_yX0_gentleWorth) ⟨rfl, rfl⟩ (by decide +kernel) ⟨Nat.le_of_ble_eq_true rfl, Nat.le_of_ble_eq_true rfl⟩ (xk_preV hP hK rfl rfl) rfl hl.1 rfl (Nat.le_of_ble_eq_true rfl) dX0_victim_68 ⟨Nat.zero_le _, Nat.zero_le _⟩ (fun r2 e2 => ?_)
                subst e2
                refine lv_goto (tgt := 79) hx hb dX0_victim_71 (by decide) ?_
                exact tail ls (lv_sub hl [0, 1, 2, 3, 4, 5] rfl)
            · have hz6 : xpc (U i) = 16 := by
                rcases Nat.lt_or_ge (xpc (U i)) 16 with q | q
                · exact absurd (nI_lt (b := 16) q (by omega)) h4
                · omega
              refine lv_goto (tgt := 98) hx hb dX0_victim_51 (by decide) ?_
              refine lv_iinc (v := nI (i + 1)) (lv' := [(4, .int (nI (i + 1))), (5, .int (nI (xpc (U i)))), (3, .int bw), (2, .int bs), (0, .ref (A 0)), (1, .int (xb g))]) hx hb dX0_victim_98 hl (k := 1) rfl (nI_1 i) (by decide) rfl (fun ls hl => ?_)
              refine lv_goto (tgt := 7) hx hb dX0_victim_101 (by decide) ?_
              exact ih (i + 1) bs bw (by omega) (by omega) (by rw [xvic_skip (by simp [xcand, hz6])]; exact hc) ls (lv_sub hl [0, 2, 3, 4, 5] rfl)
  refine lv_iconst (v := -1) hx hb dX0_victim_0 (by decide) ?_
  refine lv_istore_n (lv' := [(2, .int (-1)), (0, .ref (A 0)), (1, .int (xb g))]) hx hb dX0_victim_1 rfl hl (by decide) rfl (fun ls hl => ?_)
  refine lv_iconst (v := 0) hx hb dX0_victim_2 (by decide) ?_
  refine lv_istore_n (lv' := [(3, .int 0), (2, .int (-1)), (0, .ref (A 0)), (1, .int (xb g))]) hx hb dX0_victim_3 rfl hl (by decide) rfl (fun ls hl => ?_)
  refine lv_iconst (v := 0) hx hb dX0_victim_4 (by decide) ?_
  refine lv_istore (lv' := [(4, .int 0), (3, .int 0), (2, .int (-1)), (0, .ref (A 0)), (1, .int (xb g))]) hx hb dX0_victim_5 hl (by decide) rfl (fun ls hl => ?_)
  exact loop (n + 1) 0 (-1) 0 (by omega) (by omega) ⟨rfl, rfl⟩ ls (lv_sub hl [0, 1, 2, 3, 4] rfl)
end
section
/-- the segments that the first i logs have open -/
def xop (OP : Nat → Nat) : Nat → Nat → Bool
  | 0 => fun _ => false
  | i + 1 => va_up (xop OP i) (OP i) true
theorem xop_up (OP : Nat → Nat) (i : Nat) : va_up (xop OP i) (OP i) true = xop OP (i + 1) := rfl
set_option maxHeartbeats 4000000 in
set_option maxRecDepth 100000 in
/-- markTaken -/
theorem c_markTaken (l : Launch) (D : va_G) (A : Nat → Nat) (K : Nat → ClassId) (n : Nat) (U TH AG : Nat → Nat) (Z : Nat → Bool) (B : Nat → Nat) (TK : Nat) (hn : n ≤ 128) (j : Nat) (hj : j < n) (sz : Nat) : Met l yX0_markTaken (xw yX0_markTaken cX0_markTaken 2 none) ({ frames := 1, cells := 0, slots := 0, locals := 21 }) (xk_M [.ref (A 0), .int (nI j)] D (xc_T K) (xc_W A K n U TH AG Z B TK) sz) (xk_Q (fun v => v = none) D (xc_W A K n U TH AG Z B TK) (xc_W A K n U TH AG (va_up Z j true) B TK)) 0 0 (va_A (xc_W A K n U TH AG Z B TK) sz) := by
  refine Met.ofW (cc := cX0_markTaken) (maxL := 2) (ret := none) (by decide) rfl ?_
  intro p e s m args below meth c s₁ B0 hml hv
  obtain ⟨rfl, hsz, hP, hK, hD0⟩ := hv
  have hx := B0.exec
  have hb := B0.bytes
  have hr := B0.returns
  have ht : ∀ w ∈ xT, w.before _ s = true := fun w h => atoms_spec (ws := xw yX0_markTaken cX0_markTaken 2 none) B0.pre w (List.mem_cons_of_mem _ h)
  have hown : s.vm.findClass RX0 = some m.cls := findClass_of_methodNamed B0.named
  have hlocks := B0.notSynchronized
  have hl := lv_entry ([.ref (A 0), .int (nI j)]) (n := 2) (Nat.le_of_ble_eq_true rfl)
  rw [lg_entry_eq]
  generalize (lg_sl ([.ref (A 0), .int (nI j)]) ++ List.replicate (2 - (lg_sl ([.ref (A 0), .int (nI j)])).length) Slot.unset).toArray = ls at hl ⊢
  have hl : lv_has ls 2 [(0, .ref (A 0)), (1, .int (nI j))] := hl
  subst hsz
  have hD := hD0.self (sz := s.heap.size)
  have hA : ∀ q : Nat, s.heap.size ≤ q → va_A (xc_W A K n U TH AG Z B TK) s.heap.size q := fun q h => Or.inr h
  have hS : va_S (va_A (xc_W A K n U TH AG Z B TK) s.heap.size) s.heap s.heap [] := va_S.rf
  refine lv_aload_n hx hb dX0_markTaken_0 rfl (lv_at hl 0 rfl) ?_
  refine lv_iload_n hx hb dX0_markTaken_1 rfl (lv_at hl 1 rfl) ?_
  refine xr_V (n := 1) (As := [.int (nI j)]) (rest := []) ⟨hx, hb, hml, hown, ht⟩ (c_isSegment l D A K n U TH AG Z B TK (nI j) hn) (xg_V kml_RX0_93 kim_yX0_isSegment ksl_yX0_isSegment kin_RX0 kco_yX0_isSegment) ⟨rfl, rfl⟩ (by decide +kernel) ⟨Nat.le_of_ble_eq_true rfl, Nat.le_of_ble_eq_true rfl⟩ (xk_preV hP hK rfl rfl) rfl hl.1 rfl (Nat.le_of_ble_eq_true rfl) dX0_markTaken_2 ⟨Nat.zero_le _, Nat.zero_le _⟩ (fun r1 e1 => ?_)
  have e1 : r1 = 1 := e1.elim (fun q => q.choose_spec.2.2) (fun q => absurd ⟨j, hj, rfl⟩ q.1)
  subst e1
  refine lv_if_eq (tgt := 15) hx hb dX0_markTaken_5 (by decide) (fun h0 => ?_) (fun h0 => ?_)
  · exact absurd h0 (by decide)
  · refine lv_aload_n hx hb dX0_markTaken_8 rfl (lv_at hl 0 rfl) ?_
    refine va_get (D := D) (ci := 0) (v := .ref (A 4)) (C := RX0) (T := TX0) (N := 7) hx hb ht xin_X0 hown hK hP 0 rfl rfl 4 (by decide) (ht _ kfl_RX0_23) (fun _ h9 => h9) rfl dX0_markTaken_9 ?_
    refine lv_iload_n hx hb dX0_markTaken_12 rfl (lv_at hl 1 rfl) ?_
    refine lv_iconst (v := 1) hx hb dX0_markTaken_13 (by decide) ?_
    refine xa_zst hx hb hK hP hD hS 4 3 rfl rfl hj (by omega) (xu_z Z j true) dX0_markTaken_14 (fun H locs hP hD hS => ?_)
    have hP : va_P D xcl (xc_W A K n U TH AG (va_up Z j true) B TK) H := hP
    have hD : va_D (va_A (xc_W A K n U TH AG Z B TK) s.heap.size) (xc_W A K n U TH AG (va_up Z j true) B TK) := hD
    exact W.vret hx hb hr (fun t ht hW => ⟨⟨none, rfl, rfl⟩, by rw [ht]; exact hP, hS.F ht⟩) hS.2.2 dX0_markTaken_15

set_option maxHeartbeats 4000000 in
set_option maxRecDepth 100000 in
/-- putInUse -/
theorem c_putInUse (l : Launch) (D : va_G) (A : Nat → Nat) (K : Nat → ClassId) (n : Nat) (U TH AG : Nat → Nat) (Z : Nat → Bool) (B : Nat → Nat) (TK : Nat) (hn : n ≤ 128) (j k : Nat) (hj : j < n) (hk : k < 16) (sz : Nat) : Met l yX0_putInUse (xw yX0_putInUse cX0_putInUse 3 none) ({ frames := 2, cells := 0, slots := 0, locals := 41 }) (xk_M [.ref (A 0), .int (nI (96 + 16 * j + k))] D (xc_T K) (xc_W A K n U TH AG Z B TK) sz) (xk_Q (fun v => v = none) D (xc_W A K n U TH AG Z B TK) (xc_W A K n (va_up U j (U j ||| 2 ^ k)) TH (va_up AG j (TK + 1)) Z B (TK + 1))) 0 0 (va_A (xc_W A K n U TH AG Z B TK) sz) := by
  refine Met.ofW (cc := cX0_putInUse) (maxL := 3) (ret := none) (by decide) rfl ?_
  intro p e s m args below meth c s₁ B0 hml hv
  obtain ⟨rfl, hsz, hP, hK, hD0⟩ := hv
  have hx := B0.exec
  have hb := B0.bytes
  have hr := B0.returns
  have ht : ∀ w ∈ xT, w.before _ s = true := fun w h => atoms_spec (ws := xw yX0_putInUse cX0_putInUse 3 none) B0.pre w (List.mem_cons_of_mem _ h)
  have hown : s.vm.findClass RX0 = some m.cls := findClass_of_methodNamed B0.named
  have hlocks := B0.notSynchronized
  have hl := lv_entry ([.ref (A 0), .int (nI (96 + 16 * j + k))]) (n := 3) (Nat.le_of_ble_eq_true rfl)
  rw [lg_entry_eq]
  generalize (lg_sl ([.ref (A 0), .int (nI (96 + 16 * j + k))]) ++ List.replicate (3 - (lg_sl ([.ref (A 0), .int (nI (96 + 16 * j + k))])).length) Slot.unset).toArray = ls at hl ⊢
  have hl : lv_has ls 3 [(0, .ref (A 0)), (1, .int (nI (96 + 16 * j + k)))] := hl
  subst hsz
  have hD := hD0.self (sz := s.heap.size)
  have hA : ∀ q : Nat, s.heap.size ≤ q → va_A (xc_W A K n U TH AG Z B TK) s.heap.size q := fun q h => Or.inr h
  have hS : va_S (va_A (xc_W A K n U TH AG Z B TK) s.heap.size) s.heap s.heap [] := va_S.rf
  refine lv_aload_n hx hb dX0_putInUse_0 rfl (lv_at hl 0 rfl) ?_
  refine lv_iload_n hx hb dX0_putInUse_1 rfl (lv_at hl 1 rfl) ?_
  refine xr_V (n := 1) (As := [.int (nI (96 + 16 * j + k))]) (rest := []) ⟨hx, hb, hml, hown, ht⟩ (c_segmentOf l D A K n U TH AG Z B TK (nI (96 + 16 * j + k)) hn) (xg_V kml_RX0_64 kim_yX0_segmentOf ksl_yX0_segmentOf kin_RX0 kco_yX0_segmentOf) ⟨rfl, rfl⟩ (by decide +kernel) ⟨Nat.le_of_ble_eq_true rfl, Nat.le_of_ble_eq_true rfl⟩ (xk_preV hP hK rfl rfl) rfl hl.1 rfl (Nat.le_of_ble_eq_true rfl) dX0_putInUse_2 ⟨Nat.zero_le _, Nat.zero_le _⟩ (fun r1 e1 => ?_)
  have e1 : r1 = nI j := by
    rcases e1 with ⟨j9, k9, hj9, hk9, e9, rfl⟩ | ⟨q9, -⟩
    · have e9 := (nI_eq (by omega) (by omega)).mp e9; congr 1; omega
    · exact absurd ⟨j, k, by omega, by omega, rfl⟩ q9
  subst e1
  refine lv_istore_n (lv' := [(2, .int (nI j)), (0, .ref (A 0)), (1, .int (nI (96 + 16 * j + k)))]) hx hb dX0_putInUse_5 rfl hl (by decide) rfl (fun ls hl => ?_)
  refine lv_iload_n hx hb dX0_putInUse_6 rfl (lv_at hl 0 rfl) ?_
  refine lv_iconst (v := -1) hx hb dX0_putInUse_7 (by decide) ?_
  refine lv_icmp_ne (tgt := 12) hx hb dX0_putInUse_8 (by decide) (fun h0 => ?_) (fun h0 => ?_)
  · refine lv_aload_n hx hb dX0_putInUse_12 rfl (lv_at hl 1 rfl) ?_
    refine lv_dup hx hb dX0_putInUse_13 rfl ?_
    refine va_get (D := D) (ci := 0) (v := .int (nI TK)) (C := RX0) (T := TX0) (N := 7) hx hb ht xin_X0 hown hK hP 0 rfl rfl 6 (by decide) (ht _ kfl_RX0_30) (fun _ h9 => h9) rfl dX0_putInUse_14 ?_
    refine lv_iconst (v := 1) hx hb dX0_putInUse_17 (by decide) ?_
    refine lv_iadd hx hb dX0_putInUse_18 ?_
    refine xa_top (y := nI (TK + 1)) (nI_1 TK) ?_
    refine va_put (D := D) (ci := 0) (v := .int (nI (TK + 1))) (ty := .int) (C := RX0) (T := TX0) (N := 7) hx hb ht xin_X0 tyX0 tyX0_ok nmX0 hown hK hP hD hS 0 rfl rfl 6 (by decide) (ht _ kfl_RX0_30) (fun _ h9 => h9) rfl (by decide +kernel) rfl rfl (Nat.le_of_ble_eq_true rfl) dX0_putInUse_19 (fun H locs hP hD hS => ?_)
    have hP : va_P D xcl (xc_W A K n U TH AG Z B (TK + 1)) H := hP
    have hD : va_D (va_A (xc_W A K n U TH AG Z B TK) s.heap.size) (xc_W A K n U TH AG Z B (TK + 1)) := hD
    refine lv_aload_n hx hb dX0_putInUse_22 rfl (lv_at hl 1 rfl) ?_
    refine va_get (D := D) (ci := 0) (v := .ref (A 1)) (C := RX0) (T := TX0) (N := 7) hx hb ht xin_X0 hown hK hP 0 rfl rfl 1 (by decide) (ht _ kfl_RX0_13) (fun _ h9 => h9) rfl dX0_putInUse_23 ?_
    refine lv_iload_n hx hb dX0_putInUse_26 rfl (lv_at hl 0 rfl) ?_
    refine lv_dup2_11 hx hb dX0_putInUse_27 rfl rfl ?_
    refine xa_ild hx hb hK hP 1 0 rfl rfl (v := nI (U j)) hj (by omega) rfl dX0_putInUse_28 ?_
    refine lv_iload_n hx hb dX0_putInUse_29 rfl (lv_at hl 2 rfl) ?_
    refine xr_S (n := 1) (As := [.int (nI (96 + 16 * j + k))]) (rest := [.int (nI (U j)), .int (nI j), .ref (A 1)]) ⟨hx, hb, hml, hown, ht⟩ (c_bitOf l j k (by omega) hk) (xg_S kml_RX0_69 kst_yX0_bitOf kin_RX0 kco_yX0_bitOf) ⟨rfl, rfl⟩ (by decide +kernel) ⟨Nat.le_of_ble_eq_true rfl, Nat.le_of_ble_eq_true rfl⟩ xk_preE rfl hl.1 rfl (Nat.le_of_ble_eq_true rfl) dX0_putInUse_30 ⟨Nat.zero_le _, Nat.zero_le _⟩ (fun r2 e2 => ?_)
    subst e2
    refine lv_ior hx hb dX0_putInUse_33 ?_
    refine xa_top (y := nI (U j ||| 2 ^ k)) (xor' _ _) ?_
    refine xa_ist hx hb hK hP hD hS 1 0 rfl rfl hj (by omega) (xu_n U j _) dX0_putInUse_34 (fun H locs hP hD hS => ?_)
    have hP : va_P D xcl (xc_W A K n (va_up U j (U j ||| 2 ^ k)) TH AG Z B (TK + 1)) H := hP
    have hD : va_D (va_A (xc_W A K n U TH AG Z B TK) s.heap.size) (xc_W A K n (va_up U j (U j ||| 2 ^ k)) TH AG Z B (TK + 1)) := hD
    refine lv_aload_n hx hb dX0_putInUse_35 rfl (lv_at hl 1 rfl) ?_
    refine va_get (D := D) (ci := 0) (v := .ref (A 3)) (C := RX0) (T := TX0) (N := 7) hx hb ht xin_X0 hown hK hP 0 rfl rfl 3 (by decide) (ht _ kfl_RX0_20) (fun _ h9 => h9) rfl dX0_putInUse_36 ?_
    refine lv_iload_n hx hb dX0_putInUse_39 rfl (lv_at hl 0 rfl) ?_
    refine lv_aload_n hx hb dX0_putInUse_40 rfl (lv_at hl 1 rfl) ?_
    refine va_get (D := D) (ci := 0) (v := .int (nI (TK + 1))) (C := RX0) (T := TX0) (N := 7) hx hb ht xin_X0 hown hK hP 0 rfl rfl 6 (by decide) (ht _ kfl_RX0_30) (fun _ h9 => h9) rfl dX0_putInUse_41 ?_
    refine xa_ist hx hb hK hP hD hS 3 2 rfl rfl hj (by omega) (xu_n AG j _) dX0_putInUse_44 (fun H locs hP hD hS => ?_)
    have hP : va_P D xcl (xc_W A K n (va_up U j (U j ||| 2 ^ k)) TH (va_up AG j (TK + 1)) Z B (TK + 1)) H := hP
    have hD : va_D (va_A (xc_W A K n U TH AG Z B TK) s.heap.size) (xc_W A K n (va_up U j (U j ||| 2 ^ k)) TH (va_up AG j (TK + 1)) Z B (TK + 1)) := hD
    exact W.vret hx hb hr (fun t ht hW => ⟨⟨none, rfl, rfl⟩, by rw [ht]; exact hP, hS.F ht⟩) hS.2.2 dX0_putInUse_45
  · exact absurd h0 (xp_m1 (by omega))

set_option maxHeartbeats 4000000 in
set_option maxRecDepth 100000 in
/-- moveLog -/
theorem c_moveLog (l : Launch) (D : va_G) (A : Nat → Nat) (K : Nat → ClassId) (n : Nat) (U TH AG : Nat → Nat) (Z : Nat → Bool) (B : Nat → Nat) (TK : Nat) (hn : n ≤ 128) (q j k : Nat) (hq : q < 6) (hj : j < n) (hk : k < 16) (sz : Nat) : Met l yX0_moveLog (xw yX0_moveLog cX0_moveLog 3 none) ({ frames := 2, cells := 0, slots := 0, locals := 42 }) (xk_M [.ref (A 0), .int (nI q), .int (nI (96 + 16 * j + k))] D (xc_T K) (xc_W A K n U TH AG Z B TK) sz) (xk_Q (fun v => v = none) D (xc_W A K n U TH AG Z B TK) (xc_W A K n U TH AG (va_up Z j true) (va_up B q (96 + 16 * j + k)) TK)) 0 0 (va_A (xc_W A K n U TH AG Z B TK) sz) := by
  refine Met.ofW (cc := cX0_moveLog) (maxL := 3) (ret := none) (by decide) rfl ?_
  intro p e s m args below meth c s₁ B0 hml hv
  obtain ⟨rfl, hsz, hP, hK, hD0⟩ := hv
  have hx := B0.exec
  have hb := B0.bytes
  have hr := B0.returns
  have ht : ∀ w ∈ xT, w.before _ s = true := fun w h => atoms_spec (ws := xw yX0_moveLog cX0_moveLog 3 none) B0.pre w (List.mem_cons_of_mem _ h)
  have hown : s.vm.findClass RX0 = some m.cls := findClass_of_methodNamed B0.named
  have hlocks := B0.notSynchronized
  have hl := lv_entry ([.ref (A 0), .int (nI q), .int (nI (96 + 16 * j + k))]) (n := 3) (Nat.le_of_ble_eq_true rfl)
  rw [lg_entry_eq]
  generalize (lg_sl ([.ref (A 0), .int (nI q), .int (nI (96 + 16 * j + k))]) ++ List.replicate (3 - (lg_sl ([.ref (A 0), .int (nI q), .int (nI (96 + 16 * j + k))])).length) Slot.unset).toArray = ls at hl ⊢
  have hl : lv_has ls 3 [(0, .ref (A 0)), (1, .int (nI q)), (2, .int (nI (96 + 16 * j + k)))] := hl
  subst hsz
  have hD := hD0.self (sz := s.heap.size)
  have hA : ∀ q : Nat, s.heap.size ≤ q → va_A (xc_W A K n U TH AG Z B TK) s.heap.size q := fun q h => Or.inr h
  have hS : va_S (va_A (xc_W A K n U TH AG Z B TK) s.heap.size) s.heap s.heap [] := va_S.rf
  refine lv_iload_n hx hb dX0_moveLog_0 rfl (lv_at hl 1 rfl) ?_
  refine xr_S (n := 1) (As := [.int (nI q)]) (rest := []) ⟨hx, hb, hml, hown, ht⟩ (c_isLog l (nI q)) (xg_S kml_RX0_37 kst_yX0_isLog kin_RX0 kco_yX0_isLog) ⟨rfl, rfl⟩ (by decide +kernel) ⟨Nat.le_of_ble_eq_true rfl, Nat.le_of_ble_eq_true rfl⟩ xk_preE rfl hl.1 rfl (Nat.le_of_ble_eq_true rfl) dX0_moveLog_1 ⟨Nat.zero_le _, Nat.zero_le _⟩ (fun r1 e1 => ?_)
  have e1 : r1 = 1 := e1.elim (fun z => z.choose_spec.2.2) (fun z => absurd ⟨q, hq, rfl⟩ z.1)
  subst e1
  refine lv_if_eq (tgt := 23) hx hb dX0_moveLog_4 (by decide) (fun h0 => ?_) (fun h0 => ?_)
  · exact absurd h0 (by decide)
  · refine lv_aload_n hx hb dX0_moveLog_7 rfl (lv_at hl 0 rfl) ?_
    refine va_get (D := D) (ci := 0) (v := .ref (A 5)) (C := RX0) (T := TX0) (N := 7) hx hb ht xin_X0 hown hK hP 0 rfl rfl 5 (by decide) (ht _ kfl_RX0_27) (fun _ h9 => h9) rfl dX0_moveLog_8 ?_
    refine lv_iload_n hx hb dX0_moveLog_11 rfl (lv_at hl 1 rfl) ?_
    refine lv_iload_n hx hb dX0_moveLog_12 rfl (lv_at hl 2 rfl) ?_
    refine xa_ist hx hb hK hP hD hS 5 4 rfl rfl hq (by omega) (xu_n B q _) dX0_moveLog_13 (fun H locs hP hD hS => ?_)
    have hP : va_P D xcl (xc_W A K n U TH AG Z (va_up B q (96 + 16 * j + k)) TK) H := hP
    have hD : va_D (va_A (xc_W A K n U TH AG Z B TK) s.heap.size) (xc_W A K n U TH AG Z (va_up B q (96 + 16 * j + k)) TK) := hD
    refine lv_aload_n hx hb dX0_moveLog_14 rfl (lv_at hl 0 rfl) ?_
    refine lv_aload_n hx hb dX0_moveLog_15 rfl (lv_at hl 0 rfl) ?_
    refine lv_iload_n hx hb dX0_moveLog_16 rfl (lv_at hl 2 rfl) ?_
    refine xr_V (n := 1) (As := [.int (nI (96 + 16 * j + k))]) (rest := [.ref (A 0)]) ⟨hx, hb, hml, hown, ht⟩ (c_segmentOf l D A K n U TH AG Z (va_up B q (96 + 16 * j + k)) TK (nI (96 + 16 * j + k)) hn) (xg_V kml_RX0_64 kim_yX0_segmentOf ksl_yX0_segmentOf kin_RX0 kco_yX0_segmentOf) ⟨rfl, rfl⟩ (by decide +kernel) ⟨Nat.le_of_ble_eq_true rfl, Nat.le_of_ble_eq_true rfl⟩ (xk_preV hP hK rfl rfl) rfl hl.1 rfl (Nat.le_of_ble_eq_true rfl) dX0_moveLog_17 ⟨Nat.zero_le _, Nat.zero_le _⟩ (fun r2 e2 => ?_)
    have e2 : r2 = nI j := by
      rcases e2 with ⟨j9, k9, hj9, hk9, e9, rfl⟩ | ⟨q9, -⟩
      · have e9 := (nI_eq (by omega) (by omega)).mp e9; congr 1; omega
      · exact absurd ⟨j, k, by omega, by omega, rfl⟩ q9
    subst e2
    refine xr_M (n := 1) (As := [.int (nI j)]) (rest := []) ⟨hx, hb, hml, hown, ht⟩ (c_markTaken l D A K n U TH AG Z (va_up B q (96 + 16 * j + k)) TK hn j hj H.size) (xg_V kml_RX0_74 kim_yX0_markTaken ksl_yX0_markTaken kin_RX0 kco_yX0_markTaken) ⟨rfl, rfl⟩ (by decide +kernel) ⟨Nat.le_of_ble_eq_true rfl, Nat.le_of_ble_eq_true rfl⟩ hP hK hD hS hA rfl rfl rfl rfl hl.1 rfl (Nat.le_of_ble_eq_true rfl) dX0_moveLog_20 ⟨Nat.zero_le _, Nat.zero_le _⟩ (fun v9 H locs e9 hP hD hS => ?_)
    subst e9
    exact W.vret hx hb hr (fun t ht hW => ⟨⟨none, rfl, rfl⟩, by rw [ht]; exact hP, hS.F ht⟩) hS.2.2 dX0_moveLog_23

set_option maxHeartbeats 4000000 in
set_option maxRecDepth 100000 in
/-- checkpoint -/
theorem c_checkpoint (l : Launch) (D : va_G) (A : Nat → Nat) (K : Nat → ClassId) (n : Nat) (U TH AG : Nat → Nat) (Z : Nat → Bool) (B : Nat → Nat) (TK : Nat) (OP NX : Nat → Nat) (hn : n ≤ 128) (hU : ∀ j, U j < 65536) (hB : ∀ q, q < 6 → B q = 96 + 16 * OP q + NX q ∧ OP q < n ∧ NX q < 16) (hz : ∀ j, n ≤ j → TH j = U j ∧ Z j = false) (sz : Nat) : Met l yX0_checkpoint (xw yX0_checkpoint cX0_checkpoint 2 (some .int)) ({ frames := 3, cells := 0, slots := 0, locals := 64 }) (xk_M [.ref (A 0)] D (xc_T K) (xc_W A K n U TH AG Z B TK) sz) (xk_Q (fun v => v = some (.int (nI (xcnt (fun j => (xfr U U (xop OP 6) j).toNat) n)))) D (xc_W A K n U TH AG Z B TK) (xc_W A K n U U AG (xop OP 6) B TK)) 0 0 (va_A (xc_W A K n U TH AG Z B TK) sz) := by
  refine Met.ofW (cc := cX0_checkpoint) (maxL := 2) (ret := (some .int)) (by decide) rfl ?_
  intro p e s m args below meth c s₁ B0 hml hv
  obtain ⟨rfl, hsz, hP, hK, hD0⟩ := hv
  have hx := B0.exec
  have hb := B0.bytes
  have hr := B0.returns
  have ht : ∀ w ∈ xT, w.before _ s = true := fun w h => atoms_spec (ws := xw yX0_checkpoint cX0_checkpoint 2 (some .int)) B0.pre w (List.mem_cons_of_mem _ h)
  have hown : s.vm.findClass RX0 = some m.cls := findClass_of_methodNamed B0.named
  have hlocks := B0.notSynchronized
  have hl := lv_entry ([.ref (A 0)]) (n := 2) (Nat.le_of_ble_eq_true rfl)
  rw [lg_entry_eq]
  generalize (lg_sl ([.ref (A 0)]) ++ List.replicate (2 - (lg_sl ([.ref (A 0)])).length) Slot.unset).toArray = ls at hl ⊢
  have hl : lv_has ls 2 [(0, .ref (A 0))] := hl
  subst hsz
  have hD := hD0.self (sz := s.heap.size)
  have hA : ∀ q : Nat, s.heap.size ≤ q → va_A (xc_W A K n U TH AG Z B TK) s.heap.size q := fun q h => Or.inr h
  have hS : va_S (va_A (xc_W A K n U TH AG Z B TK) s.heap.size) s.heap s.heap [] := va_S.rf
  have loop2 : ∀ (f i : Nat) (H : Heap) (locs : List Loc), i ≤ 6 → 7 ≤ i + f → va_P D xcl (xc_W A K n U U AG (xop OP i) B TK) H → va_D (va_A (xc_W A K n U TH AG Z B TK) s.heap.size) (xc_W A K n U U AG (xop OP i) B TK) → va_S (va_A (xc_W A K n U TH AG Z B TK) s.heap.size) s.heap H locs → ∀ ls : Array Slot, lv_has ls 2 [(1, .int (nI i)), (0, .ref (A 0))] → W p l e (headSpec (xw yX0_checkpoint cX0_checkpoint 2 (some .int)) ({ frames := 3, cells := 0, slots := 0, locals := 64 })).room s m ([.ref (A 0)] : List Value).toArray below meth c H locs 0 0 (MQ below (xk_Q (fun v => v = some (.int (nI (xcnt (fun j => (xfr U U (xop OP 6) j).toNat) n)))) D (xc_W A K n U TH AG Z B TK) (xc_W A K n U U AG (xop OP 6) B TK)) ([.ref (A 0)] : List Value).toArray s 0 0 (va_A (xc_W A K n U TH AG Z B TK) s.heap.size)) (F0 m 37 ls []) := by
    intro f
    induction f with
    | zero => intro i H locs h1 h2; exact absurd h2 (by omega)
    | succ f ih =>
      intro i H locs hi hf hP hD hS ls hl
      refine lv_iload_n hx hb dX0_checkpoint_37 rfl (lv_at hl 0 rfl) ?_
      refine lv_bipush (v := 6) hx hb dX0_checkpoint_38 (by decide) ?_
      refine lv_icmp_ge (tgt := 63) hx hb dX0_checkpoint_40 (by decide) (fun h1 => ?_) (fun h1 => ?_)
      · have hin : i = 6 := by
          rcases Nat.lt_or_ge i 6 with q | q
          · exact absurd h1 (nI_ge (b := 6) q (by decide))
          · omega
        subst hin
        refine lv_aload_n hx hb dX0_checkpoint_63 rfl (lv_at hl 1 rfl) ?_
        refine xr_V (n := 0) (As := []) (rest := []) ⟨hx, hb, hml, hown, ht⟩ (c_free l D A K n U U AG (xop OP 6) B TK hn hU hU) (xg_V kml_RX0_77 kim_yX0_free ksl_yX0_free kin_RX0 kco_yX0_free) ⟨rfl, rfl⟩ (by decide +kernel) ⟨Nat.le_of_ble_eq_true rfl, Nat.le_of_ble_eq_true rfl⟩ (xk_preV hP hK rfl rfl) rfl hl.1 rfl (Nat.le_of_ble_eq_true rfl) dX0_checkpoint_64 ⟨Nat.zero_le _, Nat.zero_le _⟩ (fun r1 e1 => ?_)
        subst e1
        exact W.iret (v := _) hx hb hr (fun t ht hW => ⟨⟨_, rfl, rfl⟩, by rw [ht]; exact hP, hS.F ht⟩) hS.2.2 dX0_checkpoint_67
      · have hin : i < 6 := by
          rcases Nat.lt_or_ge i 6 with q | q
          · exact q
          · exact absurd (nI_le (a := 6) q (by omega)) h1
        obtain ⟨b1, b2, b3⟩ := hB i hin
        refine lv_aload_n hx hb dX0_checkpoint_43 rfl (lv_at hl 1 rfl) ?_
        refine lv_aload_n hx hb dX0_checkpoint_44 rfl (lv_at hl 1 rfl) ?_
        refine lv_aload_n hx hb dX0_checkpoint_45 rfl (lv_at hl 1 rfl) ?_
        refine va_get (D := D) (ci := 0) (v := .ref (A 5)) (C := RX0) (T := TX0) (N := 7) hx hb ht xin_X0 hown hK hP 0 rfl rfl 5 (by decide) (ht _ kfl_RX0_27) (fun _ h9 => h9) rfl dX0_checkpoint_46 ?_
        refine lv_iload_n hx hb dX0_checkpoint_49 rfl (lv_at hl 0 rfl) ?_
        refine xa_ild hx hb hK hP 5 4 rfl rfl (v := nI (96 + 16 * OP i + NX i)) hin (by decide) (by show nI (B i) = _; rw [b1]) dX0_checkpoint_50 ?_
        refine xr_V (n := 1) (As := [.int (nI (96 + 16 * OP i + NX i))]) (rest := [.ref (A 0)]) ⟨hx, hb, hml, hown, ht⟩ (c_segmentOf l D A K n U U AG (xop OP i) B TK (nI (96 + 16 * OP i + NX i)) hn) (xg_V kml_RX0_64 kim_yX0_segmentOf ksl_yX0_segmentOf kin_RX0 kco_yX0_segmentOf) ⟨rfl, rfl⟩ (by decide +kernel) ⟨Nat.le_of_ble_eq_true rfl, Nat.le_of_ble_eq_true rfl⟩ (xk_preV hP hK rfl rfl) rfl hl.1 rfl (Nat.le_of_ble_eq_true rfl) dX0_checkpoint_51 ⟨Nat.zero_le _, Nat.zero_le _⟩ (fun r2 e2 => ?_)
        have e2 : r2 = nI (OP i) := by
          rcases e2 with ⟨j9, k9, hj9, hk9, e9, rfl⟩ | ⟨q9, -⟩
          · have e9 := (nI_eq (by omega) (by omega)).mp e9; congr 1; omega
          · exact absurd ⟨OP i, NX i, by omega, by omega, rfl⟩ q9
        subst e2
        refine xr_M (n := 1) (As := [.int (nI (OP i))]) (rest := []) ⟨hx, hb, hml, hown, ht⟩ (c_markTaken l D A K n U U AG (xop OP i) B TK hn (OP i) b2 H.size) (xg_V kml_RX0_74 kim_yX0_markTaken ksl_yX0_markTaken kin_RX0 kco_yX0_markTaken) ⟨rfl, rfl⟩ (by decide +kernel) ⟨Nat.le_of_ble_eq_true rfl, Nat.le_of_ble_eq_true rfl⟩ hP hK hD hS hA rfl rfl rfl rfl hl.1 rfl (Nat.le_of_ble_eq_true rfl) dX0_checkpoint_54 ⟨Nat.zero_le _, Nat.zero_le _⟩ (fun v9 H locs e9 hP hD hS => ?_)
        subst e9
        refine lv_iinc (v := nI (i + 1)) (lv' := [(1, .int (nI (i + 1))), (0, .ref (A 0))]) hx hb dX0_checkpoint_57 hl (k := 0) rfl (nI_1 i) (by decide) rfl (fun ls hl => ?_)
        refine lv_goto (tgt := 37) hx hb dX0_checkpoint_60 (by decide) ?_
        rw [xop_up] at hP hD
        exact ih (i + 1) H locs (by omega) (by omega) hP hD hS ls (lv_sub hl [0, 1] rfl)
  have loop : ∀ (f i : Nat) (TH' : Nat → Nat) (Z' : Nat → Bool) (H : Heap) (locs : List Loc), i ≤ n → n + 1 ≤ i + f → (∀ j, j < i → TH' j = U j ∧ Z' j = false) → (∀ j, i ≤ j → TH' j = TH j ∧ Z' j = Z j) → va_P D xcl (xc_W A K n U TH' AG Z' B TK) H → va_D (va_A (xc_W A K n U TH AG Z B TK) s.heap.size) (xc_W A K n U TH' AG Z' B TK) → va_S (va_A (xc_W A K n U TH AG Z B TK) s.heap.size) s.heap H locs → ∀ ls : Array Slot, lv_has ls 2 [(1, .int (nI i)), (0, .ref (A 0))] → W p l e (headSpec (xw yX0_checkpoint cX0_checkpoint 2 (some .int)) ({ frames := 3, cells := 0, slots := 0, locals := 64 })).room s m ([.ref (A 0)] : List Value).toArray below meth c H locs 0 0 (MQ below (xk_Q (fun v => v = some (.int (nI (xcnt (fun j => (xfr U U (xop OP 6) j).toNat) n)))) D (xc_W A K n U TH AG Z B TK) (xc_W A K n U U AG (xop OP 6) B TK)) ([.ref (A 0)] : List Value).toArray s 0 0 (va_A (xc_W A K n U TH AG Z B TK) s.heap.size)) (F0 m 2 ls []) := by
    intro f
    induction f with
    | zero => intro i TH' Z' H locs h1 h2; exact absurd h2 (by omega)
    | succ f ih =>
      intro i TH' Z' H locs hi hf hlo hhi hP hD hS ls hl
      refine lv_iload_n hx hb dX0_checkpoint_2 rfl (lv_at hl 0 rfl) ?_
      refine lv_aload_n hx hb dX0_checkpoint_3 rfl (lv_at hl 1 rfl) ?_
      refine va_get (D := D) (ci := 0) (v := .int (nI n)) (C := RX0) (T := TX0) (N := 7) hx hb ht xin_X0 hown hK hP 0 rfl rfl 0 (by decide) (ht _ kfl_RX0_9) (fun _ h9 => h9) rfl dX0_checkpoint_4 ?_
      refine lv_icmp_ge (tgt := 35) hx hb dX0_checkpoint_7 (by decide) (fun h1 => ?_) (fun h1 => ?_)
      · have hin : i = n := by
          rcases Nat.lt_or_ge i n with q | q
          · exact absurd h1 (nI_ge q (by omega))
          · omega
        subst hin
        have eT : TH' = U := by
          funext j
          rcases Nat.lt_or_ge j i with q | q
          · exact (hlo j q).1
          · rw [(hhi j q).1]; exact (hz j q).1
        have eZ : Z' = xop OP 0 := by
          funext j
          rcases Nat.lt_or_ge j i with q | q
          · exact (hlo j q).2
          · rw [(hhi j q).2]; exact (hz j q).2
        subst eT
        subst eZ
        refine lv_iconst (v := 0) hx hb dX0_checkpoint_35 (by decide) ?_
        refine lv_istore_n (lv' := [(1, .int 0), (0, .ref (A 0))]) hx hb dX0_checkpoint_36 rfl hl (by decide) rfl (fun ls hl => ?_)
        exact loop2 7 0 H locs (by omega) (by omega) hP hD hS ls (lv_sub hl [0, 1] rfl)
      · have hin : i < n := by
          rcases Nat.lt_or_ge i n with q | q
          · exact q
          · exact absurd (nI_le q (by omega)) h1
        refine lv_aload_n hx hb dX0_checkpoint_10 rfl (lv_at hl 1 rfl) ?_
        refine va_get (D := D) (ci := 0) (v := .ref (A 2)) (C := RX0) (T := TX0) (N := 7) hx hb ht xin_X0 hown hK hP 0 rfl rfl 2 (by decide) (ht _ kfl_RX0_17) (fun _ h9 => h9) rfl dX0_checkpoint_11 ?_
        refine lv_iload_n hx hb dX0_checkpoint_14 rfl (lv_at hl 0 rfl) ?_
        refine lv_aload_n hx hb dX0_checkpoint_15 rfl (lv_at hl 1 rfl) ?_
        refine va_get (D := D) (ci := 0) (v := .ref (A 1)) (C := RX0) (T := TX0) (N := 7) hx hb ht xin_X0 hown hK hP 0 rfl rfl 1 (by decide) (ht _ kfl_RX0_13) (fun _ h9 => h9) rfl dX0_checkpoint_16 ?_
        refine lv_iload_n hx hb dX0_checkpoint_19 rfl (lv_at hl 0 rfl) ?_
        refine xa_ild hx hb hK hP 1 0 rfl rfl (v := nI (U i)) hin (by omega) rfl dX0_checkpoint_20 ?_
        refine xa_ist hx hb hK hP hD hS 2 1 rfl rfl hin (by omega) (xu_n TH' i _) dX0_checkpoint_21 (fun H locs hP hD hS => ?_)
        have hP : va_P D xcl (xc_W A K n U (va_up TH' i (U i)) AG Z' B TK) H := hP
        have hD : va_D (va_A (xc_W A K n U TH AG Z B TK) s.heap.size) (xc_W A K n U (va_up TH' i (U i)) AG Z' B TK) := hD
        refine lv_aload_n hx hb dX0_checkpoint_22 rfl (lv_at hl 1 rfl) ?_
        refine va_get (D := D) (ci := 0) (v := .ref (A 4)) (C := RX0) (T := TX0) (N := 7) hx hb ht xin_X0 hown hK hP 0 rfl rfl 4 (by decide) (ht _ kfl_RX0_23) (fun _ h9 => h9) rfl dX0_checkpoint_23 ?_
        refine lv_iload_n hx hb dX0_checkpoint_26 rfl (lv_at hl 0 rfl) ?_
        refine lv_iconst (v := 0) hx hb dX0_checkpoint_27 (by decide) ?_
        refine xa_zst hx hb hK hP hD hS 4 3 rfl rfl hin (by omega) (xu_z Z' i false) dX0_checkpoint_28 (fun H locs hP hD hS => ?_)
        have hP : va_P D xcl (xc_W A K n U (va_up TH' i (U i)) AG (va_up Z' i false) B TK) H := hP
        have hD : va_D (va_A (xc_W A K n U TH AG Z B TK) s.heap.size) (xc_W A K n U (va_up TH' i (U i)) AG (va_up Z' i false) B TK) := hD
        refine lv_iinc (v := nI (i + 1)) (lv' := [(1, .int (nI (i + 1))), (0, .ref (A 0))]) hx hb dX0_checkpoint_29 hl (k := 0) rfl (nI_1 i) (by decide) rfl (fun ls hl => ?_)
        refine lv_goto (tgt := 2) hx hb dX0_checkpoint_32 (by decide) ?_
        refine ih (i + 1) (va_up TH' i (U i)) (va_up Z' i false) H locs (by omega) (by omega) ?_ ?_ hP hD hS ls (lv_sub hl [0, 1] rfl)
        · intro j hj
          by_cases e : j = i
          · subst e; exact ⟨va_up_self _ _ _, va_up_self _ _ _⟩
          · rw [va_up_ne _ _ e, va_up_ne _ _ e]; exact hlo j (by omega)
        · intro j hj
          rw [va_up_ne _ _ (by omega), va_up_ne _ _ (by omega)]; exact hhi j (by omega)
  refine lv_iconst (v := 0) hx hb dX0_checkpoint_0 (by decide) ?_
  refine lv_istore_n (lv' := [(1, .int 0), (0, .ref (A 0))]) hx hb dX0_checkpoint_1 rfl hl (by decide) rfl (fun ls hl => ?_)
  exact loop (n + 1) 0 TH Z s.heap [] (by omega) (by omega) (fun j hj => absurd hj (by omega)) (fun j _ => ⟨rfl, rfl⟩) hP hD hS ls (lv_sub hl [0, 1] rfl)
end
section
/-! WHAT A THROW NEEDS OF THE START: two statics, words that only the tables decide, the messages -/
abbrev xIA : String := "java/lang/IllegalArgumentException"
abbrev xIS : String := "java/lang/IllegalStateException"
abbrev xup : List String := ["java/lang/RuntimeException", "java/lang/Exception"]
def xN : List Cond := [.declares (Bundle.initS "java/lang/RuntimeException"), .declares (Bundle.initS "java/lang/Exception"), .declares (Bundle.initS "java/lang/Throwable"), .castable xIA xIA, .castable xIS xIS]
theorem xN_A : ∀ w ∈ (vx_atS RX0 45 xIA xup).filter (fun w => !goodWord w), w ∈ xN := by decide +kernel
theorem xN_S : ∀ w ∈ (vx_atS RX0 55 xIS xup).filter (fun w => !goodWord w), w ∈ xN := by decide +kernel
theorem xT_A : ∀ w ∈ (vx_atS RX0 45 xIA xup).filter goodWord, w ∈ xT := by decide +kernel
theorem xT_S : ∀ w ∈ (vx_atS RX0 55 xIS xup).filter goodWord, w ∈ xT := by decide +kernel
theorem xN_tab : ∀ w ∈ xN, w.onTables = true := by decide +kernel
theorem xN_in : ∀ w ∈ xN, w ∈ lw_tbl := by decide +kernel
theorem xot_A : ∀ w ∈ Cond.classLink RX0 41 xIA :: Cond.initialized xIA :: vx_atS RX0 45 xIA xup, vx_ot w = true := by decide +kernel
theorem xot_S : ∀ w ∈ Cond.classLink RX0 51 xIS :: Cond.initialized xIS :: vx_atS RX0 55 xIS xup, vx_ot w = true := by decide +kernel
def xS (sz0 : Nat) (sa : Nat → Nat) (U : State) : Prop :=
  vx_Zq Bundle.tN "UNASSIGNED_STACK" Bundle.steD (fun q => sz0 ≤ q) U U.heap ∧ vx_Zq Bundle.tN "SUPPRESSED_SENTINEL" Bundle.listD (fun q => sz0 ≤ q) U U.heap ∧ (∀ w ∈ xN, va_Nw w U) ∧
  vk_R RX0 43 "no such log" (sa 0) U ∧ vk_R RX0 53 "no free segment to open" (sa 1) U ∧ vk_R RX0 67 "no such block" (sa 2) U ∧ vk_R RX0 72 "the block is not in use" (sa 3) U ∧ vk_R RX0 96 "no such segment" (sa 4) U ∧ vk_R RX0 98 "no such thing to look at" (sa 5) U ∧ va_Nc xIS xIA U
theorem xNw {s U : State} (hW : s.WarmedH U.vm) (h : ∀ w ∈ xN, va_Nw w s) : ∀ w ∈ xN, va_Nw w U := by
  intro w hw
  have hs := h w hw
  rcases List.mem_cons.mp hw with rfl | hw
  · exact va_Nw.warmD hW hs
  rcases List.mem_cons.mp hw with rfl | hw
  · exact va_Nw.warmD hW hs
  rcases List.mem_cons.mp hw with rfl | hw
  · exact va_Nw.warmD hW hs
  rcases List.mem_cons.mp hw with rfl | hw
  · exact va_Nw.warmC hW hs
  rcases List.mem_cons.mp hw with rfl | hw
  · exact va_Nw.warmC hW hs
  cases hw
theorem vx_Zq_to {C n d : String} {A : Nat → Prop} {s U : State} (hvm : s.vm.Alike U.vm) (h : vx_Zq C n d A s s.heap) (hq : ∀ a : Nat, a < s.heap.size → ¬ A a → U.heap[a]? = s.heap[a]?) : vx_Zq C n d A U U.heap := (h.kept hq).moved hvm
theorem xS_to {sz0 : Nat} {sa : Nat → Nat} {s U : State} (h : xS sz0 sa s) (hW : s.WarmedH U.vm) (hq : ∀ q : Nat, q < s.heap.size → q < sz0 → U.heap[q]? = s.heap[q]?) : xS sz0 sa U := by
  obtain ⟨h1, h2, h3, h4, h5, h6, h7, h8, h9, h10⟩ := h
  have hq' : ∀ a : Nat, a < s.heap.size → ¬ (fun q => sz0 ≤ q) a → U.heap[a]? = s.heap[a]? := fun a ha hb => hq a ha (Nat.lt_of_not_le hb)
  exact ⟨vx_Zq_to hW.alike h1 hq', vx_Zq_to hW.alike h2 hq', xNw hW h3, h4.warm hW, h5.warm hW, h6.warm hW, h7.warm hW, h8.warm hW, h9.warm hW, h10.moved hW.alike⟩
/-- the same tables, the same heap: another frame -/
theorem xS_same {sz0 : Nat} {sa : Nat → Nat} {u U : State} (h : xS sz0 sa u) (hv : U.vm = u.vm) (hh : U.heap = u.heap) : xS sz0 sa U := by
  obtain ⟨h1, h2, h3, h4, h5, h6, h7, h8, h9, h10⟩ := h
  have hal : u.vm.Alike U.vm := by rw [hv]; exact Vm.Alike.refl _
  exact ⟨by rw [hh]; exact vx_Zq.moved hal h1, by rw [hh]; exact vx_Zq.moved hal h2, fun w hw => va_Nw.same (xN_tab w hw) hv.symm (h3 w hw), h4.same hv, h5.same hv, h6.same hv, h7.same hv, h8.same hv, h9.same hv, h10.moved hal⟩
/-! a method that throws E0, having changed nothing -/
def xt_X (E0 : String) : String → State → State → Prop := vx_X (fun _ : Unit => True) (fun E _ _ => E = E0) (fun _ => False)
def xt_i : Array Value → State → Outcome → State → Prop := va_Qi (fun (_ : Int32) (_ : Unit) => False) (fun _ _ => True) (fun _ => False)
def xt_v : Array Value → State → Outcome → State → Prop := va_Qv (fun (_ : Unit) => False) (fun _ _ => True) (fun _ => False)
def xk_X (As : List Value) (D : va_G) (tys : List (ClassId × FieldType)) (ws : va_W) (sz0 : Nat) (sa : Nat → Nat) : Array Value → State → Prop := va_Pc As (fun U => va_P D xcl ws U.heap ∧ va_K D xcl tys U ∧ xS sz0 sa U)
section XX
variable {p : Program} {l : Launch} {e : Env} {R : Room} {s : State} {m : MethodId} {args : Array Value} {below : List Frame} {meth : Method} {c : Code} {cells slots : Nat}
variable {D : va_G} {tys : List (ClassId × FieldType)} {ws : va_W} {As rest : List Value} {b : Addr} {pc : Nat} {ls : Array Slot} {H : Heap}
theorem xk_blindX {sz0 : Nat} {sa : Nat → Nat} : FrameBlind (xk_X As D tys ws sz0 sa) := fun a U g mk q => by obtain ⟨q0, qP, qK, qS⟩ := q; exact ⟨q0, qP, va_K.moved (u := U) (U := U.calling g mk a) (Vm.Alike.refl U.vm) qK, xS_same qS rfl rfl⟩
theorem xk_preX {C : String} {T : u_T} {N ci sz0 : Nat} {sa : Nat → Nat} {fs : List Value} (hP : va_P D xcl ws H) (hK : va_K D xcl tys s) (hX : xS sz0 sa s) (hH : ∀ q : Nat, q < s.heap.size → q < sz0 → H[q]? = s.heap[q]?) (he : ws[0]? = some (b, .inr (ci, fs))) (hc : xcl[ci]? = some (C, T, N)) : PreV s H C b (xk_X (.ref b :: As) D tys ws sz0 sa) As := ⟨xk_blindX, va_recv (q := (C, T, N)) hK hP hc he, fun U hU hW => ⟨rfl, by rw [hU]; exact hP, va_K.moved hW.alike hK, xS_to hX hW (fun q h1 h2 => by rw [hU]; exact hH q h1 h2)⟩⟩
theorem xt_thr {cc : ByteArray} {Qc : Array Value → State → Outcome → State → Prop} (hexec : p.tables.exec = Jvm.exec) (hb : c.code = cc) (hl : l.stackTraces = false) {cls text : String} {ik is ic sa : Nat} {A : Nat → Prop}
    (hown : s.vm.findClass RX0 = some m.cls) (hcls : Bundle.fit cls = true) (hk : (Cond.classLink RX0 ik cls).before args s = true) (hini : (Cond.initialized cls).before args s = true) (hstr : vk_R RX0 is text sa s) (ht : ∀ w ∈ xT, w.before args s = true) (hN : ∀ w ∈ xN, va_Nw w s)
    (g1 : ∀ w ∈ (vx_atS RX0 ic cls xup).filter goodWord, w ∈ xT) (g2 : ∀ w ∈ (vx_atS RX0 ic cls xup).filter (fun w => !goodWord w), w ∈ xN) (g3 : ∀ w ∈ Cond.classLink RX0 ik cls :: Cond.initialized cls :: vx_atS RX0 ic cls xup, vx_ot w = true)
    (hU : vx_Zq Bundle.tN "UNASSIGNED_STACK" Bundle.steD A s s.heap) (hV : vx_Zq Bundle.tN "SUPPRESSED_SENTINEL" Bundle.listD A s s.heap) (hsize : ls.size = c.maxLocals)
    (d0 : decode cc pc = .ok (.new ik, 3)) (d3 : decode cc (pc + 3) = .ok (.dup, 1)) (d4 : decode cc (pc + 4) = .ok (.ldc is, 2)) (d6 : decode cc (pc + 6) = .ok (.invokespecial ic, 3)) (d9 : decode cc (pc + 9) = .ok (.athrow, 1))
    (hout : ∀ x ∈ c.exceptionTable.toList, False) (hRf : 5 < R.frames) (hRl : (rest.map fun v => v.category).sum + 82 ≤ R.locals) (hRc : cells + 1 ≤ R.cells) (hRs : slots + 6 ≤ R.slots) (hlocks : meth.locks = false) :
    W p l e R s m args below meth c s.heap [] cells slots (vx_MQ below Qc (xt_X cls) args s (cells + 1) (slots + 6) (fun _ => False)) (F0 m pc ls rest) :=
  vx_throwS (A := A) (names := xup) hexec hb hl hown hcls (by decide +kernel) hk hini hstr (vx_hat (fun w hw => ht w (g1 w hw)) g2 (fun w hw => va_Nw.use (xN_tab w hw) (hN w hw))) g3 hU hV va_S.rf hsize d0 d3 d4 d6 d9 (fun x hx => (hout x hx).elim) hRf hRl hRc hRs hlocks
    (fun t _ h1 h2 => ⟨(), trivial, rfl, h1, fun q hq _ => h2 q hq⟩) (fun _ h => by cases h) (Nat.le_refl _) (Nat.le_refl _)
end XX
end
section
theorem xand2 (M k : Nat) : M &&& 2 ^ k = (M.testBit k).toNat * 2 ^ k := by
  apply Nat.eq_of_testBit_eq
  intro i
  rw [Nat.testBit_and, Nat.testBit_two_pow]
  by_cases e : k = i
  · subst e
    cases h : M.testBit k <;> simp [Nat.testBit_two_pow]
  · cases h : M.testBit k <;> simp [Nat.testBit_two_pow, e]
theorem xtb {M k : Nat} : nI M &&& nI (2 ^ k) = nI ((M.testBit k).toNat * 2 ^ k) := by rw [xand, xand2]
theorem xtb_lt {M k : Nat} (h : M < 65536) : (M.testBit k).toNat * 2 ^ k < 65536 := by
  rw [← xand2]
  exact Nat.lt_of_le_of_lt Nat.and_le_left h
theorem xtb0 {M k : Nat} (h : M < 65536) : nI M &&& nI (2 ^ k) = 0 ↔ M.testBit k = false := by
  rw [xtb, nI_0iff (xtb_lt h)]
  cases M.testBit k
  · simp
  · simp
theorem xtb1 {M k : Nat} (h : M < 65536) : ¬ nI M &&& nI (2 ^ k) = 0 ↔ M.testBit k = true := by
  rw [xtb0 h]; cases M.testBit k <;> simp
theorem xclr0 : ∀ k, k < 16 → (65535 : Int32) &&& (nI (2 ^ k) ^^^ (-1)) = nI (65535 ^^^ 2 ^ k) := by decide +kernel
theorem xclr {M k : Nat} (h : M < 65536) (hk : k < 16) : nI M &&& (nI (2 ^ k) ^^^ (-1)) = nI (M &&& (65535 ^^^ 2 ^ k)) := by
  have e : nI M = nI M &&& (65535 : Int32) := by
    rw [show (65535 : Int32) = nI 65535 from rfl, xand]
    congr 1
    exact (Nat.and_two_pow_sub_one_of_lt_two_pow (n := 16) h).symm
  rw [e, Int32.and_assoc, xclr0 k hk, xand]
def xlk (U TH AG : Nat → Nat) (Z : Nat → Bool) (j : Nat) : Nat → Int32
  | 0 => nI (U j)
  | 1 => nI (TH j)
  | 2 => nI (AG j)
  | _ => xb (Z j)
theorem xout {y : Int32} (h : ¬ ∃ v : Nat, v < 4 ∧ y = nI v) : y.toInt < 0 ∨ 3 < y.toInt := by
  rcases pk_ix y (n := 4) (by decide) with q | q | q
  · exact Or.inl (by rw [Int32.lt_iff_toInt_lt] at q; exact q)
  · refine Or.inr ?_
    rw [Int32.le_iff_toInt_le] at q
    have : (nI 4).toInt = 4 := by decide
    omega
  · exact absurd q h
set_option maxHeartbeats 4000000 in
set_option maxRecDepth 100000 in
/-- next -/
theorem c_next_ok (l : Launch) (D : va_G) (A : Nat → Nat) (K : Nat → ClassId) (n : Nat) (U TH AG : Nat → Nat) (Z : Nat → Bool) (B : Nat → Nat) (TK : Nat) (q : Nat) (hq : q < 6) : Met l yX0_next (xw yX0_next cX0_next 2 (some .int)) ({ frames := 1, cells := 0, slots := 0, locals := 20 }) (xk_P [.ref (A 0), .int (nI q)] D (xc_T K) (xc_W A K n U TH AG Z B TK)) (vp_Si (fun r => r = nI (B q))) 0 0 (fun _ => False) := by
  refine Met.ofW (cc := cX0_next) (maxL := 2) (ret := (some .int)) (by decide) rfl ?_
  intro p e s m args below meth c s₁ B0 hml hv
  obtain ⟨rfl, hP, hK⟩ := hv
  have hx := B0.exec
  have hb := B0.bytes
  have hr := B0.returns
  have ht : ∀ w ∈ xT, w.before _ s = true := fun w h => atoms_spec (ws := xw yX0_next cX0_next 2 (some .int)) B0.pre w (List.mem_cons_of_mem _ h)
  have hown : s.vm.findClass RX0 = some m.cls := findClass_of_methodNamed B0.named
  have hlocks := B0.notSynchronized
  have hl := lv_entry ([.ref (A 0), .int (nI q)]) (n := 2) (Nat.le_of_ble_eq_true rfl)
  rw [lg_entry_eq]
  generalize (lg_sl ([.ref (A 0), .int (nI q)]) ++ List.replicate (2 - (lg_sl ([.ref (A 0), .int (nI q)])).length) Slot.unset).toArray = ls at hl ⊢
  have hl : lv_has ls 2 [(0, .ref (A 0)), (1, .int (nI q))] := hl
  refine lv_iload_n hx hb dX0_next_0 rfl (lv_at hl 1 rfl) ?_
  refine xr_S (n := 1) (As := [.int (nI q)]) (rest := []) ⟨hx, hb, hml, hown, ht⟩ (c_isLog l (nI q)) (xg_S kml_RX0_37 kst_yX0_isLog kin_RX0 kco_yX0_isLog) ⟨rfl, rfl⟩ (by decide +kernel) ⟨Nat.le_of_ble_eq_true rfl, Nat.le_of_ble_eq_true rfl⟩ xk_preE rfl hl.1 rfl (Nat.le_of_ble_eq_true rfl) dX0_next_1 ⟨Nat.zero_le _, Nat.zero_le _⟩ (fun r1 e1 => ?_)
  have e1 : r1 = 1 := e1.elim (fun z => z.choose_spec.2.2) (fun z => absurd ⟨q, hq, rfl⟩ z.1)
  subst e1
  refine lv_if_ne (tgt := 17) hx hb dX0_next_4 (by decide) (fun h0 => ?_) (fun h0 => ?_)
  · refine lv_aload_n hx hb dX0_next_17 rfl (lv_at hl 0 rfl) ?_
    refine va_get (D := D) (ci := 0) (v := .ref (A 5)) (C := RX0) (T := TX0) (N := 7) hx hb ht xin_X0 hown hK hP 0 rfl rfl 5 (by decide) (ht _ kfl_RX0_27) (fun _ h9 => h9) rfl dX0_next_18 ?_
    refine lv_iload_n hx hb dX0_next_21 rfl (lv_at hl 1 rfl) ?_
    refine xa_ild hx hb hK hP 5 4 rfl rfl (v := nI (B q)) hq (by decide) rfl dX0_next_22 ?_
    exact W.iret (v := nI (B q)) hx hb hr (fun t ht hW => ⟨nI (B q), rfl, rfl, ht⟩) (fun _ h => by cases h) dX0_next_23
  · exact absurd h0 (by decide)

set_option maxHeartbeats 4000000 in
set_option maxRecDepth 100000 in
/-- next: no such log -/
theorem c_next_bad (l : Launch) (D : va_G) (A : Nat → Nat) (K : Nat → ClassId) (n : Nat) (U TH AG : Nat → Nat) (Z : Nat → Bool) (B : Nat → Nat) (TK : Nat) (x : Int32) (hbad : ¬ ∃ j : Nat, j < 6 ∧ x = nI j) (sz0 : Nat) (sa : Nat → Nat) (hl0 : l.stackTraces = false) : vx_Met l yX0_next (xw yX0_next cX0_next 2 (some .int)) ({ frames := 6, cells := 1, slots := 6, locals := 90 }) (xk_X [.ref (A 0), .int x] D (xc_T K) (xc_W A K n U TH AG Z B TK) sz0 sa) xt_i (xt_X xIA) 1 6 (fun _ => False) := by
  refine vx_ofW (cc := cX0_next) (maxL := 2) (ret := (some .int)) (by decide) rfl ?_
  intro p e s m args below meth c s₁ B0 hml hout hv
  obtain ⟨rfl, hP, hK, hX⟩ := hv
  obtain ⟨hXU, hXV, hXN, hs0, hs1, hs2, hs3, hs4, hs5, -⟩ := id hX
  have hx := B0.exec
  have hb := B0.bytes
  have hr := B0.returns
  have ht : ∀ w ∈ xT, w.before _ s = true := fun w h => atoms_spec (ws := xw yX0_next cX0_next 2 (some .int)) B0.pre w (List.mem_cons_of_mem _ h)
  have hown : s.vm.findClass RX0 = some m.cls := findClass_of_methodNamed B0.named
  have hlocks := B0.notSynchronized
  have hl := lv_entry ([.ref (A 0), .int x]) (n := 2) (Nat.le_of_ble_eq_true rfl)
  rw [lg_entry_eq]
  generalize (lg_sl ([.ref (A 0), .int x]) ++ List.replicate (2 - (lg_sl ([.ref (A 0), .int x])).length) Slot.unset).toArray = ls at hl ⊢
  have hl : lv_has ls 2 [(0, .ref (A 0)), (1, .int x)] := hl
  refine lv_iload_n hx hb dX0_next_0 rfl (lv_at hl 1 rfl) ?_
  refine xr_S (n := 1) (As := [.int x]) (rest := []) ⟨hx, hb, hml, hown, ht⟩ (c_isLog l x) (xg_S kml_RX0_37 kst_yX0_isLog kin_RX0 kco_yX0_isLog) ⟨rfl, rfl⟩ (by decide +kernel) ⟨Nat.le_of_ble_eq_true rfl, Nat.le_of_ble_eq_true rfl⟩ xk_preE rfl hl.1 rfl (Nat.le_of_ble_eq_true rfl) dX0_next_1 ⟨Nat.zero_le _, Nat.zero_le _⟩ (fun r1 e1 => ?_)
  have e1 : r1 = 0 := e1.elim (fun z => absurd ⟨z.choose, z.choose_spec.1, z.choose_spec.2.1⟩ hbad) (fun z => z.2)
  subst e1
  refine lv_if_ne (tgt := 17) hx hb dX0_next_4 (by decide) (fun h0 => ?_) (fun h0 => ?_)
  · exact absurd rfl h0
  · exact xt_thr (ik := 41) (is := 43) (ic := 45) hx hb hl0 hown (by decide +kernel) (ht _ kcl_RX0_41) (ht _ kin_java_lang_IllegalArgumentException) hs0 ht hXN xT_A xN_A xot_A hXU hXV (hl.1.trans hml.symm) dX0_next_7 dX0_next_10 dX0_next_11 dX0_next_13 dX0_next_16 hout (Nat.le_of_ble_eq_true rfl) (Nat.le_of_ble_eq_true rfl) (Nat.le_of_ble_eq_true rfl) (Nat.le_of_ble_eq_true rfl) hlocks

set_option maxHeartbeats 4000000 in
set_option maxRecDepth 100000 in
/-- isUsed -/
theorem c_isUsed_ok (l : Launch) (D : va_G) (A : Nat → Nat) (K : Nat → ClassId) (n : Nat) (U TH AG : Nat → Nat) (Z : Nat → Bool) (B : Nat → Nat) (TK : Nat) (hn : n ≤ 128) (hU : ∀ j, U j < 65536) (hT : ∀ j, TH j < 65536) (j k : Nat) (hj : j < n) (hk : k < 16) : Met l yX0_isUsed (xw yX0_isUsed cX0_isUsed 3 (some .boolean)) ({ frames := 2, cells := 0, slots := 0, locals := 41 }) (xk_P [.ref (A 0), .int (nI (96 + 16 * j + k))] D (xc_T K) (xc_W A K n U TH AG Z B TK)) (vp_Si (fun r => r = xb ((U j).testBit k))) 0 0 (fun _ => False) := by
  refine Met.ofW (cc := cX0_isUsed) (maxL := 3) (ret := (some .boolean)) (by decide) rfl ?_
  intro p e s m args below meth c s₁ B0 hml hv
  obtain ⟨rfl, hP, hK⟩ := hv
  have hx := B0.exec
  have hb := B0.bytes
  have hr := B0.returns
  have ht : ∀ w ∈ xT, w.before _ s = true := fun w h => atoms_spec (ws := xw yX0_isUsed cX0_isUsed 3 (some .boolean)) B0.pre w (List.mem_cons_of_mem _ h)
  have hown : s.vm.findClass RX0 = some m.cls := findClass_of_methodNamed B0.named
  have hlocks := B0.notSynchronized
  have hl := lv_entry ([.ref (A 0), .int (nI (96 + 16 * j + k))]) (n := 3) (Nat.le_of_ble_eq_true rfl)
  rw [lg_entry_eq]
  generalize (lg_sl ([.ref (A 0), .int (nI (96 + 16 * j + k))]) ++ List.replicate (3 - (lg_sl ([.ref (A 0), .int (nI (96 + 16 * j + k))])).length) Slot.unset).toArray = ls at hl ⊢
  have hl : lv_has ls 3 [(0, .ref (A 0)), (1, .int (nI (96 + 16 * j + k)))] := hl
  refine lv_aload_n hx hb dX0_isUsed_0 rfl (lv_at hl 0 rfl) ?_
  refine lv_iload_n hx hb dX0_isUsed_1 rfl (lv_at hl 1 rfl) ?_
  refine xr_V (n := 1) (As := [.int (nI (96 + 16 * j + k))]) (rest := []) ⟨hx, hb, hml, hown, ht⟩ (c_segmentOf l D A K n U TH AG Z B TK (nI (96 + 16 * j + k)) hn) (xg_V kml_RX0_64 kim_yX0_segmentOf ksl_yX0_segmentOf kin_RX0 kco_yX0_segmentOf) ⟨rfl, rfl⟩ (by decide +kernel) ⟨Nat.le_of_ble_eq_true rfl, Nat.le_of_ble_eq_true rfl⟩ (xk_preV hP hK rfl rfl) rfl hl.1 rfl (Nat.le_of_ble_eq_true rfl) dX0_isUsed_2 ⟨Nat.zero_le _, Nat.zero_le _⟩ (fun r1 e1 => ?_)
  have e1 : r1 = nI j := by
    rcases e1 with ⟨j9, k9, hj9, hk9, e9, rfl⟩ | ⟨q9, -⟩
    · have e9 := (nI_eq (by omega) (by omega)).mp e9; congr 1; omega
    · exact absurd ⟨j, k, by omega, by omega, rfl⟩ q9
  subst e1
  refine lv_istore_n (lv' := [(2, .int (nI j)), (0, .ref (A 0)), (1, .int (nI (96 + 16 * j + k)))]) hx hb dX0_isUsed_5 rfl hl (by decide) rfl (fun ls hl => ?_)
  refine lv_iload_n hx hb dX0_isUsed_6 rfl (lv_at hl 0 rfl) ?_
  refine lv_iconst (v := -1) hx hb dX0_isUsed_7 (by decide) ?_
  refine lv_icmp_ne (tgt := 21) hx hb dX0_isUsed_8 (by decide) (fun h1 => ?_) (fun h1 => ?_)
  · refine lv_aload_n hx hb dX0_isUsed_21 rfl (lv_at hl 1 rfl) ?_
    refine va_get (D := D) (ci := 0) (v := .ref (A 1)) (C := RX0) (T := TX0) (N := 7) hx hb ht xin_X0 hown hK hP 0 rfl rfl 1 (by decide) (ht _ kfl_RX0_13) (fun _ h9 => h9) rfl dX0_isUsed_22 ?_
    refine lv_iload_n hx hb dX0_isUsed_25 rfl (lv_at hl 0 rfl) ?_
    refine xa_ild hx hb hK hP 1 0 rfl rfl (v := nI (U j)) hj (by omega) rfl dX0_isUsed_26 ?_
    refine lv_iload_n hx hb dX0_isUsed_27 rfl (lv_at hl 2 rfl) ?_
    refine xr_S (n := 1) (As := [.int (nI (96 + 16 * j + k))]) (rest := [.int (nI (U j))]) ⟨hx, hb, hml, hown, ht⟩ (c_bitOf l j k (by omega) hk) (xg_S kml_RX0_69 kst_yX0_bitOf kin_RX0 kco_yX0_bitOf) ⟨rfl, rfl⟩ (by decide +kernel) ⟨Nat.le_of_ble_eq_true rfl, Nat.le_of_ble_eq_true rfl⟩ xk_preE rfl hl.1 rfl (Nat.le_of_ble_eq_true rfl) dX0_isUsed_28 ⟨Nat.zero_le _, Nat.zero_le _⟩ (fun r2 e2 => ?_)
    subst e2
    refine lv_iand hx hb dX0_isUsed_31 ?_
    refine lv_if_eq (tgt := 39) hx hb dX0_isUsed_32 (by decide) (fun h2 => ?_) (fun h2 => ?_)
    · refine lv_iconst (v := 0) hx hb dX0_isUsed_39 (by decide) ?_
      exact W.zret (v := 0) (ty := .boolean) hx hb hr (by decide) (fun t ht hW => ⟨0, rfl, (by rw [(xtb0 (hU j)).mp h2]; rfl), ht⟩) (fun _ h => by cases h) dX0_isUsed_40
    · refine lv_iconst (v := 1) hx hb dX0_isUsed_35 (by decide) ?_
      refine lv_goto (tgt := 40) hx hb dX0_isUsed_36 (by decide) ?_
      exact W.zret (v := 1) (ty := .boolean) hx hb hr (by decide) (fun t ht hW => ⟨1, rfl, (by rw [(xtb1 (hU j)).mp h2]; rfl), ht⟩) (fun _ h => by cases h) dX0_isUsed_40
  · exact absurd h1 (xp_m1 (by omega))

set_option maxHeartbeats 4000000 in
set_option maxRecDepth 100000 in
/-- isUsed: no such block -/
theorem c_isUsed_bad (l : Launch) (D : va_G) (A : Nat → Nat) (K : Nat → ClassId) (n : Nat) (U TH AG : Nat → Nat) (Z : Nat → Bool) (B : Nat → Nat) (TK : Nat) (hn : n ≤ 128) (x : Int32) (hbad : ¬ ∃ j k : Nat, j < n ∧ k < 16 ∧ x = nI (96 + 16 * j + k)) (sz0 : Nat) (sa : Nat → Nat) (hl0 : l.stackTraces = false) : vx_Met l yX0_isUsed (xw yX0_isUsed cX0_isUsed 3 (some .boolean)) ({ frames := 6, cells := 1, slots := 6, locals := 90 }) (xk_X [.ref (A 0), .int x] D (xc_T K) (xc_W A K n U TH AG Z B TK) sz0 sa) xt_i (xt_X xIA) 1 6 (fun _ => False) := by
  refine vx_ofW (cc := cX0_isUsed) (maxL := 3) (ret := (some .boolean)) (by decide) rfl ?_
  intro p e s m args below meth c s₁ B0 hml hout hv
  obtain ⟨rfl, hP, hK, hX⟩ := hv
  obtain ⟨hXU, hXV, hXN, hs0, hs1, hs2, hs3, hs4, hs5, -⟩ := id hX
  have hx := B0.exec
  have hb := B0.bytes
  have hr := B0.returns
  have ht : ∀ w ∈ xT, w.before _ s = true := fun w h => atoms_spec (ws := xw yX0_isUsed cX0_isUsed 3 (some .boolean)) B0.pre w (List.mem_cons_of_mem _ h)
  have hown : s.vm.findClass RX0 = some m.cls := findClass_of_methodNamed B0.named
  have hlocks := B0.notSynchronized
  have hl := lv_entry ([.ref (A 0), .int x]) (n := 3) (Nat.le_of_ble_eq_true rfl)
  rw [lg_entry_eq]
  generalize (lg_sl ([.ref (A 0), .int x]) ++ List.replicate (3 - (lg_sl ([.ref (A 0), .int x])).length) Slot.unset).toArray = ls at hl ⊢
  have hl : lv_has ls 3 [(0, .ref (A 0)), (1, .int x)] := hl
  refine lv_aload_n hx hb dX0_isUsed_0 rfl (lv_at hl 0 rfl) ?_
  refine lv_iload_n hx hb dX0_isUsed_1 rfl (lv_at hl 1 rfl) ?_
  refine xr_V (n := 1) (As := [.int x]) (rest := []) ⟨hx, hb, hml, hown, ht⟩ (c_segmentOf l D A K n U TH AG Z B TK x hn) (xg_V kml_RX0_64 kim_yX0_segmentOf ksl_yX0_segmentOf kin_RX0 kco_yX0_segmentOf) ⟨rfl, rfl⟩ (by decide +kernel) ⟨Nat.le_of_ble_eq_true rfl, Nat.le_of_ble_eq_true rfl⟩ (xk_preV hP hK rfl rfl) rfl hl.1 rfl (Nat.le_of_ble_eq_true rfl) dX0_isUsed_2 ⟨Nat.zero_le _, Nat.zero_le _⟩ (fun r1 e1 => ?_)
  have e1 : r1 = -1 := e1.elim (fun ⟨j, k, h1, h2, h3, _⟩ => absurd ⟨j, k, h1, h2, h3⟩ hbad) (fun z => z.2)
  subst e1
  refine lv_istore_n (lv' := [(2, .int (-1)), (0, .ref (A 0)), (1, .int x)]) hx hb dX0_isUsed_5 rfl hl (by decide) rfl (fun ls hl => ?_)
  refine lv_iload_n hx hb dX0_isUsed_6 rfl (lv_at hl 0 rfl) ?_
  refine lv_iconst (v := -1) hx hb dX0_isUsed_7 (by decide) ?_
  refine lv_icmp_ne (tgt := 21) hx hb dX0_isUsed_8 (by decide) (fun h1 => ?_) (fun h1 => ?_)
  · exact absurd rfl h1
  · exact xt_thr (ik := 41) (is := 67) (ic := 45) hx hb hl0 hown (by decide +kernel) (ht _ kcl_RX0_41) (ht _ kin_java_lang_IllegalArgumentException) hs2 ht hXN xT_A xN_A xot_A hXU hXV (hl.1.trans hml.symm) dX0_isUsed_11 dX0_isUsed_14 dX0_isUsed_15 dX0_isUsed_17 dX0_isUsed_20 hout (Nat.le_of_ble_eq_true rfl) (Nat.le_of_ble_eq_true rfl) (Nat.le_of_ble_eq_true rfl) (Nat.le_of_ble_eq_true rfl) hlocks

set_option maxHeartbeats 4000000 in
set_option maxRecDepth 100000 in
/-- drop -/
theorem c_drop_ok (l : Launch) (D : va_G) (A : Nat → Nat) (K : Nat → ClassId) (n : Nat) (U TH AG : Nat → Nat) (Z : Nat → Bool) (B : Nat → Nat) (TK : Nat) (hn : n ≤ 128) (hU : ∀ j, U j < 65536) (hT : ∀ j, TH j < 65536) (j k : Nat) (hj : j < n) (hk : k < 16) (hs : (U j).testBit k = true) (sz : Nat) : Met l yX0_drop (xw yX0_drop cX0_drop 3 none) ({ frames := 2, cells := 0, slots := 0, locals := 41 }) (xk_M [.ref (A 0), .int (nI (96 + 16 * j + k))] D (xc_T K) (xc_W A K n U TH AG Z B TK) sz) (xk_Q (fun v => v = none) D (xc_W A K n U TH AG Z B TK) (xc_W A K n (va_up U j (U j &&& (65535 ^^^ 2 ^ k))) TH AG Z B TK)) 0 0 (va_A (xc_W A K n U TH AG Z B TK) sz) := by
  refine Met.ofW (cc := cX0_drop) (maxL := 3) (ret := none) (by decide) rfl ?_
  intro p e s m args below meth c s₁ B0 hml hv
  obtain ⟨rfl, hsz, hP, hK, hD0⟩ := hv
  have hx := B0.exec
  have hb := B0.bytes
  have hr := B0.returns
  have ht : ∀ w ∈ xT, w.before _ s = true := fun w h => atoms_spec (ws := xw yX0_drop cX0_drop 3 none) B0.pre w (List.mem_cons_of_mem _ h)
  have hown : s.vm.findClass RX0 = some m.cls := findClass_of_methodNamed B0.named
  have hlocks := B0.notSynchronized
  have hl := lv_entry ([.ref (A 0), .int (nI (96 + 16 * j + k))]) (n := 3) (Nat.le_of_ble_eq_true rfl)
  rw [lg_entry_eq]
  generalize (lg_sl ([.ref (A 0), .int (nI (96 + 16 * j + k))]) ++ List.replicate (3 - (lg_sl ([.ref (A 0), .int (nI (96 + 16 * j + k))])).length) Slot.unset).toArray = ls at hl ⊢
  have hl : lv_has ls 3 [(0, .ref (A 0)), (1, .int (nI (96 + 16 * j + k)))] := hl
  subst hsz
  have hD := hD0.self (sz := s.heap.size)
  have hA : ∀ q : Nat, s.heap.size ≤ q → va_A (xc_W A K n U TH AG Z B TK) s.heap.size q := fun q h => Or.inr h
  have hS : va_S (va_A (xc_W A K n U TH AG Z B TK) s.heap.size) s.heap s.heap [] := va_S.rf
  refine lv_aload_n hx hb dX0_drop_0 rfl (lv_at hl 0 rfl) ?_
  refine lv_iload_n hx hb dX0_drop_1 rfl (lv_at hl 1 rfl) ?_
  refine xr_V (n := 1) (As := [.int (nI (96 + 16 * j + k))]) (rest := []) ⟨hx, hb, hml, hown, ht⟩ (c_segmentOf l D A K n U TH AG Z B TK (nI (96 + 16 * j + k)) hn) (xg_V kml_RX0_64 kim_yX0_segmentOf ksl_yX0_segmentOf kin_RX0 kco_yX0_segmentOf) ⟨rfl, rfl⟩ (by decide +kernel) ⟨Nat.le_of_ble_eq_true rfl, Nat.le_of_ble_eq_true rfl⟩ (xk_preV hP hK rfl rfl) rfl hl.1 rfl (Nat.le_of_ble_eq_true rfl) dX0_drop_2 ⟨Nat.zero_le _, Nat.zero_le _⟩ (fun r1 e1 => ?_)
  have e1 : r1 = nI j := by
    rcases e1 with ⟨j9, k9, hj9, hk9, e9, rfl⟩ | ⟨q9, -⟩
    · have e9 := (nI_eq (by omega) (by omega)).mp e9; congr 1; omega
    · exact absurd ⟨j, k, by omega, by omega, rfl⟩ q9
  subst e1
  refine lv_istore_n (lv' := [(2, .int (nI j)), (0, .ref (A 0)), (1, .int (nI (96 + 16 * j + k)))]) hx hb dX0_drop_5 rfl hl (by decide) rfl (fun ls hl => ?_)
  refine lv_iload_n hx hb dX0_drop_6 rfl (lv_at hl 0 rfl) ?_
  refine lv_iconst (v := -1) hx hb dX0_drop_7 (by decide) ?_
  refine lv_icmp_ne (tgt := 21) hx hb dX0_drop_8 (by decide) (fun h1 => ?_) (fun h1 => ?_)
  · refine lv_aload_n hx hb dX0_drop_21 rfl (lv_at hl 1 rfl) ?_
    refine va_get (D := D) (ci := 0) (v := .ref (A 1)) (C := RX0) (T := TX0) (N := 7) hx hb ht xin_X0 hown hK hP 0 rfl rfl 1 (by decide) (ht _ kfl_RX0_13) (fun _ h9 => h9) rfl dX0_drop_22 ?_
    refine lv_iload_n hx hb dX0_drop_25 rfl (lv_at hl 0 rfl) ?_
    refine xa_ild hx hb hK hP 1 0 rfl rfl (v := nI (U j)) hj (by omega) rfl dX0_drop_26 ?_
    refine lv_iload_n hx hb dX0_drop_27 rfl (lv_at hl 2 rfl) ?_
    refine xr_S (n := 1) (As := [.int (nI (96 + 16 * j + k))]) (rest := [.int (nI (U j))]) ⟨hx, hb, hml, hown, ht⟩ (c_bitOf l j k (by omega) hk) (xg_S kml_RX0_69 kst_yX0_bitOf kin_RX0 kco_yX0_bitOf) ⟨rfl, rfl⟩ (by decide +kernel) ⟨Nat.le_of_ble_eq_true rfl, Nat.le_of_ble_eq_true rfl⟩ xk_preE rfl hl.1 rfl (Nat.le_of_ble_eq_true rfl) dX0_drop_28 ⟨Nat.zero_le _, Nat.zero_le _⟩ (fun r2 e2 => ?_)
    subst e2
    refine lv_iand hx hb dX0_drop_31 ?_
    refine lv_if_ne (tgt := 45) hx hb dX0_drop_32 (by decide) (fun h2 => ?_) (fun h2 => ?_)
    · refine lv_aload_n hx hb dX0_drop_45 rfl (lv_at hl 1 rfl) ?_
      refine va_get (D := D) (ci := 0) (v := .ref (A 1)) (C := RX0) (T := TX0) (N := 7) hx hb ht xin_X0 hown hK hP 0 rfl rfl 1 (by decide) (ht _ kfl_RX0_13) (fun _ h9 => h9) rfl dX0_drop_46 ?_
      refine lv_iload_n hx hb dX0_drop_49 rfl (lv_at hl 0 rfl) ?_
      refine lv_dup2_11 hx hb dX0_drop_50 rfl rfl ?_
      refine xa_ild hx hb hK hP 1 0 rfl rfl (v := nI (U j)) hj (by omega) rfl dX0_drop_51 ?_
      refine lv_iload_n hx hb dX0_drop_52 rfl (lv_at hl 2 rfl) ?_
      refine xr_S (n := 1) (As := [.int (nI (96 + 16 * j + k))]) (rest := [.int (nI (U j)), .int (nI j), .ref (A 1)]) ⟨hx, hb, hml, hown, ht⟩ (c_bitOf l j k (by omega) hk) (xg_S kml_RX0_69 kst_yX0_bitOf kin_RX0 kco_yX0_bitOf) ⟨rfl, rfl⟩ (by decide +kernel) ⟨Nat.le_of_ble_eq_true rfl, Nat.le_of_ble_eq_true rfl⟩ xk_preE rfl hl.1 rfl (Nat.le_of_ble_eq_true rfl) dX0_drop_53 ⟨Nat.zero_le _, Nat.zero_le _⟩ (fun r3 e3 => ?_)
      subst e3
      refine lv_iconst (v := -1) hx hb dX0_drop_56 (by decide) ?_
      refine lv_ixor hx hb dX0_drop_57 ?_
      refine lv_iand hx hb dX0_drop_58 ?_
      refine xa_top (y := nI (U j &&& (65535 ^^^ 2 ^ k))) (xclr (hU j) hk) ?_
      refine xa_ist hx hb hK hP hD hS 1 0 rfl rfl hj (by omega) (xu_n U j _) dX0_drop_59 (fun H locs hP hD hS => ?_)
      have hP : va_P D xcl (xc_W A K n (va_up U j (U j &&& (65535 ^^^ 2 ^ k))) TH AG Z B TK) H := hP
      have hD : va_D (va_A (xc_W A K n U TH AG Z B TK) s.heap.size) (xc_W A K n (va_up U j (U j &&& (65535 ^^^ 2 ^ k))) TH AG Z B TK) := hD
      exact W.vret hx hb hr (fun t ht hW => ⟨⟨none, rfl, rfl⟩, by rw [ht]; exact hP, hS.F ht⟩) hS.2.2 dX0_drop_60
    · rw [(xtb0 (hU j)).mp h2] at hs; cases hs
  · exact absurd h1 (xp_m1 (by omega))

set_option maxHeartbeats 4000000 in
set_option maxRecDepth 100000 in
/-- drop: no such block -/
theorem c_drop_bad (l : Launch) (D : va_G) (A : Nat → Nat) (K : Nat → ClassId) (n : Nat) (U TH AG : Nat → Nat) (Z : Nat → Bool) (B : Nat → Nat) (TK : Nat) (hn : n ≤ 128) (x : Int32) (hbad : ¬ ∃ j k : Nat, j < n ∧ k < 16 ∧ x = nI (96 + 16 * j + k)) (sz0 : Nat) (sa : Nat → Nat) (hl0 : l.stackTraces = false) : vx_Met l yX0_drop (xw yX0_drop cX0_drop 3 none) ({ frames := 6, cells := 1, slots := 6, locals := 90 }) (xk_X [.ref (A 0), .int x] D (xc_T K) (xc_W A K n U TH AG Z B TK) sz0 sa) xt_v (xt_X xIA) 1 6 (fun _ => False) := by
  refine vx_ofW (cc := cX0_drop) (maxL := 3) (ret := none) (by decide) rfl ?_
  intro p e s m args below meth c s₁ B0 hml hout hv
  obtain ⟨rfl, hP, hK, hX⟩ := hv
  obtain ⟨hXU, hXV, hXN, hs0, hs1, hs2, hs3, hs4, hs5, -⟩ := id hX
  have hx := B0.exec
  have hb := B0.bytes
  have hr := B0.returns
  have ht : ∀ w ∈ xT, w.before _ s = true := fun w h => atoms_spec (ws := xw yX0_drop cX0_drop 3 none) B0.pre w (List.mem_cons_of_mem _ h)
  have hown : s.vm.findClass RX0 = some m.cls := findClass_of_methodNamed B0.named
  have hlocks := B0.notSynchronized
  have hl := lv_entry ([.ref (A 0), .int x]) (n := 3) (Nat.le_of_ble_eq_true rfl)
  rw [lg_entry_eq]
  generalize (lg_sl ([.ref (A 0), .int x]) ++ List.replicate (3 - (lg_sl ([.ref (A 0), .int x])).length) Slot.unset).toArray = ls at hl ⊢
  have hl : lv_has ls 3 [(0, .ref (A 0)), (1, .int x)] := hl
  refine lv_aload_n hx hb dX0_drop_0 rfl (lv_at hl 0 rfl) ?_
  refine lv_iload_n hx hb dX0_drop_1 rfl (lv_at hl 1 rfl) ?_
  refine xr_V (n := 1) (As := [.int x]) (rest := []) ⟨hx, hb, hml, hown, ht⟩ (c_segmentOf l D A K n U TH AG Z B TK x hn) (xg_V kml_RX0_64 kim_yX0_segmentOf ksl_yX0_segmentOf kin_RX0 kco_yX0_segmentOf) ⟨rfl, rfl⟩ (by decide +kernel) ⟨Nat.le_of_ble_eq_true rfl, Nat.le_of_ble_eq_true rfl⟩ (xk_preV hP hK rfl rfl) rfl hl.1 rfl (Nat.le_of_ble_eq_true rfl) dX0_drop_2 ⟨Nat.zero_le _, Nat.zero_le _⟩ (fun r1 e1 => ?_)
  have e1 : r1 = -1 := e1.elim (fun ⟨j, k, h1, h2, h3, _⟩ => absurd ⟨j, k, h1, h2, h3⟩ hbad) (fun z => z.2)
  subst e1
  refine lv_istore_n (lv' := [(2, .int (-1)), (0, .ref (A 0)), (1, .int x)]) hx hb dX0_drop_5 rfl hl (by decide) rfl (fun ls hl => ?_)
  refine lv_iload_n hx hb dX0_drop_6 rfl (lv_at hl 0 rfl) ?_
  refine lv_iconst (v := -1) hx hb dX0_drop_7 (by decide) ?_
  refine lv_icmp_ne (tgt := 21) hx hb dX0_drop_8 (by decide) (fun h1 => ?_) (fun h1 => ?_)
  · exact absurd rfl h1
  · exact xt_thr (ik := 41) (is := 67) (ic := 45) hx hb hl0 hown (by decide +kernel) (ht _ kcl_RX0_41) (ht _ kin_java_lang_IllegalArgumentException) hs2 ht hXN xT_A xN_A xot_A hXU hXV (hl.1.trans hml.symm) dX0_drop_11 dX0_drop_14 dX0_drop_15 dX0_drop_17 dX0_drop_20 hout (Nat.le_of_ble_eq_true rfl) (Nat.le_of_ble_eq_true rfl) (Nat.le_of_ble_eq_true rfl) (Nat.le_of_ble_eq_true rfl) hlocks

set_option maxHeartbeats 4000000 in
set_option maxRecDepth 100000 in
/-- drop: not in use -/
theorem c_drop_no (l : Launch) (D : va_G) (A : Nat → Nat) (K : Nat → ClassId) (n : Nat) (U TH AG : Nat → Nat) (Z : Nat → Bool) (B : Nat → Nat) (TK : Nat) (hn : n ≤ 128) (hU : ∀ j, U j < 65536) (hT : ∀ j, TH j < 65536) (j k : Nat) (hj : j < n) (hk : k < 16) (hs : (U j).testBit k = false) (sz0 : Nat) (sa : Nat → Nat) (hl0 : l.stackTraces = false) : vx_Met l yX0_drop (xw yX0_drop cX0_drop 3 none) ({ frames := 6, cells := 1, slots := 6, locals := 90 }) (xk_X [.ref (A 0), .int (nI (96 + 16 * j + k))] D (xc_T K) (xc_W A K n U TH AG Z B TK) sz0 sa) xt_v (xt_X xIS) 1 6 (fun _ => False) := by
  refine vx_ofW (cc := cX0_drop) (maxL := 3) (ret := none) (by decide) rfl ?_
  intro p e s m args below meth c s₁ B0 hml hout hv
  obtain ⟨rfl, hP, hK, hX⟩ := hv
  obtain ⟨hXU, hXV, hXN, hs0, hs1, hs2, hs3, hs4, hs5, -⟩ := id hX
  have hx := B0.exec
  have hb := B0.bytes
  have hr := B0.returns
  have ht : ∀ w ∈ xT, w.before _ s = true := fun w h => atoms_spec (ws := xw yX0_drop cX0_drop 3 none) B0.pre w (List.mem_cons_of_mem _ h)
  have hown : s.vm.findClass RX0 = some m.cls := findClass_of_methodNamed B0.named
  have hlocks := B0.notSynchronized
  have hl := lv_entry ([.ref (A 0), .int (nI (96 + 16 * j + k))]) (n := 3) (Nat.le_of_ble_eq_true rfl)
  rw [lg_entry_eq]
  generalize (lg_sl ([.ref (A 0), .int (nI (96 + 16 * j + k))]) ++ List.replicate (3 - (lg_sl ([.ref (A 0), .int (nI (96 + 16 * j + k))])).length) Slot.unset).toArray = ls at hl ⊢
  have hl : lv_has ls 3 [(0, .ref (A 0)), (1, .int (nI (96 + 16 * j + k)))] := hl
  refine lv_aload_n hx hb dX0_drop_0 rfl (lv_at hl 0 rfl) ?_
  refine lv_iload_n hx hb dX0_drop_1 rfl (lv_at hl 1 rfl) ?_
  refine xr_V (n := 1) (As := [.int (nI (96 + 16 * j + k))]) (rest := []) ⟨hx, hb, hml, hown, ht⟩ (c_segmentOf l D A K n U TH AG Z B TK (nI (96 + 16 * j + k)) hn) (xg_V kml_RX0_64 kim_yX0_segmentOf ksl_yX0_segmentOf kin_RX0 kco_yX0_segmentOf) ⟨rfl, rfl⟩ (by decide +kernel) ⟨Nat.le_of_ble_eq_true rfl, Nat.le_of_ble_eq_true rfl⟩ (xk_preV hP hK rfl rfl) rfl hl.1 rfl (Nat.le_of_ble_eq_true rfl) dX0_drop_2 ⟨Nat.zero_le _, Nat.zero_le _⟩ (fun r1 e1 => ?_)
  have e1 : r1 = nI j := by
    rcases e1 with ⟨j9, k9, hj9, hk9, e9, rfl⟩ | ⟨q9, -⟩
    · have e9 := (nI_eq (by omega) (by omega)).mp e9; congr 1; omega
    · exact absurd ⟨j, k, by omega, by omega, rfl⟩ q9
  subst e1
  refine lv_istore_n (lv' := [(2, .int (nI j)), (0, .ref (A 0)), (1, .int (nI (96 + 16 * j + k)))]) hx hb dX0_drop_5 rfl hl (by decide) rfl (fun ls hl => ?_)
  refine lv_iload_n hx hb dX0_drop_6 rfl (lv_at hl 0 rfl) ?_
  refine lv_iconst (v := -1) hx hb dX0_drop_7 (by decide) ?_
  refine lv_icmp_ne (tgt := 21) hx hb dX0_drop_8 (by decide) (fun h1 => ?_) (fun h1 => ?_)
  · refine lv_aload_n hx hb dX0_drop_21 rfl (lv_at hl 1 rfl) ?_
    refine va_get (D := D) (ci := 0) (v := .ref (A 1)) (C := RX0) (T := TX0) (N := 7) hx hb ht xin_X0 hown hK hP 0 rfl rfl 1 (by decide) (ht _ kfl_RX0_13) (fun _ h9 => h9) rfl dX0_drop_22 ?_
    refine lv_iload_n hx hb dX0_drop_25 rfl (lv_at hl 0 rfl) ?_
    refine xa_ild hx hb hK hP 1 0 rfl rfl (v := nI (U j)) hj (by omega) rfl dX0_drop_26 ?_
    refine lv_iload_n hx hb dX0_drop_27 rfl (lv_at hl 2 rfl) ?_
    refine xr_S (n := 1) (As := [.int (nI (96 + 16 * j + k))]) (rest := [.int (nI (U j))]) ⟨hx, hb, hml, hown, ht⟩ (c_bitOf l j k (by omega) hk) (xg_S kml_RX0_69 kst_yX0_bitOf kin_RX0 kco_yX0_bitOf) ⟨rfl, rfl⟩ (by decide +kernel) ⟨Nat.le_of_ble_eq_true rfl, Nat.le_of_ble_eq_true rfl⟩ xk_preE rfl hl.1 rfl (Nat.le_of_ble_eq_true rfl) dX0_drop_28 ⟨Nat.zero_le _, Nat.zero_le _⟩ (fun r2 e2 => ?_)
    subst e2
    refine lv_iand hx hb dX0_drop_31 ?_
    refine lv_if_ne (tgt := 45) hx hb dX0_drop_32 (by decide) (fun h2 => ?_) (fun h2 => ?_)
    · rw [(xtb1 (hU j)).mp h2] at hs; cases hs
    · exact xt_thr (ik := 51) (is := 72) (ic := 55) hx hb hl0 hown (by decide +kernel) (ht _ kcl_RX0_51) (ht _ kin_java_lang_IllegalStateException) hs3 ht hXN xT_S xN_S xot_S hXU hXV (hl.1.trans hml.symm) dX0_drop_35 dX0_drop_38 dX0_drop_39 dX0_drop_41 dX0_drop_44 hout (Nat.le_of_ble_eq_true rfl) (Nat.le_of_ble_eq_true rfl) (Nat.le_of_ble_eq_true rfl) (Nat.le_of_ble_eq_true rfl) hlocks
  · exact absurd h1 (xp_m1 (by omega))

set_option maxHeartbeats 4000000 in
set_option maxRecDepth 100000 in
/-- look -/
theorem c_look_ok (l : Launch) (D : va_G) (A : Nat → Nat) (K : Nat → ClassId) (n : Nat) (U TH AG : Nat → Nat) (Z : Nat → Bool) (B : Nat → Nat) (TK : Nat) (hn : n ≤ 128) (j v : Nat) (hj : j < n) (hv : v < 4) : Met l yX0_look (xw yX0_look cX0_look 3 (some .int)) ({ frames := 1, cells := 0, slots := 0, locals := 21 }) (xk_P [.ref (A 0), .int (nI j), .int (nI v)] D (xc_T K) (xc_W A K n U TH AG Z B TK)) (vp_Si (fun r => r = xlk U TH AG Z j v)) 0 0 (fun _ => False) := by
  refine Met.ofW (cc := cX0_look) (maxL := 3) (ret := (some .int)) (by decide) rfl ?_
  intro p e s m args below meth c s₁ B0 hml hv
  obtain ⟨rfl, hP, hK⟩ := hv
  have hx := B0.exec
  have hb := B0.bytes
  have hr := B0.returns
  have ht : ∀ w ∈ xT, w.before _ s = true := fun w h => atoms_spec (ws := xw yX0_look cX0_look 3 (some .int)) B0.pre w (List.mem_cons_of_mem _ h)
  have hown : s.vm.findClass RX0 = some m.cls := findClass_of_methodNamed B0.named
  have hlocks := B0.notSynchronized
  have hl := lv_entry ([.ref (A 0), .int (nI j), .int (nI v)]) (n := 3) (Nat.le_of_ble_eq_true rfl)
  rw [lg_entry_eq]
  generalize (lg_sl ([.ref (A 0), .int (nI j), .int (nI v)]) ++ List.replicate (3 - (lg_sl ([.ref (A 0), .int (nI j), .int (nI v)])).length) Slot.unset).toArray = ls at hl ⊢
  have hl : lv_has ls 3 [(0, .ref (A 0)), (1, .int (nI j)), (2, .int (nI v))] := hl
  refine lv_aload_n hx hb dX0_look_0 rfl (lv_at hl 0 rfl) ?_
  refine lv_iload_n hx hb dX0_look_1 rfl (lv_at hl 1 rfl) ?_
  refine xr_V (n := 1) (As := [.int (nI j)]) (rest := []) ⟨hx, hb, hml, hown, ht⟩ (c_isSegment l D A K n U TH AG Z B TK (nI j) hn) (xg_V kml_RX0_93 kim_yX0_isSegment ksl_yX0_isSegment kin_RX0 kco_yX0_isSegment) ⟨rfl, rfl⟩ (by decide +kernel) ⟨Nat.le_of_ble_eq_true rfl, Nat.le_of_ble_eq_true rfl⟩ (xk_preV hP hK rfl rfl) rfl hl.1 rfl (Nat.le_of_ble_eq_true rfl) dX0_look_2 ⟨Nat.zero_le _, Nat.zero_le _⟩ (fun r1 e1 => ?_)
  have e1 : r1 = 1 := e1.elim (fun q => q.choose_spec.2.2) (fun q => absurd ⟨j, hj, rfl⟩ q.1)
  subst e1
  refine lv_if_ne (tgt := 18) hx hb dX0_look_5 (by decide) (fun h0 => ?_) (fun h0 => ?_)
  · refine lv_iload_n hx hb dX0_look_18 rfl (lv_at hl 2 rfl) ?_
    rcases (show v = 0 ∨ v = 1 ∨ v = 2 ∨ v = 3 by omega) with rfl | rfl | rfl | rfl
    · refine lv_tableIn (tgt := 48) hx hb dX0_look_19 (by decide) (by decide) rfl (by decide) ?_
      refine lv_aload_n hx hb dX0_look_48 rfl (lv_at hl 0 rfl) ?_
      refine va_get (D := D) (ci := 0) (v := .ref (A 1)) (C := RX0) (T := TX0) (N := 7) hx hb ht xin_X0 hown hK hP 0 rfl rfl 1 (by decide) (ht _ kfl_RX0_13) (fun _ h9 => h9) rfl dX0_look_49 ?_
      refine lv_iload_n hx hb dX0_look_52 rfl (lv_at hl 1 rfl) ?_
      refine xa_ild hx hb hK hP 1 0 rfl rfl (v := nI (U j)) hj (by omega) rfl dX0_look_53 ?_
      exact W.iret (v := nI (U j)) hx hb hr (fun t ht hW => ⟨nI (U j), rfl, rfl, ht⟩) (fun _ h => by cases h) dX0_look_54
    · refine lv_tableIn (tgt := 55) hx hb dX0_look_19 (by decide) (by decide) rfl (by decide) ?_
      refine lv_aload_n hx hb dX0_look_55 rfl (lv_at hl 0 rfl) ?_
      refine va_get (D := D) (ci := 0) (v := .ref (A 2)) (C := RX0) (T := TX0) (N := 7) hx hb ht xin_X0 hown hK hP 0 rfl rfl 2 (by decide) (ht _ kfl_RX0_17) (fun _ h9 => h9) rfl dX0_look_56 ?_
      refine lv_iload_n hx hb dX0_look_59 rfl (lv_at hl 1 rfl) ?_
      refine xa_ild hx hb hK hP 2 1 rfl rfl (v := nI (TH j)) hj (by omega) rfl dX0_look_60 ?_
      exact W.iret (v := nI (TH j)) hx hb hr (fun t ht hW => ⟨nI (TH j), rfl, rfl, ht⟩) (fun _ h => by cases h) dX0_look_61
    · refine lv_tableIn (tgt := 62) hx hb dX0_look_19 (by decide) (by decide) rfl (by decide) ?_
      refine lv_aload_n hx hb dX0_look_62 rfl (lv_at hl 0 rfl) ?_
      refine va_get (D := D) (ci := 0) (v := .ref (A 3)) (C := RX0) (T := TX0) (N := 7) hx hb ht xin_X0 hown hK hP 0 rfl rfl 3 (by decide) (ht _ kfl_RX0_20) (fun _ h9 => h9) rfl dX0_look_63 ?_
      refine lv_iload_n hx hb dX0_look_66 rfl (lv_at hl 1 rfl) ?_
      refine xa_ild hx hb hK hP 3 2 rfl rfl (v := nI (AG j)) hj (by omega) rfl dX0_look_67 ?_
      exact W.iret (v := nI (AG j)) hx hb hr (fun t ht hW => ⟨nI (AG j), rfl, rfl, ht⟩) (fun _ h => by cases h) dX0_look_68
    · refine lv_tableIn (tgt := 69) hx hb dX0_look_19 (by decide) (by decide) rfl (by decide) ?_
      refine lv_aload_n hx hb dX0_look_69 rfl (lv_at hl 0 rfl) ?_
      refine va_get (D := D) (ci := 0) (v := .ref (A 4)) (C := RX0) (T := TX0) (N := 7) hx hb ht xin_X0 hown hK hP 0 rfl rfl 4 (by decide) (ht _ kfl_RX0_23) (fun _ h9 => h9) rfl dX0_look_70 ?_
      refine lv_iload_n hx hb dX0_look_73 rfl (lv_at hl 1 rfl) ?_
      refine xa_zld hx hb hK hP 4 3 rfl rfl (v := xb (Z j)) hj (by omega) rfl dX0_look_74 ?_
      refine lv_if_eq (tgt := 82) hx hb dX0_look_75 (by decide) (fun h3 => ?_) (fun h3 => ?_)
      · refine lv_iconst (v := 0) hx hb dX0_look_82 (by decide) ?_
        exact W.iret (v := 0) hx hb hr (fun t ht hW => ⟨0, rfl, (by rw [xb_0] at h3; simp [xlk, h3, xb]), ht⟩) (fun _ h => by cases h) dX0_look_83
      · refine lv_iconst (v := 1) hx hb dX0_look_78 (by decide) ?_
        refine lv_goto (tgt := 83) hx hb dX0_look_79 (by decide) ?_
        exact W.iret (v := 1) hx hb hr (fun t ht hW => ⟨1, rfl, (by rw [xb_n0] at h3; simp [xlk, h3, xb]), ht⟩) (fun _ h => by cases h) dX0_look_83
  · exact absurd h0 (by decide)

set_option maxHeartbeats 4000000 in
set_option maxRecDepth 100000 in
/-- look: no such segment -/
theorem c_look_badS (l : Launch) (D : va_G) (A : Nat → Nat) (K : Nat → ClassId) (n : Nat) (U TH AG : Nat → Nat) (Z : Nat → Bool) (B : Nat → Nat) (TK : Nat) (hn : n ≤ 128) (x y : Int32) (hbad : ¬ ∃ j : Nat, j < n ∧ x = nI j) (sz0 : Nat) (sa : Nat → Nat) (hl0 : l.stackTraces = false) : vx_Met l yX0_look (xw yX0_look cX0_look 3 (some .int)) ({ frames := 6, cells := 1, slots := 6, locals := 90 }) (xk_X [.ref (A 0), .int x, .int y] D (xc_T K) (xc_W A K n U TH AG Z B TK) sz0 sa) xt_i (xt_X xIA) 1 6 (fun _ => False) := by
  refine vx_ofW (cc := cX0_look) (maxL := 3) (ret := (some .int)) (by decide) rfl ?_
  intro p e s m args below meth c s₁ B0 hml hout hv
  obtain ⟨rfl, hP, hK, hX⟩ := hv
  obtain ⟨hXU, hXV, hXN, hs0, hs1, hs2, hs3, hs4, hs5, -⟩ := id hX
  have hx := B0.exec
  have hb := B0.bytes
  have hr := B0.returns
  have ht : ∀ w ∈ xT, w.before _ s = true := fun w h => atoms_spec (ws := xw yX0_look cX0_look 3 (some .int)) B0.pre w (List.mem_cons_of_mem _ h)
  have hown : s.vm.findClass RX0 = some m.cls := findClass_of_methodNamed B0.named
  have hlocks := B0.notSynchronized
  have hl := lv_entry ([.ref (A 0), .int x, .int y]) (n := 3) (Nat.le_of_ble_eq_true rfl)
  rw [lg_entry_eq]
  generalize (lg_sl ([.ref (A 0), .int x, .int y]) ++ List.replicate (3 - (lg_sl ([.ref (A 0), .int x, .int y])).length) Slot.unset).toArray = ls at hl ⊢
  have hl : lv_has ls 3 [(0, .ref (A 0)), (1, .int x), (2, .int y)] := hl
  refine lv_aload_n hx hb dX0_look_0 rfl (lv_at hl 0 rfl) ?_
  refine lv_iload_n hx hb dX0_look_1 rfl (lv_at hl 1 rfl) ?_
  refine xr_V (n := 1) (As := [.int x]) (rest := []) ⟨hx, hb, hml, hown, ht⟩ (c_isSegment l D A K n U TH AG Z B TK x hn) (xg_V kml_RX0_93 kim_yX0_isSegment ksl_yX0_isSegment kin_RX0 kco_yX0_isSegment) ⟨rfl, rfl⟩ (by decide +kernel) ⟨Nat.le_of_ble_eq_true rfl, Nat.le_of_ble_eq_true rfl⟩ (xk_preV hP hK rfl rfl) rfl hl.1 rfl (Nat.le_of_ble_eq_true rfl) dX0_look_2 ⟨Nat.zero_le _, Nat.zero_le _⟩ (fun r1 e1 => ?_)
  have e1 : r1 = 0 := e1.elim (fun z => absurd ⟨z.choose, z.choose_spec.1, z.choose_spec.2.1⟩ hbad) (fun z => z.2)
  subst e1
  refine lv_if_ne (tgt := 18) hx hb dX0_look_5 (by decide) (fun h0 => ?_) (fun h0 => ?_)
  · exact absurd rfl h0
  · exact xt_thr (ik := 41) (is := 96) (ic := 45) hx hb hl0 hown (by decide +kernel) (ht _ kcl_RX0_41) (ht _ kin_java_lang_IllegalArgumentException) hs4 ht hXN xT_A xN_A xot_A hXU hXV (hl.1.trans hml.symm) dX0_look_8 dX0_look_11 dX0_look_12 dX0_look_14 dX0_look_17 hout (Nat.le_of_ble_eq_true rfl) (Nat.le_of_ble_eq_true rfl) (Nat.le_of_ble_eq_true rfl) (Nat.le_of_ble_eq_true rfl) hlocks

set_option maxHeartbeats 4000000 in
set_option maxRecDepth 100000 in
/-- look: no such thing -/
theorem c_look_badW (l : Launch) (D : va_G) (A : Nat → Nat) (K : Nat → ClassId) (n : Nat) (U TH AG : Nat → Nat) (Z : Nat → Bool) (B : Nat → Nat) (TK : Nat) (hn : n ≤ 128) (j : Nat) (hj : j < n) (y : Int32) (hbad : ¬ ∃ v : Nat, v < 4 ∧ y = nI v) (sz0 : Nat) (sa : Nat → Nat) (hl0 : l.stackTraces = false) : vx_Met l yX0_look (xw yX0_look cX0_look 3 (some .int)) ({ frames := 6, cells := 1, slots := 6, locals := 90 }) (xk_X [.ref (A 0), .int (nI j), .int y] D (xc_T K) (xc_W A K n U TH AG Z B TK) sz0 sa) xt_i (xt_X xIA) 1 6 (fun _ => False) := by
  refine vx_ofW (cc := cX0_look) (maxL := 3) (ret := (some .int)) (by decide) rfl ?_
  intro p e s m args below meth c s₁ B0 hml hout hv
  obtain ⟨rfl, hP, hK, hX⟩ := hv
  obtain ⟨hXU, hXV, hXN, hs0, hs1, hs2, hs3, hs4, hs5, -⟩ := id hX
  have hx := B0.exec
  have hb := B0.bytes
  have hr := B0.returns
  have ht : ∀ w ∈ xT, w.before _ s = true := fun w h => atoms_spec (ws := xw yX0_look cX0_look 3 (some .int)) B0.pre w (List.mem_cons_of_mem _ h)
  have hown : s.vm.findClass RX0 = some m.cls := findClass_of_methodNamed B0.named
  have hlocks := B0.notSynchronized
  have hl := lv_entry ([.ref (A 0), .int (nI j), .int y]) (n := 3) (Nat.le_of_ble_eq_true rfl)
  rw [lg_entry_eq]
  generalize (lg_sl ([.ref (A 0), .int (nI j), .int y]) ++ List.replicate (3 - (lg_sl ([.ref (A 0), .int (nI j), .int y])).length) Slot.unset).toArray = ls at hl ⊢
  have hl : lv_has ls 3 [(0, .ref (A 0)), (1, .int (nI j)), (2, .int y)] := hl
  refine lv_aload_n hx hb dX0_look_0 rfl (lv_at hl 0 rfl) ?_
  refine lv_iload_n hx hb dX0_look_1 rfl (lv_at hl 1 rfl) ?_
  refine xr_V (n := 1) (As := [.int (nI j)]) (rest := []) ⟨hx, hb, hml, hown, ht⟩ (c_isSegment l D A K n U TH AG Z B TK (nI j) hn) (xg_V kml_RX0_93 kim_yX0_isSegment ksl_yX0_isSegment kin_RX0 kco_yX0_isSegment) ⟨rfl, rfl⟩ (by decide +kernel) ⟨Nat.le_of_ble_eq_true rfl, Nat.le_of_ble_eq_true rfl⟩ (xk_preV hP hK rfl rfl) rfl hl.1 rfl (Nat.le_of_ble_eq_true rfl) dX0_look_2 ⟨Nat.zero_le _, Nat.zero_le _⟩ (fun r1 e1 => ?_)
  have e1 : r1 = 1 := e1.elim (fun q => q.choose_spec.2.2) (fun q => absurd ⟨j, hj, rfl⟩ q.1)
  subst e1
  refine lv_if_ne (tgt := 18) hx hb dX0_look_5 (by decide) (fun h0 => ?_) (fun h0 => ?_)
  · refine lv_iload_n hx hb dX0_look_18 rfl (lv_at hl 2 rfl) ?_
    refine lv_tableOut (tgt := 84) hx hb dX0_look_19 (xout hbad) (by decide) ?_
    exact xt_thr (ik := 41) (is := 98) (ic := 45) hx hb hl0 hown (by decide +kernel) (ht _ kcl_RX0_41) (ht _ kin_java_lang_IllegalArgumentException) hs5 ht hXN xT_A xN_A xot_A hXU hXV (hl.1.trans hml.symm) dX0_look_84 dX0_look_87 dX0_look_88 dX0_look_90 dX0_look_93 hout (Nat.le_of_ble_eq_true rfl) (Nat.le_of_ble_eq_true rfl) (Nat.le_of_ble_eq_true rfl) (Nat.le_of_ble_eq_true rfl) hlocks
  · exact absurd h0 (by decide)

set_option maxHeartbeats 4000000 in
set_option maxRecDepth 100000 in
/-- take, the segment goes on -/
theorem c_take_stay (l : Launch) (D : va_G) (A : Nat → Nat) (K : Nat → ClassId) (n : Nat) (U TH AG : Nat → Nat) (Z : Nat → Bool) (B : Nat → Nat) (TK : Nat) (hn : n ≤ 128) (hU : ∀ j, U j < 65536) (hT : ∀ j, TH j < 65536) (q j k : Nat) (hq : q < 6) (hB : B q = 96 + 16 * j + k) (hj : j < n) (hk : k < 15) (sz : Nat) : Met l yX0_take (xw yX0_take cX0_take 4 (some .int)) ({ frames := 4, cells := 0, slots := 0, locals := 85 }) (xk_M [.ref (A 0), .int (nI q)] D (xc_T K) (xc_W A K n U TH AG Z B TK) sz) (xk_Q (fun v => v = some (.int (nI (96 + 16 * j + k)))) D (xc_W A K n U TH AG Z B TK) (xc_W A K n (va_up U j (U j ||| 2 ^ k)) TH (va_up AG j (TK + 1)) (va_up Z j true) (va_up B q (96 + 16 * j + (k + 1))) (TK + 1))) 0 0 (va_A (xc_W A K n U TH AG Z B TK) sz) := by
  refine Met.ofW (cc := cX0_take) (maxL := 4) (ret := (some .int)) (by decide) rfl ?_
  intro p e s m args below meth c s₁ B0 hml hv
  obtain ⟨rfl, hsz, hP, hK, hD0⟩ := hv
  have hx := B0.exec
  have hb := B0.bytes
  have hr := B0.returns
  have ht : ∀ w ∈ xT, w.before _ s = true := fun w h => atoms_spec (ws := xw yX0_take cX0_take 4 (some .int)) B0.pre w (List.mem_cons_of_mem _ h)
  have hown : s.vm.findClass RX0 = some m.cls := findClass_of_methodNamed B0.named
  have hlocks := B0.notSynchronized
  have hl := lv_entry ([.ref (A 0), .int (nI q)]) (n := 4) (Nat.le_of_ble_eq_true rfl)
  rw [lg_entry_eq]
  generalize (lg_sl ([.ref (A 0), .int (nI q)]) ++ List.replicate (4 - (lg_sl ([.ref (A 0), .int (nI q)])).length) Slot.unset).toArray = ls at hl ⊢
  have hl : lv_has ls 4 [(0, .ref (A 0)), (1, .int (nI q))] := hl
  subst hsz
  have hD := hD0.self (sz := s.heap.size)
  have hA : ∀ q : Nat, s.heap.size ≤ q → va_A (xc_W A K n U TH AG Z B TK) s.heap.size q := fun q h => Or.inr h
  have hS : va_S (va_A (xc_W A K n U TH AG Z B TK) s.heap.size) s.heap s.heap [] := va_S.rf
  refine lv_iload_n hx hb dX0_take_0 rfl (lv_at hl 1 rfl) ?_
  refine xr_S (n := 1) (As := [.int (nI q)]) (rest := []) ⟨hx, hb, hml, hown, ht⟩ (c_isLog l (nI q)) (xg_S kml_RX0_37 kst_yX0_isLog kin_RX0 kco_yX0_isLog) ⟨rfl, rfl⟩ (by decide +kernel) ⟨Nat.le_of_ble_eq_true rfl, Nat.le_of_ble_eq_true rfl⟩ xk_preE rfl hl.1 rfl (Nat.le_of_ble_eq_true rfl) dX0_take_1 ⟨Nat.zero_le _, Nat.zero_le _⟩ (fun r1 e1 => ?_)
  have e1 : r1 = 1 := e1.elim (fun z => z.choose_spec.2.2) (fun z => absurd ⟨q, hq, rfl⟩ z.1)
  subst e1
  refine lv_if_ne (tgt := 17) hx hb dX0_take_4 (by decide) (fun h0 => ?_) (fun h0 => ?_)
  · refine lv_aload_n hx hb dX0_take_17 rfl (lv_at hl 0 rfl) ?_
    refine va_get (D := D) (ci := 0) (v := .ref (A 5)) (C := RX0) (T := TX0) (N := 7) hx hb ht xin_X0 hown hK hP 0 rfl rfl 5 (by decide) (ht _ kfl_RX0_27) (fun _ h9 => h9) rfl dX0_take_18 ?_
    refine lv_iload_n hx hb dX0_take_21 rfl (lv_at hl 1 rfl) ?_
    refine xa_ild hx hb hK hP 5 4 rfl rfl (v := nI (96 + 16 * j + k)) hq (by decide) (by show nI (B q) = _; rw [hB]) dX0_take_22 ?_
    refine lv_istore_n (lv' := [(2, .int (nI (96 + 16 * j + k))), (0, .ref (A 0)), (1, .int (nI q))]) hx hb dX0_take_23 rfl hl (by decide) rfl (fun ls hl => ?_)
    refine lv_aload_n hx hb dX0_take_24 rfl (lv_at hl 1 rfl) ?_
    refine lv_iload_n hx hb dX0_take_25 rfl (lv_at hl 0 rfl) ?_
    refine xr_V (n := 1) (As := [.int (nI (96 + 16 * j + k))]) (rest := []) ⟨hx, hb, hml, hown, ht⟩ (c_blockAfter l D A K n U TH AG Z B TK hn hU hT j k hj (by omega)) (xg_V kml_RX0_48 kim_yX0_blockAfter ksl_yX0_blockAfter kin_RX0 kco_yX0_blockAfter) ⟨rfl, rfl⟩ (by decide +kernel) ⟨Nat.le_of_ble_eq_true rfl, Nat.le_of_ble_eq_true rfl⟩ (xk_preV hP hK rfl rfl) rfl hl.1 rfl (Nat.le_of_ble_eq_true rfl) dX0_take_26 ⟨Nat.zero_le _, Nat.zero_le _⟩ (fun r2 e2 => ?_)
    have e2 : r2 = nI (96 + 16 * j + (k + 1)) := e2.elim (fun z => z.2) (fun z => absurd z.1 (by omega))
    subst e2
    refine lv_istore_n (lv' := [(3, .int (nI (96 + 16 * j + (k + 1)))), (2, .int (nI (96 + 16 * j + k))), (0, .ref (A 0)), (1, .int (nI q))]) hx hb dX0_take_29 rfl hl (by decide) rfl (fun ls hl => ?_)
    refine lv_iload_n hx hb dX0_take_30 rfl (lv_at hl 0 rfl) ?_
    refine lv_iconst (v := -1) hx hb dX0_take_31 (by decide) ?_
    refine lv_icmp_ne (tgt := 45) hx hb dX0_take_32 (by decide) (fun h3 => ?_) (fun h3 => ?_)
    · refine lv_aload_n hx hb dX0_take_45 rfl (lv_at hl 2 rfl) ?_
      refine lv_iload_n hx hb dX0_take_46 rfl (lv_at hl 1 rfl) ?_
      refine xr_M (n := 1) (As := [.int (nI (96 + 16 * j + k))]) (rest := []) ⟨hx, hb, hml, hown, ht⟩ (c_putInUse l D A K n U TH AG Z B TK hn j k hj (by omega) s.heap.size) (xg_V kml_RX0_56 kim_yX0_putInUse ksl_yX0_putInUse kin_RX0 kco_yX0_putInUse) ⟨rfl, rfl⟩ (by decide +kernel) ⟨Nat.le_of_ble_eq_true rfl, Nat.le_of_ble_eq_true rfl⟩ hP hK hD hS hA rfl rfl rfl rfl hl.1 rfl (Nat.le_of_ble_eq_true rfl) dX0_take_47 ⟨Nat.zero_le _, Nat.zero_le _⟩ (fun v8 H locs e8 hP hD hS => ?_)
      subst e8
      refine lv_aload_n hx hb dX0_take_50 rfl (lv_at hl 2 rfl) ?_
      refine lv_iload_n hx hb dX0_take_51 rfl (lv_at hl 3 rfl) ?_
      refine lv_iload_n hx hb dX0_take_52 rfl (lv_at hl 0 rfl) ?_
      refine xr_M (n := 2) (As := [.int (nI q), .int (nI (96 + 16 * j + (k + 1)))]) (rest := []) ⟨hx, hb, hml, hown, ht⟩ (c_moveLog l D A K n (va_up U j (U j ||| 2 ^ k)) TH (va_up AG j (TK + 1)) Z B (TK + 1) hn q (j) (k + 1) hq hj (by omega) H.size) (xg_V kml_RX0_60 kim_yX0_moveLog ksl_yX0_moveLog kin_RX0 kco_yX0_moveLog) ⟨rfl, rfl⟩ (by decide +kernel) ⟨Nat.le_of_ble_eq_true rfl, Nat.le_of_ble_eq_true rfl⟩ hP hK hD hS hA rfl rfl rfl rfl hl.1 rfl (Nat.le_of_ble_eq_true rfl) dX0_take_53 ⟨Nat.zero_le _, Nat.zero_le _⟩ (fun v9 H locs e9 hP hD hS => ?_)
      subst e9
      refine lv_iload_n hx hb dX0_take_56 rfl (lv_at hl 1 rfl) ?_
      exact W.iret (v := nI (96 + 16 * j + k)) hx hb hr (fun t ht hW => ⟨⟨_, rfl, rfl⟩, by rw [ht]; exact hP, hS.F ht⟩) hS.2.2 dX0_take_57
    · exact absurd h3 (xp_m1 (by omega))
  · exact absurd h0 (by decide)

set_option maxHeartbeats 4000000 in
set_option maxRecDepth 100000 in
/-- take, a segment is opened -/
theorem c_take_open (l : Launch) (D : va_G) (A : Nat → Nat) (K : Nat → ClassId) (n : Nat) (U TH AG : Nat → Nat) (Z : Nat → Bool) (B : Nat → Nat) (TK : Nat) (hn : n ≤ 128) (hU : ∀ j, U j < 65536) (hT : ∀ j, TH j < 65536) (q j k : Nat) (hq : q < 6) (hB : B q = 96 + 16 * j + k) (hj : j < n) (hk : k = 15) (o : Nat) (ho : o < n) (ho1 : xfr U TH Z o = true) (ho2 : ∀ i, i < o → xfr U TH Z i = false) (sz : Nat) : Met l yX0_take (xw yX0_take cX0_take 4 (some .int)) ({ frames := 4, cells := 0, slots := 0, locals := 85 }) (xk_M [.ref (A 0), .int (nI q)] D (xc_T K) (xc_W A K n U TH AG Z B TK) sz) (xk_Q (fun v => v = some (.int (nI (96 + 16 * j + k)))) D (xc_W A K n U TH AG Z B TK) (xc_W A K n (va_up U j (U j ||| 2 ^ k)) TH (va_up AG j (TK + 1)) (va_up Z o true) (va_up B q (96 + 16 * o + 0)) (TK + 1))) 0 0 (va_A (xc_W A K n U TH AG Z B TK) sz) := by
  refine Met.ofW (cc := cX0_take) (maxL := 4) (ret := (some .int)) (by decide) rfl ?_
  intro p e s m args below meth c s₁ B0 hml hv
  obtain ⟨rfl, hsz, hP, hK, hD0⟩ := hv
  have hx := B0.exec
  have hb := B0.bytes
  have hr := B0.returns
  have ht : ∀ w ∈ xT, w.before _ s = true := fun w h => atoms_spec (ws := xw yX0_take cX0_take 4 (some .int)) B0.pre w (List.mem_cons_of_mem _ h)
  have hown : s.vm.findClass RX0 = some m.cls := findClass_of_methodNamed B0.named
  have hlocks := B0.notSynchronized
  have hl := lv_entry ([.ref (A 0), .int (nI q)]) (n := 4) (Nat.le_of_ble_eq_true rfl)
  rw [lg_entry_eq]
  generalize (lg_sl ([.ref (A 0), .int (nI q)]) ++ List.replicate (4 - (lg_sl ([.ref (A 0), .int (nI q)])).length) Slot.unset).toArray = ls at hl ⊢
  have hl : lv_has ls 4 [(0, .ref (A 0)), (1, .int (nI q))] := hl
  subst hsz
  have hD := hD0.self (sz := s.heap.size)
  have hA : ∀ q : Nat, s.heap.size ≤ q → va_A (xc_W A K n U TH AG Z B TK) s.heap.size q := fun q h => Or.inr h
  have hS : va_S (va_A (xc_W A K n U TH AG Z B TK) s.heap.size) s.heap s.heap [] := va_S.rf
  refine lv_iload_n hx hb dX0_take_0 rfl (lv_at hl 1 rfl) ?_
  refine xr_S (n := 1) (As := [.int (nI q)]) (rest := []) ⟨hx, hb, hml, hown, ht⟩ (c_isLog l (nI q)) (xg_S kml_RX0_37 kst_yX0_isLog kin_RX0 kco_yX0_isLog) ⟨rfl, rfl⟩ (by decide +kernel) ⟨Nat.le_of_ble_eq_true rfl, Nat.le_of_ble_eq_true rfl⟩ xk_preE rfl hl.1 rfl (Nat.le_of_ble_eq_true rfl) dX0_take_1 ⟨Nat.zero_le _, Nat.zero_le _⟩ (fun r1 e1 => ?_)
  have e1 : r1 = 1 := e1.elim (fun z => z.choose_spec.2.2) (fun z => absurd ⟨q, hq, rfl⟩ z.1)
  subst e1
  refine lv_if_ne (tgt := 17) hx hb dX0_take_4 (by decide) (fun h0 => ?_) (fun h0 => ?_)
  · refine lv_aload_n hx hb dX0_take_17 rfl (lv_at hl 0 rfl) ?_
    refine va_get (D := D) (ci := 0) (v := .ref (A 5)) (C := RX0) (T := TX0) (N := 7) hx hb ht xin_X0 hown hK hP 0 rfl rfl 5 (by decide) (ht _ kfl_RX0_27) (fun _ h9 => h9) rfl dX0_take_18 ?_
    refine lv_iload_n hx hb dX0_take_21 rfl (lv_at hl 1 rfl) ?_
    refine xa_ild hx hb hK hP 5 4 rfl rfl (v := nI (96 + 16 * j + k)) hq (by decide) (by show nI (B q) = _; rw [hB]) dX0_take_22 ?_
    refine lv_istore_n (lv' := [(2, .int (nI (96 + 16 * j + k))), (0, .ref (A 0)), (1, .int (nI q))]) hx hb dX0_take_23 rfl hl (by decide) rfl (fun ls hl => ?_)
    refine lv_aload_n hx hb dX0_take_24 rfl (lv_at hl 1 rfl) ?_
    refine lv_iload_n hx hb dX0_take_25 rfl (lv_at hl 0 rfl) ?_
    refine xr_V (n := 1) (As := [.int (nI (96 + 16 * j + k))]) (rest := []) ⟨hx, hb, hml, hown, ht⟩ (c_blockAfter l D A K n U TH AG Z B TK hn hU hT j k hj (by omega)) (xg_V kml_RX0_48 kim_yX0_blockAfter ksl_yX0_blockAfter kin_RX0 kco_yX0_blockAfter) ⟨rfl, rfl⟩ (by decide +kernel) ⟨Nat.le_of_ble_eq_true rfl, Nat.le_of_ble_eq_true rfl⟩ (xk_preV hP hK rfl rfl) rfl hl.1 rfl (Nat.le_of_ble_eq_true rfl) dX0_take_26 ⟨Nat.zero_le _, Nat.zero_le _⟩ (fun r2 e2 => ?_)
    have e2 : r2 = nI (96 + 16 * o + 0) := by
      rcases e2 with z | ⟨-, ⟨o9, h9, f1, f2, rfl⟩ | ⟨f1, -⟩⟩
      · exact absurd z.1 (by omega)
      · rcases Nat.lt_trichotomy o o9 with z | z | z
        · rw [f2 o z] at ho1; cases ho1
        · rw [z]; rfl
        · rw [ho2 o9 z] at f1; cases f1
      · rw [f1 o ho] at ho1; cases ho1
    subst e2
    refine lv_istore_n (lv' := [(3, .int (nI (96 + 16 * o + 0))), (2, .int (nI (96 + 16 * j + k))), (0, .ref (A 0)), (1, .int (nI q))]) hx hb dX0_take_29 rfl hl (by decide) rfl (fun ls hl => ?_)
    refine lv_iload_n hx hb dX0_take_30 rfl (lv_at hl 0 rfl) ?_
    refine lv_iconst (v := -1) hx hb dX0_take_31 (by decide) ?_
    refine lv_icmp_ne (tgt := 45) hx hb dX0_take_32 (by decide) (fun h3 => ?_) (fun h3 => ?_)
    · refine lv_aload_n hx hb dX0_take_45 rfl (lv_at hl 2 rfl) ?_
      refine lv_iload_n hx hb dX0_take_46 rfl (lv_at hl 1 rfl) ?_
      refine xr_M (n := 1) (As := [.int (nI (96 + 16 * j + k))]) (rest := []) ⟨hx, hb, hml, hown, ht⟩ (c_putInUse l D A K n U TH AG Z B TK hn j k hj (by omega) s.heap.size) (xg_V kml_RX0_56 kim_yX0_putInUse ksl_yX0_putInUse kin_RX0 kco_yX0_putInUse) ⟨rfl, rfl⟩ (by decide +kernel) ⟨Nat.le_of_ble_eq_true rfl, Nat.le_of_ble_eq_true rfl⟩ hP hK hD hS hA rfl rfl rfl rfl hl.1 rfl (Nat.le_of_ble_eq_true rfl) dX0_take_47 ⟨Nat.zero_le _, Nat.zero_le _⟩ (fun v8 H locs e8 hP hD hS => ?_)
      subst e8
      refine lv_aload_n hx hb dX0_take_50 rfl (lv_at hl 2 rfl) ?_
      refine lv_iload_n hx hb dX0_take_51 rfl (lv_at hl 3 rfl) ?_
      refine lv_iload_n hx hb dX0_take_52 rfl (lv_at hl 0 rfl) ?_
      refine xr_M (n := 2) (As := [.int (nI q), .int (nI (96 + 16 * o + 0))]) (rest := []) ⟨hx, hb, hml, hown, ht⟩ (c_moveLog l D A K n (va_up U j (U j ||| 2 ^ k)) TH (va_up AG j (TK + 1)) Z B (TK + 1) hn q (o) (0) hq ho (by omega) H.size) (xg_V kml_RX0_60 kim_yX0_moveLog ksl_yX0_moveLog kin_RX0 kco_yX0_moveLog) ⟨rfl, rfl⟩ (by decide +kernel) ⟨Nat.le_of_ble_eq_true rfl, Nat.le_of_ble_eq_true rfl⟩ hP hK hD hS hA rfl rfl rfl rfl hl.1 rfl (Nat.le_of_ble_eq_true rfl) dX0_take_53 ⟨Nat.zero_le _, Nat.zero_le _⟩ (fun v9 H locs e9 hP hD hS => ?_)
      subst e9
      refine lv_iload_n hx hb dX0_take_56 rfl (lv_at hl 1 rfl) ?_
      exact W.iret (v := nI (96 + 16 * j + k)) hx hb hr (fun t ht hW => ⟨⟨_, rfl, rfl⟩, by rw [ht]; exact hP, hS.F ht⟩) hS.2.2 dX0_take_57
    · exact absurd h3 (xp_m1 (by omega))
  · exact absurd h0 (by decide)

set_option maxHeartbeats 4000000 in
set_option maxRecDepth 100000 in
/-- take: none to open -/
theorem c_take_full (l : Launch) (D : va_G) (A : Nat → Nat) (K : Nat → ClassId) (n : Nat) (U TH AG : Nat → Nat) (Z : Nat → Bool) (B : Nat → Nat) (TK : Nat) (hn : n ≤ 128) (hU : ∀ j, U j < 65536) (hT : ∀ j, TH j < 65536) (q j k : Nat) (hq : q < 6) (hB : B q = 96 + 16 * j + k) (hj : j < n) (hk : k = 15) (hf : ∀ i, i < n → xfr U TH Z i = false) (sz0 : Nat) (sa : Nat → Nat) (hl0 : l.stackTraces = false) : vx_Met l yX0_take (xw yX0_take cX0_take 4 (some .int)) ({ frames := 6, cells := 1, slots := 6, locals := 90 }) (xk_X [.ref (A 0), .int (nI q)] D (xc_T K) (xc_W A K n U TH AG Z B TK) sz0 sa) xt_i (xt_X xIS) 1 6 (fun _ => False) := by
  refine vx_ofW (cc := cX0_take) (maxL := 4) (ret := (some .int)) (by decide) rfl ?_
  intro p e s m args below meth c s₁ B0 hml hout hv
  obtain ⟨rfl, hP, hK, hX⟩ := hv
  obtain ⟨hXU, hXV, hXN, hs0, hs1, hs2, hs3, hs4, hs5, -⟩ := id hX
  have hx := B0.exec
  have hb := B0.bytes
  have hr := B0.returns
  have ht : ∀ w ∈ xT, w.before _ s = true := fun w h => atoms_spec (ws := xw yX0_take cX0_take 4 (some .int)) B0.pre w (List.mem_cons_of_mem _ h)
  have hown : s.vm.findClass RX0 = some m.cls := findClass_of_methodNamed B0.named
  have hlocks := B0.notSynchronized
  have hl := lv_entry ([.ref (A 0), .int (nI q)]) (n := 4) (Nat.le_of_ble_eq_true rfl)
  rw [lg_entry_eq]
  generalize (lg_sl ([.ref (A 0), .int (nI q)]) ++ List.replicate (4 - (lg_sl ([.ref (A 0), .int (nI q)])).length) Slot.unset).toArray = ls at hl ⊢
  have hl : lv_has ls 4 [(0, .ref (A 0)), (1, .int (nI q))] := hl
  refine lv_iload_n hx hb dX0_take_0 rfl (lv_at hl 1 rfl) ?_
  refine xr_S (n := 1) (As := [.int (nI q)]) (rest := []) ⟨hx, hb, hml, hown, ht⟩ (c_isLog l (nI q)) (xg_S kml_RX0_37 kst_yX0_isLog kin_RX0 kco_yX0_isLog) ⟨rfl, rfl⟩ (by decide +kernel) ⟨Nat.le_of_ble_eq_true rfl, Nat.le_of_ble_eq_true rfl⟩ xk_preE rfl hl.1 rfl (Nat.le_of_ble_eq_true rfl) dX0_take_1 ⟨Nat.zero_le _, Nat.zero_le _⟩ (fun r1 e1 => ?_)
  have e1 : r1 = 1 := e1.elim (fun z => z.choose_spec.2.2) (fun z => absurd ⟨q, hq, rfl⟩ z.1)
  subst e1
  refine lv_if_ne (tgt := 17) hx hb dX0_take_4 (by decide) (fun h0 => ?_) (fun h0 => ?_)
  · refine lv_aload_n hx hb dX0_take_17 rfl (lv_at hl 0 rfl) ?_
    refine va_get (D := D) (ci := 0) (v := .ref (A 5)) (C := RX0) (T := TX0) (N := 7) hx hb ht xin_X0 hown hK hP 0 rfl rfl 5 (by decide) (ht _ kfl_RX0_27) (fun _ h9 => h9) rfl dX0_take_18 ?_
    refine lv_iload_n hx hb dX0_take_21 rfl (lv_at hl 1 rfl) ?_
    refine xa_ild hx hb hK hP 5 4 rfl rfl (v := nI (96 + 16 * j + k)) hq (by decide) (by show nI (B q) = _; rw [hB]) dX0_take_22 ?_
    refine lv_istore_n (lv' := [(2, .int (nI (96 + 16 * j + k))), (0, .ref (A 0)), (1, .int (nI q))]) hx hb dX0_take_23 rfl hl (by decide) rfl (fun ls hl => ?_)
    refine lv_aload_n hx hb dX0_take_24 rfl (lv_at hl 1 rfl) ?_
    refine lv_iload_n hx hb dX0_take_25 rfl (lv_at hl 0 rfl) ?_
    refine xr_V (n := 1) (As := [.int (nI (96 + 16 * j + k))]) (rest := []) ⟨hx, hb, hml, hown, ht⟩ (c_blockAfter l D A K n U TH AG Z B TK hn hU hT j k hj (by omega)) (xg_V kml_RX0_48 kim_yX0_blockAfter ksl_yX0_blockAfter kin_RX0 kco_yX0_blockAfter) ⟨rfl, rfl⟩ (by decide +kernel) ⟨Nat.le_of_ble_eq_true rfl, Nat.le_of_ble_eq_true rfl⟩ (xk_preV hP hK rfl rfl) rfl hl.1 rfl (Nat.le_of_ble_eq_true rfl) dX0_take_26 ⟨Nat.zero_le _, Nat.zero_le _⟩ (fun r2 e2 => ?_)
    have e2 : r2 = -1 := by
      rcases e2 with z | ⟨-, ⟨o9, h9, f1, f2, rfl⟩ | ⟨f1, rfl⟩⟩
      · exact absurd z.1 (by omega)
      · rw [hf o9 h9] at f1; cases f1
      · rfl
    subst e2
    refine lv_istore_n (lv' := [(3, .int (-1)), (2, .int (nI (96 + 16 * j + k))), (0, .ref (A 0)), (1, .int (nI q))]) hx hb dX0_take_29 rfl hl (by decide) rfl (fun ls hl => ?_)
    refine lv_iload_n hx hb dX0_take_30 rfl (lv_at hl 0 rfl) ?_
    refine lv_iconst (v := -1) hx hb dX0_take_31 (by decide) ?_
    refine lv_icmp_ne (tgt := 45) hx hb dX0_take_32 (by decide) (fun h3 => ?_) (fun h3 => ?_)
    · exact absurd rfl h3
    · exact xt_thr (ik := 51) (is := 53) (ic := 55) hx hb hl0 hown (by decide +kernel) (ht _ kcl_RX0_51) (ht _ kin_java_lang_IllegalStateException) hs1 ht hXN xT_S xN_S xot_S hXU hXV (hl.1.trans hml.symm) dX0_take_35 dX0_take_38 dX0_take_39 dX0_take_41 dX0_take_44 hout (Nat.le_of_ble_eq_true rfl) (Nat.le_of_ble_eq_true rfl) (Nat.le_of_ble_eq_true rfl) (Nat.le_of_ble_eq_true rfl) hlocks
  · exact absurd h0 (by decide)

set_option maxHeartbeats 4000000 in
set_option maxRecDepth 100000 in
/-- take: no such log -/
theorem c_take_bad (l : Launch) (D : va_G) (A : Nat → Nat) (K : Nat → ClassId) (n : Nat) (U TH AG : Nat → Nat) (Z : Nat → Bool) (B : Nat → Nat) (TK : Nat) (x : Int32) (hbad : ¬ ∃ j : Nat, j < 6 ∧ x = nI j) (sz0 : Nat) (sa : Nat → Nat) (hl0 : l.stackTraces = false) : vx_Met l yX0_take (xw yX0_take cX0_take 4 (some .int)) ({ frames := 6, cells := 1, slots := 6, locals := 90 }) (xk_X [.ref (A 0), .int x] D (xc_T K) (xc_W A K n U TH AG Z B TK) sz0 sa) xt_i (xt_X xIA) 1 6 (fun _ => False) := by
  refine vx_ofW (cc := cX0_take) (maxL := 4) (ret := (some .int)) (by decide) rfl ?_
  intro p e s m args below meth c s₁ B0 hml hout hv
  obtain ⟨rfl, hP, hK, hX⟩ := hv
  obtain ⟨hXU, hXV, hXN, hs0, hs1, hs2, hs3, hs4, hs5, -⟩ := id hX
  have hx := B0.exec
  have hb := B0.bytes
  have hr := B0.returns
  have ht : ∀ w ∈ xT, w.before _ s = true := fun w h => atoms_spec (ws := xw yX0_take cX0_take 4 (some .int)) B0.pre w (List.mem_cons_of_mem _ h)
  have hown : s.vm.findClass RX0 = some m.cls := findClass_of_methodNamed B0.named
  have hlocks := B0.notSynchronized
  have hl := lv_entry ([.ref (A 0), .int x]) (n := 4) (Nat.le_of_ble_eq_true rfl)
  rw [lg_entry_eq]
  generalize (lg_sl ([.ref (A 0), .int x]) ++ List.replicate (4 - (lg_sl ([.ref (A 0), .int x])).length) Slot.unset).toArray = ls at hl ⊢
  have hl : lv_has ls 4 [(0, .ref (A 0)), (1, .int x)] := hl
  refine lv_iload_n hx hb dX0_take_0 rfl (lv_at hl 1 rfl) ?_
  refine xr_S (n := 1) (As := [.int x]) (rest := []) ⟨hx, hb, hml, hown, ht⟩ (c_isLog l x) (xg_S kml_RX0_37 kst_yX0_isLog kin_RX0 kco_yX0_isLog) ⟨rfl, rfl⟩ (by decide +kernel) ⟨Nat.le_of_ble_eq_true rfl, Nat.le_of_ble_eq_true rfl⟩ xk_preE rfl hl.1 rfl (Nat.le_of_ble_eq_true rfl) dX0_take_1 ⟨Nat.zero_le _, Nat.zero_le _⟩ (fun r1 e1 => ?_)
  have e1 : r1 = 0 := e1.elim (fun z => absurd ⟨z.choose, z.choose_spec.1, z.choose_spec.2.1⟩ hbad) (fun z => z.2)
  subst e1
  refine lv_if_ne (tgt := 17) hx hb dX0_take_4 (by decide) (fun h0 => ?_) (fun h0 => ?_)
  · exact absurd rfl h0
  · exact xt_thr (ik := 41) (is := 43) (ic := 45) hx hb hl0 hown (by decide +kernel) (ht _ kcl_RX0_41) (ht _ kin_java_lang_IllegalArgumentException) hs0 ht hXN xT_A xN_A xot_A hXU hXV (hl.1.trans hml.symm) dX0_take_7 dX0_take_10 dX0_take_11 dX0_take_13 dX0_take_16 hout (Nat.le_of_ble_eq_true rfl) (Nat.le_of_ble_eq_true rfl) (Nat.le_of_ble_eq_true rfl) (Nat.le_of_ble_eq_true rfl) hlocks
end
section
def xA6 (a0 a1 a2 a3 a4 a5 : Nat) : Nat → Nat
  | 0 => a0
  | 1 => a1
  | 2 => a2
  | 3 => a3
  | 4 => a4
  | _ => a5
def xA7 (a0 a1 a2 a3 a4 a5 a6 : Nat) : Nat → Nat
  | 0 => a0
  | 1 => a1
  | 2 => a2
  | 3 => a3
  | 4 => a4
  | 5 => a5
  | _ => a6
/-- the logs' first blocks, the first segments taken, the reference's open segments: the first i logs -/
def xB0 : Nat → Nat → Nat
  | 0 => fun _ => 0
  | i + 1 => va_up (xB0 i) i (96 + 16 * i)
def xZ0 : Nat → Nat → Bool
  | 0 => fun _ => false
  | i + 1 => va_up (xZ0 i) i true
def xO0 : Nat → Nat → Nat
  | 0 => fun _ => 0
  | i + 1 => va_up (xO0 i) i i
/-- how many segments -/
def xseg (x : Int32) (n : Nat) : Prop := (12 ≤ n ∧ n ≤ 128 ∧ x = nI n) ∨ (n = 12 ∧ (x < 12 ∨ ¬ x ≤ 128))
theorem xseg_n {x : Int32} {n : Nat} (h : xseg x n) : 12 ≤ n ∧ n ≤ 128 := by rcases h with h | h <;> omega
theorem xseg_ex (x : Int32) : ∃ n, xseg x n := by
  by_cases h1 : x < 12
  · exact ⟨12, Or.inr ⟨rfl, Or.inl h1⟩⟩
  by_cases h2 : x ≤ 128
  · have h0 : ¬ x < 0 := fun h => h1 (by
      rw [Int32.lt_iff_toInt_lt] at h ⊢
      have e0 : (0 : Int32).toInt = 0 := by decide
      have e1 : (12 : Int32).toInt = 12 := by decide
      omega)
    obtain ⟨t, ht, rfl⟩ := nI_of h0
    refine ⟨t, Or.inl ⟨?_, ?_, rfl⟩⟩
    · rcases Nat.lt_or_ge t 12 with q | q
      · exact absurd (nI_lt (b := 12) q (by decide)) h1
      · exact q
    · exact (nI_leI ht (by decide)).mp (show nI t ≤ nI 128 from h2)
  · exact ⟨12, Or.inr ⟨rfl, Or.inr h2⟩⟩
def xk_C (D : va_G) (ws : va_W) (o : Nat) (tyf : (Nat → ClassId) → List (ClassId × FieldType)) (wf : (Nat → Nat) → (Nat → ClassId) → va_W) : Array Value → State → Outcome → State → Prop := fun _ st oc t =>
  oc = .returned none ∧ (∃ (A : Nat → Nat) (K : Nat → ClassId), A 0 = o ∧ va_P D xcl (wf A K) t.heap ∧ va_K D xcl (tyf K) t ∧ va_D (va_A ws st.heap.size) (wf A K)) ∧ va_F (va_A ws st.heap.size) st t
set_option maxHeartbeats 4000000 in
set_option maxRecDepth 100000 in
theorem c_init (l : Launch) (D : va_G) (o : Nat) (x : Int32) (n : Nat) (hseg : xseg x n) (sz : Nat) : Met l yX0_init (xw yX0_init cX0_init 3 none) ({ frames := 1, cells := 5, slots := 518, locals := 20 }) (xk_M [.ref o, .int x] D [] [(o, .inr (0, [.int 0, .null, .null, .null, .null, .null, .int 0]))] sz) (xk_C D [(o, .inr (0, [.int 0, .null, .null, .null, .null, .null, .int 0]))] o xc_T (fun A K => xc_W A K n (fun _ => 0) (fun _ => 0) (fun _ => 0) (xZ0 6) (xB0 6) 0)) 5 518 (va_A [(o, .inr (0, [.int 0, .null, .null, .null, .null, .null, .int 0]))] sz) := by
  refine Met.ofW (cc := cX0_init) (maxL := 3) (ret := none) (by decide) rfl ?_
  intro p e s m args below meth c s₁ B0 hml hv
  obtain ⟨rfl, hsz, hP, hK, hD0⟩ := hv
  have hx := B0.exec
  have hb := B0.bytes
  have hr := B0.returns
  have ht : ∀ w ∈ xT, w.before _ s = true := fun w h => atoms_spec (ws := xw yX0_init cX0_init 3 none) B0.pre w (List.mem_cons_of_mem _ h)
  have hown : s.vm.findClass RX0 = some m.cls := findClass_of_methodNamed B0.named
  have hlocks := B0.notSynchronized
  have hin9 : meth.name = "<init>" := (name_of_methodNamed B0.named B0.method).1
  subst hsz
  have hD := hD0.self (sz := s.heap.size)
  obtain ⟨A0, hA0⟩ : ∃ z, z = va_A [(o, .inr (0, [.int 0, .null, .null, .null, .null, .null, .int 0]))] s.heap.size := ⟨_, rfl⟩
  rw [← hA0] at hD
  have hA : ∀ q : Nat, s.heap.size ≤ q → A0 q := fun q h => by rw [hA0]; exact Or.inr h
  have hS : va_S A0 s.heap s.heap [] := va_S.rf
  have hn := xseg_n hseg
  have hl := lv_entry ([.ref o, .int x]) (n := 3) (Nat.le_of_ble_eq_true rfl)
  rw [lg_entry_eq]
  generalize (lg_sl ([.ref o, .int x]) ++ List.replicate (3 - (lg_sl ([.ref o, .int x])).length) Slot.unset).toArray = ls at hl ⊢
  have hl : lv_has ls 3 [(0, .ref o), (1, .int x)] := hl
  refine lv_aload_n hx hb dX0_init_0 rfl (lv_at hl 0 rfl) ?_
  refine W.objInit hx hb hown (ht _ kml_RX0_1) (ht _ kim_objectInit) (ht _ kco_objectInit) rfl (by rw [hml]; exact hl.1) rfl dX0_init_1 (Nat.le_of_ble_eq_true rfl) (Nat.le_of_ble_eq_true rfl) ?_
  refine W.eq (g2 := F0 m 4 ls []) rfl ?_
  refine lv_aload_n hx hb dX0_init_4 rfl (lv_at hl 0 rfl) ?_
  refine lv_iload_n hx hb dX0_init_5 rfl (lv_at hl 1 rfl) ?_
  refine lv_bipush (v := 12) hx hb dX0_init_6 (by decide) ?_
  have tail : ∀ ls : Array Slot, lv_has ls 3 [(0, .ref o), (1, .int x)] → W p l e (headSpec (xw yX0_init cX0_init 3 none) ({ frames := 1, cells := 5, slots := 518, locals := 20 })).room s m ([.ref o, .int x] : List Value).toArray below meth c s.heap [] 0 (0) (MQ below (xk_C D [(o, .inr (0, [.int 0, .null, .null, .null, .null, .null, .int 0]))] o xc_T (fun A K => xc_W A K n (fun _ => 0) (fun _ => 0) (fun _ => 0) (xZ0 6) (xB0 6) 0)) ([.ref o, .int x] : List Value).toArray s 5 518 (va_A [(o, .inr (0, [.int 0, .null, .null, .null, .null, .null, .int 0]))] s.heap.size)) (F0 m 24 ls [.int (nI n), .ref o]) := by
    intro ls hl
    refine va_putF (D := D) (ci := 0) (v := .int (nI n)) (ty := .int) (C := RX0) (T := TX0) (N := 7) hx hb ht xin_X0 tyX0 tyX0_ok nmX0 hown hK hP hD hS 0 rfl rfl 0 (by decide) (ht _ kfl_RX0_9) (fun _ h9 => h9) rfl hin9 rfl (by decide +kernel) rfl rfl (Nat.le_of_ble_eq_true rfl) dX0_init_24 (fun H locs hP hD hS => ?_)
    have hP : va_P D xcl ([(o, .inr (0, [.int (nI n), .null, .null, .null, .null, .null, .int 0]))]) H := hP
    have hD : va_D A0 ([(o, .inr (0, [.int (nI n), .null, .null, .null, .null, .null, .int 0]))]) := hD
    refine lv_aload_n hx hb dX0_init_27 rfl (lv_at hl 0 rfl) ?_
    refine lv_aload_n hx hb dX0_init_28 rfl (lv_at hl 0 rfl) ?_
    refine va_get (D := D) (ci := 0) (v := .int (nI n)) (C := RX0) (T := TX0) (N := 7) hx hb ht xin_X0 hown hK hP 0 rfl rfl 0 (by decide) (ht _ kfl_RX0_9) (fun _ h9 => h9) rfl dX0_init_29 ?_
    refine va_newa (atype := .int) (N' := n) (ty := .int) (a0 := (n, .inl (fun _ => nI 0))) hx hb (ht _ kar_int) rfl hK hP hD hS hA (fun cA => by first | rfl | (rw [vp_cell_i, nI_0]; rfl)) (nI_pos (n := n) (by omega)) (nI_clamp (by omega)) (by simp [componentBytes]; try omega) (Nat.le_of_ble_eq_true rfl) (by show _ ≤ 518; omega) dX0_init_32 (fun q1 c1 H hK hP hD hS => ?_)
    have hP : va_P D xcl ([(o, .inr (0, [.int (nI n), .null, .null, .null, .null, .null, .int 0])), (q1, .inl (c1, n, .inl (fun _ => nI 0)))]) H := hP
    have hD : va_D A0 ([(o, .inr (0, [.int (nI n), .null, .null, .null, .null, .null, .int 0])), (q1, .inl (c1, n, .inl (fun _ => nI 0)))]) := hD
    refine va_putF (D := D) (ci := 0) (v := .ref q1) (ty := .array .int) (C := RX0) (T := TX0) (N := 7) hx hb ht xin_X0 tyX0 tyX0_ok nmX0 hown hK hP hD hS 0 rfl rfl 1 (by decide) (ht _ kfl_RX0_13) (fun _ h9 => h9) rfl hin9 rfl (by decide +kernel) rfl rfl (Nat.le_of_ble_eq_true rfl) dX0_init_34 (fun H locs hP hD hS => ?_)
    have hP : va_P D xcl ([(o, .inr (0, [.int (nI n), .ref q1, .null, .null, .null, .null, .int 0])), (q1, .inl (c1, n, .inl (fun _ => nI 0)))]) H := hP
    have hD : va_D A0 ([(o, .inr (0, [.int (nI n), .ref q1, .null, .null, .null, .null, .int 0])), (q1, .inl (c1, n, .inl (fun _ => nI 0)))]) := hD
    refine lv_aload_n hx hb dX0_init_37 rfl (lv_at hl 0 rfl) ?_
    refine lv_aload_n hx hb dX0_init_38 rfl (lv_at hl 0 rfl) ?_
    refine va_get (D := D) (ci := 0) (v := .int (nI n)) (C := RX0) (T := TX0) (N := 7) hx hb ht xin_X0 hown hK hP 0 rfl rfl 0 (by decide) (ht _ kfl_RX0_9) (fun _ h9 => h9) rfl dX0_init_39 ?_
    refine va_newa (atype := .int) (N' := n) (ty := .int) (a0 := (n, .inl (fun _ => nI 0))) hx hb (ht _ kar_int) rfl hK hP hD hS hA (fun cA => by first | rfl | (rw [vp_cell_i, nI_0]; rfl)) (nI_pos (n := n) (by omega)) (nI_clamp (by omega)) (by simp [componentBytes]; try omega) (Nat.le_of_ble_eq_true rfl) (by show _ ≤ 518; omega) dX0_init_42 (fun q2 c2 H hK hP hD hS => ?_)
    have hP : va_P D xcl ([(o, .inr (0, [.int (nI n), .ref q1, .null, .null, .null, .null, .int 0])), (q1, .inl (c1, n, .inl (fun _ => nI 0))), (q2, .inl (c2, n, .inl (fun _ => nI 0)))]) H := hP
    have hD : va_D A0 ([(o, .inr (0, [.int (nI n), .ref q1, .null, .null, .null, .null, .int 0])), (q1, .inl (c1, n, .inl (fun _ => nI 0))), (q2, .inl (c2, n, .inl (fun _ => nI 0)))]) := hD
    refine va_putF (D := D) (ci := 0) (v := .ref q2) (ty := .array .int) (C := RX0) (T := TX0) (N := 7) hx hb ht xin_X0 tyX0 tyX0_ok nmX0 hown hK hP hD hS 0 rfl rfl 2 (by decide) (ht _ kfl_RX0_17) (fun _ h9 => h9) rfl hin9 rfl (by decide +kernel) rfl rfl (Nat.le_of_ble_eq_true rfl) dX0_init_44 (fun H locs hP hD hS => ?_)
    have hP : va_P D xcl ([(o, .inr (0, [.int (nI n), .ref q1, .ref q2, .null, .null, .null, .int 0])), (q1, .inl (c1, n, .inl (fun _ => nI 0))), (q2, .inl (c2, n, .inl (fun _ => nI 0)))]) H := hP
    have hD : va_D A0 ([(o, .inr (0, [.int (nI n), .ref q1, .ref q2, .null, .null, .null, .int 0])), (q1, .inl (c1, n, .inl (fun _ => nI 0))), (q2, .inl (c2, n, .inl (fun _ => nI 0)))]) := hD
    refine lv_aload_n hx hb dX0_init_47 rfl (lv_at hl 0 rfl) ?_
    refine lv_aload_n hx hb dX0_init_48 rfl (lv_at hl 0 rfl) ?_
    refine va_get (D := D) (ci := 0) (v := .int (nI n)) (C := RX0) (T := TX0) (N := 7) hx hb ht xin_X0 hown hK hP 0 rfl rfl 0 (by decide) (ht _ kfl_RX0_9) (fun _ h9 => h9) rfl dX0_init_49 ?_
    refine va_newa (atype := .int) (N' := n) (ty := .int) (a0 := (n, .inl (fun _ => nI 0))) hx hb (ht _ kar_int) rfl hK hP hD hS hA (fun cA => by first | rfl | (rw [vp_cell_i, nI_0]; rfl)) (nI_pos (n := n) (by omega)) (nI_clamp (by omega)) (by simp [componentBytes]; try omega) (Nat.le_of_ble_eq_true rfl) (by show _ ≤ 518; omega) dX0_init_52 (fun q3 c3 H hK hP hD hS => ?_)
    have hP : va_P D xcl ([(o, .inr (0, [.int (nI n), .ref q1, .ref q2, .null, .null, .null, .int 0])), (q1, .inl (c1, n, .inl (fun _ => nI 0))), (q2, .inl (c2, n, .inl (fun _ => nI 0))), (q3, .inl (c3, n, .inl (fun _ => nI 0)))]) H := hP
    have hD : va_D A0 ([(o, .inr (0, [.int (nI n), .ref q1, .ref q2, .null, .null, .null, .int 0])), (q1, .inl (c1, n, .inl (fun _ => nI 0))), (q2, .inl (c2, n, .inl (fun _ => nI 0))), (q3, .inl (c3, n, .inl (fun _ => nI 0)))]) := hD
    refine va_putF (D := D) (ci := 0) (v := .ref q3) (ty := .array .int) (C := RX0) (T := TX0) (N := 7) hx hb ht xin_X0 tyX0 tyX0_ok nmX0 hown hK hP hD hS 0 rfl rfl 3 (by decide) (ht _ kfl_RX0_20) (fun _ h9 => h9) rfl hin9 rfl (by decide +kernel) rfl rfl (Nat.le_of_ble_eq_true rfl) dX0_init_54 (fun H locs hP hD hS => ?_)
    have hP : va_P D xcl ([(o, .inr (0, [.int (nI n), .ref q1, .ref q2, .ref q3, .null, .null, .int 0])), (q1, .inl (c1, n, .inl (fun _ => nI 0))), (q2, .inl (c2, n, .inl (fun _ => nI 0))), (q3, .inl (c3, n, .inl (fun _ => nI 0)))]) H := hP
    have hD : va_D A0 ([(o, .inr (0, [.int (nI n), .ref q1, .ref q2, .ref q3, .null, .null, .int 0])), (q1, .inl (c1, n, .inl (fun _ => nI 0))), (q2, .inl (c2, n, .inl (fun _ => nI 0))), (q3, .inl (c3, n, .inl (fun _ => nI 0)))]) := hD
    refine lv_aload_n hx hb dX0_init_57 rfl (lv_at hl 0 rfl) ?_
    refine lv_aload_n hx hb dX0_init_58 rfl (lv_at hl 0 rfl) ?_
    refine va_get (D := D) (ci := 0) (v := .int (nI n)) (C := RX0) (T := TX0) (N := 7) hx hb ht xin_X0 hown hK hP 0 rfl rfl 0 (by decide) (ht _ kfl_RX0_9) (fun _ h9 => h9) rfl dX0_init_59 ?_
    refine va_newa (atype := .boolean) (N' := n) (ty := .boolean) (a0 := (n, .inl (fun _ => xb false))) hx hb (ht _ kar_boolean) rfl hK hP hD hS hA (fun cA => by first | rfl | (rw [vp_cell_i, nI_0]; rfl)) (nI_pos (n := n) (by omega)) (nI_clamp (by omega)) (by simp [componentBytes]; try omega) (Nat.le_of_ble_eq_true rfl) (by show _ ≤ 518; omega) dX0_init_62 (fun q4 c4 H hK hP hD hS => ?_)
    have hP : va_P D xcl ([(o, .inr (0, [.int (nI n), .ref q1, .ref q2, .ref q3, .null, .null, .int 0])), (q1, .inl (c1, n, .inl (fun _ => nI 0))), (q2, .inl (c2, n, .inl (fun _ => nI 0))), (q3, .inl (c3, n, .inl (fun _ => nI 0))), (q4, .inl (c4, n, .inl (fun _ => xb false)))]) H := hP
    have hD : va_D A0 ([(o, .inr (0, [.int (nI n), .ref q1, .ref q2, .ref q3, .null, .null, .int 0])), (q1, .inl (c1, n, .inl (fun _ => nI 0))), (q2, .inl (c2, n, .inl (fun _ => nI 0))), (q3, .inl (c3, n, .inl (fun _ => nI 0))), (q4, .inl (c4, n, .inl (fun _ => xb false)))]) := hD
    refine va_putF (D := D) (ci := 0) (v := .ref q4) (ty := .array .boolean) (C := RX0) (T := TX0) (N := 7) hx hb ht xin_X0 tyX0 tyX0_ok nmX0 hown hK hP hD hS 0 rfl rfl 4 (by decide) (ht _ kfl_RX0_23) (fun _ h9 => h9) rfl hin9 rfl (by decide +kernel) rfl rfl (Nat.le_of_ble_eq_true rfl) dX0_init_64 (fun H locs hP hD hS => ?_)
    have hP : va_P D xcl ([(o, .inr (0, [.int (nI n), .ref q1, .ref q2, .ref q3, .ref q4, .null, .int 0])), (q1, .inl (c1, n, .inl (fun _ => nI 0))), (q2, .inl (c2, n, .inl (fun _ => nI 0))), (q3, .inl (c3, n, .inl (fun _ => nI 0))), (q4, .inl (c4, n, .inl (fun _ => xb false)))]) H := hP
    have hD : va_D A0 ([(o, .inr (0, [.int (nI n), .ref q1, .ref q2, .ref q3, .ref q4, .null, .int 0])), (q1, .inl (c1, n, .inl (fun _ => nI 0))), (q2, .inl (c2, n, .inl (fun _ => nI 0))), (q3, .inl (c3, n, .inl (fun _ => nI 0))), (q4, .inl (c4, n, .inl (fun _ => xb false)))]) := hD
    refine lv_aload_n hx hb dX0_init_67 rfl (lv_at hl 0 rfl) ?_
    refine lv_bipush (v := 6) hx hb dX0_init_68 (by decide) ?_
    refine va_newa (atype := .int) (N' := 6) (ty := .int) (a0 := (6, .inl (fun _ => nI 0))) hx hb (ht _ kar_int) rfl hK hP hD hS hA (fun cA => by first | rfl | (rw [vp_cell_i, nI_0]; rfl)) (by decide) rfl (by simp [componentBytes]; try omega) (Nat.le_of_ble_eq_true rfl) (by show _ ≤ 518; omega) dX0_init_70 (fun q5 c5 H hK hP hD hS => ?_)
    have hP : va_P D xcl ([(o, .inr (0, [.int (nI n), .ref q1, .ref q2, .ref q3, .ref q4, .null, .int 0])), (q1, .inl (c1, n, .inl (fun _ => nI 0))), (q2, .inl (c2, n, .inl (fun _ => nI 0))), (q3, .inl (c3, n, .inl (fun _ => nI 0))), (q4, .inl (c4, n, .inl (fun _ => xb false))), (q5, .inl (c5, 6, .inl (fun _ => nI 0)))]) H := hP
    have hD : va_D A0 ([(o, .inr (0, [.int (nI n), .ref q1, .ref q2, .ref q3, .ref q4, .null, .int 0])), (q1, .inl (c1, n, .inl (fun _ => nI 0))), (q2, .inl (c2, n, .inl (fun _ => nI 0))), (q3, .inl (c3, n, .inl (fun _ => nI 0))), (q4, .inl (c4, n, .inl (fun _ => xb false))), (q5, .inl (c5, 6, .inl (fun _ => nI 0)))]) := hD
    refine va_putF (D := D) (ci := 0) (v := .ref q5) (ty := .array .int) (C := RX0) (T := TX0) (N := 7) hx hb ht xin_X0 tyX0 tyX0_ok nmX0 hown hK hP hD hS 0 rfl rfl 5 (by decide) (ht _ kfl_RX0_27) (fun _ h9 => h9) rfl hin9 rfl (by decide +kernel) rfl rfl (Nat.le_of_ble_eq_true rfl) dX0_init_72 (fun H locs hP hD hS => ?_)
    have hP : va_P D xcl ([(o, .inr (0, [.int (nI n), .ref q1, .ref q2, .ref q3, .ref q4, .ref q5, .int 0])), (q1, .inl (c1, n, .inl (fun _ => nI 0))), (q2, .inl (c2, n, .inl (fun _ => nI 0))), (q3, .inl (c3, n, .inl (fun _ => nI 0))), (q4, .inl (c4, n, .inl (fun _ => xb false))), (q5, .inl (c5, 6, .inl (fun _ => nI 0)))]) H := hP
    have hD : va_D A0 ([(o, .inr (0, [.int (nI n), .ref q1, .ref q2, .ref q3, .ref q4, .ref q5, .int 0])), (q1, .inl (c1, n, .inl (fun _ => nI 0))), (q2, .inl (c2, n, .inl (fun _ => nI 0))), (q3, .inl (c3, n, .inl (fun _ => nI 0))), (q4, .inl (c4, n, .inl (fun _ => xb false))), (q5, .inl (c5, 6, .inl (fun _ => nI 0)))]) := hD
    refine lv_aload_n hx hb dX0_init_75 rfl (lv_at hl 0 rfl) ?_
    refine lv_iconst (v := 0) hx hb dX0_init_76 (by decide) ?_
    refine va_put (D := D) (ci := 0) (v := .int 0) (ty := .int) (C := RX0) (T := TX0) (N := 7) hx hb ht xin_X0 tyX0 tyX0_ok nmX0 hown hK hP hD hS 0 rfl rfl 6 (by decide) (ht _ kfl_RX0_30) (fun _ h9 => h9) rfl (by decide +kernel) rfl rfl (Nat.le_of_ble_eq_true rfl) dX0_init_77 (fun H locs hP hD hS => ?_)
    have hP : va_P D xcl ([(o, .inr (0, [.int (nI n), .ref q1, .ref q2, .ref q3, .ref q4, .ref q5, .int 0])), (q1, .inl (c1, n, .inl (fun _ => nI 0))), (q2, .inl (c2, n, .inl (fun _ => nI 0))), (q3, .inl (c3, n, .inl (fun _ => nI 0))), (q4, .inl (c4, n, .inl (fun _ => xb false))), (q5, .inl (c5, 6, .inl (fun _ => nI 0)))]) H := hP
    have hD : va_D A0 ([(o, .inr (0, [.int (nI n), .ref q1, .ref q2, .ref q3, .ref q4, .ref q5, .int 0])), (q1, .inl (c1, n, .inl (fun _ => nI 0))), (q2, .inl (c2, n, .inl (fun _ => nI 0))), (q3, .inl (c3, n, .inl (fun _ => nI 0))), (q4, .inl (c4, n, .inl (fun _ => xb false))), (q5, .inl (c5, 6, .inl (fun _ => nI 0)))]) := hD
    have hP : va_P D xcl (xc_W (xA6 o q1 q2 q3 q4 q5) (xA6 0 c1 c2 c3 c4 c5) n (fun _ => 0) (fun _ => 0) (fun _ => 0) (xZ0 0) (xB0 0) 0) H := hP
    have hD : va_D A0 (xc_W (xA6 o q1 q2 q3 q4 q5) (xA6 0 c1 c2 c3 c4 c5) n (fun _ => 0) (fun _ => 0) (fun _ => 0) (xZ0 0) (xB0 0) 0) := hD
    have hK : va_K D xcl (xc_T (xA6 0 c1 c2 c3 c4 c5)) s := hK
    refine W.widen (k := 5) (n := 518) (by omega) (by omega) ?_
    have loop : ∀ (f i : Nat) (H : Heap) (locs : List Loc), i ≤ 6 → 7 ≤ i + f → va_P D xcl (xc_W (xA6 o q1 q2 q3 q4 q5) (xA6 0 c1 c2 c3 c4 c5) n (fun _ => 0) (fun _ => 0) (fun _ => 0) (xZ0 i) (xB0 i) 0) H → va_D A0 (xc_W (xA6 o q1 q2 q3 q4 q5) (xA6 0 c1 c2 c3 c4 c5) n (fun _ => 0) (fun _ => 0) (fun _ => 0) (xZ0 i) (xB0 i) 0) → va_S A0 s.heap H locs → ∀ ls : Array Slot, lv_has ls 3 [(2, .int (nI i)), (0, .ref o), (1, .int x)] → W p l e (headSpec (xw yX0_init cX0_init 3 none) ({ frames := 1, cells := 5, slots := 518, locals := 20 })).room s m ([.ref o, .int x] : List Value).toArray below meth c H locs 5 (518) (MQ below (xk_C D [(o, .inr (0, [.int 0, .null, .null, .null, .null, .null, .int 0]))] o xc_T (fun A K => xc_W A K n (fun _ => 0) (fun _ => 0) (fun _ => 0) (xZ0 6) (xB0 6) 0)) ([.ref o, .int x] : List Value).toArray s 5 518 (va_A [(o, .inr (0, [.int 0, .null, .null, .null, .null, .null, .int 0]))] s.heap.size)) (F0 m 82 ls []) := by
      intro f
      induction f with
      | zero => intro i H locs h1 h2; exact absurd h2 (by omega)
      | succ f ih =>
        intro i H locs hi hf hP hD hS ls hl
        refine lv_iload_n hx hb dX0_init_82 rfl (lv_at hl 0 rfl) ?_
        refine lv_bipush (v := 6) hx hb dX0_init_83 (by decide) ?_
        refine lv_icmp_ge (tgt := 111) hx hb dX0_init_85 (by decide) (fun h1 => ?_) (fun h1 => ?_)
        · have hin : i = 6 := by
            rcases Nat.lt_or_ge i 6 with q | q
            · exact absurd h1 (nI_ge (b := 6) q (by decide))
            · omega
          subst hin
          exact W.vret hx hb hr (fun t ht hW => ⟨rfl, ⟨_, _, rfl, by rw [ht]; exact hP, va_K.moved hW.alike hK, by rw [← hA0]; exact hD⟩, by rw [← hA0]; exact hS.F ht⟩) (by rw [← hA0]; exact hS.2.2) dX0_init_111
        · have hin : i < 6 := by
            rcases Nat.lt_or_ge i 6 with q | q
            · exact q
            · exact absurd (nI_le (a := 6) q (by omega)) h1
          refine lv_aload_n hx hb dX0_init_88 rfl (lv_at hl 1 rfl) ?_
          refine va_get (D := D) (ci := 0) (v := .ref q5) (C := RX0) (T := TX0) (N := 7) hx hb ht xin_X0 hown hK hP 0 rfl rfl 5 (by decide) (ht _ kfl_RX0_27) (fun _ h9 => h9) rfl dX0_init_89 ?_
          refine lv_iload_n hx hb dX0_init_92 rfl (lv_at hl 0 rfl) ?_
          refine lv_iload_n hx hb dX0_init_93 rfl (lv_at hl 0 rfl) ?_
          refine xr_S (n := 1) (As := [.int (nI i)]) (rest := [.int (nI i), .ref q5]) ⟨hx, hb, hml, hown, ht⟩ (c_firstBlockOf l i) (xg_S kml_RX0_33 kst_yX0_firstBlockOf kin_RX0 kco_yX0_firstBlockOf) ⟨rfl, rfl⟩ (by decide +kernel) ⟨Nat.le_of_ble_eq_true rfl, Nat.le_of_ble_eq_true rfl⟩ xk_preE rfl hl.1 rfl (Nat.le_of_ble_eq_true rfl) dX0_init_94 ⟨Nat.le_of_ble_eq_true rfl, Nat.le_of_ble_eq_true rfl⟩ (fun r1 e1 => ?_)
          subst e1
          refine xa_ist hx hb hK hP hD hS 5 4 rfl rfl hin (by decide) (xu_n (xB0 i) i _) dX0_init_97 (fun H locs hP hD hS => ?_)
          have hP : va_P D xcl (xc_W (xA6 o q1 q2 q3 q4 q5) (xA6 0 c1 c2 c3 c4 c5) n (fun _ => 0) (fun _ => 0) (fun _ => 0) (xZ0 i) (xB0 (i + 1)) 0) H := hP
          have hD : va_D A0 (xc_W (xA6 o q1 q2 q3 q4 q5) (xA6 0 c1 c2 c3 c4 c5) n (fun _ => 0) (fun _ => 0) (fun _ => 0) (xZ0 i) (xB0 (i + 1)) 0) := hD
          refine lv_aload_n hx hb dX0_init_98 rfl (lv_at hl 1 rfl) ?_
          refine va_get (D := D) (ci := 0) (v := .ref q4) (C := RX0) (T := TX0) (N := 7) hx hb ht xin_X0 hown hK hP 0 rfl rfl 4 (by decide) (ht _ kfl_RX0_23) (fun _ h9 => h9) rfl dX0_init_99 ?_
          refine lv_iload_n hx hb dX0_init_102 rfl (lv_at hl 0 rfl) ?_
          refine lv_iconst (v := 1) hx hb dX0_init_103 (by decide) ?_
          refine xa_zst hx hb hK hP hD hS 4 3 rfl rfl (show i < n by omega) (by omega) (xu_z (xZ0 i) i true) dX0_init_104 (fun H locs hP hD hS => ?_)
          have hP : va_P D xcl (xc_W (xA6 o q1 q2 q3 q4 q5) (xA6 0 c1 c2 c3 c4 c5) n (fun _ => 0) (fun _ => 0) (fun _ => 0) (xZ0 (i + 1)) (xB0 (i + 1)) 0) H := hP
          have hD : va_D A0 (xc_W (xA6 o q1 q2 q3 q4 q5) (xA6 0 c1 c2 c3 c4 c5) n (fun _ => 0) (fun _ => 0) (fun _ => 0) (xZ0 (i + 1)) (xB0 (i + 1)) 0) := hD
          refine lv_iinc (v := nI (i + 1)) (lv' := [(2, .int (nI (i + 1))), (0, .ref o), (1, .int x)]) hx hb dX0_init_105 hl (k := 0) rfl (nI_1 i) (by decide) rfl (fun ls hl => ?_)
          refine lv_goto (tgt := 82) hx hb dX0_init_108 (by decide) ?_
          exact ih (i + 1) H locs (by omega) (by omega) hP hD hS ls (lv_sub hl [0, 1, 2] rfl)
    refine lv_iconst (v := 0) hx hb dX0_init_80 (by decide) ?_
    refine lv_istore_n (lv' := [(2, .int 0), (0, .ref o), (1, .int x)]) hx hb dX0_init_81 rfl hl (by decide) rfl (fun ls hl => ?_)
    exact loop 7 0 H locs (by omega) (by omega) hP hD hS ls (lv_sub hl [0, 1, 2] rfl)
  refine lv_icmp_lt (tgt := 18) hx hb dX0_init_8 (by decide) (fun h1 => ?_) (fun h1 => ?_)
  · have e : (12 : Int32) = nI n := by
      rcases hseg with ⟨g1, g2, rfl⟩ | ⟨rfl, -⟩
      · exact absurd h1 (nI_nlt (b := 12) g1 (by omega))
      · rfl
    refine lv_bipush (v := 12) hx hb dX0_init_18 (by decide) ?_
    refine lv_goto (tgt := 24) hx hb dX0_init_20 (by decide) ?_
    refine xa_top (y := nI n) e ?_
    exact tail ls (lv_sub hl [0, 1] rfl)
  · refine lv_iload_n hx hb dX0_init_11 rfl (lv_at hl 1 rfl) ?_
    refine lv_sipush (v := 128) hx hb dX0_init_12 (by decide) ?_
    refine lv_icmp_le (tgt := 23) hx hb dX0_init_15 (by decide) (fun h2 => ?_) (fun h2 => ?_)
    · have e : x = nI n := by
        rcases hseg with ⟨g1, g2, g3⟩ | ⟨-, g⟩
        · exact g3
        · rcases g with g | g
          · exact absurd g h1
          · exact absurd h2 g
      refine lv_iload_n hx hb dX0_init_23 rfl (lv_at hl 1 rfl) ?_
      refine xa_top (y := nI n) e ?_
      exact tail ls (lv_sub hl [0, 1] rfl)
    · have e : (12 : Int32) = nI n := by
        rcases hseg with ⟨g1, g2, rfl⟩ | ⟨rfl, -⟩
        · exact absurd (nI_le (b := 128) g2 (by omega)) h2
        · rfl
      refine lv_bipush (v := 12) hx hb dX0_init_18 (by decide) ?_
      refine lv_goto (tgt := 24) hx hb dX0_init_20 (by decide) ?_
      refine xa_top (y := nI n) e ?_
      exact tail ls (lv_sub hl [0, 1] rfl)

set_option maxHeartbeats 4000000 in
set_option maxRecDepth 100000 in
theorem m_init (l : Launch) (D : va_G) (o : Nat) (x : Int32) (n : Nat) (hseg : xseg x n) (sz : Nat) : Met l yX1_init (xw yX1_init cX1_init 3 none) ({ frames := 1, cells := 6, slots := 4364, locals := 12 }) (xk_M [.ref o, .int x] D [] [(o, .inr (1, [.int 0, .int 0, .null, .null, .null, .null, .null, .null, .int 0]))] sz) (xk_C D [(o, .inr (1, [.int 0, .int 0, .null, .null, .null, .null, .null, .null, .int 0]))] o xm_T (fun A K => xm_W A K 0 n (fun _ => false) (fun _ => false) (fun _ => false) (fun _ => 0) (xO0 6) (fun _ => 0) 0)) 6 4364 (va_A [(o, .inr (1, [.int 0, .int 0, .null, .null, .null, .null, .null, .null, .int 0]))] sz) := by
  refine Met.ofW (cc := cX1_init) (maxL := 3) (ret := none) (by decide) rfl ?_
  intro p e s m args below meth c s₁ B0 hml hv
  obtain ⟨rfl, hsz, hP, hK, hD0⟩ := hv
  have hx := B0.exec
  have hb := B0.bytes
  have hr := B0.returns
  have ht : ∀ w ∈ xT, w.before _ s = true := fun w h => atoms_spec (ws := xw yX1_init cX1_init 3 none) B0.pre w (List.mem_cons_of_mem _ h)
  have hown : s.vm.findClass RX1 = some m.cls := findClass_of_methodNamed B0.named
  have hlocks := B0.notSynchronized
  have hin9 : meth.name = "<init>" := (name_of_methodNamed B0.named B0.method).1
  subst hsz
  have hD := hD0.self (sz := s.heap.size)
  obtain ⟨A0, hA0⟩ : ∃ z, z = va_A [(o, .inr (1, [.int 0, .int 0, .null, .null, .null, .null, .null, .null, .int 0]))] s.heap.size := ⟨_, rfl⟩
  rw [← hA0] at hD
  have hA : ∀ q : Nat, s.heap.size ≤ q → A0 q := fun q h => by rw [hA0]; exact Or.inr h
  have hS : va_S A0 s.heap s.heap [] := va_S.rf
  have hn := xseg_n hseg
  have hl := lv_entry ([.ref o, .int x]) (n := 3) (Nat.le_of_ble_eq_true rfl)
  rw [lg_entry_eq]
  generalize (lg_sl ([.ref o, .int x]) ++ List.replicate (3 - (lg_sl ([.ref o, .int x])).length) Slot.unset).toArray = ls at hl ⊢
  have hl : lv_has ls 3 [(0, .ref o), (1, .int x)] := hl
  refine lv_aload_n hx hb dX1_init_0 rfl (lv_at hl 0 rfl) ?_
  refine W.objInit hx hb hown (ht _ kml_RX1_1) (ht _ kim_objectInit) (ht _ kco_objectInit) rfl (by rw [hml]; exact hl.1) rfl dX1_init_1 (Nat.le_of_ble_eq_true rfl) (Nat.le_of_ble_eq_true rfl) ?_
  refine W.eq (g2 := F0 m 4 ls []) rfl ?_
  refine lv_aload_n hx hb dX1_init_4 rfl (lv_at hl 0 rfl) ?_
  refine lv_sipush (v := 2048) hx hb dX1_init_5 (by decide) ?_
  refine va_newa (atype := .boolean) (N' := 2048) (ty := .boolean) (a0 := (2048, .inl (fun _ => xb false))) hx hb (ht _ kar_boolean) rfl hK hP hD hS hA (fun cA => by first | rfl | (rw [vp_cell_i, nI_0]; rfl)) (by decide) rfl (by simp [componentBytes]; try omega) (Nat.le_of_ble_eq_true rfl) (by show _ ≤ 4364; omega) dX1_init_8 (fun q1 c1 H hK hP hD hS => ?_)
  have hP : va_P D xcl ([(o, .inr (1, [.int 0, .int 0, .null, .null, .null, .null, .null, .null, .int 0])), (q1, .inl (c1, 2048, .inl (fun _ => xb false)))]) H := hP
  have hD : va_D A0 ([(o, .inr (1, [.int 0, .int 0, .null, .null, .null, .null, .null, .null, .int 0])), (q1, .inl (c1, 2048, .inl (fun _ => xb false)))]) := hD
  refine va_putF (D := D) (ci := 1) (v := .ref q1) (ty := .array .boolean) (C := RX1) (T := TX1) (N := 9) hx hb ht xin_X1 tyX1 tyX1_ok nmX1 hown hK hP hD hS 0 rfl rfl 2 (by decide) (ht _ kfl_RX1_7) (fun _ h9 => h9) rfl hin9 rfl (by decide +kernel) rfl rfl (Nat.le_of_ble_eq_true rfl) dX1_init_10 (fun H locs hP hD hS => ?_)
  have hP : va_P D xcl ([(o, .inr (1, [.int 0, .int 0, .ref q1, .null, .null, .null, .null, .null, .int 0])), (q1, .inl (c1, 2048, .inl (fun _ => xb false)))]) H := hP
  have hD : va_D A0 ([(o, .inr (1, [.int 0, .int 0, .ref q1, .null, .null, .null, .null, .null, .int 0])), (q1, .inl (c1, 2048, .inl (fun _ => xb false)))]) := hD
  refine lv_aload_n hx hb dX1_init_13 rfl (lv_at hl 0 rfl) ?_
  refine lv_sipush (v := 2048) hx hb dX1_init_14 (by decide) ?_
  refine va_newa (atype := .boolean) (N' := 2048) (ty := .boolean) (a0 := (2048, .inl (fun _ => xb false))) hx hb (ht _ kar_boolean) rfl hK hP hD hS hA (fun cA => by first | rfl | (rw [vp_cell_i, nI_0]; rfl)) (by decide) rfl (by simp [componentBytes]; try omega) (Nat.le_of_ble_eq_true rfl) (by show _ ≤ 4364; omega) dX1_init_17 (fun q2 c2 H hK hP hD hS => ?_)
  have hP : va_P D xcl ([(o, .inr (1, [.int 0, .int 0, .ref q1, .null, .null, .null, .null, .null, .int 0])), (q1, .inl (c1, 2048, .inl (fun _ => xb false))), (q2, .inl (c2, 2048, .inl (fun _ => xb false)))]) H := hP
  have hD : va_D A0 ([(o, .inr (1, [.int 0, .int 0, .ref q1, .null, .null, .null, .null, .null, .int 0])), (q1, .inl (c1, 2048, .inl (fun _ => xb false))), (q2, .inl (c2, 2048, .inl (fun _ => xb false)))]) := hD
  refine va_putF (D := D) (ci := 1) (v := .ref q2) (ty := .array .boolean) (C := RX1) (T := TX1) (N := 9) hx hb ht xin_X1 tyX1 tyX1_ok nmX1 hown hK hP hD hS 0 rfl rfl 3 (by decide) (ht _ kfl_RX1_13) (fun _ h9 => h9) rfl hin9 rfl (by decide +kernel) rfl rfl (Nat.le_of_ble_eq_true rfl) dX1_init_19 (fun H locs hP hD hS => ?_)
  have hP : va_P D xcl ([(o, .inr (1, [.int 0, .int 0, .ref q1, .ref q2, .null, .null, .null, .null, .int 0])), (q1, .inl (c1, 2048, .inl (fun _ => xb false))), (q2, .inl (c2, 2048, .inl (fun _ => xb false)))]) H := hP
  have hD : va_D A0 ([(o, .inr (1, [.int 0, .int 0, .ref q1, .ref q2, .null, .null, .null, .null, .int 0])), (q1, .inl (c1, 2048, .inl (fun _ => xb false))), (q2, .inl (c2, 2048, .inl (fun _ => xb false)))]) := hD
  refine lv_aload_n hx hb dX1_init_22 rfl (lv_at hl 0 rfl) ?_
  refine lv_sipush (v := 128) hx hb dX1_init_23 (by decide) ?_
  refine va_newa (atype := .boolean) (N' := 128) (ty := .boolean) (a0 := (128, .inl (fun _ => xb false))) hx hb (ht _ kar_boolean) rfl hK hP hD hS hA (fun cA => by first | rfl | (rw [vp_cell_i, nI_0]; rfl)) (by decide) rfl (by simp [componentBytes]; try omega) (Nat.le_of_ble_eq_true rfl) (by show _ ≤ 4364; omega) dX1_init_26 (fun q3 c3 H hK hP hD hS => ?_)
  have hP : va_P D xcl ([(o, .inr (1, [.int 0, .int 0, .ref q1, .ref q2, .null, .null, .null, .null, .int 0])), (q1, .inl (c1, 2048, .inl (fun _ => xb false))), (q2, .inl (c2, 2048, .inl (fun _ => xb false))), (q3, .inl (c3, 128, .inl (fun _ => xb false)))]) H := hP
  have hD : va_D A0 ([(o, .inr (1, [.int 0, .int 0, .ref q1, .ref q2, .null, .null, .null, .null, .int 0])), (q1, .inl (c1, 2048, .inl (fun _ => xb false))), (q2, .inl (c2, 2048, .inl (fun _ => xb false))), (q3, .inl (c3, 128, .inl (fun _ => xb false)))]) := hD
  refine va_putF (D := D) (ci := 1) (v := .ref q3) (ty := .array .boolean) (C := RX1) (T := TX1) (N := 9) hx hb ht xin_X1 tyX1 tyX1_ok nmX1 hown hK hP hD hS 0 rfl rfl 4 (by decide) (ht _ kfl_RX1_16) (fun _ h9 => h9) rfl hin9 rfl (by decide +kernel) rfl rfl (Nat.le_of_ble_eq_true rfl) dX1_init_28 (fun H locs hP hD hS => ?_)
  have hP : va_P D xcl ([(o, .inr (1, [.int 0, .int 0, .ref q1, .ref q2, .ref q3, .null, .null, .null, .int 0])), (q1, .inl (c1, 2048, .inl (fun _ => xb false))), (q2, .inl (c2, 2048, .inl (fun _ => xb false))), (q3, .inl (c3, 128, .inl (fun _ => xb false)))]) H := hP
  have hD : va_D A0 ([(o, .inr (1, [.int 0, .int 0, .ref q1, .ref q2, .ref q3, .null, .null, .null, .int 0])), (q1, .inl (c1, 2048, .inl (fun _ => xb false))), (q2, .inl (c2, 2048, .inl (fun _ => xb false))), (q3, .inl (c3, 128, .inl (fun _ => xb false)))]) := hD
  refine lv_aload_n hx hb dX1_init_31 rfl (lv_at hl 0 rfl) ?_
  refine lv_sipush (v := 128) hx hb dX1_init_32 (by decide) ?_
  refine va_newa (atype := .int) (N' := 128) (ty := .int) (a0 := (128, .inl (fun _ => nI 0))) hx hb (ht _ kar_int) rfl hK hP hD hS hA (fun cA => by first | rfl | (rw [vp_cell_i, nI_0]; rfl)) (by decide) rfl (by simp [componentBytes]; try omega) (Nat.le_of_ble_eq_true rfl) (by show _ ≤ 4364; omega) dX1_init_35 (fun q4 c4 H hK hP hD hS => ?_)
  have hP : va_P D xcl ([(o, .inr (1, [.int 0, .int 0, .ref q1, .ref q2, .ref q3, .null, .null, .null, .int 0])), (q1, .inl (c1, 2048, .inl (fun _ => xb false))), (q2, .inl (c2, 2048, .inl (fun _ => xb false))), (q3, .inl (c3, 128, .inl (fun _ => xb false))), (q4, .inl (c4, 128, .inl (fun _ => nI 0)))]) H := hP
  have hD : va_D A0 ([(o, .inr (1, [.int 0, .int 0, .ref q1, .ref q2, .ref q3, .null, .null, .null, .int 0])), (q1, .inl (c1, 2048, .inl (fun _ => xb false))), (q2, .inl (c2, 2048, .inl (fun _ => xb false))), (q3, .inl (c3, 128, .inl (fun _ => xb false))), (q4, .inl (c4, 128, .inl (fun _ => nI 0)))]) := hD
  refine va_putF (D := D) (ci := 1) (v := .ref q4) (ty := .array .int) (C := RX1) (T := TX1) (N := 9) hx hb ht xin_X1 tyX1 tyX1_ok nmX1 hown hK hP hD hS 0 rfl rfl 5 (by decide) (ht _ kfl_RX1_19) (fun _ h9 => h9) rfl hin9 rfl (by decide +kernel) rfl rfl (Nat.le_of_ble_eq_true rfl) dX1_init_37 (fun H locs hP hD hS => ?_)
  have hP : va_P D xcl ([(o, .inr (1, [.int 0, .int 0, .ref q1, .ref q2, .ref q3, .ref q4, .null, .null, .int 0])), (q1, .inl (c1, 2048, .inl (fun _ => xb false))), (q2, .inl (c2, 2048, .inl (fun _ => xb false))), (q3, .inl (c3, 128, .inl (fun _ => xb false))), (q4, .inl (c4, 128, .inl (fun _ => nI 0)))]) H := hP
  have hD : va_D A0 ([(o, .inr (1, [.int 0, .int 0, .ref q1, .ref q2, .ref q3, .ref q4, .null, .null, .int 0])), (q1, .inl (c1, 2048, .inl (fun _ => xb false))), (q2, .inl (c2, 2048, .inl (fun _ => xb false))), (q3, .inl (c3, 128, .inl (fun _ => xb false))), (q4, .inl (c4, 128, .inl (fun _ => nI 0)))]) := hD
  refine lv_aload_n hx hb dX1_init_40 rfl (lv_at hl 0 rfl) ?_
  refine lv_bipush (v := 6) hx hb dX1_init_41 (by decide) ?_
  refine va_newa (atype := .int) (N' := 6) (ty := .int) (a0 := (6, .inl (fun _ => nI 0))) hx hb (ht _ kar_int) rfl hK hP hD hS hA (fun cA => by first | rfl | (rw [vp_cell_i, nI_0]; rfl)) (by decide) rfl (by simp [componentBytes]; try omega) (Nat.le_of_ble_eq_true rfl) (by show _ ≤ 4364; omega) dX1_init_43 (fun q5 c5 H hK hP hD hS => ?_)
  have hP : va_P D xcl ([(o, .inr (1, [.int 0, .int 0, .ref q1, .ref q2, .ref q3, .ref q4, .null, .null, .int 0])), (q1, .inl (c1, 2048, .inl (fun _ => xb false))), (q2, .inl (c2, 2048, .inl (fun _ => xb false))), (q3, .inl (c3, 128, .inl (fun _ => xb false))), (q4, .inl (c4, 128, .inl (fun _ => nI 0))), (q5, .inl (c5, 6, .inl (fun _ => nI 0)))]) H := hP
  have hD : va_D A0 ([(o, .inr (1, [.int 0, .int 0, .ref q1, .ref q2, .ref q3, .ref q4, .null, .null, .int 0])), (q1, .inl (c1, 2048, .inl (fun _ => xb false))), (q2, .inl (c2, 2048, .inl (fun _ => xb false))), (q3, .inl (c3, 128, .inl (fun _ => xb false))), (q4, .inl (c4, 128, .inl (fun _ => nI 0))), (q5, .inl (c5, 6, .inl (fun _ => nI 0)))]) := hD
  refine va_putF (D := D) (ci := 1) (v := .ref q5) (ty := .array .int) (C := RX1) (T := TX1) (N := 9) hx hb ht xin_X1 tyX1 tyX1_ok nmX1 hown hK hP hD hS 0 rfl rfl 6 (by decide) (ht _ kfl_RX1_23) (fun _ h9 => h9) rfl hin9 rfl (by decide +kernel) rfl rfl (Nat.le_of_ble_eq_true rfl) dX1_init_45 (fun H locs hP hD hS => ?_)
  have hP : va_P D xcl ([(o, .inr (1, [.int 0, .int 0, .ref q1, .ref q2, .ref q3, .ref q4, .ref q5, .null, .int 0])), (q1, .inl (c1, 2048, .inl (fun _ => xb false))), (q2, .inl (c2, 2048, .inl (fun _ => xb false))), (q3, .inl (c3, 128, .inl (fun _ => xb false))), (q4, .inl (c4, 128, .inl (fun _ => nI 0))), (q5, .inl (c5, 6, .inl (fun _ => nI 0)))]) H := hP
  have hD : va_D A0 ([(o, .inr (1, [.int 0, .int 0, .ref q1, .ref q2, .ref q3, .ref q4, .ref q5, .null, .int 0])), (q1, .inl (c1, 2048, .inl (fun _ => xb false))), (q2, .inl (c2, 2048, .inl (fun _ => xb false))), (q3, .inl (c3, 128, .inl (fun _ => xb false))), (q4, .inl (c4, 128, .inl (fun _ => nI 0))), (q5, .inl (c5, 6, .inl (fun _ => nI 0)))]) := hD
  refine lv_aload_n hx hb dX1_init_48 rfl (lv_at hl 0 rfl) ?_
  refine lv_bipush (v := 6) hx hb dX1_init_49 (by decide) ?_
  refine va_newa (atype := .int) (N' := 6) (ty := .int) (a0 := (6, .inl (fun _ => nI 0))) hx hb (ht _ kar_int) rfl hK hP hD hS hA (fun cA => by first | rfl | (rw [vp_cell_i, nI_0]; rfl)) (by decide) rfl (by simp [componentBytes]; try omega) (Nat.le_of_ble_eq_true rfl) (by show _ ≤ 4364; omega) dX1_init_51 (fun q6 c6 H hK hP hD hS => ?_)
  have hP : va_P D xcl ([(o, .inr (1, [.int 0, .int 0, .ref q1, .ref q2, .ref q3, .ref q4, .ref q5, .null, .int 0])), (q1, .inl (c1, 2048, .inl (fun _ => xb false))), (q2, .inl (c2, 2048, .inl (fun _ => xb false))), (q3, .inl (c3, 128, .inl (fun _ => xb false))), (q4, .inl (c4, 128, .inl (fun _ => nI 0))), (q5, .inl (c5, 6, .inl (fun _ => nI 0))), (q6, .inl (c6, 6, .inl (fun _ => nI 0)))]) H := hP
  have hD : va_D A0 ([(o, .inr (1, [.int 0, .int 0, .ref q1, .ref q2, .ref q3, .ref q4, .ref q5, .null, .int 0])), (q1, .inl (c1, 2048, .inl (fun _ => xb false))), (q2, .inl (c2, 2048, .inl (fun _ => xb false))), (q3, .inl (c3, 128, .inl (fun _ => xb false))), (q4, .inl (c4, 128, .inl (fun _ => nI 0))), (q5, .inl (c5, 6, .inl (fun _ => nI 0))), (q6, .inl (c6, 6, .inl (fun _ => nI 0)))]) := hD
  refine va_putF (D := D) (ci := 1) (v := .ref q6) (ty := .array .int) (C := RX1) (T := TX1) (N := 9) hx hb ht xin_X1 tyX1 tyX1_ok nmX1 hown hK hP hD hS 0 rfl rfl 7 (by decide) (ht _ kfl_RX1_26) (fun _ h9 => h9) rfl hin9 rfl (by decide +kernel) rfl rfl (Nat.le_of_ble_eq_true rfl) dX1_init_53 (fun H locs hP hD hS => ?_)
  have hP : va_P D xcl ([(o, .inr (1, [.int 0, .int 0, .ref q1, .ref q2, .ref q3, .ref q4, .ref q5, .ref q6, .int 0])), (q1, .inl (c1, 2048, .inl (fun _ => xb false))), (q2, .inl (c2, 2048, .inl (fun _ => xb false))), (q3, .inl (c3, 128, .inl (fun _ => xb false))), (q4, .inl (c4, 128, .inl (fun _ => nI 0))), (q5, .inl (c5, 6, .inl (fun _ => nI 0))), (q6, .inl (c6, 6, .inl (fun _ => nI 0)))]) H := hP
  have hD : va_D A0 ([(o, .inr (1, [.int 0, .int 0, .ref q1, .ref q2, .ref q3, .ref q4, .ref q5, .ref q6, .int 0])), (q1, .inl (c1, 2048, .inl (fun _ => xb false))), (q2, .inl (c2, 2048, .inl (fun _ => xb false))), (q3, .inl (c3, 128, .inl (fun _ => xb false))), (q4, .inl (c4, 128, .inl (fun _ => nI 0))), (q5, .inl (c5, 6, .inl (fun _ => nI 0))), (q6, .inl (c6, 6, .inl (fun _ => nI 0)))]) := hD
  refine lv_aload_n hx hb dX1_init_56 rfl (lv_at hl 0 rfl) ?_
  refine lv_iload_n hx hb dX1_init_57 rfl (lv_at hl 1 rfl) ?_
  refine lv_bipush (v := 12) hx hb dX1_init_58 (by decide) ?_
  have tail : ∀ ls : Array Slot, lv_has ls 3 [(0, .ref o), (1, .int x)] → W p l e (headSpec (xw yX1_init cX1_init 3 none) ({ frames := 1, cells := 6, slots := 4364, locals := 12 })).room s m ([.ref o, .int x] : List Value).toArray below meth c H locs 6 (0 + 2048 + 2048 + 128 + 128 + 6 + 6) (MQ below (xk_C D [(o, .inr (1, [.int 0, .int 0, .null, .null, .null, .null, .null, .null, .int 0]))] o xm_T (fun A K => xm_W A K 0 n (fun _ => false) (fun _ => false) (fun _ => false) (fun _ => 0) (xO0 6) (fun _ => 0) 0)) ([.ref o, .int x] : List Value).toArray s 6 4364 (va_A [(o, .inr (1, [.int 0, .int 0, .null, .null, .null, .null, .null, .null, .int 0]))] s.heap.size)) (F0 m 76 ls [.int (nI n), .ref o]) := by
    intro ls hl
    refine va_putF (D := D) (ci := 1) (v := .int (nI n)) (ty := .int) (C := RX1) (T := TX1) (N := 9) hx hb ht xin_X1 tyX1 tyX1_ok nmX1 hown hK hP hD hS 0 rfl rfl 1 (by decide) (ht _ kfl_RX1_29) (fun _ h9 => h9) rfl hin9 rfl (by decide +kernel) rfl rfl (Nat.le_of_ble_eq_true rfl) dX1_init_76 (fun H locs hP hD hS => ?_)
    have hP : va_P D xcl ([(o, .inr (1, [.int 0, .int (nI n), .ref q1, .ref q2, .ref q3, .ref q4, .ref q5, .ref q6, .int 0])), (q1, .inl (c1, 2048, .inl (fun _ => xb false))), (q2, .inl (c2, 2048, .inl (fun _ => xb false))), (q3, .inl (c3, 128, .inl (fun _ => xb false))), (q4, .inl (c4, 128, .inl (fun _ => nI 0))), (q5, .inl (c5, 6, .inl (fun _ => nI 0))), (q6, .inl (c6, 6, .inl (fun _ => nI 0)))]) H := hP
    have hD : va_D A0 ([(o, .inr (1, [.int 0, .int (nI n), .ref q1, .ref q2, .ref q3, .ref q4, .ref q5, .ref q6, .int 0])), (q1, .inl (c1, 2048, .inl (fun _ => xb false))), (q2, .inl (c2, 2048, .inl (fun _ => xb false))), (q3, .inl (c3, 128, .inl (fun _ => xb false))), (q4, .inl (c4, 128, .inl (fun _ => nI 0))), (q5, .inl (c5, 6, .inl (fun _ => nI 0))), (q6, .inl (c6, 6, .inl (fun _ => nI 0)))]) := hD
    have hP : va_P D xcl (xm_W (xA7 o q1 q2 q3 q4 q5 q6) (xA7 0 c1 c2 c3 c4 c5 c6) 0 n (fun _ => false) (fun _ => false) (fun _ => false) (fun _ => 0) (xO0 0) (fun _ => 0) 0) H := hP
    have hD : va_D A0 (xm_W (xA7 o q1 q2 q3 q4 q5 q6) (xA7 0 c1 c2 c3 c4 c5 c6) 0 n (fun _ => false) (fun _ => false) (fun _ => false) (fun _ => 0) (xO0 0) (fun _ => 0) 0) := hD
    have hK : va_K D xcl (xm_T (xA7 0 c1 c2 c3 c4 c5 c6)) s := hK
    refine W.widen (k := 6) (n := 4364) (by omega) (by omega) ?_
    have loop : ∀ (f i : Nat) (H : Heap) (locs : List Loc), i ≤ 6 → 7 ≤ i + f → va_P D xcl (xm_W (xA7 o q1 q2 q3 q4 q5 q6) (xA7 0 c1 c2 c3 c4 c5 c6) 0 n (fun _ => false) (fun _ => false) (fun _ => false) (fun _ => 0) (xO0 i) (fun _ => 0) 0) H → va_D A0 (xm_W (xA7 o q1 q2 q3 q4 q5 q6) (xA7 0 c1 c2 c3 c4 c5 c6) 0 n (fun _ => false) (fun _ => false) (fun _ => false) (fun _ => 0) (xO0 i) (fun _ => 0) 0) → va_S A0 s.heap H locs → ∀ ls : Array Slot, lv_has ls 3 [(2, .int (nI i)), (0, .ref o), (1, .int x)] → W p l e (headSpec (xw yX1_init cX1_init 3 none) ({ frames := 1, cells := 6, slots := 4364, locals := 12 })).room s m ([.ref o, .int x] : List Value).toArray below meth c H locs 6 (4364) (MQ below (xk_C D [(o, .inr (1, [.int 0, .int 0, .null, .null, .null, .null, .null, .null, .int 0]))] o xm_T (fun A K => xm_W A K 0 n (fun _ => false) (fun _ => false) (fun _ => false) (fun _ => 0) (xO0 6) (fun _ => 0) 0)) ([.ref o, .int x] : List Value).toArray s 6 4364 (va_A [(o, .inr (1, [.int 0, .int 0, .null, .null, .null, .null, .null, .null, .int 0]))] s.heap.size)) (F0 m 81 ls []) := by
      intro f
      induction f with
      | zero => intro i H locs h1 h2; exact absurd h2 (by omega)
      | succ f ih =>
        intro i H locs hi hf hP hD hS ls hl
        refine lv_iload_n hx hb dX1_init_81 rfl (lv_at hl 0 rfl) ?_
        refine lv_bipush (v := 6) hx hb dX1_init_82 (by decide) ?_
        refine lv_icmp_ge (tgt := 100) hx hb dX1_init_84 (by decide) (fun h1 => ?_) (fun h1 => ?_)
        · have hin : i = 6 := by
            rcases Nat.lt_or_ge i 6 with q | q
            · exact absurd h1 (nI_ge (b := 6) q (by decide))
            · omega
          subst hin
          exact W.vret hx hb hr (fun t ht hW => ⟨rfl, ⟨_, _, rfl, by rw [ht]; exact hP, va_K.moved hW.alike hK, by rw [← hA0]; exact hD⟩, by rw [← hA0]; exact hS.F ht⟩) (by rw [← hA0]; exact hS.2.2) dX1_init_100
        · have hin : i < 6 := by
            rcases Nat.lt_or_ge i 6 with q | q
            · exact q
            · exact absurd (nI_le (a := 6) q (by omega)) h1
          refine lv_aload_n hx hb dX1_init_87 rfl (lv_at hl 1 rfl) ?_
          refine va_get (D := D) (ci := 1) (v := .ref q5) (C := RX1) (T := TX1) (N := 9) hx hb ht xin_X1 hown hK hP 0 rfl rfl 6 (by decide) (ht _ kfl_RX1_23) (fun _ h9 => h9) rfl dX1_init_88 ?_
          refine lv_iload_n hx hb dX1_init_91 rfl (lv_at hl 0 rfl) ?_
          refine lv_iload_n hx hb dX1_init_92 rfl (lv_at hl 0 rfl) ?_
          refine xa_ist hx hb hK hP hD hS 5 4 rfl rfl hin (by decide) (xu_n (xO0 i) i i) dX1_init_93 (fun H locs hP hD hS => ?_)
          have hP : va_P D xcl (xm_W (xA7 o q1 q2 q3 q4 q5 q6) (xA7 0 c1 c2 c3 c4 c5 c6) 0 n (fun _ => false) (fun _ => false) (fun _ => false) (fun _ => 0) (xO0 (i + 1)) (fun _ => 0) 0) H := hP
          have hD : va_D A0 (xm_W (xA7 o q1 q2 q3 q4 q5 q6) (xA7 0 c1 c2 c3 c4 c5 c6) 0 n (fun _ => false) (fun _ => false) (fun _ => false) (fun _ => 0) (xO0 (i + 1)) (fun _ => 0) 0) := hD
          refine lv_iinc (v := nI (i + 1)) (lv' := [(2, .int (nI (i + 1))), (0, .ref o), (1, .int x)]) hx hb dX1_init_94 hl (k := 0) rfl (nI_1 i) (by decide) rfl (fun ls hl => ?_)
          refine lv_goto (tgt := 81) hx hb dX1_init_97 (by decide) ?_
          exact ih (i + 1) H locs (by omega) (by omega) hP hD hS ls (lv_sub hl [0, 1, 2] rfl)
    refine lv_iconst (v := 0) hx hb dX1_init_79 (by decide) ?_
    refine lv_istore_n (lv' := [(2, .int 0), (0, .ref o), (1, .int x)]) hx hb dX1_init_80 rfl hl (by decide) rfl (fun ls hl => ?_)
    exact loop 7 0 H locs (by omega) (by omega) hP hD hS ls (lv_sub hl [0, 1, 2] rfl)
  refine lv_icmp_lt (tgt := 70) hx hb dX1_init_60 (by decide) (fun h1 => ?_) (fun h1 => ?_)
  · have e : (12 : Int32) = nI n := by
      rcases hseg with ⟨g1, g2, rfl⟩ | ⟨rfl, -⟩
      · exact absurd h1 (nI_nlt (b := 12) g1 (by omega))
      · rfl
    refine lv_bipush (v := 12) hx hb dX1_init_70 (by decide) ?_
    refine lv_goto (tgt := 76) hx hb dX1_init_72 (by decide) ?_
    refine xa_top (y := nI n) e ?_
    exact tail ls (lv_sub hl [0, 1] rfl)
  · refine lv_iload_n hx hb dX1_init_63 rfl (lv_at hl 1 rfl) ?_
    refine lv_sipush (v := 128) hx hb dX1_init_64 (by decide) ?_
    refine lv_icmp_le (tgt := 75) hx hb dX1_init_67 (by decide) (fun h2 => ?_) (fun h2 => ?_)
    · have e : x = nI n := by
        rcases hseg with ⟨g1, g2, g3⟩ | ⟨-, g⟩
        · exact g3
        · rcases g with g | g
          · exact absurd g h1
          · exact absurd h2 g
      refine lv_iload_n hx hb dX1_init_75 rfl (lv_at hl 1 rfl) ?_
      refine xa_top (y := nI n) e ?_
      exact tail ls (lv_sub hl [0, 1] rfl)
    · have e : (12 : Int32) = nI n := by
        rcases hseg with ⟨g1, g2, rfl⟩ | ⟨rfl, -⟩
        · exact absurd (nI_le (b := 128) g2 (by omega)) h2
        · rfl
      refine lv_bipush (v := 12) hx hb dX1_init_70 (by decide) ?_
      refine lv_goto (tgt := 76) hx hb dX1_init_72 (by decide) ?_
      refine xa_top (y := nI n) e ?_
      exact tail ls (lv_sub hl [0, 1] rfl)
end
section
/-- the reference: taken, by the first i logs; free, by the first i blocks; bits from above -/
def xtk (TO : Nat → Bool) (OP : Nat → Nat) (j : Nat) : Nat → Bool
  | 0 => TO j
  | i + 1 => xtk TO OP j i || OP i == j
def xmf (V TV : Nat → Bool) (t : Bool) (j : Nat) : Nat → Bool
  | 0 => !t
  | i + 1 => xmf V TV t j i && (!V (16 * j + i) && !TV (16 * j + i))
def xmfr (V TV TO : Nat → Bool) (OP : Nat → Nat) (j : Nat) : Bool := xmf V TV (xtk TO OP j 6) j 16
def xmu (V : Nat → Bool) (j : Nat) : Nat := xcnt (fun k => (V (16 * j + k)).toNat) 16
def xhc (f : Nat → Bool) : Nat → Nat
  | 0 => 0
  | i + 1 => 2 * xhc f i + (f (15 - i)).toNat
theorem xix (j i : Nat) : (16 : Int32) * nI j + nI i = nI (16 * j + i) := by rw [show (16 : Int32) = nI 16 from rfl, pk_mul, nI_add]
theorem xbor (a b : Bool) : xb (a || b) = if a then 1 else xb b := by cases a <;> cases b <;> rfl
theorem xb1 {b : Bool} (h : b = true) : (1 : Int32) = xb b := by rw [h]; rfl
theorem xb00 {b : Bool} (h : b = false) : (0 : Int32) = xb b := by rw [h]; rfl
set_option maxHeartbeats 4000000 in
set_option maxRecDepth 100000 in
/-- thrown -/
theorem m_thrown (l : Launch) (D : va_G) (A : Nat → Nat) (K : Nat → ClassId) (th n : Nat) (V TV TO : Nat → Bool) (AG OP NX : Nat → Nat) (TK : Nat) : Met l yX1_thrown (xw yX1_thrown cX1_thrown 1 (some .int)) ({ frames := 0, cells := 0, slots := 0, locals := 0 }) (xk_P [.ref (A 0)] D (xm_T K) (xm_W A K th n V TV TO AG OP NX TK)) (vp_Si (fun r => r = nI th)) 0 0 (fun _ => False) := by
  refine Met.ofW (cc := cX1_thrown) (maxL := 1) (ret := (some .int)) (by decide) rfl ?_
  intro p e s m args below meth c s₁ B0 hml hv
  obtain ⟨rfl, hP, hK⟩ := hv
  have hx := B0.exec
  have hb := B0.bytes
  have hr := B0.returns
  have ht : ∀ w ∈ xT, w.before _ s = true := fun w h => atoms_spec (ws := xw yX1_thrown cX1_thrown 1 (some .int)) B0.pre w (List.mem_cons_of_mem _ h)
  have hown : s.vm.findClass RX1 = some m.cls := findClass_of_methodNamed B0.named
  have hlocks := B0.notSynchronized
  have hl := lv_entry ([.ref (A 0)]) (n := 1) (Nat.le_of_ble_eq_true rfl)
  rw [lg_entry_eq]
  generalize (lg_sl ([.ref (A 0)]) ++ List.replicate (1 - (lg_sl ([.ref (A 0)])).length) Slot.unset).toArray = ls at hl ⊢
  have hl : lv_has ls 1 [(0, .ref (A 0))] := hl
  refine lv_aload_n hx hb dX1_thrown_0 rfl (lv_at hl 0 rfl) ?_
  refine va_get (D := D) (ci := 1) (v := .int (nI th)) (C := RX1) (T := TX1) (N := 9) hx hb ht xin_X1 hown hK hP 0 rfl rfl 0 (by decide) (ht _ kfl_RX1_33) (fun _ h9 => h9) rfl dX1_thrown_1 ?_
  exact W.iret (v := nI th) hx hb hr (fun t ht hW => ⟨nI th, rfl, rfl, ht⟩) (fun _ h => by cases h) dX1_thrown_4

set_option maxHeartbeats 4000000 in
set_option maxRecDepth 100000 in
/-- isTaken -/
theorem m_isTaken (l : Launch) (D : va_G) (A : Nat → Nat) (K : Nat → ClassId) (th n : Nat) (V TV TO : Nat → Bool) (AG OP NX : Nat → Nat) (TK : Nat) (hOP : ∀ q, q < 6 → OP q < 128) (j : Nat) (hj : j < 128) : Met l yX1_isTaken (xw yX1_isTaken cX1_isTaken 4 (some .boolean)) ({ frames := 0, cells := 0, slots := 0, locals := 0 }) (xk_P [.ref (A 0), .int (nI j)] D (xm_T K) (xm_W A K th n V TV TO AG OP NX TK)) (vp_Si (fun r => r = xb (xtk TO OP j 6))) 0 0 (fun _ => False) := by
  refine Met.ofW (cc := cX1_isTaken) (maxL := 4) (ret := (some .boolean)) (by decide) rfl ?_
  intro p e s m args below meth c s₁ B0 hml hv
  obtain ⟨rfl, hP, hK⟩ := hv
  have hx := B0.exec
  have hb := B0.bytes
  have hr := B0.returns
  have ht : ∀ w ∈ xT, w.before _ s = true := fun w h => atoms_spec (ws := xw yX1_isTaken cX1_isTaken 4 (some .boolean)) B0.pre w (List.mem_cons_of_mem _ h)
  have hown : s.vm.findClass RX1 = some m.cls := findClass_of_methodNamed B0.named
  have hlocks := B0.notSynchronized
  have hl := lv_entry ([.ref (A 0), .int (nI j)]) (n := 4) (Nat.le_of_ble_eq_true rfl)
  rw [lg_entry_eq]
  generalize (lg_sl ([.ref (A 0), .int (nI j)]) ++ List.replicate (4 - (lg_sl ([.ref (A 0), .int (nI j)])).length) Slot.unset).toArray = ls at hl ⊢
  have hl : lv_has ls 4 [(0, .ref (A 0)), (1, .int (nI j))] := hl
  have loop : ∀ (f i : Nat), i ≤ 6 → 6 + 1 ≤ i + f → ∀ ls : Array Slot, lv_has ls 4 [(3, .int (nI i)), (2, .int (xb (xtk TO OP j i))), (0, .ref (A 0)), (1, .int (nI j))] → W p l e (headSpec (xw yX1_isTaken cX1_isTaken 4 (some .boolean)) ({ frames := 0, cells := 0, slots := 0, locals := 0 })).room s m ([.ref (A 0), .int (nI j)] : List Value).toArray below meth c s.heap [] 0 0 (MQ below (vp_Si (fun r => r = xb (xtk TO OP j 6))) ([.ref (A 0), .int (nI j)] : List Value).toArray s 0 0 (fun _ => False)) (F0 m 9 ls []) := by
    intro f
    induction f with
    | zero => intro i h1 h2; exact absurd h2 (by omega)
    | succ f ih =>
      intro i hi hf ls hl
      refine lv_iload_n hx hb dX1_isTaken_9 rfl (lv_at hl 0 rfl) ?_
      refine lv_bipush (v := 6) hx hb dX1_isTaken_10 (by decide) ?_
      refine lv_icmp_ge (tgt := 41) hx hb dX1_isTaken_12 (by decide) (fun h1 => ?_) (fun h1 => ?_)
      · have hin : i = 6 := by
          rcases Nat.lt_or_ge i 6 with q | q
          · exact absurd h1 (nI_ge (b := 6) q (by omega))
          · omega
        subst hin
        refine lv_iload_n hx hb dX1_isTaken_41 rfl (lv_at hl 1 rfl) ?_
        exact W.zret (v := xb (xtk TO OP j 6)) (ty := .boolean) hx hb hr (xn_b' _) (fun t ht hW => ⟨xb (xtk TO OP j 6), rfl, rfl, ht⟩) (fun _ h => by cases h) dX1_isTaken_42
      · have hin : i < 6 := by
          rcases Nat.lt_or_ge i 6 with q | q
          · exact q
          · exact absurd (nI_le (a := 6) q (by omega)) h1
        refine lv_iload_n hx hb dX1_isTaken_15 rfl (lv_at hl 1 rfl) ?_
        refine lv_if_ne (tgt := 29) hx hb dX1_isTaken_16 (by decide) (fun h2 => ?_) (fun h2 => ?_)
        · rw [xb_n0] at h2
          refine lv_iconst (v := 1) hx hb dX1_isTaken_29 (by decide) ?_
          refine lv_goto (tgt := 34) hx hb dX1_isTaken_30 (by decide) ?_
          refine xa_top (y := xb (xtk TO OP j (i + 1))) (xb1 (by simp [xtk, h2])) ?_
          refine lv_istore_n (lv' := [(2, .int (xb (xtk TO OP j (i + 1)))), (3, .int (nI i)), (0, .ref (A 0)), (1, .int (nI j))]) hx hb dX1_isTaken_34 rfl hl (by decide) rfl (fun ls hl => ?_)
          refine lv_iinc (v := nI (i + 1)) (lv' := [(3, .int (nI (i + 1))), (2, .int (xb (xtk TO OP j (i + 1)))), (0, .ref (A 0)), (1, .int (nI j))]) hx hb dX1_isTaken_35 hl (k := 1) rfl (nI_1 i) (by decide) rfl (fun ls hl => ?_)
          refine lv_goto (tgt := 9) hx hb dX1_isTaken_38 (by decide) ?_
          exact ih (i + 1) (by omega) (by omega) ls (lv_sub hl [0, 1, 2, 3] rfl)
        · rw [xb_0] at h2
          refine lv_aload_n hx hb dX1_isTaken_19 rfl (lv_at hl 2 rfl) ?_
          refine va_get (D := D) (ci := 1) (v := .ref (A 5)) (C := RX1) (T := TX1) (N := 9) hx hb ht xin_X1 hown hK hP 0 rfl rfl 6 (by decide) (ht _ kfl_RX1_23) (fun _ h9 => h9) rfl dX1_isTaken_20 ?_
          refine lv_iload_n hx hb dX1_isTaken_23 rfl (lv_at hl 0 rfl) ?_
          refine xa_ild hx hb hK hP 5 4 rfl rfl (v := nI (OP i)) hin (by decide) rfl dX1_isTaken_24 ?_
          refine lv_iload_n hx hb dX1_isTaken_25 rfl (lv_at hl 3 rfl) ?_
          refine lv_icmp_ne (tgt := 33) hx hb dX1_isTaken_26 (by decide) (fun h3 => ?_) (fun h3 => ?_)
          · have hne : OP i ≠ j := fun z => h3 (by rw [z])
            refine lv_iconst (v := 0) hx hb dX1_isTaken_33 (by decide) ?_
            refine xa_top (y := xb (xtk TO OP j (i + 1))) (xb00 (by simp [xtk, h2, hne])) ?_
            refine lv_istore_n (lv' := [(2, .int (xb (xtk TO OP j (i + 1)))), (3, .int (nI i)), (0, .ref (A 0)), (1, .int (nI j))]) hx hb dX1_isTaken_34 rfl hl (by decide) rfl (fun ls hl => ?_)
            refine lv_iinc (v := nI (i + 1)) (lv' := [(3, .int (nI (i + 1))), (2, .int (xb (xtk TO OP j (i + 1)))), (0, .ref (A 0)), (1, .int (nI j))]) hx hb dX1_isTaken_35 hl (k := 1) rfl (nI_1 i) (by decide) rfl (fun ls hl => ?_)
            refine lv_goto (tgt := 9) hx hb dX1_isTaken_38 (by decide) ?_
            exact ih (i + 1) (by omega) (by omega) ls (lv_sub hl [0, 1, 2, 3] rfl)
          · have he : OP i = j := (nI_eq (by have := hOP i hin; omega) (by omega)).mp h3
            refine lv_iconst (v := 1) hx hb dX1_isTaken_29 (by decide) ?_
            refine lv_goto (tgt := 34) hx hb dX1_isTaken_30 (by decide) ?_
            refine xa_top (y := xb (xtk TO OP j (i + 1))) (xb1 (by simp [xtk, he])) ?_
            refine lv_istore_n (lv' := [(2, .int (xb (xtk TO OP j (i + 1)))), (3, .int (nI i)), (0, .ref (A 0)), (1, .int (nI j))]) hx hb dX1_isTaken_34 rfl hl (by decide) rfl (fun ls hl => ?_)
            refine lv_iinc (v := nI (i + 1)) (lv' := [(3, .int (nI (i + 1))), (2, .int (xb (xtk TO OP j (i + 1)))), (0, .ref (A 0)), (1, .int (nI j))]) hx hb dX1_isTaken_35 hl (k := 1) rfl (nI_1 i) (by decide) rfl (fun ls hl => ?_)
            refine lv_goto (tgt := 9) hx hb dX1_isTaken_38 (by decide) ?_
            exact ih (i + 1) (by omega) (by omega) ls (lv_sub hl [0, 1, 2, 3] rfl)
  refine lv_aload_n hx hb dX1_isTaken_0 rfl (lv_at hl 0 rfl) ?_
  refine va_get (D := D) (ci := 1) (v := .ref (A 3)) (C := RX1) (T := TX1) (N := 9) hx hb ht xin_X1 hown hK hP 0 rfl rfl 4 (by decide) (ht _ kfl_RX1_16) (fun _ h9 => h9) rfl dX1_isTaken_1 ?_
  refine lv_iload_n hx hb dX1_isTaken_4 rfl (lv_at hl 1 rfl) ?_
  refine xa_zld hx hb hK hP 3 2 rfl rfl (v := xb (TO j)) hj (by decide) rfl dX1_isTaken_5 ?_
  refine lv_istore_n (lv' := [(2, .int (xb (TO j))), (0, .ref (A 0)), (1, .int (nI j))]) hx hb dX1_isTaken_6 rfl hl (by decide) rfl (fun ls hl => ?_)
  refine lv_iconst (v := 0) hx hb dX1_isTaken_7 (by decide) ?_
  refine lv_istore_n (lv' := [(3, .int 0), (2, .int (xb (TO j))), (0, .ref (A 0)), (1, .int (nI j))]) hx hb dX1_isTaken_8 rfl hl (by decide) rfl (fun ls hl => ?_)
  exact loop 7 0 (by omega) (by omega) ls (lv_sub hl [0, 1, 2, 3] rfl)

set_option maxHeartbeats 4000000 in
set_option maxRecDepth 100000 in
/-- inUse -/
theorem m_inUse (l : Launch) (D : va_G) (A : Nat → Nat) (K : Nat → ClassId) (th n : Nat) (V TV TO : Nat → Bool) (AG OP NX : Nat → Nat) (TK : Nat) (j : Nat) (hj : j < 128) : Met l yX1_inUse (xw yX1_inUse cX1_inUse 4 (some .int)) ({ frames := 0, cells := 0, slots := 0, locals := 0 }) (xk_P [.ref (A 0), .int (nI j)] D (xm_T K) (xm_W A K th n V TV TO AG OP NX TK)) (vp_Si (fun r => r = nI (xmu V j))) 0 0 (fun _ => False) := by
  refine Met.ofW (cc := cX1_inUse) (maxL := 4) (ret := (some .int)) (by decide) rfl ?_
  intro p e s m args below meth c s₁ B0 hml hv
  obtain ⟨rfl, hP, hK⟩ := hv
  have hx := B0.exec
  have hb := B0.bytes
  have hr := B0.returns
  have ht : ∀ w ∈ xT, w.before _ s = true := fun w h => atoms_spec (ws := xw yX1_inUse cX1_inUse 4 (some .int)) B0.pre w (List.mem_cons_of_mem _ h)
  have hown : s.vm.findClass RX1 = some m.cls := findClass_of_methodNamed B0.named
  have hlocks := B0.notSynchronized
  have hl := lv_entry ([.ref (A 0), .int (nI j)]) (n := 4) (Nat.le_of_ble_eq_true rfl)
  rw [lg_entry_eq]
  generalize (lg_sl ([.ref (A 0), .int (nI j)]) ++ List.replicate (4 - (lg_sl ([.ref (A 0), .int (nI j)])).length) Slot.unset).toArray = ls at hl ⊢
  have hl : lv_has ls 4 [(0, .ref (A 0)), (1, .int (nI j))] := hl
  have loop : ∀ (f i : Nat), i ≤ 16 → 16 + 1 ≤ i + f → ∀ ls : Array Slot, lv_has ls 4 [(3, .int (nI i)), (2, .int (nI (xcnt (fun k => (V (16 * j + k)).toNat) i))), (0, .ref (A 0)), (1, .int (nI j))] → W p l e (headSpec (xw yX1_inUse cX1_inUse 4 (some .int)) ({ frames := 0, cells := 0, slots := 0, locals := 0 })).room s m ([.ref (A 0), .int (nI j)] : List Value).toArray below meth c s.heap [] 0 0 (MQ below (vp_Si (fun r => r = nI (xmu V j))) ([.ref (A 0), .int (nI j)] : List Value).toArray s 0 0 (fun _ => False)) (F0 m 4 ls []) := by
    intro f
    induction f with
    | zero => intro i h1 h2; exact absurd h2 (by omega)
    | succ f ih =>
      intro i hi hf ls hl
      refine lv_iload_n hx hb dX1_inUse_4 rfl (lv_at hl 0 rfl) ?_
      refine lv_bipush (v := 16) hx hb dX1_inUse_5 (by decide) ?_
      refine lv_icmp_ge (tgt := 38) hx hb dX1_inUse_7 (by decide) (fun h1 => ?_) (fun h1 => ?_)
      · have hin : i = 16 := by
          rcases Nat.lt_or_ge i 16 with q | q
          · exact absurd h1 (nI_ge (b := 16) q (by omega))
          · omega
        subst hin
        refine lv_iload_n hx hb dX1_inUse_38 rfl (lv_at hl 1 rfl) ?_
        exact W.iret (v := nI (xcnt (fun k => (V (16 * j + k)).toNat) 16)) hx hb hr (fun t ht hW => ⟨nI (xcnt (fun k => (V (16 * j + k)).toNat) 16), rfl, rfl, ht⟩) (fun _ h => by cases h) dX1_inUse_39
      · have hin : i < 16 := by
          rcases Nat.lt_or_ge i 16 with q | q
          · exact q
          · exact absurd (nI_le (a := 16) q (by omega)) h1
        refine lv_iload_n hx hb dX1_inUse_10 rfl (lv_at hl 1 rfl) ?_
        refine lv_aload_n hx hb dX1_inUse_11 rfl (lv_at hl 2 rfl) ?_
        refine va_get (D := D) (ci := 1) (v := .ref (A 1)) (C := RX1) (T := TX1) (N := 9) hx hb ht xin_X1 hown hK hP 0 rfl rfl 2 (by decide) (ht _ kfl_RX1_7) (fun _ h9 => h9) rfl dX1_inUse_12 ?_
        refine lv_bipush (v := 16) hx hb dX1_inUse_15 (by decide) ?_
        refine lv_iload_n hx hb dX1_inUse_17 rfl (lv_at hl 3 rfl) ?_
        refine lv_imul hx hb dX1_inUse_18 ?_
        refine lv_iload_n hx hb dX1_inUse_19 rfl (lv_at hl 0 rfl) ?_
        refine lv_iadd hx hb dX1_inUse_20 ?_
        refine xa_top (y := nI (16 * j + i)) (xix j i) ?_
        refine xa_zld hx hb hK hP 1 0 rfl rfl (v := xb (V (16 * j + i))) (show 16 * j + i < 2048 by omega) (by decide) rfl dX1_inUse_21 ?_
        refine lv_if_eq (tgt := 29) hx hb dX1_inUse_22 (by decide) (fun h2 => ?_) (fun h2 => ?_)
        · rw [xb_0] at h2
          refine lv_iconst (v := 0) hx hb dX1_inUse_29 (by decide) ?_
          refine lv_iadd hx hb dX1_inUse_30 ?_
          refine xa_top (y := nI (xcnt (fun k => (V (16 * j + k)).toNat) (i + 1))) (by rw [xcnt, h2]; exact nI_add _ 0) ?_
          refine lv_istore_n (lv' := [(2, .int (nI (xcnt (fun k => (V (16 * j + k)).toNat) (i + 1)))), (3, .int (nI i)), (0, .ref (A 0)), (1, .int (nI j))]) hx hb dX1_inUse_31 rfl hl (by decide) rfl (fun ls hl => ?_)
          refine lv_iinc (v := nI (i + 1)) (lv' := [(3, .int (nI (i + 1))), (2, .int (nI (xcnt (fun k => (V (16 * j + k)).toNat) (i + 1)))), (0, .ref (A 0)), (1, .int (nI j))]) hx hb dX1_inUse_32 hl (k := 1) rfl (nI_1 i) (by decide) rfl (fun ls hl => ?_)
          refine lv_goto (tgt := 4) hx hb dX1_inUse_35 (by decide) ?_
          exact ih (i + 1) (by omega) (by omega) ls (lv_sub hl [0, 1, 2, 3] rfl)
        · rw [xb_n0] at h2
          refine lv_iconst (v := 1) hx hb dX1_inUse_25 (by decide) ?_
          refine lv_goto (tgt := 30) hx hb dX1_inUse_26 (by decide) ?_
          refine lv_iadd hx hb dX1_inUse_30 ?_
          refine xa_top (y := nI (xcnt (fun k => (V (16 * j + k)).toNat) (i + 1))) (by rw [xcnt, h2]; exact nI_add _ 1) ?_
          refine lv_istore_n (lv' := [(2, .int (nI (xcnt (fun k => (V (16 * j + k)).toNat) (i + 1)))), (3, .int (nI i)), (0, .ref (A 0)), (1, .int (nI j))]) hx hb dX1_inUse_31 rfl hl (by decide) rfl (fun ls hl => ?_)
          refine lv_iinc (v := nI (i + 1)) (lv' := [(3, .int (nI (i + 1))), (2, .int (nI (xcnt (fun k => (V (16 * j + k)).toNat) (i + 1)))), (0, .ref (A 0)), (1, .int (nI j))]) hx hb dX1_inUse_32 hl (k := 1) rfl (nI_1 i) (by decide) rfl (fun ls hl => ?_)
          refine lv_goto (tgt := 4) hx hb dX1_inUse_35 (by decide) ?_
          exact ih (i + 1) (by omega) (by omega) ls (lv_sub hl [0, 1, 2, 3] rfl)
  refine lv_iconst (v := 0) hx hb dX1_inUse_0 (by decide) ?_
  refine lv_istore_n (lv' := [(2, .int 0), (0, .ref (A 0)), (1, .int (nI j))]) hx hb dX1_inUse_1 rfl hl (by decide) rfl (fun ls hl => ?_)
  refine lv_iconst (v := 0) hx hb dX1_inUse_2 (by decide) ?_
  refine lv_istore_n (lv' := [(3, .int 0), (2, .int 0), (0, .ref (A 0)), (1, .int (nI j))]) hx hb dX1_inUse_3 rfl hl (by decide) rfl (fun ls hl => ?_)
  exact loop 17 0 (by omega) (by omega) ls (lv_sub hl [0, 1, 2, 3] rfl)

set_option maxHeartbeats 4000000 in
set_option maxRecDepth 100000 in
/-- isFree -/
theorem m_isFree (l : Launch) (D : va_G) (A : Nat → Nat) (K : Nat → ClassId) (th n : Nat) (V TV TO : Nat → Bool) (AG OP NX : Nat → Nat) (TK : Nat) (hOP : ∀ q, q < 6 → OP q < 128) (j : Nat) (hj : j < 128) : Met l yX1_isFree (xw yX1_isFree cX1_isFree 4 (some .boolean)) ({ frames := 1, cells := 0, slots := 0, locals := 23 }) (xk_P [.ref (A 0), .int (nI j)] D (xm_T K) (xm_W A K th n V TV TO AG OP NX TK)) (vp_Si (fun r => r = xb (xmfr V TV TO OP j))) 0 0 (fun _ => False) := by
  refine Met.ofW (cc := cX1_isFree) (maxL := 4) (ret := (some .boolean)) (by decide) rfl ?_
  intro p e s m args below meth c s₁ B0 hml hv
  obtain ⟨rfl, hP, hK⟩ := hv
  have hx := B0.exec
  have hb := B0.bytes
  have hr := B0.returns
  have ht : ∀ w ∈ xT, w.before _ s = true := fun w h => atoms_spec (ws := xw yX1_isFree cX1_isFree 4 (some .boolean)) B0.pre w (List.mem_cons_of_mem _ h)
  have hown : s.vm.findClass RX1 = some m.cls := findClass_of_methodNamed B0.named
  have hlocks := B0.notSynchronized
  have hl := lv_entry ([.ref (A 0), .int (nI j)]) (n := 4) (Nat.le_of_ble_eq_true rfl)
  rw [lg_entry_eq]
  generalize (lg_sl ([.ref (A 0), .int (nI j)]) ++ List.replicate (4 - (lg_sl ([.ref (A 0), .int (nI j)])).length) Slot.unset).toArray = ls at hl ⊢
  have hl : lv_has ls 4 [(0, .ref (A 0)), (1, .int (nI j))] := hl
  have loop : ∀ (f i : Nat), i ≤ 16 → 16 + 1 ≤ i + f → ∀ ls : Array Slot, lv_has ls 4 [(3, .int (nI i)), (2, .int (xb (xmf V TV (xtk TO OP j 6) j i))), (0, .ref (A 0)), (1, .int (nI j))] → W p l e (headSpec (xw yX1_isFree cX1_isFree 4 (some .boolean)) ({ frames := 1, cells := 0, slots := 0, locals := 23 })).room s m ([.ref (A 0), .int (nI j)] : List Value).toArray below meth c s.heap [] 0 0 (MQ below (vp_Si (fun r => r = xb (xmfr V TV TO OP j))) ([.ref (A 0), .int (nI j)] : List Value).toArray s 0 0 (fun _ => False)) (F0 m 16 ls []) := by
    intro f
    induction f with
    | zero => intro i h1 h2; exact absurd h2 (by omega)
    | succ f ih =>
      intro i hi hf ls hl
      refine lv_iload_n hx hb dX1_isFree_16 rfl (lv_at hl 0 rfl) ?_
      refine lv_bipush (v := 16) hx hb dX1_isFree_17 (by decide) ?_
      refine lv_icmp_ge (tgt := 66) hx hb dX1_isFree_19 (by decide) (fun h1 => ?_) (fun h1 => ?_)
      · have hin : i = 16 := by
          rcases Nat.lt_or_ge i 16 with q | q
          · exact absurd h1 (nI_ge (b := 16) q (by omega))
          · omega
        subst hin
        refine lv_iload_n hx hb dX1_isFree_66 rfl (lv_at hl 1 rfl) ?_
        exact W.zret (v := xb (xmf V TV (xtk TO OP j 6) j 16)) (ty := .boolean) hx hb hr (xn_b' _) (fun t ht hW => ⟨xb (xmf V TV (xtk TO OP j 6) j 16), rfl, rfl, ht⟩) (fun _ h => by cases h) dX1_isFree_67
      · have hin : i < 16 := by
          rcases Nat.lt_or_ge i 16 with q | q
          · exact q
          · exact absurd (nI_le (a := 16) q (by omega)) h1
        refine lv_iload_n hx hb dX1_isFree_22 rfl (lv_at hl 1 rfl) ?_
        refine lv_if_eq (tgt := 58) hx hb dX1_isFree_23 (by decide) (fun h2 => ?_) (fun h2 => ?_)
        · rw [xb_0] at h2
          refine lv_iconst (v := 0) hx hb dX1_isFree_58 (by decide) ?_
          refine xa_top (y := xb (xmf V TV (xtk TO OP j 6) j (i + 1))) (xb00 (by rw [xmf, h2]; rfl)) ?_
          refine lv_istore_n (lv' := [(2, .int (xb (xmf V TV (xtk TO OP j 6) j (i + 1)))), (3, .int (nI i)), (0, .ref (A 0)), (1, .int (nI j))]) hx hb dX1_isFree_59 rfl hl (by decide) rfl (fun ls hl => ?_)
          refine lv_iinc (v := nI (i + 1)) (lv' := [(3, .int (nI (i + 1))), (2, .int (xb (xmf V TV (xtk TO OP j 6) j (i + 1)))), (0, .ref (A 0)), (1, .int (nI j))]) hx hb dX1_isFree_60 hl (k := 1) rfl (nI_1 i) (by decide) rfl (fun ls hl => ?_)
          refine lv_goto (tgt := 16) hx hb dX1_isFree_63 (by decide) ?_
          exact ih (i + 1) (by omega) (by omega) ls (lv_sub hl [0, 1, 2, 3] rfl)
        · rw [xb_n0] at h2
          refine lv_aload_n hx hb dX1_isFree_26 rfl (lv_at hl 2 rfl) ?_
          refine va_get (D := D) (ci := 1) (v := .ref (A 1)) (C := RX1) (T := TX1) (N := 9) hx hb ht xin_X1 hown hK hP 0 rfl rfl 2 (by decide) (ht _ kfl_RX1_7) (fun _ h9 => h9) rfl dX1_isFree_27 ?_
          refine lv_bipush (v := 16) hx hb dX1_isFree_30 (by decide) ?_
          refine lv_iload_n hx hb dX1_isFree_32 rfl (lv_at hl 3 rfl) ?_
          refine lv_imul hx hb dX1_isFree_33 ?_
          refine lv_iload_n hx hb dX1_isFree_34 rfl (lv_at hl 0 rfl) ?_
          refine lv_iadd hx hb dX1_isFree_35 ?_
          refine xa_top (y := nI (16 * j + i)) (xix j i) ?_
          refine xa_zld hx hb hK hP 1 0 rfl rfl (v := xb (V (16 * j + i))) (show 16 * j + i < 2048 by omega) (by decide) rfl dX1_isFree_36 ?_
          refine lv_if_ne (tgt := 58) hx hb dX1_isFree_37 (by decide) (fun h3 => ?_) (fun h3 => ?_)
          · rw [xb_n0] at h3
            refine lv_iconst (v := 0) hx hb dX1_isFree_58 (by decide) ?_
            refine xa_top (y := xb (xmf V TV (xtk TO OP j 6) j (i + 1))) (xb00 (by rw [xmf, h2, h3]; rfl)) ?_
            refine lv_istore_n (lv' := [(2, .int (xb (xmf V TV (xtk TO OP j 6) j (i + 1)))), (3, .int (nI i)), (0, .ref (A 0)), (1, .int (nI j))]) hx hb dX1_isFree_59 rfl hl (by decide) rfl (fun ls hl => ?_)
            refine lv_iinc (v := nI (i + 1)) (lv' := [(3, .int (nI (i + 1))), (2, .int (xb (xmf V TV (xtk TO OP j 6) j (i + 1)))), (0, .ref (A 0)), (1, .int (nI j))]) hx hb dX1_isFree_60 hl (k := 1) rfl (nI_1 i) (by decide) rfl (fun ls hl => ?_)
            refine lv_goto (tgt := 16) hx hb dX1_isFree_63 (by decide) ?_
            exact ih (i + 1) (by omega) (by omega) ls (lv_sub hl [0, 1, 2, 3] rfl)
          · rw [xb_0] at h3
            refine lv_aload_n hx hb dX1_isFree_40 rfl (lv_at hl 2 rfl) ?_
            refine va_get (D := D) (ci := 1) (v := .ref (A 2)) (C := RX1) (T := TX1) (N := 9) hx hb ht xin_X1 hown hK hP 0 rfl rfl 3 (by decide) (ht _ kfl_RX1_13) (fun _ h9 => h9) rfl dX1_isFree_41 ?_
            refine lv_bipush (v := 16) hx hb dX1_isFree_44 (by decide) ?_
            refine lv_iload_n hx hb dX1_isFree_46 rfl (lv_at hl 3 rfl) ?_
            refine lv_imul hx hb dX1_isFree_47 ?_
            refine lv_iload_n hx hb dX1_isFree_48 rfl (lv_at hl 0 rfl) ?_
            refine lv_iadd hx hb dX1_isFree_49 ?_
            refine xa_top (y := nI (16 * j + i)) (xix j i) ?_
            refine xa_zld hx hb hK hP 2 1 rfl rfl (v := xb (TV (16 * j + i))) (show 16 * j + i < 2048 by omega) (by decide) rfl dX1_isFree_50 ?_
            refine lv_if_ne (tgt := 58) hx hb dX1_isFree_51 (by decide) (fun h4 => ?_) (fun h4 => ?_)
            · rw [xb_n0] at h4
              refine lv_iconst (v := 0) hx hb dX1_isFree_58 (by decide) ?_
              refine xa_top (y := xb (xmf V TV (xtk TO OP j 6) j (i + 1))) (xb00 (by rw [xmf, h2, h3, h4]; rfl)) ?_
              refine lv_istore_n (lv' := [(2, .int (xb (xmf V TV (xtk TO OP j 6) j (i + 1)))), (3, .int (nI i)), (0, .ref (A 0)), (1, .int (nI j))]) hx hb dX1_isFree_59 rfl hl (by decide) rfl (fun ls hl => ?_)
              refine lv_iinc (v := nI (i + 1)) (lv' := [(3, .int (nI (i + 1))), (2, .int (xb (xmf V TV (xtk TO OP j 6) j (i + 1)))), (0, .ref (A 0)), (1, .int (nI j))]) hx hb dX1_isFree_60 hl (k := 1) rfl (nI_1 i) (by decide) rfl (fun ls hl => ?_)
              refine lv_goto (tgt := 16) hx hb dX1_isFree_63 (by decide) ?_
              exact ih (i + 1) (by omega) (by omega) ls (lv_sub hl [0, 1, 2, 3] rfl)
            · rw [xb_0] at h4
              refine lv_iconst (v := 1) hx hb dX1_isFree_54 (by decide) ?_
              refine lv_goto (tgt := 59) hx hb dX1_isFree_55 (by decide) ?_
              refine xa_top (y := xb (xmf V TV (xtk TO OP j 6) j (i + 1))) (xb1 (by rw [xmf, h2, h3, h4]; rfl)) ?_
              refine lv_istore_n (lv' := [(2, .int (xb (xmf V TV (xtk TO OP j 6) j (i + 1)))), (3, .int (nI i)), (0, .ref (A 0)), (1, .int (nI j))]) hx hb dX1_isFree_59 rfl hl (by decide) rfl (fun ls hl => ?_)
              refine lv_iinc (v := nI (i + 1)) (lv' := [(3, .int (nI (i + 1))), (2, .int (xb (xmf V TV (xtk TO OP j 6) j (i + 1)))), (0, .ref (A 0)), (1, .int (nI j))]) hx hb dX1_isFree_60 hl (k := 1) rfl (nI_1 i) (by decide) rfl (fun ls hl => ?_)
              refine lv_goto (tgt := 16) hx hb dX1_isFree_63 (by decide) ?_
              exact ih (i + 1) (by omega) (by omega) ls (lv_sub hl [0, 1, 2, 3] rfl)
  refine lv_aload_n hx hb dX1_isFree_0 rfl (lv_at hl 0 rfl) ?_
  refine lv_iload_n hx hb dX1_isFree_1 rfl (lv_at hl 1 rfl) ?_
  refine xr_V (n := 1) (As := [.int (nI j)]) (rest := []) ⟨hx, hb, hml, hown, ht⟩ (m_isTaken l D A K th n V TV TO AG OP NX TK hOP j hj) (xg_V kml_RX1_36 kim_yX1_isTaken ksl_yX1_isTaken kin_RX1 kco_yX1_isTaken) ⟨rfl, rfl⟩ (by decide +kernel) ⟨Nat.le_of_ble_eq_true rfl, Nat.le_of_ble_eq_true rfl⟩ (xk_preV hP hK rfl rfl) rfl hl.1 rfl (Nat.le_of_ble_eq_true rfl) dX1_isFree_2 ⟨Nat.le_of_ble_eq_true rfl, Nat.le_of_ble_eq_true rfl⟩ (fun r1 e1 => ?_)
  subst e1
  refine lv_if_ne (tgt := 12) hx hb dX1_isFree_5 (by decide) (fun h0 => ?_) (fun h0 => ?_)
  · rw [xb_n0] at h0
    refine lv_iconst (v := 0) hx hb dX1_isFree_12 (by decide) ?_
    refine xa_top (y := xb (xmf V TV (xtk TO OP j 6) j 0)) (by rw [xmf, h0]; rfl) ?_
    refine lv_istore_n (lv' := [(2, .int (xb (xmf V TV (xtk TO OP j 6) j 0))), (0, .ref (A 0)), (1, .int (nI j))]) hx hb dX1_isFree_13 rfl hl (by decide) rfl (fun ls hl => ?_)
    refine lv_iconst (v := 0) hx hb dX1_isFree_14 (by decide) ?_
    refine lv_istore_n (lv' := [(3, .int 0), (2, .int (xb (xmf V TV (xtk TO OP j 6) j 0))), (0, .ref (A 0)), (1, .int (nI j))]) hx hb dX1_isFree_15 rfl hl (by decide) rfl (fun ls hl => ?_)
    exact loop 17 0 (by omega) (by omega) ls (lv_sub hl [0, 1, 2, 3] rfl)
  · rw [xb_0] at h0
    refine lv_iconst (v := 1) hx hb dX1_isFree_8 (by decide) ?_
    refine lv_goto (tgt := 13) hx hb dX1_isFree_9 (by decide) ?_
    refine xa_top (y := xb (xmf V TV (xtk TO OP j 6) j 0)) (by rw [xmf, h0]; rfl) ?_
    refine lv_istore_n (lv' := [(2, .int (xb (xmf V TV (xtk TO OP j 6) j 0))), (0, .ref (A 0)), (1, .int (nI j))]) hx hb dX1_isFree_13 rfl hl (by decide) rfl (fun ls hl => ?_)
    refine lv_iconst (v := 0) hx hb dX1_isFree_14 (by decide) ?_
    refine lv_istore_n (lv' := [(3, .int 0), (2, .int (xb (xmf V TV (xtk TO OP j 6) j 0))), (0, .ref (A 0)), (1, .int (nI j))]) hx hb dX1_isFree_15 rfl hl (by decide) rfl (fun ls hl => ?_)
    exact loop 17 0 (by omega) (by omega) ls (lv_sub hl [0, 1, 2, 3] rfl)

set_option maxHeartbeats 4000000 in
set_option maxRecDepth 100000 in
/-- lowest -/
theorem m_lowest (l : Launch) (D : va_G) (A : Nat → Nat) (K : Nat → ClassId) (th n : Nat) (V TV TO : Nat → Bool) (AG OP NX : Nat → Nat) (TK : Nat) (hn : n ≤ 128) (hOP : ∀ q, q < 6 → OP q < 128) : Met l yX1_lowest (xw yX1_lowest cX1_lowest 2 (some .int)) ({ frames := 2, cells := 0, slots := 0, locals := 46 }) (xk_P [.ref (A 0)] D (xm_T K) (xm_W A K th n V TV TO AG OP NX TK)) (vp_Si (fun r => (∃ j : Nat, j < n ∧ xmfr V TV TO OP j = true ∧ (∀ i, i < j → xmfr V TV TO OP i = false) ∧ r = nI j) ∨ ((∀ i, i < n → xmfr V TV TO OP i = false) ∧ r = -1))) 0 0 (fun _ => False) := by
  refine Met.ofW (cc := cX1_lowest) (maxL := 2) (ret := (some .int)) (by decide) rfl ?_
  intro p e s m args below meth c s₁ B0 hml hv
  obtain ⟨rfl, hP, hK⟩ := hv
  have hx := B0.exec
  have hb := B0.bytes
  have hr := B0.returns
  have ht : ∀ w ∈ xT, w.before _ s = true := fun w h => atoms_spec (ws := xw yX1_lowest cX1_lowest 2 (some .int)) B0.pre w (List.mem_cons_of_mem _ h)
  have hown : s.vm.findClass RX1 = some m.cls := findClass_of_methodNamed B0.named
  have hlocks := B0.notSynchronized
  have hl := lv_entry ([.ref (A 0)]) (n := 2) (Nat.le_of_ble_eq_true rfl)
  rw [lg_entry_eq]
  generalize (lg_sl ([.ref (A 0)]) ++ List.replicate (2 - (lg_sl ([.ref (A 0)])).length) Slot.unset).toArray = ls at hl ⊢
  have hl : lv_has ls 2 [(0, .ref (A 0))] := hl
  have loop : ∀ (f i : Nat), i ≤ n → n + 1 ≤ i + f → (∀ q, q < i → xmfr V TV TO OP q = false) → ∀ ls : Array Slot, lv_has ls 2 [(1, .int (nI i)), (0, .ref (A 0))] → W p l e (headSpec (xw yX1_lowest cX1_lowest 2 (some .int)) ({ frames := 2, cells := 0, slots := 0, locals := 46 })).room s m ([.ref (A 0)] : List Value).toArray below meth c s.heap [] 0 0 (MQ below (vp_Si (fun r => (∃ j : Nat, j < n ∧ xmfr V TV TO OP j = true ∧ (∀ i, i < j → xmfr V TV TO OP i = false) ∧ r = nI j) ∨ ((∀ i, i < n → xmfr V TV TO OP i = false) ∧ r = -1))) ([.ref (A 0)] : List Value).toArray s 0 0 (fun _ => False)) (F0 m 2 ls []) := by
    intro f
    induction f with
    | zero => intro i h1 h2; exact absurd h2 (by omega)
    | succ f ih =>
      intro i hi hf hc ls hl
      refine lv_iload_n hx hb dX1_lowest_2 rfl (lv_at hl 0 rfl) ?_
      refine lv_aload_n hx hb dX1_lowest_3 rfl (lv_at hl 1 rfl) ?_
      refine va_get (D := D) (ci := 1) (v := .int (nI n)) (C := RX1) (T := TX1) (N := 9) hx hb ht xin_X1 hown hK hP 0 rfl rfl 1 (by decide) (ht _ kfl_RX1_29) (fun _ h9 => h9) rfl dX1_lowest_4 ?_
      refine lv_icmp_ge (tgt := 24) hx hb dX1_lowest_7 (by decide) (fun h1 => ?_) (fun h1 => ?_)
      · have hin : i = n := by
          rcases Nat.lt_or_ge i n with q | q
          · exact absurd h1 (nI_ge q (by omega))
          · omega
        subst hin
        refine lv_iload_n hx hb dX1_lowest_24 rfl (lv_at hl 0 rfl) ?_
        refine lv_aload_n hx hb dX1_lowest_25 rfl (lv_at hl 1 rfl) ?_
        refine va_get (D := D) (ci := 1) (v := .int (nI i)) (C := RX1) (T := TX1) (N := 9) hx hb ht xin_X1 hown hK hP 0 rfl rfl 1 (by decide) (ht _ kfl_RX1_29) (fun _ h9 => h9) rfl dX1_lowest_26 ?_
        refine lv_icmp_ge (tgt := 36) hx hb dX1_lowest_29 (by decide) (fun h2 => ?_) (fun h2 => ?_)
        · refine lv_iconst (v := -1) hx hb dX1_lowest_36 (by decide) ?_
          exact W.iret (v := (-1)) hx hb hr (fun t ht hW => ⟨(-1), rfl, Or.inr ⟨hc, rfl⟩, ht⟩) (fun _ h => by cases h) dX1_lowest_37
        · exact absurd (nI_le (Nat.le_refl i) (by omega)) h2
      · have hin : i < n := by
          rcases Nat.lt_or_ge i n with q | q
          · exact q
          · exact absurd (nI_le q (by omega)) h1
        refine lv_aload_n hx hb dX1_lowest_10 rfl (lv_at hl 1 rfl) ?_
        refine lv_iload_n hx hb dX1_lowest_11 rfl (lv_at hl 0 rfl) ?_
        refine xr_V (n := 1) (As := [.int (nI i)]) (rest := []) ⟨hx, hb, hml, hown, ht⟩ (m_isFree l D A K th n V TV TO AG OP NX TK hOP i (by omega)) (xg_V kml_RX1_40 kim_yX1_isFree ksl_yX1_isFree kin_RX1 kco_yX1_isFree) ⟨rfl, rfl⟩ (by decide +kernel) ⟨Nat.le_of_ble_eq_true rfl, Nat.le_of_ble_eq_true rfl⟩ (xk_preV hP hK rfl rfl) rfl hl.1 rfl (Nat.le_of_ble_eq_true rfl) dX1_lowest_12 ⟨Nat.le_of_ble_eq_true rfl, Nat.le_of_ble_eq_true rfl⟩ (fun r1 e1 => ?_)
        subst e1
        refine lv_if_ne (tgt := 24) hx hb dX1_lowest_15 (by decide) (fun h2 => ?_) (fun h2 => ?_)
        · rw [xb_n0] at h2
          refine lv_iload_n hx hb dX1_lowest_24 rfl (lv_at hl 0 rfl) ?_
          refine lv_aload_n hx hb dX1_lowest_25 rfl (lv_at hl 1 rfl) ?_
          refine va_get (D := D) (ci := 1) (v := .int (nI n)) (C := RX1) (T := TX1) (N := 9) hx hb ht xin_X1 hown hK hP 0 rfl rfl 1 (by decide) (ht _ kfl_RX1_29) (fun _ h9 => h9) rfl dX1_lowest_26 ?_
          refine lv_icmp_ge (tgt := 36) hx hb dX1_lowest_29 (by decide) (fun h3 => ?_) (fun h3 => ?_)
          · exact absurd h3 h1
          · refine lv_iload_n hx hb dX1_lowest_32 rfl (lv_at hl 0 rfl) ?_
            refine lv_goto (tgt := 37) hx hb dX1_lowest_33 (by decide) ?_
            exact W.iret (v := nI i) hx hb hr (fun t ht hW => ⟨nI i, rfl, Or.inl ⟨i, hin, h2, hc, rfl⟩, ht⟩) (fun _ h => by cases h) dX1_lowest_37
        · rw [xb_0] at h2
          refine lv_iinc (v := nI (i + 1)) (lv' := [(1, .int (nI (i + 1))), (0, .ref (A 0))]) hx hb dX1_lowest_18 hl (k := 0) rfl (nI_1 i) (by decide) rfl (fun ls hl => ?_)
          refine lv_goto (tgt := 2) hx hb dX1_lowest_21 (by decide) ?_
          exact ih (i + 1) (by omega) (by omega) (lt_s hc h2) ls (lv_sub hl [0, 1] rfl)
  refine lv_iconst (v := 0) hx hb dX1_lowest_0 (by decide) ?_
  refine lv_istore_n (lv' := [(1, .int 0), (0, .ref (A 0))]) hx hb dX1_lowest_1 rfl hl (by decide) rfl (fun ls hl => ?_)
  exact loop (n + 1) 0 (by omega) (by omega) (fun q hq => absurd hq (by omega)) ls (lv_sub hl [0, 1] rfl)

set_option maxHeartbeats 4000000 in
set_option maxRecDepth 100000 in
/-- isNo -/
theorem m_isNo (l : Launch) (D : va_G) (A : Nat → Nat) (K : Nat → ClassId) (th n : Nat) (V TV TO : Nat → Bool) (AG OP NX : Nat → Nat) (TK : Nat) (x : Int32) (hn : n ≤ 128) : Met l yX1_isNo (xw yX1_isNo cX1_isNo 2 (some .boolean)) ({ frames := 0, cells := 0, slots := 0, locals := 0 }) (xk_P [.ref (A 0), .int x] D (xm_T K) (xm_W A K th n V TV TO AG OP NX TK)) (vp_Si (fun r => ((∃ j k : Nat, j < n ∧ k < 16 ∧ x = nI (96 + 16 * j + k)) ∧ r = xb false) ∨ ((¬ ∃ j k : Nat, j < n ∧ k < 16 ∧ x = nI (96 + 16 * j + k)) ∧ r = xb true))) 0 0 (fun _ => False) := by
  refine Met.ofW (cc := cX1_isNo) (maxL := 2) (ret := (some .boolean)) (by decide) rfl ?_
  intro p e s m args below meth c s₁ B0 hml hv
  obtain ⟨rfl, hP, hK⟩ := hv
  have hx := B0.exec
  have hb := B0.bytes
  have hr := B0.returns
  have ht : ∀ w ∈ xT, w.before _ s = true := fun w h => atoms_spec (ws := xw yX1_isNo cX1_isNo 2 (some .boolean)) B0.pre w (List.mem_cons_of_mem _ h)
  have hown : s.vm.findClass RX1 = some m.cls := findClass_of_methodNamed B0.named
  have hlocks := B0.notSynchronized
  have hl := lv_entry ([.ref (A 0), .int x]) (n := 2) (Nat.le_of_ble_eq_true rfl)
  rw [lg_entry_eq]
  generalize (lg_sl ([.ref (A 0), .int x]) ++ List.replicate (2 - (lg_sl ([.ref (A 0), .int x])).length) Slot.unset).toArray = ls at hl ⊢
  have hl : lv_has ls 2 [(0, .ref (A 0)), (1, .int x)] := hl
  have hq := xp_blk x hn
  refine lv_iload_n hx hb dX1_isNo_0 rfl (lv_at hl 1 rfl) ?_
  refine lv_bipush (v := 96) hx hb dX1_isNo_1 (by decide) ?_
  refine lv_icmp_lt (tgt := 20) hx hb dX1_isNo_3 (by decide) (fun h1 => ?_) (fun h1 => ?_)
  · have hno : ¬ ∃ j k : Nat, j < n ∧ k < 16 ∧ x = nI (96 + 16 * j + k) := by
      rintro ⟨j, k, hj, hk, rfl⟩
      exact nI_nlt (b := 96) (by omega) (by omega) h1
    refine lv_iconst (v := 1) hx hb dX1_isNo_20 (by decide) ?_
    refine lv_goto (tgt := 25) hx hb dX1_isNo_21 (by decide) ?_
    exact W.zret (v := 1) (ty := .boolean) hx hb hr (by decide) (fun t ht hW => ⟨1, rfl, Or.inr ⟨hno, rfl⟩, ht⟩) (fun _ h => by cases h) dX1_isNo_25
  · refine lv_iload_n hx hb dX1_isNo_6 rfl (lv_at hl 1 rfl) ?_
    refine lv_bipush (v := 96) hx hb dX1_isNo_7 (by decide) ?_
    refine lv_bipush (v := 16) hx hb dX1_isNo_9 (by decide) ?_
    refine lv_aload_n hx hb dX1_isNo_11 rfl (lv_at hl 0 rfl) ?_
    refine va_get (D := D) (ci := 1) (v := .int (nI n)) (C := RX1) (T := TX1) (N := 9) hx hb ht xin_X1 hown hK hP 0 rfl rfl 1 (by decide) (ht _ kfl_RX1_29) (fun _ h9 => h9) rfl dX1_isNo_12 ?_
    refine lv_imul hx hb dX1_isNo_15 ?_
    refine lv_iadd hx hb dX1_isNo_16 ?_
    have e9 : (96 : Int32) + 16 * nI n = nI (96 + 16 * n) := by rw [show (16 : Int32) = nI 16 from rfl, xp_96, pk_mul, nI_add]
    refine lv_icmp_lt (tgt := 24) hx hb dX1_isNo_17 (by decide) (fun h2 => ?_) (fun h2 => ?_)
    · rw [e9] at h2
      have hyes : ∃ j k : Nat, j < n ∧ k < 16 ∧ x = nI (96 + 16 * j + k) := by
        rcases hq with q | ⟨q | q, -⟩
        · exact q
        · exact absurd q h1
        · exact absurd h2 (Int32.not_lt.mpr q)
      refine lv_iconst (v := 0) hx hb dX1_isNo_24 (by decide) ?_
      exact W.zret (v := 0) (ty := .boolean) hx hb hr (by decide) (fun t ht hW => ⟨0, rfl, Or.inl ⟨hyes, rfl⟩, ht⟩) (fun _ h => by cases h) dX1_isNo_25
    · rw [e9] at h2
      have hno : ¬ ∃ j k : Nat, j < n ∧ k < 16 ∧ x = nI (96 + 16 * j + k) := by
        rintro ⟨j, k, hj, hk, rfl⟩
        exact h2 (nI_lt (by omega) (by omega))
      refine lv_iconst (v := 1) hx hb dX1_isNo_20 (by decide) ?_
      refine lv_goto (tgt := 25) hx hb dX1_isNo_21 (by decide) ?_
      exact W.zret (v := 1) (ty := .boolean) hx hb hr (by decide) (fun t ht hW => ⟨1, rfl, Or.inr ⟨hno, rfl⟩, ht⟩) (fun _ h => by cases h) dX1_isNo_25
end
section
def xth (a b : Bool) : Nat := if a then 1 else if b then 2 else 0
set_option maxHeartbeats 4000000 in
set_option maxRecDepth 100000 in
/-- throwing -/
theorem m_throwing (l : Launch) (D : va_G) (A : Nat → Nat) (K : Nat → ClassId) (th n : Nat) (V TV TO : Nat → Bool) (AG OP NX : Nat → Nat) (TK : Nat) (a b : Bool) (sz : Nat) : Met l yX1_throwing (xw yX1_throwing cX1_throwing 3 (some .boolean)) ({ frames := 0, cells := 0, slots := 0, locals := 0 }) (xk_M [.ref (A 0), .int (xb a), .int (xb b)] D (xm_T K) (xm_W A K th n V TV TO AG OP NX TK) sz) (xk_Q (fun v => v = some (.int (xb (a || b)))) D (xm_W A K th n V TV TO AG OP NX TK) (xm_W A K (xth a b) n V TV TO AG OP NX TK)) 0 0 (va_A (xm_W A K th n V TV TO AG OP NX TK) sz) := by
  refine Met.ofW (cc := cX1_throwing) (maxL := 3) (ret := (some .boolean)) (by decide) rfl ?_
  intro p e s m args below meth c s₁ B0 hml hv
  obtain ⟨rfl, hsz, hP, hK, hD0⟩ := hv
  have hx := B0.exec
  have hb := B0.bytes
  have hr := B0.returns
  have ht : ∀ w ∈ xT, w.before _ s = true := fun w h => atoms_spec (ws := xw yX1_throwing cX1_throwing 3 (some .boolean)) B0.pre w (List.mem_cons_of_mem _ h)
  have hown : s.vm.findClass RX1 = some m.cls := findClass_of_methodNamed B0.named
  have hlocks := B0.notSynchronized
  have hl := lv_entry ([.ref (A 0), .int (xb a), .int (xb b)]) (n := 3) (Nat.le_of_ble_eq_true rfl)
  rw [lg_entry_eq]
  generalize (lg_sl ([.ref (A 0), .int (xb a), .int (xb b)]) ++ List.replicate (3 - (lg_sl ([.ref (A 0), .int (xb a), .int (xb b)])).length) Slot.unset).toArray = ls at hl ⊢
  have hl : lv_has ls 3 [(0, .ref (A 0)), (1, .int (xb a)), (2, .int (xb b))] := hl
  subst hsz
  have hD := hD0.self (sz := s.heap.size)
  have hA : ∀ q : Nat, s.heap.size ≤ q → va_A (xm_W A K th n V TV TO AG OP NX TK) s.heap.size q := fun q h => Or.inr h
  have hS : va_S (va_A (xm_W A K th n V TV TO AG OP NX TK) s.heap.size) s.heap s.heap [] := va_S.rf
  cases a
  · refine lv_aload_n hx hb dX1_throwing_0 rfl (lv_at hl 0 rfl) ?_
    refine lv_iload_n hx hb dX1_throwing_1 rfl (lv_at hl 1 rfl) ?_
    refine lv_if_eq (tgt := 9) hx hb dX1_throwing_2 (by decide) (fun _ => ?_) (fun h => by first | exact absurd h (by decide) | exact absurd (by decide) h)
    cases b
    · refine lv_iload_n hx hb dX1_throwing_9 rfl (lv_at hl 2 rfl) ?_
      refine lv_if_eq (tgt := 17) hx hb dX1_throwing_10 (by decide) (fun _ => ?_) (fun h => by first | exact absurd h (by decide) | exact absurd (by decide) h)
      refine lv_iconst (v := 0) hx hb dX1_throwing_17 (by decide) ?_
      refine xa_top (y := nI (xth false false)) rfl ?_
      refine va_put (D := D) (ci := 1) (v := .int (nI (xth false false))) (ty := .int) (C := RX1) (T := TX1) (N := 9) hx hb ht xin_X1 tyX1 tyX1_ok nmX1 hown hK hP hD hS 0 rfl rfl 0 (by decide) (ht _ kfl_RX1_33) (fun _ h9 => h9) rfl (by decide +kernel) rfl rfl (Nat.le_of_ble_eq_true rfl) dX1_throwing_18 (fun H locs hP hD hS => ?_)
      have hP : va_P D xcl (xm_W A K (xth false false) n V TV TO AG OP NX TK) H := hP
      have hD : va_D (va_A (xm_W A K th n V TV TO AG OP NX TK) s.heap.size) (xm_W A K (xth false false) n V TV TO AG OP NX TK) := hD
      refine lv_aload_n hx hb dX1_throwing_21 rfl (lv_at hl 0 rfl) ?_
      refine va_get (D := D) (ci := 1) (v := .int (nI (xth false false))) (C := RX1) (T := TX1) (N := 9) hx hb ht xin_X1 hown hK hP 0 rfl rfl 0 (by decide) (ht _ kfl_RX1_33) (fun _ h9 => h9) rfl dX1_throwing_22 ?_
      refine lv_if_le (tgt := 32) hx hb dX1_throwing_25 (by decide) (fun _ => ?_) (fun h => by first | exact absurd h (by decide) | exact absurd (by decide) h)
      refine lv_iconst (v := 0) hx hb dX1_throwing_32 (by decide) ?_
      exact W.zret (v := 0) (ty := .boolean) hx hb hr (by decide) (fun t ht hW => ⟨⟨_, rfl, rfl⟩, by rw [ht]; exact hP, hS.F ht⟩) hS.2.2 dX1_throwing_33
    · refine lv_iload_n hx hb dX1_throwing_9 rfl (lv_at hl 2 rfl) ?_
      refine lv_if_eq (tgt := 17) hx hb dX1_throwing_10 (by decide) (fun h => by first | exact absurd h (by decide) | exact absurd (by decide) h) (fun _ => ?_)
      refine lv_iconst (v := 2) hx hb dX1_throwing_13 (by decide) ?_
      refine lv_goto (tgt := 18) hx hb dX1_throwing_14 (by decide) ?_
      refine xa_top (y := nI (xth false true)) rfl ?_
      refine va_put (D := D) (ci := 1) (v := .int (nI (xth false true))) (ty := .int) (C := RX1) (T := TX1) (N := 9) hx hb ht xin_X1 tyX1 tyX1_ok nmX1 hown hK hP hD hS 0 rfl rfl 0 (by decide) (ht _ kfl_RX1_33) (fun _ h9 => h9) rfl (by decide +kernel) rfl rfl (Nat.le_of_ble_eq_true rfl) dX1_throwing_18 (fun H locs hP hD hS => ?_)
      have hP : va_P D xcl (xm_W A K (xth false true) n V TV TO AG OP NX TK) H := hP
      have hD : va_D (va_A (xm_W A K th n V TV TO AG OP NX TK) s.heap.size) (xm_W A K (xth false true) n V TV TO AG OP NX TK) := hD
      refine lv_aload_n hx hb dX1_throwing_21 rfl (lv_at hl 0 rfl) ?_
      refine va_get (D := D) (ci := 1) (v := .int (nI (xth false true))) (C := RX1) (T := TX1) (N := 9) hx hb ht xin_X1 hown hK hP 0 rfl rfl 0 (by decide) (ht _ kfl_RX1_33) (fun _ h9 => h9) rfl dX1_throwing_22 ?_
      refine lv_if_le (tgt := 32) hx hb dX1_throwing_25 (by decide) (fun h => by first | exact absurd h (by decide) | exact absurd (by decide) h) (fun _ => ?_)
      refine lv_iconst (v := 1) hx hb dX1_throwing_28 (by decide) ?_
      refine lv_goto (tgt := 33) hx hb dX1_throwing_29 (by decide) ?_
      exact W.zret (v := 1) (ty := .boolean) hx hb hr (by decide) (fun t ht hW => ⟨⟨_, rfl, rfl⟩, by rw [ht]; exact hP, hS.F ht⟩) hS.2.2 dX1_throwing_33
  · refine lv_aload_n hx hb dX1_throwing_0 rfl (lv_at hl 0 rfl) ?_
    refine lv_iload_n hx hb dX1_throwing_1 rfl (lv_at hl 1 rfl) ?_
    refine lv_if_eq (tgt := 9) hx hb dX1_throwing_2 (by decide) (fun h => by first | exact absurd h (by decide) | exact absurd (by decide) h) (fun _ => ?_)
    refine lv_iconst (v := 1) hx hb dX1_throwing_5 (by decide) ?_
    refine lv_goto (tgt := 18) hx hb dX1_throwing_6 (by decide) ?_
    refine xa_top (y := nI (xth true b)) rfl ?_
    refine va_put (D := D) (ci := 1) (v := .int (nI (xth true b))) (ty := .int) (C := RX1) (T := TX1) (N := 9) hx hb ht xin_X1 tyX1 tyX1_ok nmX1 hown hK hP hD hS 0 rfl rfl 0 (by decide) (ht _ kfl_RX1_33) (fun _ h9 => h9) rfl (by decide +kernel) rfl rfl (Nat.le_of_ble_eq_true rfl) dX1_throwing_18 (fun H locs hP hD hS => ?_)
    have hP : va_P D xcl (xm_W A K (xth true b) n V TV TO AG OP NX TK) H := hP
    have hD : va_D (va_A (xm_W A K th n V TV TO AG OP NX TK) s.heap.size) (xm_W A K (xth true b) n V TV TO AG OP NX TK) := hD
    refine lv_aload_n hx hb dX1_throwing_21 rfl (lv_at hl 0 rfl) ?_
    refine va_get (D := D) (ci := 1) (v := .int (nI (xth true b))) (C := RX1) (T := TX1) (N := 9) hx hb ht xin_X1 hown hK hP 0 rfl rfl 0 (by decide) (ht _ kfl_RX1_33) (fun _ h9 => h9) rfl dX1_throwing_22 ?_
    refine lv_if_le (tgt := 32) hx hb dX1_throwing_25 (by decide) (fun h => absurd h (show ¬ nI 1 ≤ 0 by decide)) (fun _ => ?_)
    refine lv_iconst (v := 1) hx hb dX1_throwing_28 (by decide) ?_
    refine lv_goto (tgt := 33) hx hb dX1_throwing_29 (by decide) ?_
    exact W.zret (v := 1) (ty := .boolean) hx hb hr (by decide) (fun t ht hW => ⟨⟨_, rfl, by cases b <;> rfl⟩, by rw [ht]; exact hP, hS.F ht⟩) hS.2.2 dX1_throwing_33

set_option maxHeartbeats 4000000 in
set_option maxRecDepth 100000 in
/-- next: no such log -/
theorem m_next_bad (l : Launch) (D : va_G) (A : Nat → Nat) (K : Nat → ClassId) (th n : Nat) (V TV TO : Nat → Bool) (AG OP NX : Nat → Nat) (TK : Nat) (x : Int32) (hbad : ¬ ∃ j : Nat, j < 6 ∧ x = nI j) (sz : Nat) : Met l yX1_next (xw yX1_next cX1_next 3 (some .int)) ({ frames := 1, cells := 0, slots := 0, locals := 22 }) (xk_M [.ref (A 0), .int x] D (xm_T K) (xm_W A K th n V TV TO AG OP NX TK) sz) (xk_Q (fun v => ∃ r : Int32, v = some (.int r)) D (xm_W A K th n V TV TO AG OP NX TK) (xm_W A K 1 n V TV TO AG OP NX TK)) 0 0 (va_A (xm_W A K th n V TV TO AG OP NX TK) sz) := by
  refine Met.ofW (cc := cX1_next) (maxL := 3) (ret := (some .int)) (by decide) rfl ?_
  intro p e s m args below meth c s₁ B0 hml hv
  obtain ⟨rfl, hsz, hP, hK, hD0⟩ := hv
  have hx := B0.exec
  have hb := B0.bytes
  have hr := B0.returns
  have ht : ∀ w ∈ xT, w.before _ s = true := fun w h => atoms_spec (ws := xw yX1_next cX1_next 3 (some .int)) B0.pre w (List.mem_cons_of_mem _ h)
  have hown : s.vm.findClass RX1 = some m.cls := findClass_of_methodNamed B0.named
  have hlocks := B0.notSynchronized
  have hl := lv_entry ([.ref (A 0), .int x]) (n := 3) (Nat.le_of_ble_eq_true rfl)
  rw [lg_entry_eq]
  generalize (lg_sl ([.ref (A 0), .int x]) ++ List.replicate (3 - (lg_sl ([.ref (A 0), .int x])).length) Slot.unset).toArray = ls at hl ⊢
  have hl : lv_has ls 3 [(0, .ref (A 0)), (1, .int x)] := hl
  subst hsz
  have hD := hD0.self (sz := s.heap.size)
  have hA : ∀ q : Nat, s.heap.size ≤ q → va_A (xm_W A K th n V TV TO AG OP NX TK) s.heap.size q := fun q h => Or.inr h
  have hS : va_S (va_A (xm_W A K th n V TV TO AG OP NX TK) s.heap.size) s.heap s.heap [] := va_S.rf
  have tail : ∀ ls : Array Slot, lv_has ls 3 [(0, .ref (A 0)), (1, .int x)] → W p l e (headSpec (xw yX1_next cX1_next 3 (some .int)) ({ frames := 1, cells := 0, slots := 0, locals := 22 })).room s m ([.ref (A 0), .int x] : List Value).toArray below meth c s.heap [] 0 0 (MQ below (xk_Q (fun v => ∃ r : Int32, v = some (.int r)) D (xm_W A K th n V TV TO AG OP NX TK) (xm_W A K 1 n V TV TO AG OP NX TK)) ([.ref (A 0), .int x] : List Value).toArray s 0 0 (va_A (xm_W A K th n V TV TO AG OP NX TK) s.heap.size)) (F0 m 14 ls [.int (xb true)]) := by
    intro ls hl
    refine lv_istore_n (lv' := [(2, .int (xb true)), (0, .ref (A 0)), (1, .int x)]) hx hb dX1_next_14 rfl hl (by decide) rfl (fun ls hl => ?_)
    refine lv_aload_n hx hb dX1_next_15 rfl (lv_at hl 1 rfl) ?_
    refine lv_iload_n hx hb dX1_next_16 rfl (lv_at hl 0 rfl) ?_
    refine lv_iconst (v := 0) hx hb dX1_next_17 (by decide) ?_
    refine xr_M (n := 2) (As := [.int (xb true), .int (xb false)]) (rest := []) ⟨hx, hb, hml, hown, ht⟩ (m_throwing l D A K th n V TV TO AG OP NX TK true false _) (xg_V kml_RX1_47 kim_yX1_throwing ksl_yX1_throwing kin_RX1 kco_yX1_throwing) ⟨rfl, rfl⟩ (by decide +kernel) ⟨Nat.le_of_ble_eq_true rfl, Nat.le_of_ble_eq_true rfl⟩ hP hK hD hS hA rfl rfl rfl rfl hl.1 rfl (Nat.le_of_ble_eq_true rfl) dX1_next_18 ⟨Nat.zero_le _, Nat.zero_le _⟩ (fun v9 H locs e9 hP hD hS => ?_)
    subst e9
    refine lv_if_eq (tgt := 26) hx hb dX1_next_21 (by decide) (fun h => by first | exact absurd h (by decide) | exact absurd (by decide) h) (fun _ => ?_)
    refine lv_iconst (v := 0) hx hb dX1_next_24 (by decide) ?_
    exact W.iret (v := 0) hx hb hr (fun t ht hW => ⟨⟨_, rfl, ⟨_, rfl⟩⟩, by rw [ht]; exact hP, hS.F ht⟩) hS.2.2 dX1_next_25
  refine lv_iload_n hx hb dX1_next_0 rfl (lv_at hl 1 rfl) ?_
  refine lv_if_lt (tgt := 9) hx hb dX1_next_1 (by decide) (fun h1 => ?_) (fun h1 => ?_)
  · refine lv_iconst (v := 1) hx hb dX1_next_9 (by decide) ?_
    refine lv_goto (tgt := 14) hx hb dX1_next_10 (by decide) ?_
    exact tail ls (lv_sub hl [0, 1] rfl)
  · refine lv_iload_n hx hb dX1_next_4 rfl (lv_at hl 1 rfl) ?_
    refine lv_iconst (v := 5) hx hb dX1_next_5 (by decide) ?_
    refine lv_icmp_le (tgt := 13) hx hb dX1_next_6 (by decide) (fun h2 => ?_) (fun h2 => ?_)
    · exact absurd (by
        rcases pk_ix x (n := 6) (by decide) with q | q | q
        · exact absurd q h1
        · exact absurd (Int32.le_trans q h2) (by decide)
        · exact q) hbad
    · refine lv_iconst (v := 1) hx hb dX1_next_9 (by decide) ?_
      refine lv_goto (tgt := 14) hx hb dX1_next_10 (by decide) ?_
      exact tail ls (lv_sub hl [0, 1] rfl)

set_option maxHeartbeats 4000000 in
set_option maxRecDepth 100000 in
/-- next -/
theorem m_next_ok (l : Launch) (D : va_G) (A : Nat → Nat) (K : Nat → ClassId) (th n : Nat) (V TV TO : Nat → Bool) (AG OP NX : Nat → Nat) (TK : Nat) (q : Nat) (hq : q < 6) (sz : Nat) : Met l yX1_next (xw yX1_next cX1_next 3 (some .int)) ({ frames := 1, cells := 0, slots := 0, locals := 22 }) (xk_M [.ref (A 0), .int (nI q)] D (xm_T K) (xm_W A K th n V TV TO AG OP NX TK) sz) (xk_Q (fun v => v = some (.int (nI (96 + 16 * OP q + NX q)))) D (xm_W A K th n V TV TO AG OP NX TK) (xm_W A K 0 n V TV TO AG OP NX TK)) 0 0 (va_A (xm_W A K th n V TV TO AG OP NX TK) sz) := by
  refine Met.ofW (cc := cX1_next) (maxL := 3) (ret := (some .int)) (by decide) rfl ?_
  intro p e s m args below meth c s₁ B0 hml hv
  obtain ⟨rfl, hsz, hP, hK, hD0⟩ := hv
  have hx := B0.exec
  have hb := B0.bytes
  have hr := B0.returns
  have ht : ∀ w ∈ xT, w.before _ s = true := fun w h => atoms_spec (ws := xw yX1_next cX1_next 3 (some .int)) B0.pre w (List.mem_cons_of_mem _ h)
  have hown : s.vm.findClass RX1 = some m.cls := findClass_of_methodNamed B0.named
  have hlocks := B0.notSynchronized
  have hl := lv_entry ([.ref (A 0), .int (nI q)]) (n := 3) (Nat.le_of_ble_eq_true rfl)
  rw [lg_entry_eq]
  generalize (lg_sl ([.ref (A 0), .int (nI q)]) ++ List.replicate (3 - (lg_sl ([.ref (A 0), .int (nI q)])).length) Slot.unset).toArray = ls at hl ⊢
  have hl : lv_has ls 3 [(0, .ref (A 0)), (1, .int (nI q))] := hl
  subst hsz
  have hD := hD0.self (sz := s.heap.size)
  have hA : ∀ q : Nat, s.heap.size ≤ q → va_A (xm_W A K th n V TV TO AG OP NX TK) s.heap.size q := fun q h => Or.inr h
  have hS : va_S (va_A (xm_W A K th n V TV TO AG OP NX TK) s.heap.size) s.heap s.heap [] := va_S.rf
  refine lv_iload_n hx hb dX1_next_0 rfl (lv_at hl 1 rfl) ?_
  refine lv_if_lt (tgt := 9) hx hb dX1_next_1 (by decide) (fun h => absurd h (nI_pos (by omega))) (fun _ => ?_)
  refine lv_iload_n hx hb dX1_next_4 rfl (lv_at hl 1 rfl) ?_
  refine lv_iconst (v := 5) hx hb dX1_next_5 (by decide) ?_
  refine lv_icmp_le (tgt := 13) hx hb dX1_next_6 (by decide) (fun _ => ?_) (fun h => absurd (nI_le (b := 5) (by omega) (by decide)) h)
  refine lv_iconst (v := 0) hx hb dX1_next_13 (by decide) ?_
  refine xa_top (y := xb false) rfl ?_
  refine lv_istore_n (lv' := [(2, .int (xb false)), (0, .ref (A 0)), (1, .int (nI q))]) hx hb dX1_next_14 rfl hl (by decide) rfl (fun ls hl => ?_)
  refine lv_aload_n hx hb dX1_next_15 rfl (lv_at hl 1 rfl) ?_
  refine lv_iload_n hx hb dX1_next_16 rfl (lv_at hl 0 rfl) ?_
  refine lv_iconst (v := 0) hx hb dX1_next_17 (by decide) ?_
  refine xr_M (n := 2) (As := [.int (xb false), .int (xb false)]) (rest := []) ⟨hx, hb, hml, hown, ht⟩ (m_throwing l D A K th n V TV TO AG OP NX TK false false _) (xg_V kml_RX1_47 kim_yX1_throwing ksl_yX1_throwing kin_RX1 kco_yX1_throwing) ⟨rfl, rfl⟩ (by decide +kernel) ⟨Nat.le_of_ble_eq_true rfl, Nat.le_of_ble_eq_true rfl⟩ hP hK hD hS hA rfl rfl rfl rfl hl.1 rfl (Nat.le_of_ble_eq_true rfl) dX1_next_18 ⟨Nat.zero_le _, Nat.zero_le _⟩ (fun v9 H locs e9 hP hD hS => ?_)
  subst e9
  refine lv_if_eq (tgt := 26) hx hb dX1_next_21 (by decide) (fun _ => ?_) (fun h => by first | exact absurd h (by decide) | exact absurd (by decide) h)
  refine lv_bipush (v := 96) hx hb dX1_next_26 (by decide) ?_
  refine lv_bipush (v := 16) hx hb dX1_next_28 (by decide) ?_
  refine lv_aload_n hx hb dX1_next_30 rfl (lv_at hl 1 rfl) ?_
  refine va_get (D := D) (ci := 1) (v := .ref (A 5)) (C := RX1) (T := TX1) (N := 9) hx hb ht xin_X1 hown hK hP 0 rfl rfl 6 (by decide) (ht _ kfl_RX1_23) (fun _ h9 => h9) rfl dX1_next_31 ?_
  refine lv_iload_n hx hb dX1_next_34 rfl (lv_at hl 2 rfl) ?_
  refine xa_ild hx hb hK hP 5 4 rfl rfl (v := nI (OP q)) hq (by decide) rfl dX1_next_35 ?_
  refine lv_imul hx hb dX1_next_36 ?_
  refine lv_iadd hx hb dX1_next_37 ?_
  refine lv_aload_n hx hb dX1_next_38 rfl (lv_at hl 1 rfl) ?_
  refine va_get (D := D) (ci := 1) (v := .ref (A 6)) (C := RX1) (T := TX1) (N := 9) hx hb ht xin_X1 hown hK hP 0 rfl rfl 7 (by decide) (ht _ kfl_RX1_26) (fun _ h9 => h9) rfl dX1_next_39 ?_
  refine lv_iload_n hx hb dX1_next_42 rfl (lv_at hl 2 rfl) ?_
  refine xa_ild hx hb hK hP 6 5 rfl rfl (v := nI (NX q)) hq (by decide) rfl dX1_next_43 ?_
  refine lv_iadd hx hb dX1_next_44 ?_
  refine xa_top (y := nI (96 + 16 * OP q + NX q)) (by rw [show (16 : Int32) = nI 16 from rfl, xp_96, pk_mul, nI_add, nI_add]) ?_
  exact W.iret (v := nI (96 + 16 * OP q + NX q)) hx hb hr (fun t ht hW => ⟨⟨_, rfl, rfl⟩, by rw [ht]; exact hP, hS.F ht⟩) hS.2.2 dX1_next_45

set_option maxHeartbeats 4000000 in
set_option maxRecDepth 100000 in
/-- isUsed: no such block -/
theorem m_isUsed_bad (l : Launch) (D : va_G) (A : Nat → Nat) (K : Nat → ClassId) (th n : Nat) (V TV TO : Nat → Bool) (AG OP NX : Nat → Nat) (TK : Nat) (hn : n ≤ 128) (x : Int32) (hbad : ¬ ∃ j k : Nat, j < n ∧ k < 16 ∧ x = nI (96 + 16 * j + k)) (sz : Nat) : Met l yX1_isUsed (xw yX1_isUsed cX1_isUsed 2 (some .boolean)) ({ frames := 1, cells := 0, slots := 0, locals := 22 }) (xk_M [.ref (A 0), .int x] D (xm_T K) (xm_W A K th n V TV TO AG OP NX TK) sz) (xk_Q (fun v => ∃ r : Int32, v = some (.int r)) D (xm_W A K th n V TV TO AG OP NX TK) (xm_W A K 1 n V TV TO AG OP NX TK)) 0 0 (va_A (xm_W A K th n V TV TO AG OP NX TK) sz) := by
  refine Met.ofW (cc := cX1_isUsed) (maxL := 2) (ret := (some .boolean)) (by decide) rfl ?_
  intro p e s m args below meth c s₁ B0 hml hv
  obtain ⟨rfl, hsz, hP, hK, hD0⟩ := hv
  have hx := B0.exec
  have hb := B0.bytes
  have hr := B0.returns
  have ht : ∀ w ∈ xT, w.before _ s = true := fun w h => atoms_spec (ws := xw yX1_isUsed cX1_isUsed 2 (some .boolean)) B0.pre w (List.mem_cons_of_mem _ h)
  have hown : s.vm.findClass RX1 = some m.cls := findClass_of_methodNamed B0.named
  have hlocks := B0.notSynchronized
  have hl := lv_entry ([.ref (A 0), .int x]) (n := 2) (Nat.le_of_ble_eq_true rfl)
  rw [lg_entry_eq]
  generalize (lg_sl ([.ref (A 0), .int x]) ++ List.replicate (2 - (lg_sl ([.ref (A 0), .int x])).length) Slot.unset).toArray = ls at hl ⊢
  have hl : lv_has ls 2 [(0, .ref (A 0)), (1, .int x)] := hl
  subst hsz
  have hD := hD0.self (sz := s.heap.size)
  have hA : ∀ q : Nat, s.heap.size ≤ q → va_A (xm_W A K th n V TV TO AG OP NX TK) s.heap.size q := fun q h => Or.inr h
  have hS : va_S (va_A (xm_W A K th n V TV TO AG OP NX TK) s.heap.size) s.heap s.heap [] := va_S.rf
  refine lv_aload_n hx hb dX1_isUsed_0 rfl (lv_at hl 0 rfl) ?_
  refine lv_aload_n hx hb dX1_isUsed_1 rfl (lv_at hl 0 rfl) ?_
  refine lv_iload_n hx hb dX1_isUsed_2 rfl (lv_at hl 1 rfl) ?_
  refine xr_V (n := 1) (As := [.int x]) (rest := [.ref (A 0)]) ⟨hx, hb, hml, hown, ht⟩ (m_isNo l D A K th n V TV TO AG OP NX TK (x) hn) (xg_V kml_RX1_54 kim_yX1_isNo ksl_yX1_isNo kin_RX1 kco_yX1_isNo) ⟨rfl, rfl⟩ (by decide +kernel) ⟨Nat.le_of_ble_eq_true rfl, Nat.le_of_ble_eq_true rfl⟩ (xk_preV hP hK rfl rfl) rfl hl.1 rfl (Nat.le_of_ble_eq_true rfl) dX1_isUsed_3 ⟨Nat.le_of_ble_eq_true rfl, Nat.le_of_ble_eq_true rfl⟩ (fun r1 e1 => ?_)
  have e1 : r1 = xb true := e1.elim (fun z => absurd z.1 hbad) (fun z => z.2)
  subst e1
  refine lv_iconst (v := 0) hx hb dX1_isUsed_6 (by decide) ?_
  refine xr_M (n := 2) (As := [.int (xb true), .int (xb false)]) (rest := []) ⟨hx, hb, hml, hown, ht⟩ (m_throwing l D A K th n V TV TO AG OP NX TK true false _) (xg_V kml_RX1_47 kim_yX1_throwing ksl_yX1_throwing kin_RX1 kco_yX1_throwing) ⟨rfl, rfl⟩ (by decide +kernel) ⟨Nat.le_of_ble_eq_true rfl, Nat.le_of_ble_eq_true rfl⟩ hP hK hD hS hA rfl rfl rfl rfl hl.1 rfl (Nat.le_of_ble_eq_true rfl) dX1_isUsed_7 ⟨Nat.zero_le _, Nat.zero_le _⟩ (fun v9 H locs e9 hP hD hS => ?_)
  subst e9
  refine lv_if_eq (tgt := 15) hx hb dX1_isUsed_10 (by decide) (fun h => by first | exact absurd h (by decide) | exact absurd (by decide) h) (fun _ => ?_)
  refine lv_iconst (v := 0) hx hb dX1_isUsed_13 (by decide) ?_
  exact W.zret (v := 0) (ty := .boolean) hx hb hr (by decide) (fun t ht hW => ⟨⟨_, rfl, ⟨_, rfl⟩⟩, by rw [ht]; exact hP, hS.F ht⟩) hS.2.2 dX1_isUsed_14

set_option maxHeartbeats 4000000 in
set_option maxRecDepth 100000 in
/-- isUsed -/
theorem m_isUsed_ok (l : Launch) (D : va_G) (A : Nat → Nat) (K : Nat → ClassId) (th n : Nat) (V TV TO : Nat → Bool) (AG OP NX : Nat → Nat) (TK : Nat) (hn : n ≤ 128) (j k : Nat) (hj : j < n) (hk : k < 16) (sz : Nat) : Met l yX1_isUsed (xw yX1_isUsed cX1_isUsed 2 (some .boolean)) ({ frames := 1, cells := 0, slots := 0, locals := 22 }) (xk_M [.ref (A 0), .int (nI (96 + 16 * j + k))] D (xm_T K) (xm_W A K th n V TV TO AG OP NX TK) sz) (xk_Q (fun v => v = some (.int (xb (V (16 * j + k))))) D (xm_W A K th n V TV TO AG OP NX TK) (xm_W A K 0 n V TV TO AG OP NX TK)) 0 0 (va_A (xm_W A K th n V TV TO AG OP NX TK) sz) := by
  refine Met.ofW (cc := cX1_isUsed) (maxL := 2) (ret := (some .boolean)) (by decide) rfl ?_
  intro p e s m args below meth c s₁ B0 hml hv
  obtain ⟨rfl, hsz, hP, hK, hD0⟩ := hv
  have hx := B0.exec
  have hb := B0.bytes
  have hr := B0.returns
  have ht : ∀ w ∈ xT, w.before _ s = true := fun w h => atoms_spec (ws := xw yX1_isUsed cX1_isUsed 2 (some .boolean)) B0.pre w (List.mem_cons_of_mem _ h)
  have hown : s.vm.findClass RX1 = some m.cls := findClass_of_methodNamed B0.named
  have hlocks := B0.notSynchronized
  have hl := lv_entry ([.ref (A 0), .int (nI (96 + 16 * j + k))]) (n := 2) (Nat.le_of_ble_eq_true rfl)
  rw [lg_entry_eq]
  generalize (lg_sl ([.ref (A 0), .int (nI (96 + 16 * j + k))]) ++ List.replicate (2 - (lg_sl ([.ref (A 0), .int (nI (96 + 16 * j + k))])).length) Slot.unset).toArray = ls at hl ⊢
  have hl : lv_has ls 2 [(0, .ref (A 0)), (1, .int (nI (96 + 16 * j + k)))] := hl
  subst hsz
  have hD := hD0.self (sz := s.heap.size)
  have hA : ∀ q : Nat, s.heap.size ≤ q → va_A (xm_W A K th n V TV TO AG OP NX TK) s.heap.size q := fun q h => Or.inr h
  have hS : va_S (va_A (xm_W A K th n V TV TO AG OP NX TK) s.heap.size) s.heap s.heap [] := va_S.rf
  refine lv_aload_n hx hb dX1_isUsed_0 rfl (lv_at hl 0 rfl) ?_
  refine lv_aload_n hx hb dX1_isUsed_1 rfl (lv_at hl 0 rfl) ?_
  refine lv_iload_n hx hb dX1_isUsed_2 rfl (lv_at hl 1 rfl) ?_
  refine xr_V (n := 1) (As := [.int (nI (96 + 16 * j + k))]) (rest := [.ref (A 0)]) ⟨hx, hb, hml, hown, ht⟩ (m_isNo l D A K th n V TV TO AG OP NX TK (nI (96 + 16 * j + k)) hn) (xg_V kml_RX1_54 kim_yX1_isNo ksl_yX1_isNo kin_RX1 kco_yX1_isNo) ⟨rfl, rfl⟩ (by decide +kernel) ⟨Nat.le_of_ble_eq_true rfl, Nat.le_of_ble_eq_true rfl⟩ (xk_preV hP hK rfl rfl) rfl hl.1 rfl (Nat.le_of_ble_eq_true rfl) dX1_isUsed_3 ⟨Nat.le_of_ble_eq_true rfl, Nat.le_of_ble_eq_true rfl⟩ (fun r1 e1 => ?_)
  have e1 : r1 = xb false := e1.elim (fun z => z.2) (fun z => absurd ⟨j, k, hj, hk, rfl⟩ z.1)
  subst e1
  refine lv_iconst (v := 0) hx hb dX1_isUsed_6 (by decide) ?_
  refine xr_M (n := 2) (As := [.int (xb false), .int (xb false)]) (rest := []) ⟨hx, hb, hml, hown, ht⟩ (m_throwing l D A K th n V TV TO AG OP NX TK false false _) (xg_V kml_RX1_47 kim_yX1_throwing ksl_yX1_throwing kin_RX1 kco_yX1_throwing) ⟨rfl, rfl⟩ (by decide +kernel) ⟨Nat.le_of_ble_eq_true rfl, Nat.le_of_ble_eq_true rfl⟩ hP hK hD hS hA rfl rfl rfl rfl hl.1 rfl (Nat.le_of_ble_eq_true rfl) dX1_isUsed_7 ⟨Nat.zero_le _, Nat.zero_le _⟩ (fun v9 H locs e9 hP hD hS => ?_)
  subst e9
  refine lv_if_eq (tgt := 15) hx hb dX1_isUsed_10 (by decide) (fun _ => ?_) (fun h => by first | exact absurd h (by decide) | exact absurd (by decide) h)
  refine lv_aload_n hx hb dX1_isUsed_15 rfl (lv_at hl 0 rfl) ?_
  refine va_get (D := D) (ci := 1) (v := .ref (A 1)) (C := RX1) (T := TX1) (N := 9) hx hb ht xin_X1 hown hK hP 0 rfl rfl 2 (by decide) (ht _ kfl_RX1_7) (fun _ h9 => h9) rfl dX1_isUsed_16 ?_
  refine lv_iload_n hx hb dX1_isUsed_19 rfl (lv_at hl 1 rfl) ?_
  refine lv_bipush (v := 96) hx hb dX1_isUsed_20 (by decide) ?_
  refine lv_isub hx hb dX1_isUsed_22 ?_
  refine xa_top (y := nI (16 * j + k)) (by rw [xp_96, pk_sub (by omega)]; congr 1; omega) ?_
  refine xa_zld hx hb hK hP 1 0 rfl rfl (v := xb (V (16 * j + k))) (show 16 * j + k < 2048 by omega) (by decide) rfl dX1_isUsed_23 ?_
  exact W.zret (v := xb (V (16 * j + k))) (ty := .boolean) hx hb hr (xn_b' _) (fun t ht hW => ⟨⟨_, rfl, rfl⟩, by rw [ht]; exact hP, hS.F ht⟩) hS.2.2 dX1_isUsed_24

set_option maxHeartbeats 4000000 in
set_option maxRecDepth 100000 in
/-- drop: no such block -/
theorem m_drop_bad (l : Launch) (D : va_G) (A : Nat → Nat) (K : Nat → ClassId) (th n : Nat) (V TV TO : Nat → Bool) (AG OP NX : Nat → Nat) (TK : Nat) (hn : n ≤ 128) (x : Int32) (hbad : ¬ ∃ j k : Nat, j < n ∧ k < 16 ∧ x = nI (96 + 16 * j + k)) (sz : Nat) : Met l yX1_drop (xw yX1_drop cX1_drop 3 none) ({ frames := 1, cells := 0, slots := 0, locals := 22 }) (xk_M [.ref (A 0), .int x] D (xm_T K) (xm_W A K th n V TV TO AG OP NX TK) sz) (xk_Q (fun v => v = none) D (xm_W A K th n V TV TO AG OP NX TK) (xm_W A K 1 n V TV TO AG OP NX TK)) 0 0 (va_A (xm_W A K th n V TV TO AG OP NX TK) sz) := by
  refine Met.ofW (cc := cX1_drop) (maxL := 3) (ret := none) (by decide) rfl ?_
  intro p e s m args below meth c s₁ B0 hml hv
  obtain ⟨rfl, hsz, hP, hK, hD0⟩ := hv
  have hx := B0.exec
  have hb := B0.bytes
  have hr := B0.returns
  have ht : ∀ w ∈ xT, w.before _ s = true := fun w h => atoms_spec (ws := xw yX1_drop cX1_drop 3 none) B0.pre w (List.mem_cons_of_mem _ h)
  have hown : s.vm.findClass RX1 = some m.cls := findClass_of_methodNamed B0.named
  have hlocks := B0.notSynchronized
  have hl := lv_entry ([.ref (A 0), .int x]) (n := 3) (Nat.le_of_ble_eq_true rfl)
  rw [lg_entry_eq]
  generalize (lg_sl ([.ref (A 0), .int x]) ++ List.replicate (3 - (lg_sl ([.ref (A 0), .int x])).length) Slot.unset).toArray = ls at hl ⊢
  have hl : lv_has ls 3 [(0, .ref (A 0)), (1, .int x)] := hl
  subst hsz
  have hD := hD0.self (sz := s.heap.size)
  have hA : ∀ q : Nat, s.heap.size ≤ q → va_A (xm_W A K th n V TV TO AG OP NX TK) s.heap.size q := fun q h => Or.inr h
  have hS : va_S (va_A (xm_W A K th n V TV TO AG OP NX TK) s.heap.size) s.heap s.heap [] := va_S.rf
  refine lv_aload_n hx hb dX1_drop_0 rfl (lv_at hl 0 rfl) ?_
  refine lv_iload_n hx hb dX1_drop_1 rfl (lv_at hl 1 rfl) ?_
  refine xr_V (n := 1) (As := [.int x]) (rest := []) ⟨hx, hb, hml, hown, ht⟩ (m_isNo l D A K th n V TV TO AG OP NX TK (x) hn) (xg_V kml_RX1_54 kim_yX1_isNo ksl_yX1_isNo kin_RX1 kco_yX1_isNo) ⟨rfl, rfl⟩ (by decide +kernel) ⟨Nat.le_of_ble_eq_true rfl, Nat.le_of_ble_eq_true rfl⟩ (xk_preV hP hK rfl rfl) rfl hl.1 rfl (Nat.le_of_ble_eq_true rfl) dX1_drop_2 ⟨Nat.le_of_ble_eq_true rfl, Nat.le_of_ble_eq_true rfl⟩ (fun r1 e1 => ?_)
  have e1 : r1 = xb true := e1.elim (fun z => absurd z.1 hbad) (fun z => z.2)
  subst e1
  refine lv_istore_n (lv' := [(2, .int (xb true)), (0, .ref (A 0)), (1, .int x)]) hx hb dX1_drop_5 rfl hl (by decide) rfl (fun ls hl => ?_)
  refine lv_aload_n hx hb dX1_drop_6 rfl (lv_at hl 1 rfl) ?_
  refine lv_iload_n hx hb dX1_drop_7 rfl (lv_at hl 0 rfl) ?_
  refine lv_iload_n hx hb dX1_drop_8 rfl (lv_at hl 0 rfl) ?_
  refine lv_if_ne (tgt := 36) hx hb dX1_drop_9 (by decide) (fun _ => ?_) (fun h => by first | exact absurd h (by decide) | exact absurd (by decide) h)
  refine lv_iconst (v := 0) hx hb dX1_drop_36 (by decide) ?_
  refine xr_M (n := 2) (As := [.int (xb true), .int (xb false)]) (rest := []) ⟨hx, hb, hml, hown, ht⟩ (m_throwing l D A K th n V TV TO AG OP NX TK true false _) (xg_V kml_RX1_47 kim_yX1_throwing ksl_yX1_throwing kin_RX1 kco_yX1_throwing) ⟨rfl, rfl⟩ (by decide +kernel) ⟨Nat.le_of_ble_eq_true rfl, Nat.le_of_ble_eq_true rfl⟩ hP hK hD hS hA rfl rfl rfl rfl hl.1 rfl (Nat.le_of_ble_eq_true rfl) dX1_drop_37 ⟨Nat.zero_le _, Nat.zero_le _⟩ (fun v9 H locs e9 hP hD hS => ?_)
  subst e9
  refine lv_if_eq (tgt := 44) hx hb dX1_drop_40 (by decide) (fun h => by first | exact absurd h (by decide) | exact absurd (by decide) h) (fun _ => ?_)
  exact W.vret hx hb hr (fun t ht hW => ⟨⟨none, rfl, rfl⟩, by rw [ht]; exact hP, hS.F ht⟩) hS.2.2 dX1_drop_43

set_option maxHeartbeats 4000000 in
set_option maxRecDepth 100000 in
/-- drop -/
theorem m_drop_no (l : Launch) (D : va_G) (A : Nat → Nat) (K : Nat → ClassId) (th n : Nat) (V TV TO : Nat → Bool) (AG OP NX : Nat → Nat) (TK : Nat) (hn : n ≤ 128) (j k : Nat) (hj : j < n) (hk : k < 16) (hs : V (16 * j + k) = false) (sz : Nat) : Met l yX1_drop (xw yX1_drop cX1_drop 3 none) ({ frames := 1, cells := 0, slots := 0, locals := 22 }) (xk_M [.ref (A 0), .int (nI (96 + 16 * j + k))] D (xm_T K) (xm_W A K th n V TV TO AG OP NX TK) sz) (xk_Q (fun v => v = none) D (xm_W A K th n V TV TO AG OP NX TK) (xm_W A K 2 n V TV TO AG OP NX TK)) 0 0 (va_A (xm_W A K th n V TV TO AG OP NX TK) sz) := by
  refine Met.ofW (cc := cX1_drop) (maxL := 3) (ret := none) (by decide) rfl ?_
  intro p e s m args below meth c s₁ B0 hml hv
  obtain ⟨rfl, hsz, hP, hK, hD0⟩ := hv
  have hx := B0.exec
  have hb := B0.bytes
  have hr := B0.returns
  have ht : ∀ w ∈ xT, w.before _ s = true := fun w h => atoms_spec (ws := xw yX1_drop cX1_drop 3 none) B0.pre w (List.mem_cons_of_mem _ h)
  have hown : s.vm.findClass RX1 = some m.cls := findClass_of_methodNamed B0.named
  have hlocks := B0.notSynchronized
  have hl := lv_entry ([.ref (A 0), .int (nI (96 + 16 * j + k))]) (n := 3) (Nat.le_of_ble_eq_true rfl)
  rw [lg_entry_eq]
  generalize (lg_sl ([.ref (A 0), .int (nI (96 + 16 * j + k))]) ++ List.replicate (3 - (lg_sl ([.ref (A 0), .int (nI (96 + 16 * j + k))])).length) Slot.unset).toArray = ls at hl ⊢
  have hl : lv_has ls 3 [(0, .ref (A 0)), (1, .int (nI (96 + 16 * j + k)))] := hl
  subst hsz
  have hD := hD0.self (sz := s.heap.size)
  have hA : ∀ q : Nat, s.heap.size ≤ q → va_A (xm_W A K th n V TV TO AG OP NX TK) s.heap.size q := fun q h => Or.inr h
  have hS : va_S (va_A (xm_W A K th n V TV TO AG OP NX TK) s.heap.size) s.heap s.heap [] := va_S.rf
  refine lv_aload_n hx hb dX1_drop_0 rfl (lv_at hl 0 rfl) ?_
  refine lv_iload_n hx hb dX1_drop_1 rfl (lv_at hl 1 rfl) ?_
  refine xr_V (n := 1) (As := [.int (nI (96 + 16 * j + k))]) (rest := []) ⟨hx, hb, hml, hown, ht⟩ (m_isNo l D A K th n V TV TO AG OP NX TK (nI (96 + 16 * j + k)) hn) (xg_V kml_RX1_54 kim_yX1_isNo ksl_yX1_isNo kin_RX1 kco_yX1_isNo) ⟨rfl, rfl⟩ (by decide +kernel) ⟨Nat.le_of_ble_eq_true rfl, Nat.le_of_ble_eq_true rfl⟩ (xk_preV hP hK rfl rfl) rfl hl.1 rfl (Nat.le_of_ble_eq_true rfl) dX1_drop_2 ⟨Nat.le_of_ble_eq_true rfl, Nat.le_of_ble_eq_true rfl⟩ (fun r1 e1 => ?_)
  have e1 : r1 = xb false := e1.elim (fun z => z.2) (fun z => absurd ⟨j, k, hj, hk, rfl⟩ z.1)
  subst e1
  refine lv_istore_n (lv' := [(2, .int (xb false)), (0, .ref (A 0)), (1, .int (nI (96 + 16 * j + k)))]) hx hb dX1_drop_5 rfl hl (by decide) rfl (fun ls hl => ?_)
  refine lv_aload_n hx hb dX1_drop_6 rfl (lv_at hl 1 rfl) ?_
  refine lv_iload_n hx hb dX1_drop_7 rfl (lv_at hl 0 rfl) ?_
  refine lv_iload_n hx hb dX1_drop_8 rfl (lv_at hl 0 rfl) ?_
  refine lv_if_ne (tgt := 36) hx hb dX1_drop_9 (by decide) (fun h => by first | exact absurd h (by decide) | exact absurd (by decide) h) (fun _ => ?_)
  refine lv_aload_n hx hb dX1_drop_12 rfl (lv_at hl 1 rfl) ?_
  refine va_get (D := D) (ci := 1) (v := .ref (A 1)) (C := RX1) (T := TX1) (N := 9) hx hb ht xin_X1 hown hK hP 0 rfl rfl 2 (by decide) (ht _ kfl_RX1_7) (fun _ h9 => h9) rfl dX1_drop_13 ?_
  refine lv_iload_n hx hb dX1_drop_16 rfl (lv_at hl 0 rfl) ?_
  refine lv_if_eq (tgt := 24) hx hb dX1_drop_17 (by decide) (fun _ => ?_) (fun h => by first | exact absurd h (by decide) | exact absurd (by decide) h)
  refine lv_iload_n hx hb dX1_drop_24 rfl (lv_at hl 2 rfl) ?_
  refine lv_bipush (v := 96) hx hb dX1_drop_25 (by decide) ?_
  refine lv_isub hx hb dX1_drop_27 ?_
  refine xa_top (y := nI (16 * j + k)) (by rw [xp_96, pk_sub (by omega)]; congr 1; omega) ?_
  refine xa_zld hx hb hK hP 1 0 rfl rfl (v := xb (V (16 * j + k))) (show 16 * j + k < 2048 by omega) (by decide) rfl dX1_drop_28 ?_
  rw [hs]
  refine lv_if_ne (tgt := 36) hx hb dX1_drop_29 (by decide) (fun h => by first | exact absurd h (by decide) | exact absurd (by decide) h) (fun _ => ?_)
  refine lv_iconst (v := 1) hx hb dX1_drop_32 (by decide) ?_
  refine lv_goto (tgt := 37) hx hb dX1_drop_33 (by decide) ?_
  refine xr_M (n := 2) (As := [.int (xb false), .int (xb true)]) (rest := []) ⟨hx, hb, hml, hown, ht⟩ (m_throwing l D A K th n V TV TO AG OP NX TK false true _) (xg_V kml_RX1_47 kim_yX1_throwing ksl_yX1_throwing kin_RX1 kco_yX1_throwing) ⟨rfl, rfl⟩ (by decide +kernel) ⟨Nat.le_of_ble_eq_true rfl, Nat.le_of_ble_eq_true rfl⟩ hP hK hD hS hA rfl rfl rfl rfl hl.1 rfl (Nat.le_of_ble_eq_true rfl) dX1_drop_37 ⟨Nat.zero_le _, Nat.zero_le _⟩ (fun v9 H locs e9 hP hD hS => ?_)
  subst e9
  refine lv_if_eq (tgt := 44) hx hb dX1_drop_40 (by decide) (fun h => by first | exact absurd h (by decide) | exact absurd (by decide) h) (fun _ => ?_)
  exact W.vret hx hb hr (fun t ht hW => ⟨⟨none, rfl, rfl⟩, by rw [ht]; exact hP, hS.F ht⟩) hS.2.2 dX1_drop_43

set_option maxHeartbeats 4000000 in
set_option maxRecDepth 100000 in
/-- drop -/
theorem m_drop_ok (l : Launch) (D : va_G) (A : Nat → Nat) (K : Nat → ClassId) (th n : Nat) (V TV TO : Nat → Bool) (AG OP NX : Nat → Nat) (TK : Nat) (hn : n ≤ 128) (j k : Nat) (hj : j < n) (hk : k < 16) (hs : V (16 * j + k) = true) (sz : Nat) : Met l yX1_drop (xw yX1_drop cX1_drop 3 none) ({ frames := 1, cells := 0, slots := 0, locals := 22 }) (xk_M [.ref (A 0), .int (nI (96 + 16 * j + k))] D (xm_T K) (xm_W A K th n V TV TO AG OP NX TK) sz) (xk_Q (fun v => v = none) D (xm_W A K th n V TV TO AG OP NX TK) (xm_W A K 0 n (va_up V (16 * j + k) false) TV TO AG OP NX TK)) 0 0 (va_A (xm_W A K th n V TV TO AG OP NX TK) sz) := by
  refine Met.ofW (cc := cX1_drop) (maxL := 3) (ret := none) (by decide) rfl ?_
  intro p e s m args below meth c s₁ B0 hml hv
  obtain ⟨rfl, hsz, hP, hK, hD0⟩ := hv
  have hx := B0.exec
  have hb := B0.bytes
  have hr := B0.returns
  have ht : ∀ w ∈ xT, w.before _ s = true := fun w h => atoms_spec (ws := xw yX1_drop cX1_drop 3 none) B0.pre w (List.mem_cons_of_mem _ h)
  have hown : s.vm.findClass RX1 = some m.cls := findClass_of_methodNamed B0.named
  have hlocks := B0.notSynchronized
  have hl := lv_entry ([.ref (A 0), .int (nI (96 + 16 * j + k))]) (n := 3) (Nat.le_of_ble_eq_true rfl)
  rw [lg_entry_eq]
  generalize (lg_sl ([.ref (A 0), .int (nI (96 + 16 * j + k))]) ++ List.replicate (3 - (lg_sl ([.ref (A 0), .int (nI (96 + 16 * j + k))])).length) Slot.unset).toArray = ls at hl ⊢
  have hl : lv_has ls 3 [(0, .ref (A 0)), (1, .int (nI (96 + 16 * j + k)))] := hl
  subst hsz
  have hD := hD0.self (sz := s.heap.size)
  have hA : ∀ q : Nat, s.heap.size ≤ q → va_A (xm_W A K th n V TV TO AG OP NX TK) s.heap.size q := fun q h => Or.inr h
  have hS : va_S (va_A (xm_W A K th n V TV TO AG OP NX TK) s.heap.size) s.heap s.heap [] := va_S.rf
  refine lv_aload_n hx hb dX1_drop_0 rfl (lv_at hl 0 rfl) ?_
  refine lv_iload_n hx hb dX1_drop_1 rfl (lv_at hl 1 rfl) ?_
  refine xr_V (n := 1) (As := [.int (nI (96 + 16 * j + k))]) (rest := []) ⟨hx, hb, hml, hown, ht⟩ (m_isNo l D A K th n V TV TO AG OP NX TK (nI (96 + 16 * j + k)) hn) (xg_V kml_RX1_54 kim_yX1_isNo ksl_yX1_isNo kin_RX1 kco_yX1_isNo) ⟨rfl, rfl⟩ (by decide +kernel) ⟨Nat.le_of_ble_eq_true rfl, Nat.le_of_ble_eq_true rfl⟩ (xk_preV hP hK rfl rfl) rfl hl.1 rfl (Nat.le_of_ble_eq_true rfl) dX1_drop_2 ⟨Nat.le_of_ble_eq_true rfl, Nat.le_of_ble_eq_true rfl⟩ (fun r1 e1 => ?_)
  have e1 : r1 = xb false := e1.elim (fun z => z.2) (fun z => absurd ⟨j, k, hj, hk, rfl⟩ z.1)
  subst e1
  refine lv_istore_n (lv' := [(2, .int (xb false)), (0, .ref (A 0)), (1, .int (nI (96 + 16 * j + k)))]) hx hb dX1_drop_5 rfl hl (by decide) rfl (fun ls hl => ?_)
  refine lv_aload_n hx hb dX1_drop_6 rfl (lv_at hl 1 rfl) ?_
  refine lv_iload_n hx hb dX1_drop_7 rfl (lv_at hl 0 rfl) ?_
  refine lv_iload_n hx hb dX1_drop_8 rfl (lv_at hl 0 rfl) ?_
  refine lv_if_ne (tgt := 36) hx hb dX1_drop_9 (by decide) (fun h => by first | exact absurd h (by decide) | exact absurd (by decide) h) (fun _ => ?_)
  refine lv_aload_n hx hb dX1_drop_12 rfl (lv_at hl 1 rfl) ?_
  refine va_get (D := D) (ci := 1) (v := .ref (A 1)) (C := RX1) (T := TX1) (N := 9) hx hb ht xin_X1 hown hK hP 0 rfl rfl 2 (by decide) (ht _ kfl_RX1_7) (fun _ h9 => h9) rfl dX1_drop_13 ?_
  refine lv_iload_n hx hb dX1_drop_16 rfl (lv_at hl 0 rfl) ?_
  refine lv_if_eq (tgt := 24) hx hb dX1_drop_17 (by decide) (fun _ => ?_) (fun h => by first | exact absurd h (by decide) | exact absurd (by decide) h)
  refine lv_iload_n hx hb dX1_drop_24 rfl (lv_at hl 2 rfl) ?_
  refine lv_bipush (v := 96) hx hb dX1_drop_25 (by decide) ?_
  refine lv_isub hx hb dX1_drop_27 ?_
  refine xa_top (y := nI (16 * j + k)) (by rw [xp_96, pk_sub (by omega)]; congr 1; omega) ?_
  refine xa_zld hx hb hK hP 1 0 rfl rfl (v := xb (V (16 * j + k))) (show 16 * j + k < 2048 by omega) (by decide) rfl dX1_drop_28 ?_
  rw [hs]
  refine lv_if_ne (tgt := 36) hx hb dX1_drop_29 (by decide) (fun _ => ?_) (fun h => by first | exact absurd h (by decide) | exact absurd (by decide) h)
  refine lv_iconst (v := 0) hx hb dX1_drop_36 (by decide) ?_
  refine xr_M (n := 2) (As := [.int (xb false), .int (xb false)]) (rest := []) ⟨hx, hb, hml, hown, ht⟩ (m_throwing l D A K th n V TV TO AG OP NX TK false false _) (xg_V kml_RX1_47 kim_yX1_throwing ksl_yX1_throwing kin_RX1 kco_yX1_throwing) ⟨rfl, rfl⟩ (by decide +kernel) ⟨Nat.le_of_ble_eq_true rfl, Nat.le_of_ble_eq_true rfl⟩ hP hK hD hS hA rfl rfl rfl rfl hl.1 rfl (Nat.le_of_ble_eq_true rfl) dX1_drop_37 ⟨Nat.zero_le _, Nat.zero_le _⟩ (fun v9 H locs e9 hP hD hS => ?_)
  subst e9
  refine lv_if_eq (tgt := 44) hx hb dX1_drop_40 (by decide) (fun _ => ?_) (fun h => by first | exact absurd h (by decide) | exact absurd (by decide) h)
  refine lv_aload_n hx hb dX1_drop_44 rfl (lv_at hl 1 rfl) ?_
  refine va_get (D := D) (ci := 1) (v := .ref (A 1)) (C := RX1) (T := TX1) (N := 9) hx hb ht xin_X1 hown hK hP 0 rfl rfl 2 (by decide) (ht _ kfl_RX1_7) (fun _ h9 => h9) rfl dX1_drop_45 ?_
  refine lv_iload_n hx hb dX1_drop_48 rfl (lv_at hl 2 rfl) ?_
  refine lv_bipush (v := 96) hx hb dX1_drop_49 (by decide) ?_
  refine lv_isub hx hb dX1_drop_51 ?_
  refine xa_top (y := nI (16 * j + k)) (by rw [xp_96, pk_sub (by omega)]; congr 1; omega) ?_
  refine lv_iconst (v := 0) hx hb dX1_drop_52 (by decide) ?_
  refine xa_zst hx hb hK hP hD hS 1 0 rfl rfl (show 16 * j + k < 2048 by omega) (by decide) (xu_z V (16 * j + k) false) dX1_drop_53 (fun H locs hP hD hS => ?_)
  have hP : va_P D xcl (xm_W A K 0 n (va_up V (16 * j + k) false) TV TO AG OP NX TK) H := hP
  have hD : va_D (va_A (xm_W A K th n V TV TO AG OP NX TK) s.heap.size) (xm_W A K 0 n (va_up V (16 * j + k) false) TV TO AG OP NX TK) := hD
  exact W.vret hx hb hr (fun t ht hW => ⟨⟨none, rfl, rfl⟩, by rw [ht]; exact hP, hS.F ht⟩) hS.2.2 dX1_drop_54

set_option maxHeartbeats 4000000 in
set_option maxRecDepth 100000 in
/-- take: no such log -/
theorem m_take_bad (l : Launch) (D : va_G) (A : Nat → Nat) (K : Nat → ClassId) (th n : Nat) (V TV TO : Nat → Bool) (AG OP NX : Nat → Nat) (TK : Nat) (x : Int32) (hbad : ¬ ∃ j : Nat, j < 6 ∧ x = nI j) (sz : Nat) : Met l yX1_take (xw yX1_take cX1_take 7 (some .int)) ({ frames := 3, cells := 0, slots := 0, locals := 67 }) (xk_M [.ref (A 0), .int x] D (xm_T K) (xm_W A K th n V TV TO AG OP NX TK) sz) (xk_Q (fun v => ∃ r : Int32, v = some (.int r)) D (xm_W A K th n V TV TO AG OP NX TK) (xm_W A K 1 n V TV TO AG OP NX TK)) 0 0 (va_A (xm_W A K th n V TV TO AG OP NX TK) sz) := by
  refine Met.ofW (cc := cX1_take) (maxL := 7) (ret := (some .int)) (by decide) rfl ?_
  intro p e s m args below meth c s₁ B0 hml hv
  obtain ⟨rfl, hsz, hP, hK, hD0⟩ := hv
  have hx := B0.exec
  have hb := B0.bytes
  have hr := B0.returns
  have ht : ∀ w ∈ xT, w.before _ s = true := fun w h => atoms_spec (ws := xw yX1_take cX1_take 7 (some .int)) B0.pre w (List.mem_cons_of_mem _ h)
  have hown : s.vm.findClass RX1 = some m.cls := findClass_of_methodNamed B0.named
  have hlocks := B0.notSynchronized
  have hl := lv_entry ([.ref (A 0), .int x]) (n := 7) (Nat.le_of_ble_eq_true rfl)
  rw [lg_entry_eq]
  generalize (lg_sl ([.ref (A 0), .int x]) ++ List.replicate (7 - (lg_sl ([.ref (A 0), .int x])).length) Slot.unset).toArray = ls at hl ⊢
  have hl : lv_has ls 7 [(0, .ref (A 0)), (1, .int x)] := hl
  subst hsz
  have hD := hD0.self (sz := s.heap.size)
  have hA : ∀ q : Nat, s.heap.size ≤ q → va_A (xm_W A K th n V TV TO AG OP NX TK) s.heap.size q := fun q h => Or.inr h
  have hS : va_S (va_A (xm_W A K th n V TV TO AG OP NX TK) s.heap.size) s.heap s.heap [] := va_S.rf
  have tail : ∀ ls : Array Slot, lv_has ls 7 [(0, .ref (A 0)), (1, .int x)] → W p l e (headSpec (xw yX1_take cX1_take 7 (some .int)) ({ frames := 3, cells := 0, slots := 0, locals := 67 })).room s m ([.ref (A 0), .int x] : List Value).toArray below meth c s.heap [] 0 0 (MQ below (xk_Q (fun v => ∃ r : Int32, v = some (.int r)) D (xm_W A K th n V TV TO AG OP NX TK) (xm_W A K 1 n V TV TO AG OP NX TK)) ([.ref (A 0), .int x] : List Value).toArray s 0 0 (va_A (xm_W A K th n V TV TO AG OP NX TK) s.heap.size)) (F0 m 14 ls [.int (xb true)]) := by
    intro ls hl
    refine lv_istore_n (lv' := [(2, .int (xb true)), (0, .ref (A 0)), (1, .int x)]) hx hb dX1_take_14 rfl hl (by decide) rfl (fun ls hl => ?_)
    refine lv_iload_n hx hb dX1_take_15 rfl (lv_at hl 0 rfl) ?_
    refine lv_if_ne (tgt := 34) hx hb dX1_take_16 (by decide) (fun _ => ?_) (fun h => by first | exact absurd h (by decide) | exact absurd (by decide) h)
    refine lv_iconst (v := 0) hx hb dX1_take_34 (by decide) ?_
    refine lv_istore_n (lv' := [(3, .int 0), (2, .int (xb true)), (0, .ref (A 0)), (1, .int x)]) hx hb dX1_take_35 rfl hl (by decide) rfl (fun ls hl => ?_)
    refine lv_iload_n hx hb dX1_take_36 rfl (lv_at hl 0 rfl) ?_
    refine lv_if_eq (tgt := 47) hx hb dX1_take_37 (by decide) (fun _ => ?_) (fun h => by first | exact absurd h (by decide) | exact absurd (by decide) h)
    refine lv_iconst (v := -1) hx hb dX1_take_47 (by decide) ?_
    refine lv_istore (lv' := [(4, .int (-1)), (3, .int 0), (2, .int (xb true)), (0, .ref (A 0)), (1, .int x)]) hx hb dX1_take_48 hl (by decide) rfl (fun ls hl => ?_)
    refine lv_aload_n hx hb dX1_take_50 rfl (lv_at hl 3 rfl) ?_
    refine lv_iload_n hx hb dX1_take_51 rfl (lv_at hl 2 rfl) ?_
    refine lv_iload_n hx hb dX1_take_52 rfl (lv_at hl 1 rfl) ?_
    refine lv_if_eq (tgt := 65) hx hb dX1_take_53 (by decide) (fun _ => ?_) (fun h => by first | exact absurd h (by decide) | exact absurd (by decide) h)
    refine lv_iconst (v := 0) hx hb dX1_take_65 (by decide) ?_
    refine xr_M (n := 2) (As := [.int (xb true), .int (xb false)]) (rest := []) ⟨hx, hb, hml, hown, ht⟩ (m_throwing l D A K th n V TV TO AG OP NX TK true false _) (xg_V kml_RX1_47 kim_yX1_throwing ksl_yX1_throwing kin_RX1 kco_yX1_throwing) ⟨rfl, rfl⟩ (by decide +kernel) ⟨Nat.le_of_ble_eq_true rfl, Nat.le_of_ble_eq_true rfl⟩ hP hK hD hS hA rfl rfl rfl rfl hl.1 rfl (Nat.le_of_ble_eq_true rfl) dX1_take_66 ⟨Nat.zero_le _, Nat.zero_le _⟩ (fun v9 H locs e9 hP hD hS => ?_)
    subst e9
    refine lv_if_eq (tgt := 74) hx hb dX1_take_69 (by decide) (fun h => by first | exact absurd h (by decide) | exact absurd (by decide) h) (fun _ => ?_)
    refine lv_iconst (v := 0) hx hb dX1_take_72 (by decide) ?_
    exact W.iret (v := 0) hx hb hr (fun t ht hW => ⟨⟨_, rfl, ⟨_, rfl⟩⟩, by rw [ht]; exact hP, hS.F ht⟩) hS.2.2 dX1_take_73
  refine lv_iload_n hx hb dX1_take_0 rfl (lv_at hl 1 rfl) ?_
  refine lv_if_lt (tgt := 9) hx hb dX1_take_1 (by decide) (fun h1 => ?_) (fun h1 => ?_)
  · refine lv_iconst (v := 1) hx hb dX1_take_9 (by decide) ?_
    refine lv_goto (tgt := 14) hx hb dX1_take_10 (by decide) ?_
    exact tail ls (lv_sub hl [0, 1] rfl)
  · refine lv_iload_n hx hb dX1_take_4 rfl (lv_at hl 1 rfl) ?_
    refine lv_iconst (v := 5) hx hb dX1_take_5 (by decide) ?_
    refine lv_icmp_le (tgt := 13) hx hb dX1_take_6 (by decide) (fun h2 => ?_) (fun h2 => ?_)
    · exact absurd (by
        rcases pk_ix x (n := 6) (by decide) with q | q | q
        · exact absurd q h1
        · exact absurd (Int32.le_trans q h2) (by decide)
        · exact q) hbad
    · refine lv_iconst (v := 1) hx hb dX1_take_9 (by decide) ?_
      refine lv_goto (tgt := 14) hx hb dX1_take_10 (by decide) ?_
      exact tail ls (lv_sub hl [0, 1] rfl)

set_option maxHeartbeats 4000000 in
set_option maxRecDepth 100000 in
/-- take, the segment goes on -/
theorem m_take_stay (l : Launch) (D : va_G) (A : Nat → Nat) (K : Nat → ClassId) (th n : Nat) (V TV TO : Nat → Bool) (AG OP NX : Nat → Nat) (TK : Nat) (hn : n ≤ 128) (hOP : ∀ q, q < 6 → OP q < 128) (q j k : Nat) (hq : q < 6) (hO : OP q = j) (hN : NX q = k) (hj : j < n) (hk : k < 15) (sz : Nat) : Met l yX1_take (xw yX1_take cX1_take 7 (some .int)) ({ frames := 3, cells := 0, slots := 0, locals := 67 }) (xk_M [.ref (A 0), .int (nI q)] D (xm_T K) (xm_W A K th n V TV TO AG OP NX TK) sz) (xk_Q (fun v => v = some (.int (nI (96 + 16 * j + k)))) D (xm_W A K th n V TV TO AG OP NX TK) (xm_W A K 0 n (va_up V (16 * j + k) true) TV (va_up TO j true) (va_up AG j (TK + 1)) OP (va_up NX q (k + 1)) (TK + 1))) 0 0 (va_A (xm_W A K th n V TV TO AG OP NX TK) sz) := by
  refine Met.ofW (cc := cX1_take) (maxL := 7) (ret := (some .int)) (by decide) rfl ?_
  intro p e s m args below meth c s₁ B0 hml hv
  obtain ⟨rfl, hsz, hP, hK, hD0⟩ := hv
  have hx := B0.exec
  have hb := B0.bytes
  have hr := B0.returns
  have ht : ∀ w ∈ xT, w.before _ s = true := fun w h => atoms_spec (ws := xw yX1_take cX1_take 7 (some .int)) B0.pre w (List.mem_cons_of_mem _ h)
  have hown : s.vm.findClass RX1 = some m.cls := findClass_of_methodNamed B0.named
  have hlocks := B0.notSynchronized
  have hl := lv_entry ([.ref (A 0), .int (nI q)]) (n := 7) (Nat.le_of_ble_eq_true rfl)
  rw [lg_entry_eq]
  generalize (lg_sl ([.ref (A 0), .int (nI q)]) ++ List.replicate (7 - (lg_sl ([.ref (A 0), .int (nI q)])).length) Slot.unset).toArray = ls at hl ⊢
  have hl : lv_has ls 7 [(0, .ref (A 0)), (1, .int (nI q))] := hl
  subst hsz
  have hD := hD0.self (sz := s.heap.size)
  have hA : ∀ q : Nat, s.heap.size ≤ q → va_A (xm_W A K th n V TV TO AG OP NX TK) s.heap.size q := fun q h => Or.inr h
  have hS : va_S (va_A (xm_W A K th n V TV TO AG OP NX TK) s.heap.size) s.heap s.heap [] := va_S.rf
  refine lv_iload_n hx hb dX1_take_0 rfl (lv_at hl 1 rfl) ?_
  refine lv_if_lt (tgt := 9) hx hb dX1_take_1 (by decide) (fun h => absurd h (nI_pos (by omega))) (fun _ => ?_)
  refine lv_iload_n hx hb dX1_take_4 rfl (lv_at hl 1 rfl) ?_
  refine lv_iconst (v := 5) hx hb dX1_take_5 (by decide) ?_
  refine lv_icmp_le (tgt := 13) hx hb dX1_take_6 (by decide) (fun _ => ?_) (fun h => absurd (nI_le (b := 5) (by omega) (by decide)) h)
  refine lv_iconst (v := 0) hx hb dX1_take_13 (by decide) ?_
  refine xa_top (y := xb false) rfl ?_
  refine lv_istore_n (lv' := [(2, .int (xb false)), (0, .ref (A 0)), (1, .int (nI q))]) hx hb dX1_take_14 rfl hl (by decide) rfl (fun ls hl => ?_)
  refine lv_iload_n hx hb dX1_take_15 rfl (lv_at hl 0 rfl) ?_
  refine lv_if_ne (tgt := 34) hx hb dX1_take_16 (by decide) (fun h => by first | exact absurd h (by decide) | exact absurd (by decide) h) (fun _ => ?_)
  refine lv_aload_n hx hb dX1_take_19 rfl (lv_at hl 1 rfl) ?_
  refine va_get (D := D) (ci := 1) (v := .ref (A 6)) (C := RX1) (T := TX1) (N := 9) hx hb ht xin_X1 hown hK hP 0 rfl rfl 7 (by decide) (ht _ kfl_RX1_26) (fun _ h9 => h9) rfl dX1_take_20 ?_
  refine lv_iload_n hx hb dX1_take_23 rfl (lv_at hl 2 rfl) ?_
  refine xa_ild hx hb hK hP 6 5 rfl rfl (v := nI k) hq (by decide) (by show nI (NX q) = _; rw [hN]) dX1_take_24 ?_
  refine lv_bipush (v := 15) hx hb dX1_take_25 (by decide) ?_
  refine lv_icmp_ne (tgt := 34) hx hb dX1_take_27 (by decide) (fun _ => ?_) (fun h => absurd ((nI_eq (b := 15) (by omega) (by decide)).mp h) (by omega))
  refine lv_iconst (v := 0) hx hb dX1_take_34 (by decide) ?_
  refine lv_istore_n (lv' := [(3, .int 0), (2, .int (xb false)), (0, .ref (A 0)), (1, .int (nI q))]) hx hb dX1_take_35 rfl hl (by decide) rfl (fun ls hl => ?_)
  refine lv_iload_n hx hb dX1_take_36 rfl (lv_at hl 0 rfl) ?_
  refine lv_if_eq (tgt := 47) hx hb dX1_take_37 (by decide) (fun _ => ?_) (fun h => by first | exact absurd h (by decide) | exact absurd (by decide) h)
  refine lv_iconst (v := -1) hx hb dX1_take_47 (by decide) ?_
  refine lv_istore (lv' := [(4, .int (-1)), (3, .int 0), (2, .int (xb false)), (0, .ref (A 0)), (1, .int (nI q))]) hx hb dX1_take_48 hl (by decide) rfl (fun ls hl => ?_)
  refine lv_aload_n hx hb dX1_take_50 rfl (lv_at hl 3 rfl) ?_
  refine lv_iload_n hx hb dX1_take_51 rfl (lv_at hl 2 rfl) ?_
  refine lv_iload_n hx hb dX1_take_52 rfl (lv_at hl 1 rfl) ?_
  refine lv_if_eq (tgt := 65) hx hb dX1_take_53 (by decide) (fun _ => ?_) (fun h => by first | exact absurd h (by decide) | exact absurd (by decide) h)
  refine lv_iconst (v := 0) hx hb dX1_take_65 (by decide) ?_
  refine xr_M (n := 2) (As := [.int (xb false), .int (xb false)]) (rest := []) ⟨hx, hb, hml, hown, ht⟩ (m_throwing l D A K th n V TV TO AG OP NX TK false false _) (xg_V kml_RX1_47 kim_yX1_throwing ksl_yX1_throwing kin_RX1 kco_yX1_throwing) ⟨rfl, rfl⟩ (by decide +kernel) ⟨Nat.le_of_ble_eq_true rfl, Nat.le_of_ble_eq_true rfl⟩ hP hK hD hS hA rfl rfl rfl rfl hl.1 rfl (Nat.le_of_ble_eq_true rfl) dX1_take_66 ⟨Nat.zero_le _, Nat.zero_le _⟩ (fun v9 H locs e9 hP hD hS => ?_)
  subst e9
  refine lv_if_eq (tgt := 74) hx hb dX1_take_69 (by decide) (fun _ => ?_) (fun h => by first | exact absurd h (by decide) | exact absurd (by decide) h)
  refine lv_aload_n hx hb dX1_take_74 rfl (lv_at hl 3 rfl) ?_
  refine va_get (D := D) (ci := 1) (v := .ref (A 5)) (C := RX1) (T := TX1) (N := 9) hx hb ht xin_X1 hown hK hP 0 rfl rfl 6 (by decide) (ht _ kfl_RX1_23) (fun _ h9 => h9) rfl dX1_take_75 ?_
  refine lv_iload_n hx hb dX1_take_78 rfl (lv_at hl 4 rfl) ?_
  refine xa_ild hx hb hK hP 5 4 rfl rfl (v := nI j) hq (by decide) (by show nI (OP q) = _; rw [hO]) dX1_take_79 ?_
  refine lv_istore (lv' := [(5, .int (nI j)), (4, .int (-1)), (3, .int 0), (2, .int (xb false)), (0, .ref (A 0)), (1, .int (nI q))]) hx hb dX1_take_80 hl (by decide) rfl (fun ls hl => ?_)
  refine lv_bipush (v := 16) hx hb dX1_take_82 (by decide) ?_
  refine lv_iload hx hb dX1_take_84 (lv_at hl 0 rfl) ?_
  refine lv_imul hx hb dX1_take_86 ?_
  refine lv_aload_n hx hb dX1_take_87 rfl (lv_at hl 4 rfl) ?_
  refine va_get (D := D) (ci := 1) (v := .ref (A 6)) (C := RX1) (T := TX1) (N := 9) hx hb ht xin_X1 hown hK hP 0 rfl rfl 7 (by decide) (ht _ kfl_RX1_26) (fun _ h9 => h9) rfl dX1_take_88 ?_
  refine lv_iload_n hx hb dX1_take_91 rfl (lv_at hl 5 rfl) ?_
  refine xa_ild hx hb hK hP 6 5 rfl rfl (v := nI k) hq (by decide) (by show nI (NX q) = _; rw [hN]) dX1_take_92 ?_
  refine lv_iadd hx hb dX1_take_93 ?_
  refine xa_top (y := nI (16 * j + k)) (xix j k) ?_
  refine lv_istore (lv' := [(6, .int (nI (16 * j + k))), (5, .int (nI j)), (4, .int (-1)), (3, .int 0), (2, .int (xb false)), (0, .ref (A 0)), (1, .int (nI q))]) hx hb dX1_take_94 hl (by decide) rfl (fun ls hl => ?_)
  refine lv_aload_n hx hb dX1_take_96 rfl (lv_at hl 5 rfl) ?_
  refine va_get (D := D) (ci := 1) (v := .ref (A 1)) (C := RX1) (T := TX1) (N := 9) hx hb ht xin_X1 hown hK hP 0 rfl rfl 2 (by decide) (ht _ kfl_RX1_7) (fun _ h9 => h9) rfl dX1_take_97 ?_
  refine lv_iload hx hb dX1_take_100 (lv_at hl 0 rfl) ?_
  refine lv_iconst (v := 1) hx hb dX1_take_102 (by decide) ?_
  refine xa_zst hx hb hK hP hD hS 1 0 rfl rfl (show 16 * j + k < 2048 by omega) (by decide) (xu_z V (16 * j + k) true) dX1_take_103 (fun H locs hP hD hS => ?_)
  have hP : va_P D xcl (xm_W A K 0 n (va_up V (16 * j + k) true) TV TO AG OP NX TK) H := hP
  have hD : va_D (va_A (xm_W A K th n V TV TO AG OP NX TK) s.heap.size) (xm_W A K 0 n (va_up V (16 * j + k) true) TV TO AG OP NX TK) := hD
  refine lv_aload_n hx hb dX1_take_104 rfl (lv_at hl 5 rfl) ?_
  refine va_get (D := D) (ci := 1) (v := .ref (A 3)) (C := RX1) (T := TX1) (N := 9) hx hb ht xin_X1 hown hK hP 0 rfl rfl 4 (by decide) (ht _ kfl_RX1_16) (fun _ h9 => h9) rfl dX1_take_105 ?_
  refine lv_iload hx hb dX1_take_108 (lv_at hl 1 rfl) ?_
  refine lv_iconst (v := 1) hx hb dX1_take_110 (by decide) ?_
  refine xa_zst hx hb hK hP hD hS 3 2 rfl rfl (show j < 128 by omega) (by decide) (xu_z TO j true) dX1_take_111 (fun H locs hP hD hS => ?_)
  have hP : va_P D xcl (xm_W A K 0 n (va_up V (16 * j + k) true) TV (va_up TO j true) AG OP NX TK) H := hP
  have hD : va_D (va_A (xm_W A K th n V TV TO AG OP NX TK) s.heap.size) (xm_W A K 0 n (va_up V (16 * j + k) true) TV (va_up TO j true) AG OP NX TK) := hD
  refine lv_aload_n hx hb dX1_take_112 rfl (lv_at hl 5 rfl) ?_
  refine lv_dup hx hb dX1_take_113 rfl ?_
  refine va_get (D := D) (ci := 1) (v := .int (nI TK)) (C := RX1) (T := TX1) (N := 9) hx hb ht xin_X1 hown hK hP 0 rfl rfl 8 (by decide) (ht _ kfl_RX1_51) (fun _ h9 => h9) rfl dX1_take_114 ?_
  refine lv_iconst (v := 1) hx hb dX1_take_117 (by decide) ?_
  refine lv_iadd hx hb dX1_take_118 ?_
  refine xa_top (y := nI (TK + 1)) (nI_1 TK) ?_
  refine va_put (D := D) (ci := 1) (v := .int (nI (TK + 1))) (ty := .int) (C := RX1) (T := TX1) (N := 9) hx hb ht xin_X1 tyX1 tyX1_ok nmX1 hown hK hP hD hS 0 rfl rfl 8 (by decide) (ht _ kfl_RX1_51) (fun _ h9 => h9) rfl (by decide +kernel) rfl rfl (Nat.le_of_ble_eq_true rfl) dX1_take_119 (fun H locs hP hD hS => ?_)
  have hP : va_P D xcl (xm_W A K 0 n (va_up V (16 * j + k) true) TV (va_up TO j true) AG OP NX (TK + 1)) H := hP
  have hD : va_D (va_A (xm_W A K th n V TV TO AG OP NX TK) s.heap.size) (xm_W A K 0 n (va_up V (16 * j + k) true) TV (va_up TO j true) AG OP NX (TK + 1)) := hD
  refine lv_aload_n hx hb dX1_take_122 rfl (lv_at hl 5 rfl) ?_
  refine va_get (D := D) (ci := 1) (v := .ref (A 4)) (C := RX1) (T := TX1) (N := 9) hx hb ht xin_X1 hown hK hP 0 rfl rfl 5 (by decide) (ht _ kfl_RX1_19) (fun _ h9 => h9) rfl dX1_take_123 ?_
  refine lv_iload hx hb dX1_take_126 (lv_at hl 1 rfl) ?_
  refine lv_aload_n hx hb dX1_take_128 rfl (lv_at hl 5 rfl) ?_
  refine va_get (D := D) (ci := 1) (v := .int (nI (TK + 1))) (C := RX1) (T := TX1) (N := 9) hx hb ht xin_X1 hown hK hP 0 rfl rfl 8 (by decide) (ht _ kfl_RX1_51) (fun _ h9 => h9) rfl dX1_take_129 ?_
  refine xa_ist hx hb hK hP hD hS 4 3 rfl rfl (show j < 128 by omega) (by decide) (xu_n AG j _) dX1_take_132 (fun H locs hP hD hS => ?_)
  have hP : va_P D xcl (xm_W A K 0 n (va_up V (16 * j + k) true) TV (va_up TO j true) (va_up AG j (TK + 1)) OP NX (TK + 1)) H := hP
  have hD : va_D (va_A (xm_W A K th n V TV TO AG OP NX TK) s.heap.size) (xm_W A K 0 n (va_up V (16 * j + k) true) TV (va_up TO j true) (va_up AG j (TK + 1)) OP NX (TK + 1)) := hD
  refine lv_aload_n hx hb dX1_take_133 rfl (lv_at hl 5 rfl) ?_
  refine va_get (D := D) (ci := 1) (v := .ref (A 6)) (C := RX1) (T := TX1) (N := 9) hx hb ht xin_X1 hown hK hP 0 rfl rfl 7 (by decide) (ht _ kfl_RX1_26) (fun _ h9 => h9) rfl dX1_take_134 ?_
  refine lv_iload_n hx hb dX1_take_137 rfl (lv_at hl 6 rfl) ?_
  refine lv_dup2_11 hx hb dX1_take_138 rfl rfl ?_
  refine xa_ild hx hb hK hP 6 5 rfl rfl (v := nI k) hq (by decide) (by show nI (NX q) = _; rw [hN]) dX1_take_139 ?_
  refine lv_iconst (v := 1) hx hb dX1_take_140 (by decide) ?_
  refine lv_iadd hx hb dX1_take_141 ?_
  refine xa_top (y := nI (k + 1)) (nI_1 k) ?_
  refine xa_ist hx hb hK hP hD hS 6 5 rfl rfl hq (by decide) (xu_n NX q _) dX1_take_142 (fun H locs hP hD hS => ?_)
  have hP : va_P D xcl (xm_W A K 0 n (va_up V (16 * j + k) true) TV (va_up TO j true) (va_up AG j (TK + 1)) OP (va_up NX q (k + 1)) (TK + 1)) H := hP
  have hD : va_D (va_A (xm_W A K th n V TV TO AG OP NX TK) s.heap.size) (xm_W A K 0 n (va_up V (16 * j + k) true) TV (va_up TO j true) (va_up AG j (TK + 1)) OP (va_up NX q (k + 1)) (TK + 1)) := hD
  refine lv_iload_n hx hb dX1_take_143 rfl (lv_at hl 3 rfl) ?_
  refine lv_if_eq (tgt := 170) hx hb dX1_take_144 (by decide) (fun _ => ?_) (fun h => by first | exact absurd h (by decide) | exact absurd (by decide) h)
  refine lv_bipush (v := 96) hx hb dX1_take_170 (by decide) ?_
  refine lv_iload hx hb dX1_take_172 (lv_at hl 0 rfl) ?_
  refine lv_iadd hx hb dX1_take_174 ?_
  refine xa_top (y := nI (96 + 16 * j + k)) (by rw [xp_96, nI_add, Nat.add_assoc]) ?_
  exact W.iret (v := nI (96 + 16 * j + k)) hx hb hr (fun t ht hW => ⟨⟨_, rfl, rfl⟩, by rw [ht]; exact hP, hS.F ht⟩) hS.2.2 dX1_take_175

set_option maxHeartbeats 4000000 in
set_option maxRecDepth 100000 in
/-- take, a segment is opened -/
theorem m_take_open (l : Launch) (D : va_G) (A : Nat → Nat) (K : Nat → ClassId) (th n : Nat) (V TV TO : Nat → Bool) (AG OP NX : Nat → Nat) (TK : Nat) (hn : n ≤ 128) (hOP : ∀ q, q < 6 → OP q < 128) (q j k : Nat) (hq : q < 6) (hO : OP q = j) (hN : NX q = k) (hj : j < n) (hk : k = 15) (o : Nat) (ho : o < n) (ho1 : xmfr V TV TO OP o = true) (ho2 : ∀ i, i < o → xmfr V TV TO OP i = false) (sz : Nat) : Met l yX1_take (xw yX1_take cX1_take 7 (some .int)) ({ frames := 3, cells := 0, slots := 0, locals := 67 }) (xk_M [.ref (A 0), .int (nI q)] D (xm_T K) (xm_W A K th n V TV TO AG OP NX TK) sz) (xk_Q (fun v => v = some (.int (nI (96 + 16 * j + k)))) D (xm_W A K th n V TV TO AG OP NX TK) (xm_W A K 0 n (va_up V (16 * j + k) true) TV (va_up (va_up TO j true) o true) (va_up AG j (TK + 1)) (va_up OP q o) (va_up (va_up NX q (k + 1)) q 0) (TK + 1))) 0 0 (va_A (xm_W A K th n V TV TO AG OP NX TK) sz) := by
  refine Met.ofW (cc := cX1_take) (maxL := 7) (ret := (some .int)) (by decide) rfl ?_
  intro p e s m args below meth c s₁ B0 hml hv
  obtain ⟨rfl, hsz, hP, hK, hD0⟩ := hv
  have hx := B0.exec
  have hb := B0.bytes
  have hr := B0.returns
  have ht : ∀ w ∈ xT, w.before _ s = true := fun w h => atoms_spec (ws := xw yX1_take cX1_take 7 (some .int)) B0.pre w (List.mem_cons_of_mem _ h)
  have hown : s.vm.findClass RX1 = some m.cls := findClass_of_methodNamed B0.named
  have hlocks := B0.notSynchronized
  have hl := lv_entry ([.ref (A 0), .int (nI q)]) (n := 7) (Nat.le_of_ble_eq_true rfl)
  rw [lg_entry_eq]
  generalize (lg_sl ([.ref (A 0), .int (nI q)]) ++ List.replicate (7 - (lg_sl ([.ref (A 0), .int (nI q)])).length) Slot.unset).toArray = ls at hl ⊢
  have hl : lv_has ls 7 [(0, .ref (A 0)), (1, .int (nI q))] := hl
  subst hsz
  have hD := hD0.self (sz := s.heap.size)
  have hA : ∀ q : Nat, s.heap.size ≤ q → va_A (xm_W A K th n V TV TO AG OP NX TK) s.heap.size q := fun q h => Or.inr h
  have hS : va_S (va_A (xm_W A K th n V TV TO AG OP NX TK) s.heap.size) s.heap s.heap [] := va_S.rf
  refine lv_iload_n hx hb dX1_take_0 rfl (lv_at hl 1 rfl) ?_
  refine lv_if_lt (tgt := 9) hx hb dX1_take_1 (by decide) (fun h => absurd h (nI_pos (by omega))) (fun _ => ?_)
  refine lv_iload_n hx hb dX1_take_4 rfl (lv_at hl 1 rfl) ?_
  refine lv_iconst (v := 5) hx hb dX1_take_5 (by decide) ?_
  refine lv_icmp_le (tgt := 13) hx hb dX1_take_6 (by decide) (fun _ => ?_) (fun h => absurd (nI_le (b := 5) (by omega) (by decide)) h)
  refine lv_iconst (v := 0) hx hb dX1_take_13 (by decide) ?_
  refine xa_top (y := xb false) rfl ?_
  refine lv_istore_n (lv' := [(2, .int (xb false)), (0, .ref (A 0)), (1, .int (nI q))]) hx hb dX1_take_14 rfl hl (by decide) rfl (fun ls hl => ?_)
  refine lv_iload_n hx hb dX1_take_15 rfl (lv_at hl 0 rfl) ?_
  refine lv_if_ne (tgt := 34) hx hb dX1_take_16 (by decide) (fun h => by first | exact absurd h (by decide) | exact absurd (by decide) h) (fun _ => ?_)
  refine lv_aload_n hx hb dX1_take_19 rfl (lv_at hl 1 rfl) ?_
  refine va_get (D := D) (ci := 1) (v := .ref (A 6)) (C := RX1) (T := TX1) (N := 9) hx hb ht xin_X1 hown hK hP 0 rfl rfl 7 (by decide) (ht _ kfl_RX1_26) (fun _ h9 => h9) rfl dX1_take_20 ?_
  refine lv_iload_n hx hb dX1_take_23 rfl (lv_at hl 2 rfl) ?_
  refine xa_ild hx hb hK hP 6 5 rfl rfl (v := nI k) hq (by decide) (by show nI (NX q) = _; rw [hN]) dX1_take_24 ?_
  refine lv_bipush (v := 15) hx hb dX1_take_25 (by decide) ?_
  refine lv_icmp_ne (tgt := 34) hx hb dX1_take_27 (by decide) (fun h => absurd (by rw [hk]; rfl) h) (fun _ => ?_)
  refine lv_iconst (v := 1) hx hb dX1_take_30 (by decide) ?_
  refine lv_goto (tgt := 35) hx hb dX1_take_31 (by decide) ?_
  refine lv_istore_n (lv' := [(3, .int 1), (2, .int (xb false)), (0, .ref (A 0)), (1, .int (nI q))]) hx hb dX1_take_35 rfl hl (by decide) rfl (fun ls hl => ?_)
  refine lv_iload_n hx hb dX1_take_36 rfl (lv_at hl 0 rfl) ?_
  refine lv_if_eq (tgt := 47) hx hb dX1_take_37 (by decide) (fun h => by first | exact absurd h (by decide) | exact absurd (by decide) h) (fun _ => ?_)
  refine lv_aload_n hx hb dX1_take_40 rfl (lv_at hl 2 rfl) ?_
  refine xr_V (n := 0) (As := []) (rest := []) ⟨hx, hb, hml, hown, ht⟩ (m_lowest l D A K th n V TV TO AG OP NX TK hn hOP) (xg_V kml_RX1_43 kim_yX1_lowest ksl_yX1_lowest kin_RX1 kco_yX1_lowest) ⟨rfl, rfl⟩ (by decide +kernel) ⟨Nat.le_of_ble_eq_true rfl, Nat.le_of_ble_eq_true rfl⟩ (xk_preV hP hK rfl rfl) rfl hl.1 rfl (Nat.le_of_ble_eq_true rfl) dX1_take_41 ⟨Nat.le_of_ble_eq_true rfl, Nat.le_of_ble_eq_true rfl⟩ (fun r2 e2 => ?_)
  have e2 : r2 = nI o := by
    rcases e2 with ⟨o9, h9, f1, f2, rfl⟩ | ⟨f1, -⟩
    · rcases Nat.lt_trichotomy o o9 with z | z | z
      · rw [f2 o z] at ho1; cases ho1
      · rw [z]
      · rw [ho2 o9 z] at f1; cases f1
    · rw [f1 o ho] at ho1; cases ho1
  subst e2
  refine lv_goto (tgt := 48) hx hb dX1_take_44 (by decide) ?_
  refine lv_istore (lv' := [(4, .int (nI o)), (3, .int 1), (2, .int (xb false)), (0, .ref (A 0)), (1, .int (nI q))]) hx hb dX1_take_48 hl (by decide) rfl (fun ls hl => ?_)
  refine lv_aload_n hx hb dX1_take_50 rfl (lv_at hl 3 rfl) ?_
  refine lv_iload_n hx hb dX1_take_51 rfl (lv_at hl 2 rfl) ?_
  refine lv_iload_n hx hb dX1_take_52 rfl (lv_at hl 1 rfl) ?_
  refine lv_if_eq (tgt := 65) hx hb dX1_take_53 (by decide) (fun h => by first | exact absurd h (by decide) | exact absurd (by decide) h) (fun _ => ?_)
  refine lv_iload hx hb dX1_take_56 (lv_at hl 0 rfl) ?_
  refine lv_if_ge (tgt := 65) hx hb dX1_take_58 (by decide) (fun _ => ?_) (fun h => absurd (nI_pos' (by omega)) h)
  refine lv_iconst (v := 0) hx hb dX1_take_65 (by decide) ?_
  refine xr_M (n := 2) (As := [.int (xb false), .int (xb false)]) (rest := []) ⟨hx, hb, hml, hown, ht⟩ (m_throwing l D A K th n V TV TO AG OP NX TK false false _) (xg_V kml_RX1_47 kim_yX1_throwing ksl_yX1_throwing kin_RX1 kco_yX1_throwing) ⟨rfl, rfl⟩ (by decide +kernel) ⟨Nat.le_of_ble_eq_true rfl, Nat.le_of_ble_eq_true rfl⟩ hP hK hD hS hA rfl rfl rfl rfl hl.1 rfl (Nat.le_of_ble_eq_true rfl) dX1_take_66 ⟨Nat.zero_le _, Nat.zero_le _⟩ (fun v9 H locs e9 hP hD hS => ?_)
  subst e9
  refine lv_if_eq (tgt := 74) hx hb dX1_take_69 (by decide) (fun _ => ?_) (fun h => by first | exact absurd h (by decide) | exact absurd (by decide) h)
  refine lv_aload_n hx hb dX1_take_74 rfl (lv_at hl 3 rfl) ?_
  refine va_get (D := D) (ci := 1) (v := .ref (A 5)) (C := RX1) (T := TX1) (N := 9) hx hb ht xin_X1 hown hK hP 0 rfl rfl 6 (by decide) (ht _ kfl_RX1_23) (fun _ h9 => h9) rfl dX1_take_75 ?_
  refine lv_iload_n hx hb dX1_take_78 rfl (lv_at hl 4 rfl) ?_
  refine xa_ild hx hb hK hP 5 4 rfl rfl (v := nI j) hq (by decide) (by show nI (OP q) = _; rw [hO]) dX1_take_79 ?_
  refine lv_istore (lv' := [(5, .int (nI j)), (4, .int (nI o)), (3, .int 1), (2, .int (xb false)), (0, .ref (A 0)), (1, .int (nI q))]) hx hb dX1_take_80 hl (by decide) rfl (fun ls hl => ?_)
  refine lv_bipush (v := 16) hx hb dX1_take_82 (by decide) ?_
  refine lv_iload hx hb dX1_take_84 (lv_at hl 0 rfl) ?_
  refine lv_imul hx hb dX1_take_86 ?_
  refine lv_aload_n hx hb dX1_take_87 rfl (lv_at hl 4 rfl) ?_
  refine va_get (D := D) (ci := 1) (v := .ref (A 6)) (C := RX1) (T := TX1) (N := 9) hx hb ht xin_X1 hown hK hP 0 rfl rfl 7 (by decide) (ht _ kfl_RX1_26) (fun _ h9 => h9) rfl dX1_take_88 ?_
  refine lv_iload_n hx hb dX1_take_91 rfl (lv_at hl 5 rfl) ?_
  refine xa_ild hx hb hK hP 6 5 rfl rfl (v := nI k) hq (by decide) (by show nI (NX q) = _; rw [hN]) dX1_take_92 ?_
  refine lv_iadd hx hb dX1_take_93 ?_
  refine xa_top (y := nI (16 * j + k)) (xix j k) ?_
  refine lv_istore (lv' := [(6, .int (nI (16 * j + k))), (5, .int (nI j)), (4, .int (nI o)), (3, .int 1), (2, .int (xb false)), (0, .ref (A 0)), (1, .int (nI q))]) hx hb dX1_take_94 hl (by decide) rfl (fun ls hl => ?_)
  refine lv_aload_n hx hb dX1_take_96 rfl (lv_at hl 5 rfl) ?_
  refine va_get (D := D) (ci := 1) (v := .ref (A 1)) (C := RX1) (T := TX1) (N := 9) hx hb ht xin_X1 hown hK hP 0 rfl rfl 2 (by decide) (ht _ kfl_RX1_7) (fun _ h9 => h9) rfl dX1_take_97 ?_
  refine lv_iload hx hb dX1_take_100 (lv_at hl 0 rfl) ?_
  refine lv_iconst (v := 1) hx hb dX1_take_102 (by decide) ?_
  refine xa_zst hx hb hK hP hD hS 1 0 rfl rfl (show 16 * j + k < 2048 by omega) (by decide) (xu_z V (16 * j + k) true) dX1_take_103 (fun H locs hP hD hS => ?_)
  have hP : va_P D xcl (xm_W A K 0 n (va_up V (16 * j + k) true) TV TO AG OP NX TK) H := hP
  have hD : va_D (va_A (xm_W A K th n V TV TO AG OP NX TK) s.heap.size) (xm_W A K 0 n (va_up V (16 * j + k) true) TV TO AG OP NX TK) := hD
  refine lv_aload_n hx hb dX1_take_104 rfl (lv_at hl 5 rfl) ?_
  refine va_get (D := D) (ci := 1) (v := .ref (A 3)) (C := RX1) (T := TX1) (N := 9) hx hb ht xin_X1 hown hK hP 0 rfl rfl 4 (by decide) (ht _ kfl_RX1_16) (fun _ h9 => h9) rfl dX1_take_105 ?_
  refine lv_iload hx hb dX1_take_108 (lv_at hl 1 rfl) ?_
  refine lv_iconst (v := 1) hx hb dX1_take_110 (by decide) ?_
  refine xa_zst hx hb hK hP hD hS 3 2 rfl rfl (show j < 128 by omega) (by decide) (xu_z TO j true) dX1_take_111 (fun H locs hP hD hS => ?_)
  have hP : va_P D xcl (xm_W A K 0 n (va_up V (16 * j + k) true) TV (va_up TO j true) AG OP NX TK) H := hP
  have hD : va_D (va_A (xm_W A K th n V TV TO AG OP NX TK) s.heap.size) (xm_W A K 0 n (va_up V (16 * j + k) true) TV (va_up TO j true) AG OP NX TK) := hD
  refine lv_aload_n hx hb dX1_take_112 rfl (lv_at hl 5 rfl) ?_
  refine lv_dup hx hb dX1_take_113 rfl ?_
  refine va_get (D := D) (ci := 1) (v := .int (nI TK)) (C := RX1) (T := TX1) (N := 9) hx hb ht xin_X1 hown hK hP 0 rfl rfl 8 (by decide) (ht _ kfl_RX1_51) (fun _ h9 => h9) rfl dX1_take_114 ?_
  refine lv_iconst (v := 1) hx hb dX1_take_117 (by decide) ?_
  refine lv_iadd hx hb dX1_take_118 ?_
  refine xa_top (y := nI (TK + 1)) (nI_1 TK) ?_
  refine va_put (D := D) (ci := 1) (v := .int (nI (TK + 1))) (ty := .int) (C := RX1) (T := TX1) (N := 9) hx hb ht xin_X1 tyX1 tyX1_ok nmX1 hown hK hP hD hS 0 rfl rfl 8 (by decide) (ht _ kfl_RX1_51) (fun _ h9 => h9) rfl (by decide +kernel) rfl rfl (Nat.le_of_ble_eq_true rfl) dX1_take_119 (fun H locs hP hD hS => ?_)
  have hP : va_P D xcl (xm_W A K 0 n (va_up V (16 * j + k) true) TV (va_up TO j true) AG OP NX (TK + 1)) H := hP
  have hD : va_D (va_A (xm_W A K th n V TV TO AG OP NX TK) s.heap.size) (xm_W A K 0 n (va_up V (16 * j + k) true) TV (va_up TO j true) AG OP NX (TK + 1)) := hD
  refine lv_aload_n hx hb dX1_take_122 rfl (lv_at hl 5 rfl) ?_
  refine va_get (D := D) (ci := 1) (v := .ref (A 4)) (C := RX1) (T := TX1) (N := 9) hx hb ht xin_X1 hown hK hP 0 rfl rfl 5 (by decide) (ht _ kfl_RX1_19) (fun _ h9 => h9) rfl dX1_take_123 ?_
  refine lv_iload hx hb dX1_take_126 (lv_at hl 1 rfl) ?_
  refine lv_aload_n hx hb dX1_take_128 rfl (lv_at hl 5 rfl) ?_
  refine va_get (D := D) (ci := 1) (v := .int (nI (TK + 1))) (C := RX1) (T := TX1) (N := 9) hx hb ht xin_X1 hown hK hP 0 rfl rfl 8 (by decide) (ht _ kfl_RX1_51) (fun _ h9 => h9) rfl dX1_take_129 ?_
  refine xa_ist hx hb hK hP hD hS 4 3 rfl rfl (show j < 128 by omega) (by decide) (xu_n AG j _) dX1_take_132 (fun H locs hP hD hS => ?_)
  have hP : va_P D xcl (xm_W A K 0 n (va_up V (16 * j + k) true) TV (va_up TO j true) (va_up AG j (TK + 1)) OP NX (TK + 1)) H := hP
  have hD : va_D (va_A (xm_W A K th n V TV TO AG OP NX TK) s.heap.size) (xm_W A K 0 n (va_up V (16 * j + k) true) TV (va_up TO j true) (va_up AG j (TK + 1)) OP NX (TK + 1)) := hD
  refine lv_aload_n hx hb dX1_take_133 rfl (lv_at hl 5 rfl) ?_
  refine va_get (D := D) (ci := 1) (v := .ref (A 6)) (C := RX1) (T := TX1) (N := 9) hx hb ht xin_X1 hown hK hP 0 rfl rfl 7 (by decide) (ht _ kfl_RX1_26) (fun _ h9 => h9) rfl dX1_take_134 ?_
  refine lv_iload_n hx hb dX1_take_137 rfl (lv_at hl 6 rfl) ?_
  refine lv_dup2_11 hx hb dX1_take_138 rfl rfl ?_
  refine xa_ild hx hb hK hP 6 5 rfl rfl (v := nI k) hq (by decide) (by show nI (NX q) = _; rw [hN]) dX1_take_139 ?_
  refine lv_iconst (v := 1) hx hb dX1_take_140 (by decide) ?_
  refine lv_iadd hx hb dX1_take_141 ?_
  refine xa_top (y := nI (k + 1)) (nI_1 k) ?_
  refine xa_ist hx hb hK hP hD hS 6 5 rfl rfl hq (by decide) (xu_n NX q _) dX1_take_142 (fun H locs hP hD hS => ?_)
  have hP : va_P D xcl (xm_W A K 0 n (va_up V (16 * j + k) true) TV (va_up TO j true) (va_up AG j (TK + 1)) OP (va_up NX q (k + 1)) (TK + 1)) H := hP
  have hD : va_D (va_A (xm_W A K th n V TV TO AG OP NX TK) s.heap.size) (xm_W A K 0 n (va_up V (16 * j + k) true) TV (va_up TO j true) (va_up AG j (TK + 1)) OP (va_up NX q (k + 1)) (TK + 1)) := hD
  refine lv_iload_n hx hb dX1_take_143 rfl (lv_at hl 3 rfl) ?_
  refine lv_if_eq (tgt := 170) hx hb dX1_take_144 (by decide) (fun h => by first | exact absurd h (by decide) | exact absurd (by decide) h) (fun _ => ?_)
  refine lv_aload_n hx hb dX1_take_147 rfl (lv_at hl 5 rfl) ?_
  refine va_get (D := D) (ci := 1) (v := .ref (A 5)) (C := RX1) (T := TX1) (N := 9) hx hb ht xin_X1 hown hK hP 0 rfl rfl 6 (by decide) (ht _ kfl_RX1_23) (fun _ h9 => h9) rfl dX1_take_148 ?_
  refine lv_iload_n hx hb dX1_take_151 rfl (lv_at hl 6 rfl) ?_
  refine lv_iload hx hb dX1_take_152 (lv_at hl 2 rfl) ?_
  refine xa_ist hx hb hK hP hD hS 5 4 rfl rfl hq (by decide) (xu_n OP q _) dX1_take_154 (fun H locs hP hD hS => ?_)
  have hP : va_P D xcl (xm_W A K 0 n (va_up V (16 * j + k) true) TV (va_up TO j true) (va_up AG j (TK + 1)) (va_up OP q o) (va_up NX q (k + 1)) (TK + 1)) H := hP
  have hD : va_D (va_A (xm_W A K th n V TV TO AG OP NX TK) s.heap.size) (xm_W A K 0 n (va_up V (16 * j + k) true) TV (va_up TO j true) (va_up AG j (TK + 1)) (va_up OP q o) (va_up NX q (k + 1)) (TK + 1)) := hD
  refine lv_aload_n hx hb dX1_take_155 rfl (lv_at hl 5 rfl) ?_
  refine va_get (D := D) (ci := 1) (v := .ref (A 3)) (C := RX1) (T := TX1) (N := 9) hx hb ht xin_X1 hown hK hP 0 rfl rfl 4 (by decide) (ht _ kfl_RX1_16) (fun _ h9 => h9) rfl dX1_take_156 ?_
  refine lv_iload hx hb dX1_take_159 (lv_at hl 2 rfl) ?_
  refine lv_iconst (v := 1) hx hb dX1_take_161 (by decide) ?_
  refine xa_zst hx hb hK hP hD hS 3 2 rfl rfl (show o < 128 by omega) (by decide) (xu_z (va_up TO j true) o true) dX1_take_162 (fun H locs hP hD hS => ?_)
  have hP : va_P D xcl (xm_W A K 0 n (va_up V (16 * j + k) true) TV (va_up (va_up TO j true) o true) (va_up AG j (TK + 1)) (va_up OP q o) (va_up NX q (k + 1)) (TK + 1)) H := hP
  have hD : va_D (va_A (xm_W A K th n V TV TO AG OP NX TK) s.heap.size) (xm_W A K 0 n (va_up V (16 * j + k) true) TV (va_up (va_up TO j true) o true) (va_up AG j (TK + 1)) (va_up OP q o) (va_up NX q (k + 1)) (TK + 1)) := hD
  refine lv_aload_n hx hb dX1_take_163 rfl (lv_at hl 5 rfl) ?_
  refine va_get (D := D) (ci := 1) (v := .ref (A 6)) (C := RX1) (T := TX1) (N := 9) hx hb ht xin_X1 hown hK hP 0 rfl rfl 7 (by decide) (ht _ kfl_RX1_26) (fun _ h9 => h9) rfl dX1_take_164 ?_
  refine lv_iload_n hx hb dX1_take_167 rfl (lv_at hl 6 rfl) ?_
  refine lv_iconst (v := 0) hx hb dX1_take_168 (by decide) ?_
  refine xa_ist hx hb hK hP hD hS 6 5 rfl rfl hq (by decide) (xu_n (va_up NX q (k + 1)) q 0) dX1_take_169 (fun H locs hP hD hS => ?_)
  have hP : va_P D xcl (xm_W A K 0 n (va_up V (16 * j + k) true) TV (va_up (va_up TO j true) o true) (va_up AG j (TK + 1)) (va_up OP q o) (va_up (va_up NX q (k + 1)) q 0) (TK + 1)) H := hP
  have hD : va_D (va_A (xm_W A K th n V TV TO AG OP NX TK) s.heap.size) (xm_W A K 0 n (va_up V (16 * j + k) true) TV (va_up (va_up TO j true) o true) (va_up AG j (TK + 1)) (va_up OP q o) (va_up (va_up NX q (k + 1)) q 0) (TK + 1)) := hD
  refine lv_bipush (v := 96) hx hb dX1_take_170 (by decide) ?_
  refine lv_iload hx hb dX1_take_172 (lv_at hl 0 rfl) ?_
  refine lv_iadd hx hb dX1_take_174 ?_
  refine xa_top (y := nI (96 + 16 * j + k)) (by rw [xp_96, nI_add, Nat.add_assoc]) ?_
  exact W.iret (v := nI (96 + 16 * j + k)) hx hb hr (fun t ht hW => ⟨⟨_, rfl, rfl⟩, by rw [ht]; exact hP, hS.F ht⟩) hS.2.2 dX1_take_175

set_option maxHeartbeats 4000000 in
set_option maxRecDepth 100000 in
/-- take: none to open -/
theorem m_take_full (l : Launch) (D : va_G) (A : Nat → Nat) (K : Nat → ClassId) (th n : Nat) (V TV TO : Nat → Bool) (AG OP NX : Nat → Nat) (TK : Nat) (hn : n ≤ 128) (hOP : ∀ q, q < 6 → OP q < 128) (q j k : Nat) (hq : q < 6) (hO : OP q = j) (hN : NX q = k) (hk : k = 15) (hf : ∀ i, i < n → xmfr V TV TO OP i = false) (sz : Nat) : Met l yX1_take (xw yX1_take cX1_take 7 (some .int)) ({ frames := 3, cells := 0, slots := 0, locals := 67 }) (xk_M [.ref (A 0), .int (nI q)] D (xm_T K) (xm_W A K th n V TV TO AG OP NX TK) sz) (xk_Q (fun v => ∃ r : Int32, v = some (.int r)) D (xm_W A K th n V TV TO AG OP NX TK) (xm_W A K 2 n V TV TO AG OP NX TK)) 0 0 (va_A (xm_W A K th n V TV TO AG OP NX TK) sz) := by
  refine Met.ofW (cc := cX1_take) (maxL := 7) (ret := (some .int)) (by decide) rfl ?_
  intro p e s m args below meth c s₁ B0 hml hv
  obtain ⟨rfl, hsz, hP, hK, hD0⟩ := hv
  have hx := B0.exec
  have hb := B0.bytes
  have hr := B0.returns
  have ht : ∀ w ∈ xT, w.before _ s = true := fun w h => atoms_spec (ws := xw yX1_take cX1_take 7 (some .int)) B0.pre w (List.mem_cons_of_mem _ h)
  have hown : s.vm.findClass RX1 = some m.cls := findClass_of_methodNamed B0.named
  have hlocks := B0.notSynchronized
  have hl := lv_entry ([.ref (A 0), .int (nI q)]) (n := 7) (Nat.le_of_ble_eq_true rfl)
  rw [lg_entry_eq]
  generalize (lg_sl ([.ref (A 0), .int (nI q)]) ++ List.replicate (7 - (lg_sl ([.ref (A 0), .int (nI q)])).length) Slot.unset).toArray = ls at hl ⊢
  have hl : lv_has ls 7 [(0, .ref (A 0)), (1, .int (nI q))] := hl
  subst hsz
  have hD := hD0.self (sz := s.heap.size)
  have hA : ∀ q : Nat, s.heap.size ≤ q → va_A (xm_W A K th n V TV TO AG OP NX TK) s.heap.size q := fun q h => Or.inr h
  have hS : va_S (va_A (xm_W A K th n V TV TO AG OP NX TK) s.heap.size) s.heap s.heap [] := va_S.rf
  refine lv_iload_n hx hb dX1_take_0 rfl (lv_at hl 1 rfl) ?_
  refine lv_if_lt (tgt := 9) hx hb dX1_take_1 (by decide) (fun h => absurd h (nI_pos (by omega))) (fun _ => ?_)
  refine lv_iload_n hx hb dX1_take_4 rfl (lv_at hl 1 rfl) ?_
  refine lv_iconst (v := 5) hx hb dX1_take_5 (by decide) ?_
  refine lv_icmp_le (tgt := 13) hx hb dX1_take_6 (by decide) (fun _ => ?_) (fun h => absurd (nI_le (b := 5) (by omega) (by decide)) h)
  refine lv_iconst (v := 0) hx hb dX1_take_13 (by decide) ?_
  refine xa_top (y := xb false) rfl ?_
  refine lv_istore_n (lv' := [(2, .int (xb false)), (0, .ref (A 0)), (1, .int (nI q))]) hx hb dX1_take_14 rfl hl (by decide) rfl (fun ls hl => ?_)
  refine lv_iload_n hx hb dX1_take_15 rfl (lv_at hl 0 rfl) ?_
  refine lv_if_ne (tgt := 34) hx hb dX1_take_16 (by decide) (fun h => by first | exact absurd h (by decide) | exact absurd (by decide) h) (fun _ => ?_)
  refine lv_aload_n hx hb dX1_take_19 rfl (lv_at hl 1 rfl) ?_
  refine va_get (D := D) (ci := 1) (v := .ref (A 6)) (C := RX1) (T := TX1) (N := 9) hx hb ht xin_X1 hown hK hP 0 rfl rfl 7 (by decide) (ht _ kfl_RX1_26) (fun _ h9 => h9) rfl dX1_take_20 ?_
  refine lv_iload_n hx hb dX1_take_23 rfl (lv_at hl 2 rfl) ?_
  refine xa_ild hx hb hK hP 6 5 rfl rfl (v := nI k) hq (by decide) (by show nI (NX q) = _; rw [hN]) dX1_take_24 ?_
  refine lv_bipush (v := 15) hx hb dX1_take_25 (by decide) ?_
  refine lv_icmp_ne (tgt := 34) hx hb dX1_take_27 (by decide) (fun h => absurd (by rw [hk]; rfl) h) (fun _ => ?_)
  refine lv_iconst (v := 1) hx hb dX1_take_30 (by decide) ?_
  refine lv_goto (tgt := 35) hx hb dX1_take_31 (by decide) ?_
  refine lv_istore_n (lv' := [(3, .int 1), (2, .int (xb false)), (0, .ref (A 0)), (1, .int (nI q))]) hx hb dX1_take_35 rfl hl (by decide) rfl (fun ls hl => ?_)
  refine lv_iload_n hx hb dX1_take_36 rfl (lv_at hl 0 rfl) ?_
  refine lv_if_eq (tgt := 47) hx hb dX1_take_37 (by decide) (fun h => by first | exact absurd h (by decide) | exact absurd (by decide) h) (fun _ => ?_)
  refine lv_aload_n hx hb dX1_take_40 rfl (lv_at hl 2 rfl) ?_
  refine xr_V (n := 0) (As := []) (rest := []) ⟨hx, hb, hml, hown, ht⟩ (m_lowest l D A K th n V TV TO AG OP NX TK hn hOP) (xg_V kml_RX1_43 kim_yX1_lowest ksl_yX1_lowest kin_RX1 kco_yX1_lowest) ⟨rfl, rfl⟩ (by decide +kernel) ⟨Nat.le_of_ble_eq_true rfl, Nat.le_of_ble_eq_true rfl⟩ (xk_preV hP hK rfl rfl) rfl hl.1 rfl (Nat.le_of_ble_eq_true rfl) dX1_take_41 ⟨Nat.le_of_ble_eq_true rfl, Nat.le_of_ble_eq_true rfl⟩ (fun r2 e2 => ?_)
  have e2 : r2 = -1 := by
    rcases e2 with ⟨o9, h9, f1, f2, rfl⟩ | ⟨f1, rfl⟩
    · rw [hf o9 h9] at f1; cases f1
    · rfl
  subst e2
  refine lv_goto (tgt := 48) hx hb dX1_take_44 (by decide) ?_
  refine lv_istore (lv' := [(4, .int (-1)), (3, .int 1), (2, .int (xb false)), (0, .ref (A 0)), (1, .int (nI q))]) hx hb dX1_take_48 hl (by decide) rfl (fun ls hl => ?_)
  refine lv_aload_n hx hb dX1_take_50 rfl (lv_at hl 3 rfl) ?_
  refine lv_iload_n hx hb dX1_take_51 rfl (lv_at hl 2 rfl) ?_
  refine lv_iload_n hx hb dX1_take_52 rfl (lv_at hl 1 rfl) ?_
  refine lv_if_eq (tgt := 65) hx hb dX1_take_53 (by decide) (fun h => by first | exact absurd h (by decide) | exact absurd (by decide) h) (fun _ => ?_)
  refine lv_iload hx hb dX1_take_56 (lv_at hl 0 rfl) ?_
  refine lv_if_ge (tgt := 65) hx hb dX1_take_58 (by decide) (fun h => by first | exact absurd h (by decide) | exact absurd (by decide) h) (fun _ => ?_)
  refine lv_iconst (v := 1) hx hb dX1_take_61 (by decide) ?_
  refine lv_goto (tgt := 66) hx hb dX1_take_62 (by decide) ?_
  refine xr_M (n := 2) (As := [.int (xb false), .int (xb true)]) (rest := []) ⟨hx, hb, hml, hown, ht⟩ (m_throwing l D A K th n V TV TO AG OP NX TK false true _) (xg_V kml_RX1_47 kim_yX1_throwing ksl_yX1_throwing kin_RX1 kco_yX1_throwing) ⟨rfl, rfl⟩ (by decide +kernel) ⟨Nat.le_of_ble_eq_true rfl, Nat.le_of_ble_eq_true rfl⟩ hP hK hD hS hA rfl rfl rfl rfl hl.1 rfl (Nat.le_of_ble_eq_true rfl) dX1_take_66 ⟨Nat.zero_le _, Nat.zero_le _⟩ (fun v9 H locs e9 hP hD hS => ?_)
  subst e9
  refine lv_if_eq (tgt := 74) hx hb dX1_take_69 (by decide) (fun h => by first | exact absurd h (by decide) | exact absurd (by decide) h) (fun _ => ?_)
  refine lv_iconst (v := 0) hx hb dX1_take_72 (by decide) ?_
  exact W.iret (v := 0) hx hb hr (fun t ht hW => ⟨⟨_, rfl, ⟨_, rfl⟩⟩, by rw [ht]; exact hP, hS.F ht⟩) hS.2.2 dX1_take_73
end
section
def xvM (q : Option (Nat × Nat)) (bs bw : Int32) : Prop := match q with
  | none => bs = -1 ∧ bw = -1
  | some q => bs = nI q.1 ∧ bw = nI q.2 ∧ q.1 < 2 ^ 31 ∧ q.2 < 2 ^ 31
theorem xvM_R {q : Option (Nat × Nat)} {bs bw : Int32} (h : xvM q bs bw) : bs = xvR q := by
  cases q with
  | none => exact h.1
  | some q => exact h.1
def xmc (V TO : Nat → Bool) (OP : Nat → Nat) (j : Nat) : Bool := !xtk TO OP j 6 && (decide (0 < xmu V j) && decide (xmu V j < 16))
def xmw (g : Bool) (V : Nat → Bool) (AG : Nat → Nat) (TK j : Nat) : Nat := if g then (16 - xmu V j) * (TK - AG j + 1) / (xmu V j + 16) else 16 - xmu V j
theorem xmu_le (V : Nat → Bool) (j : Nat) : xmu V j ≤ 16 := Nat.le_trans (xcnt_le (b := 1) (fun k => by cases V (16 * j + k) <;> decide) 16) (by decide)
theorem xmw_lt {g : Bool} {V : Nat → Bool} {AG : Nat → Nat} {TK j : Nat} (hT : TK ≤ 100000) : xmw g V AG TK j < 2 ^ 31 := by
  unfold xmw
  cases g
  · simp; omega
  · have h1 : (16 - xmu V j) * (TK - AG j + 1) ≤ 16 * 100001 := Nat.mul_le_mul (by omega) (by omega)
    have h2 : (16 - xmu V j) * (TK - AG j + 1) / (xmu V j + 16) ≤ (16 - xmu V j) * (TK - AG j + 1) := Nat.div_le_self _ _
    simp; omega
def xdn (c : Nat) : Int32 := if c ≤ 15 then nI (15 - c) else -1
theorem xdn_s : ∀ c, c < 16 → xdn c + Int32.ofInt (-1) = xdn (c + 1) := by decide +kernel
theorem xdn_p : ∀ c, c < 16 → xdn c = nI (15 - c) := by decide +kernel
theorem xdn_n : ∀ c, c < 16 → ¬ xdn c < 0 := by decide +kernel
set_option maxHeartbeats 4000000 in
set_option maxRecDepth 100000 in
/-- free -/
theorem m_free (l : Launch) (D : va_G) (A : Nat → Nat) (K : Nat → ClassId) (th n : Nat) (V TV TO : Nat → Bool) (AG OP NX : Nat → Nat) (TK : Nat) (hn : n ≤ 128) (hOP : ∀ q, q < 6 → OP q < 128) (sz : Nat) : Met l yX1_free (xw yX1_free cX1_free 3 (some .int)) ({ frames := 2, cells := 0, slots := 0, locals := 46 }) (xk_M [.ref (A 0)] D (xm_T K) (xm_W A K th n V TV TO AG OP NX TK) sz) (xk_Q (fun v => v = some (.int (nI (xcnt (fun j => (xmfr V TV TO OP j).toNat) n)))) D (xm_W A K th n V TV TO AG OP NX TK) (xm_W A K 0 n V TV TO AG OP NX TK)) 0 0 (va_A (xm_W A K th n V TV TO AG OP NX TK) sz) := by
  refine Met.ofW (cc := cX1_free) (maxL := 3) (ret := (some .int)) (by decide) rfl ?_
  intro p e s m args below meth c s₁ B0 hml hv
  obtain ⟨rfl, hsz, hP, hK, hD0⟩ := hv
  have hx := B0.exec
  have hb := B0.bytes
  have hr := B0.returns
  have ht : ∀ w ∈ xT, w.before _ s = true := fun w h => atoms_spec (ws := xw yX1_free cX1_free 3 (some .int)) B0.pre w (List.mem_cons_of_mem _ h)
  have hown : s.vm.findClass RX1 = some m.cls := findClass_of_methodNamed B0.named
  have hlocks := B0.notSynchronized
  have hl := lv_entry ([.ref (A 0)]) (n := 3) (Nat.le_of_ble_eq_true rfl)
  rw [lg_entry_eq]
  generalize (lg_sl ([.ref (A 0)]) ++ List.replicate (3 - (lg_sl ([.ref (A 0)])).length) Slot.unset).toArray = ls at hl ⊢
  have hl : lv_has ls 3 [(0, .ref (A 0))] := hl
  subst hsz
  have hD := hD0.self (sz := s.heap.size)
  have hA : ∀ q : Nat, s.heap.size ≤ q → va_A (xm_W A K th n V TV TO AG OP NX TK) s.heap.size q := fun q h => Or.inr h
  have hS : va_S (va_A (xm_W A K th n V TV TO AG OP NX TK) s.heap.size) s.heap s.heap [] := va_S.rf
  refine lv_aload_n hx hb dX1_free_0 rfl (lv_at hl 0 rfl) ?_
  refine lv_iconst (v := 0) hx hb dX1_free_1 (by decide) ?_
  refine xa_top (y := nI 0) rfl ?_
  refine va_put (D := D) (ci := 1) (v := .int (nI 0)) (ty := .int) (C := RX1) (T := TX1) (N := 9) hx hb ht xin_X1 tyX1 tyX1_ok nmX1 hown hK hP hD hS 0 rfl rfl 0 (by decide) (ht _ kfl_RX1_33) (fun _ h9 => h9) rfl (by decide +kernel) rfl rfl (Nat.le_of_ble_eq_true rfl) dX1_free_2 (fun H locs hP hD hS => ?_)
  have hP : va_P D xcl (xm_W A K 0 n V TV TO AG OP NX TK) H := hP
  have hD : va_D (va_A (xm_W A K th n V TV TO AG OP NX TK) s.heap.size) (xm_W A K 0 n V TV TO AG OP NX TK) := hD
  refine lv_iconst (v := 0) hx hb dX1_free_5 (by decide) ?_
  refine lv_istore_n (lv' := [(1, .int 0), (0, .ref (A 0))]) hx hb dX1_free_6 rfl hl (by decide) rfl (fun ls hl => ?_)
  refine lv_iconst (v := 0) hx hb dX1_free_7 (by decide) ?_
  refine lv_istore_n (lv' := [(2, .int 0), (1, .int 0), (0, .ref (A 0))]) hx hb dX1_free_8 rfl hl (by decide) rfl (fun ls hl => ?_)
  have loop : ∀ (f i : Nat), i ≤ n → n + 1 ≤ i + f → ∀ ls : Array Slot, lv_has ls 3 [(2, .int (nI i)), (1, .int (nI (xcnt (fun j => (xmfr V TV TO OP j).toNat) i))), (0, .ref (A 0))] → W p l e (headSpec (xw yX1_free cX1_free 3 (some .int)) ({ frames := 2, cells := 0, slots := 0, locals := 46 })).room s m ([.ref (A 0)] : List Value).toArray below meth c H locs 0 0 (MQ below (xk_Q (fun v => v = some (.int (nI (xcnt (fun j => (xmfr V TV TO OP j).toNat) n)))) D (xm_W A K th n V TV TO AG OP NX TK) (xm_W A K 0 n V TV TO AG OP NX TK)) ([.ref (A 0)] : List Value).toArray s 0 0 (va_A (xm_W A K th n V TV TO AG OP NX TK) s.heap.size)) (F0 m 9 ls []) := by
    intro f
    induction f with
    | zero => intro i h1 h2; exact absurd h2 (by omega)
    | succ f ih =>
      intro i hi hf ls hl
      refine lv_iload_n hx hb dX1_free_9 rfl (lv_at hl 0 rfl) ?_
      refine lv_aload_n hx hb dX1_free_10 rfl (lv_at hl 2 rfl) ?_
      refine va_get (D := D) (ci := 1) (v := .int (nI n)) (C := RX1) (T := TX1) (N := 9) hx hb ht xin_X1 hown hK hP 0 rfl rfl 1 (by decide) (ht _ kfl_RX1_29) (fun _ h9 => h9) rfl dX1_free_11 ?_
      refine lv_icmp_ge (tgt := 39) hx hb dX1_free_14 (by decide) (fun h1 => ?_) (fun h1 => ?_)
      · have hin : i = n := by
          rcases Nat.lt_or_ge i n with q | q
          · exact absurd h1 (nI_ge (b := n) q (by omega))
          · omega
        subst hin
        refine lv_iload_n hx hb dX1_free_39 rfl (lv_at hl 1 rfl) ?_
        exact W.iret (v := nI (xcnt (fun j => (xmfr V TV TO OP j).toNat) i)) hx hb hr (fun t ht hW => ⟨⟨_, rfl, rfl⟩, by rw [ht]; exact hP, hS.F ht⟩) hS.2.2 dX1_free_40
      · have hin : i < n := by
          rcases Nat.lt_or_ge i n with q | q
          · exact q
          · exact absurd (nI_le (a := n) q (by omega)) h1
        refine lv_iload_n hx hb dX1_free_17 rfl (lv_at hl 1 rfl) ?_
        refine lv_aload_n hx hb dX1_free_18 rfl (lv_at hl 2 rfl) ?_
        refine lv_iload_n hx hb dX1_free_19 rfl (lv_at hl 0 rfl) ?_
        refine xr_V (n := 1) (As := [.int (nI i)]) (rest := [.int (nI (xcnt (fun j => (xmfr V TV TO OP j).toNat) i))]) ⟨hx, hb, hml, hown, ht⟩ (m_isFree l D A K 0 n V TV TO AG OP NX TK hOP i (by omega)) (xg_V kml_RX1_40 kim_yX1_isFree ksl_yX1_isFree kin_RX1 kco_yX1_isFree) ⟨rfl, rfl⟩ (by decide +kernel) ⟨Nat.le_of_ble_eq_true rfl, Nat.le_of_ble_eq_true rfl⟩ (xk_preV hP hK rfl rfl) rfl hl.1 rfl (Nat.le_of_ble_eq_true rfl) dX1_free_20 ⟨Nat.le_of_ble_eq_true rfl, Nat.le_of_ble_eq_true rfl⟩ (fun r1 e1 => ?_)
        subst e1
        refine lv_if_eq (tgt := 30) hx hb dX1_free_23 (by decide) (fun h2 => ?_) (fun h2 => ?_)
        · rw [xb_0] at h2
          refine lv_iconst (v := 0) hx hb dX1_free_30 (by decide) ?_
          refine lv_iadd hx hb dX1_free_31 ?_
          refine xa_top (y := nI (xcnt (fun j => (xmfr V TV TO OP j).toNat) (i + 1))) (by rw [xcnt, h2]; exact nI_add _ 0) ?_
          refine lv_istore_n (lv' := [(1, .int (nI (xcnt (fun j => (xmfr V TV TO OP j).toNat) (i + 1)))), (2, .int (nI i)), (0, .ref (A 0))]) hx hb dX1_free_32 rfl hl (by decide) rfl (fun ls hl => ?_)
          refine lv_iinc (v := nI (i + 1)) (lv' := [(2, .int (nI (i + 1))), (1, .int (nI (xcnt (fun j => (xmfr V TV TO OP j).toNat) (i + 1)))), (0, .ref (A 0))]) hx hb dX1_free_33 hl (k := 1) rfl (nI_1 i) (by decide) rfl (fun ls hl => ?_)
          refine lv_goto (tgt := 9) hx hb dX1_free_36 (by decide) ?_
          exact ih (i + 1) (by omega) (by omega) ls (lv_sub hl [0, 1, 2] rfl)
        · rw [xb_n0] at h2
          refine lv_iconst (v := 1) hx hb dX1_free_26 (by decide) ?_
          refine lv_goto (tgt := 31) hx hb dX1_free_27 (by decide) ?_
          refine lv_iadd hx hb dX1_free_31 ?_
          refine xa_top (y := nI (xcnt (fun j => (xmfr V TV TO OP j).toNat) (i + 1))) (by rw [xcnt, h2]; exact nI_add _ 1) ?_
          refine lv_istore_n (lv' := [(1, .int (nI (xcnt (fun j => (xmfr V TV TO OP j).toNat) (i + 1)))), (2, .int (nI i)), (0, .ref (A 0))]) hx hb dX1_free_32 rfl hl (by decide) rfl (fun ls hl => ?_)
          refine lv_iinc (v := nI (i + 1)) (lv' := [(2, .int (nI (i + 1))), (1, .int (nI (xcnt (fun j => (xmfr V TV TO OP j).toNat) (i + 1)))), (0, .ref (A 0))]) hx hb dX1_free_33 hl (k := 1) rfl (nI_1 i) (by decide) rfl (fun ls hl => ?_)
          refine lv_goto (tgt := 9) hx hb dX1_free_36 (by decide) ?_
          exact ih (i + 1) (by omega) (by omega) ls (lv_sub hl [0, 1, 2] rfl)
  exact loop (n + 1) 0 (by omega) (by omega) ls (lv_sub hl [0, 1, 2] rfl)

set_option maxHeartbeats 4000000 in
set_option maxRecDepth 100000 in
/-- used -/
theorem m_used (l : Launch) (D : va_G) (A : Nat → Nat) (K : Nat → ClassId) (th n : Nat) (V TV TO : Nat → Bool) (AG OP NX : Nat → Nat) (TK : Nat) (hn : n ≤ 128) (hOP : ∀ q, q < 6 → OP q < 128) (sz : Nat) : Met l yX1_used (xw yX1_used cX1_used 3 (some .int)) ({ frames := 1, cells := 0, slots := 0, locals := 23 }) (xk_M [.ref (A 0)] D (xm_T K) (xm_W A K th n V TV TO AG OP NX TK) sz) (xk_Q (fun v => v = some (.int (nI (xcnt (fun j => xmu V j) n)))) D (xm_W A K th n V TV TO AG OP NX TK) (xm_W A K 0 n V TV TO AG OP NX TK)) 0 0 (va_A (xm_W A K th n V TV TO AG OP NX TK) sz) := by
  refine Met.ofW (cc := cX1_used) (maxL := 3) (ret := (some .int)) (by decide) rfl ?_
  intro p e s m args below meth c s₁ B0 hml hv
  obtain ⟨rfl, hsz, hP, hK, hD0⟩ := hv
  have hx := B0.exec
  have hb := B0.bytes
  have hr := B0.returns
  have ht : ∀ w ∈ xT, w.before _ s = true := fun w h => atoms_spec (ws := xw yX1_used cX1_used 3 (some .int)) B0.pre w (List.mem_cons_of_mem _ h)
  have hown : s.vm.findClass RX1 = some m.cls := findClass_of_methodNamed B0.named
  have hlocks := B0.notSynchronized
  have hl := lv_entry ([.ref (A 0)]) (n := 3) (Nat.le_of_ble_eq_true rfl)
  rw [lg_entry_eq]
  generalize (lg_sl ([.ref (A 0)]) ++ List.replicate (3 - (lg_sl ([.ref (A 0)])).length) Slot.unset).toArray = ls at hl ⊢
  have hl : lv_has ls 3 [(0, .ref (A 0))] := hl
  subst hsz
  have hD := hD0.self (sz := s.heap.size)
  have hA : ∀ q : Nat, s.heap.size ≤ q → va_A (xm_W A K th n V TV TO AG OP NX TK) s.heap.size q := fun q h => Or.inr h
  have hS : va_S (va_A (xm_W A K th n V TV TO AG OP NX TK) s.heap.size) s.heap s.heap [] := va_S.rf
  refine lv_aload_n hx hb dX1_used_0 rfl (lv_at hl 0 rfl) ?_
  refine lv_iconst (v := 0) hx hb dX1_used_1 (by decide) ?_
  refine xa_top (y := nI 0) rfl ?_
  refine va_put (D := D) (ci := 1) (v := .int (nI 0)) (ty := .int) (C := RX1) (T := TX1) (N := 9) hx hb ht xin_X1 tyX1 tyX1_ok nmX1 hown hK hP hD hS 0 rfl rfl 0 (by decide) (ht _ kfl_RX1_33) (fun _ h9 => h9) rfl (by decide +kernel) rfl rfl (Nat.le_of_ble_eq_true rfl) dX1_used_2 (fun H locs hP hD hS => ?_)
  have hP : va_P D xcl (xm_W A K 0 n V TV TO AG OP NX TK) H := hP
  have hD : va_D (va_A (xm_W A K th n V TV TO AG OP NX TK) s.heap.size) (xm_W A K 0 n V TV TO AG OP NX TK) := hD
  refine lv_iconst (v := 0) hx hb dX1_used_5 (by decide) ?_
  refine lv_istore_n (lv' := [(1, .int 0), (0, .ref (A 0))]) hx hb dX1_used_6 rfl hl (by decide) rfl (fun ls hl => ?_)
  refine lv_iconst (v := 0) hx hb dX1_used_7 (by decide) ?_
  refine lv_istore_n (lv' := [(2, .int 0), (1, .int 0), (0, .ref (A 0))]) hx hb dX1_used_8 rfl hl (by decide) rfl (fun ls hl => ?_)
  have loop : ∀ (f i : Nat), i ≤ n → n + 1 ≤ i + f → ∀ ls : Array Slot, lv_has ls 3 [(2, .int (nI i)), (1, .int (nI (xcnt (fun j => xmu V j) i))), (0, .ref (A 0))] → W p l e (headSpec (xw yX1_used cX1_used 3 (some .int)) ({ frames := 1, cells := 0, slots := 0, locals := 23 })).room s m ([.ref (A 0)] : List Value).toArray below meth c H locs 0 0 (MQ below (xk_Q (fun v => v = some (.int (nI (xcnt (fun j => xmu V j) n)))) D (xm_W A K th n V TV TO AG OP NX TK) (xm_W A K 0 n V TV TO AG OP NX TK)) ([.ref (A 0)] : List Value).toArray s 0 0 (va_A (xm_W A K th n V TV TO AG OP NX TK) s.heap.size)) (F0 m 9 ls []) := by
    intro f
    induction f with
    | zero => intro i h1 h2; exact absurd h2 (by omega)
    | succ f ih =>
      intro i hi hf ls hl
      refine lv_iload_n hx hb dX1_used_9 rfl (lv_at hl 0 rfl) ?_
      refine lv_aload_n hx hb dX1_used_10 rfl (lv_at hl 2 rfl) ?_
      refine va_get (D := D) (ci := 1) (v := .int (nI n)) (C := RX1) (T := TX1) (N := 9) hx hb ht xin_X1 hown hK hP 0 rfl rfl 1 (by decide) (ht _ kfl_RX1_29) (fun _ h9 => h9) rfl dX1_used_11 ?_
      refine lv_icmp_ge (tgt := 31) hx hb dX1_used_14 (by decide) (fun h1 => ?_) (fun h1 => ?_)
      · have hin : i = n := by
          rcases Nat.lt_or_ge i n with q | q
          · exact absurd h1 (nI_ge (b := n) q (by omega))
          · omega
        subst hin
        refine lv_iload_n hx hb dX1_used_31 rfl (lv_at hl 1 rfl) ?_
        exact W.iret (v := nI (xcnt (fun j => xmu V j) i)) hx hb hr (fun t ht hW => ⟨⟨_, rfl, rfl⟩, by rw [ht]; exact hP, hS.F ht⟩) hS.2.2 dX1_used_32
      · have hin : i < n := by
          rcases Nat.lt_or_ge i n with q | q
          · exact q
          · exact absurd (nI_le (a := n) q (by omega)) h1
        refine lv_iload_n hx hb dX1_used_17 rfl (lv_at hl 1 rfl) ?_
        refine lv_aload_n hx hb dX1_used_18 rfl (lv_at hl 2 rfl) ?_
        refine lv_iload_n hx hb dX1_used_19 rfl (lv_at hl 0 rfl) ?_
        refine xr_V (n := 1) (As := [.int (nI i)]) (rest := [.int (nI (xcnt (fun j => xmu V j) i))]) ⟨hx, hb, hml, hown, ht⟩ (m_inUse l D A K 0 n V TV TO AG OP NX TK i (by omega)) (xg_V kml_RX1_60 kim_yX1_inUse ksl_yX1_inUse kin_RX1 kco_yX1_inUse) ⟨rfl, rfl⟩ (by decide +kernel) ⟨Nat.le_of_ble_eq_true rfl, Nat.le_of_ble_eq_true rfl⟩ (xk_preV hP hK rfl rfl) rfl hl.1 rfl (Nat.le_of_ble_eq_true rfl) dX1_used_20 ⟨Nat.le_of_ble_eq_true rfl, Nat.le_of_ble_eq_true rfl⟩ (fun r1 e1 => ?_)
        subst e1
        refine lv_iadd hx hb dX1_used_23 ?_
        refine xa_top (y := nI (xcnt (fun j => xmu V j) (i + 1))) (nI_add _ _) ?_
        refine lv_istore_n (lv' := [(1, .int (nI (xcnt (fun j => xmu V j) (i + 1)))), (2, .int (nI i)), (0, .ref (A 0))]) hx hb dX1_used_24 rfl hl (by decide) rfl (fun ls hl => ?_)
        refine lv_iinc (v := nI (i + 1)) (lv' := [(2, .int (nI (i + 1))), (1, .int (nI (xcnt (fun j => xmu V j) (i + 1)))), (0, .ref (A 0))]) hx hb dX1_used_25 hl (k := 1) rfl (nI_1 i) (by decide) rfl (fun ls hl => ?_)
        refine lv_goto (tgt := 9) hx hb dX1_used_28 (by decide) ?_
        exact ih (i + 1) (by omega) (by omega) ls (lv_sub hl [0, 1, 2] rfl)
  exact loop (n + 1) 0 (by omega) (by omega) ls (lv_sub hl [0, 1, 2] rfl)

set_option maxHeartbeats 4000000 in
set_option maxRecDepth 100000 in
/-- victim -/
theorem m_victim (l : Launch) (D : va_G) (A : Nat → Nat) (K : Nat → ClassId) (th n : Nat) (V TV TO : Nat → Bool) (AG OP NX : Nat → Nat) (TK : Nat) (hn : n ≤ 128) (hOP : ∀ q, q < 6 → OP q < 128) (hAG : ∀ j, AG j ≤ TK) (hTK : TK ≤ 100000) (g : Bool) (sz : Nat) : Met l yX1_victim (xw yX1_victim cX1_victim 7 (some .int)) ({ frames := 1, cells := 0, slots := 0, locals := 23 }) (xk_M [.ref (A 0), .int (xb g)] D (xm_T K) (xm_W A K th n V TV TO AG OP NX TK) sz) (xk_Q (fun v => v = some (.int (xvR (xvic (xmc V TO OP) (xmw g V AG TK) n)))) D (xm_W A K th n V TV TO AG OP NX TK) (xm_W A K 0 n V TV TO AG OP NX TK)) 0 0 (va_A (xm_W A K th n V TV TO AG OP NX TK) sz) := by
  refine Met.ofW (cc := cX1_victim) (maxL := 7) (ret := (some .int)) (by decide) rfl ?_
  intro p e s m args below meth c s₁ B0 hml hv
  obtain ⟨rfl, hsz, hP, hK, hD0⟩ := hv
  have hx := B0.exec
  have hb := B0.bytes
  have hr := B0.returns
  have ht : ∀ w ∈ xT, w.before _ s = true := fun w h => atoms_spec (ws := xw yX1_victim cX1_victim 7 (some .int)) B0.pre w (List.mem_cons_of_mem _ h)
  have hown : s.vm.findClass RX1 = some m.cls := findClass_of_methodNamed B0.named
  have hlocks := B0.notSynchronized
  have hl := lv_entry ([.ref (A 0), .int (xb g)]) (n := 7) (Nat.le_of_ble_eq_true rfl)
  rw [lg_entry_eq]
  generalize (lg_sl ([.ref (A 0), .int (xb g)]) ++ List.replicate (7 - (lg_sl ([.ref (A 0), .int (xb g)])).length) Slot.unset).toArray = ls at hl ⊢
  have hl : lv_has ls 7 [(0, .ref (A 0)), (1, .int (xb g))] := hl
  subst hsz
  have hD := hD0.self (sz := s.heap.size)
  have hA : ∀ q : Nat, s.heap.size ≤ q → va_A (xm_W A K th n V TV TO AG OP NX TK) s.heap.size q := fun q h => Or.inr h
  have hS : va_S (va_A (xm_W A K th n V TV TO AG OP NX TK) s.heap.size) s.heap s.heap [] := va_S.rf
  refine lv_aload_n hx hb dX1_victim_0 rfl (lv_at hl 0 rfl) ?_
  refine lv_iconst (v := 0) hx hb dX1_victim_1 (by decide) ?_
  refine xa_top (y := nI 0) rfl ?_
  refine va_put (D := D) (ci := 1) (v := .int (nI 0)) (ty := .int) (C := RX1) (T := TX1) (N := 9) hx hb ht xin_X1 tyX1 tyX1_ok nmX1 hown hK hP hD hS 0 rfl rfl 0 (by decide) (ht _ kfl_RX1_33) (fun _ h9 => h9) rfl (by decide +kernel) rfl rfl (Nat.le_of_ble_eq_true rfl) dX1_victim_2 (fun H locs hP hD hS => ?_)
  have hP : va_P D xcl (xm_W A K 0 n V TV TO AG OP NX TK) H := hP
  have hD : va_D (va_A (xm_W A K th n V TV TO AG OP NX TK) s.heap.size) (xm_W A K 0 n V TV TO AG OP NX TK) := hD
  refine lv_iconst (v := -1) hx hb dX1_victim_5 (by decide) ?_
  refine lv_istore_n (lv' := [(2, .int (-1)), (0, .ref (A 0)), (1, .int (xb g))]) hx hb dX1_victim_6 rfl hl (by decide) rfl (fun ls hl => ?_)
  refine lv_iconst (v := -1) hx hb dX1_victim_7 (by decide) ?_
  refine lv_istore_n (lv' := [(3, .int (-1)), (2, .int (-1)), (0, .ref (A 0)), (1, .int (xb g))]) hx hb dX1_victim_8 rfl hl (by decide) rfl (fun ls hl => ?_)
  refine lv_iconst (v := 0) hx hb dX1_victim_9 (by decide) ?_
  refine lv_istore (lv' := [(4, .int 0), (3, .int (-1)), (2, .int (-1)), (0, .ref (A 0)), (1, .int (xb g))]) hx hb dX1_victim_10 hl (by decide) rfl (fun ls hl => ?_)
  have loop : ∀ (f i : Nat) (bs bw : Int32), i ≤ n → n + 1 ≤ i + f → xvM (xvic (xmc V TO OP) (xmw g V AG TK) i) bs bw → ∀ ls : Array Slot, lv_has ls 7 [(4, .int (nI i)), (3, .int bw), (2, .int bs), (0, .ref (A 0)), (1, .int (xb g))] → W p l e (headSpec (xw yX1_victim cX1_victim 7 (some .int)) ({ frames := 1, cells := 0, slots := 0, locals := 23 })).room s m ([.ref (A 0), .int (xb g)] : List Value).toArray below meth c H locs 0 0 (MQ below (xk_Q (fun v => v = some (.int (xvR (xvic (xmc V TO OP) (xmw g V AG TK) n)))) D (xm_W A K th n V TV TO AG OP NX TK) (xm_W A K 0 n V TV TO AG OP NX TK)) ([.ref (A 0), .int (xb g)] : List Value).toArray s 0 0 (va_A (xm_W A K th n V TV TO AG OP NX TK) s.heap.size)) (F0 m 12 ls []) := by
    intro f
    induction f with
    | zero => intro i _ _ h1 h2; exact absurd h2 (by omega)
    | succ f ih =>
      intro i bs bw hi hf hc ls hl
      refine lv_iload hx hb dX1_victim_12 (lv_at hl 0 rfl) ?_
      refine lv_aload_n hx hb dX1_victim_14 rfl (lv_at hl 3 rfl) ?_
      refine va_get (D := D) (ci := 1) (v := .int (nI n)) (C := RX1) (T := TX1) (N := 9) hx hb ht xin_X1 hown hK hP 0 rfl rfl 1 (by decide) (ht _ kfl_RX1_29) (fun _ h9 => h9) rfl dX1_victim_15 ?_
      refine lv_icmp_ge (tgt := 108) hx hb dX1_victim_18 (by decide) (fun h1 => ?_) (fun h1 => ?_)
      · have hin : i = n := by
          rcases Nat.lt_or_ge i n with q | q
          · exact absurd h1 (nI_ge (b := n) q (by omega))
          · omega
        subst hin
        refine lv_iload_n hx hb dX1_victim_108 rfl (lv_at hl 2 rfl) ?_
        exact W.iret (v := bs) hx hb hr (fun t ht hW => ⟨⟨_, rfl, by rw [xvM_R hc]⟩, by rw [ht]; exact hP, hS.F ht⟩) hS.2.2 dX1_victim_109
      · have hin : i < n := by
          rcases Nat.lt_or_ge i n with q | q
          · exact q
          · exact absurd (nI_le (a := n) q (by omega)) h1
        have hpc := xmu_le V i
        have hwl : xmw g V AG TK i < 2 ^ 31 := xmw_lt hTK
        refine lv_aload_n hx hb dX1_victim_21 rfl (lv_at hl 3 rfl) ?_
        refine lv_iload hx hb dX1_victim_22 (lv_at hl 0 rfl) ?_
        refine xr_V (n := 1) (As := [.int (nI i)]) (rest := []) ⟨hx, hb, hml, hown, ht⟩ (m_inUse l D A K 0 n V TV TO AG OP NX TK i (by omega)) (xg_V kml_RX1_60 kim_yX1_inUse ksl_yX1_inUse kin_RX1 kco_yX1_inUse) ⟨rfl, rfl⟩ (by decide +kernel) ⟨Nat.le_of_ble_eq_true rfl, Nat.le_of_ble_eq_true rfl⟩ (xk_preV hP hK rfl rfl) rfl hl.1 rfl (Nat.le_of_ble_eq_true rfl) dX1_victim_24 ⟨Nat.le_of_ble_eq_true rfl, Nat.le_of_ble_eq_true rfl⟩ (fun r1 e1 => ?_)
        subst e1
        have tail : ∀ ls : Array Slot, lv_has ls 7 [(5, .int (nI (xmu V i))), (4, .int (nI i)), (3, .int bw), (2, .int bs), (0, .ref (A 0)), (1, .int (xb g))] → W p l e (headSpec (xw yX1_victim cX1_victim 7 (some .int)) ({ frames := 1, cells := 0, slots := 0, locals := 23 })).room s m ([.ref (A 0), .int (xb g)] : List Value).toArray below meth c H locs 0 0 (MQ below (xk_Q (fun v => v = some (.int (xvR (xvic (xmc V TO OP) (xmw g V AG TK) n)))) D (xm_W A K th n V TV TO AG OP NX TK) (xm_W A K 0 n V TV TO AG OP NX TK)) ([.ref (A 0), .int (xb g)] : List Value).toArray s 0 0 (va_A (xm_W A K th n V TV TO AG OP NX TK) s.heap.size)) (F0 m 67 ls [.int (nI (xmw g V AG TK i))]) := by
          intro ls hl
          refine lv_istore (lv' := [(6, .int (nI (xmw g V AG TK i))), (5, .int (nI (xmu V i))), (4, .int (nI i)), (3, .int bw), (2, .int bs), (0, .ref (A 0)), (1, .int (xb g))]) hx hb dX1_victim_67 hl (by decide) rfl (fun ls hl => ?_)
          refine lv_aload_n hx hb dX1_victim_69 rfl (lv_at hl 5 rfl) ?_
          refine lv_iload hx hb dX1_victim_70 (lv_at hl 2 rfl) ?_
          refine xr_V (n := 1) (As := [.int (nI i)]) (rest := []) ⟨hx, hb, hml, hown, ht⟩ (m_isTaken l D A K 0 n V TV TO AG OP NX TK hOP i (by omega)) (xg_V kml_RX1_36 kim_yX1_isTaken ksl_yX1_isTaken kin_RX1 kco_yX1_isTaken) ⟨rfl, rfl⟩ (by decide +kernel) ⟨Nat.le_of_ble_eq_true rfl, Nat.le_of_ble_eq_true rfl⟩ (xk_preV hP hK rfl rfl) rfl hl.1 rfl (Nat.le_of_ble_eq_true rfl) dX1_victim_72 ⟨Nat.le_of_ble_eq_true rfl, Nat.le_of_ble_eq_true rfl⟩ (fun r2 e2 => ?_)
          subst e2
          refine lv_if_ne (tgt := 102) hx hb dX1_victim_75 (by decide) (fun h2 => ?_) (fun h2 => ?_)
          · rw [xb_n0] at h2
            refine lv_iinc (v := nI (i + 1)) (lv' := [(4, .int (nI (i + 1))), (6, .int (nI (xmw g V AG TK i))), (5, .int (nI (xmu V i))), (3, .int bw), (2, .int bs), (0, .ref (A 0)), (1, .int (xb g))]) hx hb dX1_victim_102 hl (k := 2) rfl (nI_1 i) (by decide) rfl (fun ls hl => ?_)
            refine lv_goto (tgt := 12) hx hb dX1_victim_105 (by decide) ?_
            exact ih (i + 1) bs bw (by omega) (by omega) (by rw [xvic_skip (by simp [xmc, h2])]; exact hc) ls (lv_sub hl [0, 3, 4, 5, 6] rfl)
          · rw [xb_0] at h2
            refine lv_iload hx hb dX1_victim_78 (lv_at hl 1 rfl) ?_
            refine lv_if_le (tgt := 102) hx hb dX1_victim_80 (by decide) (fun h3 => ?_) (fun h3 => ?_)
            · have hz : xmu V i = 0 := by
                rcases Nat.eq_zero_or_pos (xmu V i) with q | q
                · exact q
                · exact absurd h3 (nI_nle q (by omega))
              refine lv_iinc (v := nI (i + 1)) (lv' := [(4, .int (nI (i + 1))), (6, .int (nI (xmw g V AG TK i))), (5, .int (nI (xmu V i))), (3, .int bw), (2, .int bs), (0, .ref (A 0)), (1, .int (xb g))]) hx hb dX1_victim_102 hl (k := 2) rfl (nI_1 i) (by decide) rfl (fun ls hl => ?_)
              refine lv_goto (tgt := 12) hx hb dX1_victim_105 (by decide) ?_
              exact ih (i + 1) bs bw (by omega) (by omega) (by rw [xvic_skip (by simp [xmc, hz])]; exact hc) ls (lv_sub hl [0, 3, 4, 5, 6] rfl)
            · have hz : 0 < xmu V i := by
                rcases Nat.eq_zero_or_pos (xmu V i) with q | q
                · exact absurd (by rw [q]; decide) h3
                · exact q
              refine lv_iload hx hb dX1_victim_83 (lv_at hl 1 rfl) ?_
              refine lv_bipush (v := 16) hx hb dX1_victim_85 (by decide) ?_
              refine lv_icmp_ge (tgt := 102) hx hb dX1_victim_87 (by decide) (fun h4 => ?_) (fun h4 => ?_)
              · have hz6 : xmu V i = 16 := by
                  rcases Nat.lt_or_ge (xmu V i) 16 with q | q
                  · exact absurd h4 (nI_ge (b := 16) q (by omega))
                  · omega
                refine lv_iinc (v := nI (i + 1)) (lv' := [(4, .int (nI (i + 1))), (6, .int (nI (xmw g V AG TK i))), (5, .int (nI (xmu V i))), (3, .int bw), (2, .int bs), (0, .ref (A 0)), (1, .int (xb g))]) hx hb dX1_victim_102 hl (k := 2) rfl (nI_1 i) (by decide) rfl (fun ls hl => ?_)
                refine lv_goto (tgt := 12) hx hb dX1_victim_105 (by decide) ?_
                exact ih (i + 1) bs bw (by omega) (by omega) (by rw [xvic_skip (by simp [xmc, hz6])]; exact hc) ls (lv_sub hl [0, 3, 4, 5, 6] rfl)
              · have hz6 : xmu V i < 16 := by
                  rcases Nat.lt_or_ge (xmu V i) 16 with q | q
                  · exact q
                  · exact absurd (nI_le (a := 16) q (by omega)) h4
                have hca : xmc V TO OP i = true := by simp [xmc, h2, hz, hz6]
                refine lv_iload hx hb dX1_victim_90 (lv_at hl 0 rfl) ?_
                refine lv_iload_n hx hb dX1_victim_92 rfl (lv_at hl 3 rfl) ?_
                cases hq : xvic (xmc V TO OP) (xmw g V AG TK) i with
                | none =>
                  rw [hq] at hc
                  obtain ⟨rfl, rfl⟩ := hc
                  refine lv_icmp_le (tgt := 102) hx hb dX1_victim_93 (by decide) (fun h => absurd (Int32.le_trans (nI_pos' (n := xmw g V AG TK i) hwl) h) (by decide)) (fun _ => ?_)
                  refine lv_iload hx hb dX1_victim_96 (lv_at hl 2 rfl) ?_
                  refine lv_istore_n (lv' := [(2, .int (nI i)), (6, .int (nI (xmw g V AG TK i))), (5, .int (nI (xmu V i))), (4, .int (nI i)), (3, .int (-1)), (0, .ref (A 0)), (1, .int (xb g))]) hx hb dX1_victim_98 rfl hl (by decide) rfl (fun ls hl => ?_)
                  refine lv_iload hx hb dX1_victim_99 (lv_at hl 1 rfl) ?_
                  refine lv_istore_n (lv' := [(3, .int (nI (xmw g V AG TK i))), (2, .int (nI i)), (6, .int (nI (xmw g V AG TK i))), (5, .int (nI (xmu V i))), (4, .int (nI i)), (0, .ref (A 0)), (1, .int (xb g))]) hx hb dX1_victim_101 rfl hl (by decide) rfl (fun ls hl => ?_)
                  refine lv_iinc (v := nI (i + 1)) (lv' := [(4, .int (nI (i + 1))), (3, .int (nI (xmw g V AG TK i))), (2, .int (nI i)), (6, .int (nI (xmw g V AG TK i))), (5, .int (nI (xmu V i))), (0, .ref (A 0)), (1, .int (xb g))]) hx hb dX1_victim_102 hl (k := 4) rfl (nI_1 i) (by decide) rfl (fun ls hl => ?_)
                  refine lv_goto (tgt := 12) hx hb dX1_victim_105 (by decide) ?_
                  exact ih (i + 1) (nI i) (nI (xmw g V AG TK i)) (by omega) (by omega) (by rw [xvic_new hca hq]; exact ⟨rfl, rfl, by omega, hwl⟩) ls (lv_sub hl [0, 1, 2, 5, 6] rfl)
                | some q =>
                  rw [hq] at hc
                  obtain ⟨rfl, rfl, hq1, hq2⟩ := hc
                  refine lv_icmp_le (tgt := 102) hx hb dX1_victim_93 (by decide) (fun h6 => ?_) (fun h6 => ?_)
                  · have hle : xmw g V AG TK i ≤ q.2 := (nI_leI hwl hq2).mp h6
                    refine lv_iinc (v := nI (i + 1)) (lv' := [(4, .int (nI (i + 1))), (6, .int (nI (xmw g V AG TK i))), (5, .int (nI (xmu V i))), (3, .int (nI q.2)), (2, .int (nI q.1)), (0, .ref (A 0)), (1, .int (xb g))]) hx hb dX1_victim_102 hl (k := 2) rfl (nI_1 i) (by decide) rfl (fun ls hl => ?_)
                    refine lv_goto (tgt := 12) hx hb dX1_victim_105 (by decide) ?_
                    exact ih (i + 1) (nI q.1) (nI q.2) (by omega) (by omega) (by rw [xvic_le hq hle]; exact ⟨rfl, rfl, hq1, hq2⟩) ls (lv_sub hl [0, 3, 4, 5, 6] rfl)
                  · have hlt : q.2 < xmw g V AG TK i := Nat.lt_of_not_le (fun z => h6 ((nI_leI hwl hq2).mpr z))
                    refine lv_iload hx hb dX1_victim_96 (lv_at hl 2 rfl) ?_
                    refine lv_istore_n (lv' := [(2, .int (nI i)), (6, .int (nI (xmw g V AG TK i))), (5, .int (nI (xmu V i))), (4, .int (nI i)), (3, .int (nI q.2)), (0, .ref (A 0)), (1, .int (xb g))]) hx hb dX1_victim_98 rfl hl (by decide) rfl (fun ls hl => ?_)
                    refine lv_iload hx hb dX1_victim_99 (lv_at hl 1 rfl) ?_
                    refine lv_istore_n (lv' := [(3, .int (nI (xmw g V AG TK i))), (2, .int (nI i)), (6, .int (nI (xmw g V AG TK i))), (5, .int (nI (xmu V i))), (4, .int (nI i)), (0, .ref (A 0)), (1, .int (xb g))]) hx hb dX1_victim_101 rfl hl (by decide) rfl (fun ls hl => ?_)
                    refine lv_iinc (v := nI (i + 1)) (lv' := [(4, .int (nI (i + 1))), (3, .int (nI (xmw g V AG TK i))), (2, .int (nI i)), (6, .int (nI (xmw g V AG TK i))), (5, .int (nI (xmu V i))), (0, .ref (A 0)), (1, .int (xb g))]) hx hb dX1_victim_102 hl (k := 4) rfl (nI_1 i) (by decide) rfl (fun ls hl => ?_)
                    refine lv_goto (tgt := 12) hx hb dX1_victim_105 (by decide) ?_
                    exact ih (i + 1) (nI i) (nI (xmw g V AG TK i)) (by omega) (by omega) (by rw [xvic_gt hca hq hlt]; exact ⟨rfl, rfl, by omega, hwl⟩) ls (lv_sub hl [0, 1, 2, 5, 6] rfl)
        refine lv_istore (lv' := [(5, .int (nI (xmu V i))), (4, .int (nI i)), (3, .int bw), (2, .int bs), (0, .ref (A 0)), (1, .int (xb g))]) hx hb dX1_victim_27 hl (by decide) rfl (fun ls hl => ?_)
        refine lv_iload_n hx hb dX1_victim_29 rfl (lv_at hl 5 rfl) ?_
        refine lv_if_eq (tgt := 62) hx hb dX1_victim_30 (by decide) (fun h7 => ?_) (fun h7 => ?_)
        · rw [xb_0] at h7
          subst h7
          refine lv_bipush (v := 16) hx hb dX1_victim_62 (by decide) ?_
          refine lv_iload hx hb dX1_victim_64 (lv_at hl 0 rfl) ?_
          refine lv_isub hx hb dX1_victim_66 ?_
          refine xa_top (y := nI (xmw false V AG TK i)) ((pk_sub (a := 16) hpc).trans rfl) ?_
          exact tail ls (lv_sub hl [0, 1, 2, 3, 4, 5] rfl)
        · rw [xb_n0] at h7
          subst h7
          refine lv_bipush (v := 16) hx hb dX1_victim_33 (by decide) ?_
          refine lv_iload hx hb dX1_victim_35 (lv_at hl 0 rfl) ?_
          refine lv_isub hx hb dX1_victim_37 ?_
          refine lv_aload_n hx hb dX1_victim_38 rfl (lv_at hl 4 rfl) ?_
          refine va_get (D := D) (ci := 1) (v := .int (nI TK)) (C := RX1) (T := TX1) (N := 9) hx hb ht xin_X1 hown hK hP 0 rfl rfl 8 (by decide) (ht _ kfl_RX1_51) (fun _ h9 => h9) rfl dX1_victim_39 ?_
          refine lv_aload_n hx hb dX1_victim_42 rfl (lv_at hl 4 rfl) ?_
          refine va_get (D := D) (ci := 1) (v := .ref (A 4)) (C := RX1) (T := TX1) (N := 9) hx hb ht xin_X1 hown hK hP 0 rfl rfl 5 (by decide) (ht _ kfl_RX1_19) (fun _ h9 => h9) rfl dX1_victim_43 ?_
          refine lv_iload hx hb dX1_victim_46 (lv_at hl 1 rfl) ?_
          refine xa_ild hx hb hK hP 4 3 rfl rfl (v := nI (AG i)) (show i < 128 by omega) (by decide) rfl dX1_victim_48 ?_
          refine lv_isub hx hb dX1_victim_49 ?_
          refine lv_iconst (v := 1) hx hb dX1_victim_50 (by decide) ?_
          refine lv_iadd hx hb dX1_victim_51 ?_
          refine lv_imul hx hb dX1_victim_52 ?_
          refine lv_iload hx hb dX1_victim_53 (lv_at hl 0 rfl) ?_
          refine lv_bipush (v := 16) hx hb dX1_victim_55 (by decide) ?_
          refine lv_iadd hx hb dX1_victim_57 ?_
          refine lv_idiv hx hb dX1_victim_58 (fun z => nI_ne0 (n := xmu V i + 16) (by omega) (by omega) ((nI_add (xmu V i) 16).symm.trans z)) ?_
          refine xa_top (y := nI (xmw true V AG TK i)) ((xworth hpc (hAG i) hTK).trans rfl) ?_
          refine lv_goto (tgt := 67) hx hb dX1_victim_59 (by decide) ?_
          exact tail ls (lv_sub hl [0, 1, 2, 3, 4, 5] rfl)
  exact loop (n + 1) 0 (-1) (-1) (by omega) (by omega) ⟨rfl, rfl⟩ ls (lv_sub hl [0, 1, 2, 3, 4] rfl)

set_option maxHeartbeats 4000000 in
set_option maxRecDepth 100000 in
/-- checkpoint -/
theorem m_checkpoint (l : Launch) (D : va_G) (A : Nat → Nat) (K : Nat → ClassId) (th n : Nat) (V TV TO : Nat → Bool) (AG OP NX : Nat → Nat) (TK : Nat) (hn : n ≤ 128) (hOP : ∀ q, q < 6 → OP q < 128) (hz : ∀ i, 2048 ≤ i → TV i = V i) (hz2 : ∀ j, 128 ≤ j → TO j = false) (sz : Nat) : Met l yX1_checkpoint (xw yX1_checkpoint cX1_checkpoint 2 (some .int)) ({ frames := 3, cells := 0, slots := 0, locals := 68 }) (xk_M [.ref (A 0)] D (xm_T K) (xm_W A K th n V TV TO AG OP NX TK) sz) (xk_Q (fun v => v = some (.int (nI (xcnt (fun j => (xmfr V V (fun _ => false) OP j).toNat) n)))) D (xm_W A K th n V TV TO AG OP NX TK) (xm_W A K 0 n V V (fun _ => false) AG OP NX TK)) 0 0 (va_A (xm_W A K th n V TV TO AG OP NX TK) sz) := by
  refine Met.ofW (cc := cX1_checkpoint) (maxL := 2) (ret := (some .int)) (by decide) rfl ?_
  intro p e s m args below meth c s₁ B0 hml hv
  obtain ⟨rfl, hsz, hP, hK, hD0⟩ := hv
  have hx := B0.exec
  have hb := B0.bytes
  have hr := B0.returns
  have ht : ∀ w ∈ xT, w.before _ s = true := fun w h => atoms_spec (ws := xw yX1_checkpoint cX1_checkpoint 2 (some .int)) B0.pre w (List.mem_cons_of_mem _ h)
  have hown : s.vm.findClass RX1 = some m.cls := findClass_of_methodNamed B0.named
  have hlocks := B0.notSynchronized
  have hl := lv_entry ([.ref (A 0)]) (n := 2) (Nat.le_of_ble_eq_true rfl)
  rw [lg_entry_eq]
  generalize (lg_sl ([.ref (A 0)]) ++ List.replicate (2 - (lg_sl ([.ref (A 0)])).length) Slot.unset).toArray = ls at hl ⊢
  have hl : lv_has ls 2 [(0, .ref (A 0))] := hl
  subst hsz
  have hD := hD0.self (sz := s.heap.size)
  have hA : ∀ q : Nat, s.heap.size ≤ q → va_A (xm_W A K th n V TV TO AG OP NX TK) s.heap.size q := fun q h => Or.inr h
  have hS : va_S (va_A (xm_W A K th n V TV TO AG OP NX TK) s.heap.size) s.heap s.heap [] := va_S.rf
  have loop2 : ∀ (f i : Nat) (TO' : Nat → Bool) (H : Heap) (locs : List Loc), i ≤ 128 → 129 ≤ i + f → (∀ j, j < i → TO' j = false) → (∀ j, i ≤ j → TO' j = TO j) → va_P D xcl (xm_W A K th n V V TO' AG OP NX TK) H → va_D (va_A (xm_W A K th n V TV TO AG OP NX TK) s.heap.size) (xm_W A K th n V V TO' AG OP NX TK) → va_S (va_A (xm_W A K th n V TV TO AG OP NX TK) s.heap.size) s.heap H locs → ∀ ls : Array Slot, lv_has ls 2 [(1, .int (nI i)), (0, .ref (A 0))] → W p l e (headSpec (xw yX1_checkpoint cX1_checkpoint 2 (some .int)) ({ frames := 3, cells := 0, slots := 0, locals := 68 })).room s m ([.ref (A 0)] : List Value).toArray below meth c H locs 0 0 (MQ below (xk_Q (fun v => v = some (.int (nI (xcnt (fun j => (xmfr V V (fun _ => false) OP j).toNat) n)))) D (xm_W A K th n V TV TO AG OP NX TK) (xm_W A K 0 n V V (fun _ => false) AG OP NX TK)) ([.ref (A 0)] : List Value).toArray s 0 0 (va_A (xm_W A K th n V TV TO AG OP NX TK) s.heap.size)) (F0 m 29 ls []) := by
    intro f
    induction f with
    | zero => intro i TO' H locs h1 h2; exact absurd h2 (by omega)
    | succ f ih =>
      intro i TO' H locs hi hf hlo hhi hP hD hS ls hl
      refine lv_iload_n hx hb dX1_checkpoint_29 rfl (lv_at hl 0 rfl) ?_
      refine lv_sipush (v := 128) hx hb dX1_checkpoint_30 (by decide) ?_
      refine lv_icmp_ge (tgt := 49) hx hb dX1_checkpoint_33 (by decide) (fun h1 => ?_) (fun h1 => ?_)
      · have hin : i = 128 := by
          rcases Nat.lt_or_ge i 128 with q | q
          · exact absurd h1 (nI_ge (b := 128) q (by omega))
          · omega
        subst hin
        have eT : TO' = fun _ => false := by
          funext j
          rcases Nat.lt_or_ge j 128 with q | q
          · exact hlo j q
          · rw [hhi j q]; exact hz2 j q
        subst eT
        refine lv_aload_n hx hb dX1_checkpoint_49 rfl (lv_at hl 1 rfl) ?_
        refine xr_M (n := 0) (As := []) (rest := []) ⟨hx, hb, hml, hown, ht⟩ (m_free l D A K th n V V (fun _ => false) AG OP NX TK hn hOP _) (xg_V kml_RX1_57 kim_yX1_free ksl_yX1_free kin_RX1 kco_yX1_free) ⟨rfl, rfl⟩ (by decide +kernel) ⟨Nat.le_of_ble_eq_true rfl, Nat.le_of_ble_eq_true rfl⟩ hP hK hD hS hA rfl rfl rfl rfl hl.1 rfl (Nat.le_of_ble_eq_true rfl) dX1_checkpoint_50 ⟨Nat.zero_le _, Nat.zero_le _⟩ (fun v9 H locs e9 hP hD hS => ?_)
        subst e9
        exact W.iret (v := _) hx hb hr (fun t ht hW => ⟨⟨_, rfl, rfl⟩, by rw [ht]; exact hP, hS.F ht⟩) hS.2.2 dX1_checkpoint_53
      · have hin : i < 128 := by
          rcases Nat.lt_or_ge i 128 with q | q
          · exact q
          · exact absurd (nI_le (a := 128) q (by omega)) h1
        refine lv_aload_n hx hb dX1_checkpoint_36 rfl (lv_at hl 1 rfl) ?_
        refine va_get (D := D) (ci := 1) (v := .ref (A 3)) (C := RX1) (T := TX1) (N := 9) hx hb ht xin_X1 hown hK hP 0 rfl rfl 4 (by decide) (ht _ kfl_RX1_16) (fun _ h9 => h9) rfl dX1_checkpoint_37 ?_
        refine lv_iload_n hx hb dX1_checkpoint_40 rfl (lv_at hl 0 rfl) ?_
        refine lv_iconst (v := 0) hx hb dX1_checkpoint_41 (by decide) ?_
        refine xa_zst hx hb hK hP hD hS 3 2 rfl rfl hin (by decide) (xu_z TO' i false) dX1_checkpoint_42 (fun H locs hP hD hS => ?_)
        have hP : va_P D xcl (xm_W A K th n V V (va_up TO' i false) AG OP NX TK) H := hP
        have hD : va_D (va_A (xm_W A K th n V TV TO AG OP NX TK) s.heap.size) (xm_W A K th n V V (va_up TO' i false) AG OP NX TK) := hD
        refine lv_iinc (v := nI (i + 1)) (lv' := [(1, .int (nI (i + 1))), (0, .ref (A 0))]) hx hb dX1_checkpoint_43 hl (k := 0) rfl (nI_1 i) (by decide) rfl (fun ls hl => ?_)
        refine lv_goto (tgt := 29) hx hb dX1_checkpoint_46 (by decide) ?_
        refine ih (i + 1) (va_up TO' i false) H locs (by omega) (by omega) ?_ ?_ hP hD hS ls (lv_sub hl [0, 1] rfl)
        · intro j hj
          by_cases e : j = i
          · subst e; exact va_up_self _ _ _
          · rw [va_up_ne _ _ e]; exact hlo j (by omega)
        · intro j hj
          rw [va_up_ne _ _ (by omega)]; exact hhi j (by omega)
  have loop : ∀ (f i : Nat) (TV' : Nat → Bool) (H : Heap) (locs : List Loc), i ≤ 2048 → 2049 ≤ i + f → (∀ j, j < i → TV' j = V j) → (∀ j, i ≤ j → TV' j = TV j) → va_P D xcl (xm_W A K th n V TV' TO AG OP NX TK) H → va_D (va_A (xm_W A K th n V TV TO AG OP NX TK) s.heap.size) (xm_W A K th n V TV' TO AG OP NX TK) → va_S (va_A (xm_W A K th n V TV TO AG OP NX TK) s.heap.size) s.heap H locs → ∀ ls : Array Slot, lv_has ls 2 [(1, .int (nI i)), (0, .ref (A 0))] → W p l e (headSpec (xw yX1_checkpoint cX1_checkpoint 2 (some .int)) ({ frames := 3, cells := 0, slots := 0, locals := 68 })).room s m ([.ref (A 0)] : List Value).toArray below meth c H locs 0 0 (MQ below (xk_Q (fun v => v = some (.int (nI (xcnt (fun j => (xmfr V V (fun _ => false) OP j).toNat) n)))) D (xm_W A K th n V TV TO AG OP NX TK) (xm_W A K 0 n V V (fun _ => false) AG OP NX TK)) ([.ref (A 0)] : List Value).toArray s 0 0 (va_A (xm_W A K th n V TV TO AG OP NX TK) s.heap.size)) (F0 m 2 ls []) := by
    intro f
    induction f with
    | zero => intro i TV' H locs h1 h2; exact absurd h2 (by omega)
    | succ f ih =>
      intro i TV' H locs hi hf hlo hhi hP hD hS ls hl
      refine lv_iload_n hx hb dX1_checkpoint_2 rfl (lv_at hl 0 rfl) ?_
      refine lv_sipush (v := 2048) hx hb dX1_checkpoint_3 (by decide) ?_
      refine lv_icmp_ge (tgt := 27) hx hb dX1_checkpoint_6 (by decide) (fun h1 => ?_) (fun h1 => ?_)
      · have hin : i = 2048 := by
          rcases Nat.lt_or_ge i 2048 with q | q
          · exact absurd h1 (nI_ge (b := 2048) q (by omega))
          · omega
        subst hin
        have eT : TV' = V := by
          funext j
          rcases Nat.lt_or_ge j 2048 with q | q
          · exact hlo j q
          · rw [hhi j q]; exact hz j q
        subst eT
        refine lv_iconst (v := 0) hx hb dX1_checkpoint_27 (by decide) ?_
        refine lv_istore_n (lv' := [(1, .int 0), (0, .ref (A 0))]) hx hb dX1_checkpoint_28 rfl hl (by decide) rfl (fun ls hl => ?_)
        exact loop2 129 0 TO H locs (by omega) (by omega) (fun j hj => absurd hj (by omega)) (fun j _ => rfl) hP hD hS ls (lv_sub hl [0, 1] rfl)
      · have hin : i < 2048 := by
          rcases Nat.lt_or_ge i 2048 with q | q
          · exact q
          · exact absurd (nI_le (a := 2048) q (by omega)) h1
        refine lv_aload_n hx hb dX1_checkpoint_9 rfl (lv_at hl 1 rfl) ?_
        refine va_get (D := D) (ci := 1) (v := .ref (A 2)) (C := RX1) (T := TX1) (N := 9) hx hb ht xin_X1 hown hK hP 0 rfl rfl 3 (by decide) (ht _ kfl_RX1_13) (fun _ h9 => h9) rfl dX1_checkpoint_10 ?_
        refine lv_iload_n hx hb dX1_checkpoint_13 rfl (lv_at hl 0 rfl) ?_
        refine lv_aload_n hx hb dX1_checkpoint_14 rfl (lv_at hl 1 rfl) ?_
        refine va_get (D := D) (ci := 1) (v := .ref (A 1)) (C := RX1) (T := TX1) (N := 9) hx hb ht xin_X1 hown hK hP 0 rfl rfl 2 (by decide) (ht _ kfl_RX1_7) (fun _ h9 => h9) rfl dX1_checkpoint_15 ?_
        refine lv_iload_n hx hb dX1_checkpoint_18 rfl (lv_at hl 0 rfl) ?_
        refine xa_zld hx hb hK hP 1 0 rfl rfl (v := xb (V i)) hin (by decide) rfl dX1_checkpoint_19 ?_
        refine xa_zst hx hb hK hP hD hS 2 1 rfl rfl hin (by decide) (xu_z TV' i (V i)) dX1_checkpoint_20 (fun H locs hP hD hS => ?_)
        have hP : va_P D xcl (xm_W A K th n V (va_up TV' i (V i)) TO AG OP NX TK) H := hP
        have hD : va_D (va_A (xm_W A K th n V TV TO AG OP NX TK) s.heap.size) (xm_W A K th n V (va_up TV' i (V i)) TO AG OP NX TK) := hD
        refine lv_iinc (v := nI (i + 1)) (lv' := [(1, .int (nI (i + 1))), (0, .ref (A 0))]) hx hb dX1_checkpoint_21 hl (k := 0) rfl (nI_1 i) (by decide) rfl (fun ls hl => ?_)
        refine lv_goto (tgt := 2) hx hb dX1_checkpoint_24 (by decide) ?_
        refine ih (i + 1) (va_up TV' i (V i)) H locs (by omega) (by omega) ?_ ?_ hP hD hS ls (lv_sub hl [0, 1] rfl)
        · intro j hj
          by_cases e : j = i
          · subst e; exact va_up_self _ _ _
          · rw [va_up_ne _ _ e]; exact hlo j (by omega)
        · intro j hj
          rw [va_up_ne _ _ (by omega)]; exact hhi j (by omega)
  refine lv_iconst (v := 0) hx hb dX1_checkpoint_0 (by decide) ?_
  refine lv_istore_n (lv' := [(1, .int 0), (0, .ref (A 0))]) hx hb dX1_checkpoint_1 rfl hl (by decide) rfl (fun ls hl => ?_)
  exact loop 2049 0 TV s.heap [] (by omega) (by omega) (fun j hj => absurd hj (by omega)) (fun j _ => rfl) hP hD hS ls (lv_sub hl [0, 1] rfl)
end
section
def xml (V TV TO : Nat → Bool) (AG OP : Nat → Nat) (j : Nat) : Nat → Int32
  | 0 => nI (xhc (fun k => V (16 * j + k)) 16)
  | 1 => nI (xhc (fun k => TV (16 * j + k)) 16)
  | 2 => nI (AG j)
  | _ => xb (xtk TO OP j 6)
set_option maxHeartbeats 4000000 in
set_option maxRecDepth 100000 in
/-- look: no such segment or what -/
theorem m_look_bad (l : Launch) (D : va_G) (A : Nat → Nat) (K : Nat → ClassId) (th n : Nat) (V TV TO : Nat → Bool) (AG OP NX : Nat → Nat) (TK : Nat) (hn : n ≤ 128) (x y : Int32) (hbad : ¬ ((∃ j : Nat, j < n ∧ x = nI j) ∧ ∃ v : Nat, v < 4 ∧ y = nI v)) (sz : Nat) : Met l yX1_look (xw yX1_look cX1_look 5 (some .int)) ({ frames := 1, cells := 0, slots := 0, locals := 23 }) (xk_M [.ref (A 0), .int x, .int y] D (xm_T K) (xm_W A K th n V TV TO AG OP NX TK) sz) (xk_Q (fun v => ∃ r : Int32, v = some (.int r)) D (xm_W A K th n V TV TO AG OP NX TK) (xm_W A K 1 n V TV TO AG OP NX TK)) 0 0 (va_A (xm_W A K th n V TV TO AG OP NX TK) sz) := by
  refine Met.ofW (cc := cX1_look) (maxL := 5) (ret := (some .int)) (by decide) rfl ?_
  intro p e s m args below meth c s₁ B0 hml hv
  obtain ⟨rfl, hsz, hP, hK, hD0⟩ := hv
  have hx := B0.exec
  have hb := B0.bytes
  have hr := B0.returns
  have ht : ∀ w ∈ xT, w.before _ s = true := fun w h => atoms_spec (ws := xw yX1_look cX1_look 5 (some .int)) B0.pre w (List.mem_cons_of_mem _ h)
  have hown : s.vm.findClass RX1 = some m.cls := findClass_of_methodNamed B0.named
  have hlocks := B0.notSynchronized
  have hl := lv_entry ([.ref (A 0), .int x, .int y]) (n := 5) (Nat.le_of_ble_eq_true rfl)
  rw [lg_entry_eq]
  generalize (lg_sl ([.ref (A 0), .int x, .int y]) ++ List.replicate (5 - (lg_sl ([.ref (A 0), .int x, .int y])).length) Slot.unset).toArray = ls at hl ⊢
  have hl : lv_has ls 5 [(0, .ref (A 0)), (1, .int x), (2, .int y)] := hl
  subst hsz
  have hD := hD0.self (sz := s.heap.size)
  have hA : ∀ q : Nat, s.heap.size ≤ q → va_A (xm_W A K th n V TV TO AG OP NX TK) s.heap.size q := fun q h => Or.inr h
  have hS : va_S (va_A (xm_W A K th n V TV TO AG OP NX TK) s.heap.size) s.heap s.heap [] := va_S.rf
  have tail : ∀ ls : Array Slot, lv_has ls 5 [(0, .ref (A 0)), (1, .int x), (2, .int y)] → W p l e (headSpec (xw yX1_look cX1_look 5 (some .int)) ({ frames := 1, cells := 0, slots := 0, locals := 23 })).room s m ([.ref (A 0), .int x, .int y] : List Value).toArray below meth c s.heap [] 0 0 (MQ below (xk_Q (fun v => ∃ r : Int32, v = some (.int r)) D (xm_W A K th n V TV TO AG OP NX TK) (xm_W A K 1 n V TV TO AG OP NX TK)) ([.ref (A 0), .int x, .int y] : List Value).toArray s 0 0 (va_A (xm_W A K th n V TV TO AG OP NX TK) s.heap.size)) (F0 m 27 ls [.int (xb true), .ref (A 0)]) := by
    intro ls hl
    refine lv_iconst (v := 0) hx hb dX1_look_27 (by decide) ?_
    refine xr_M (n := 2) (As := [.int (xb true), .int (xb false)]) (rest := []) ⟨hx, hb, hml, hown, ht⟩ (m_throwing l D A K th n V TV TO AG OP NX TK true false _) (xg_V kml_RX1_47 kim_yX1_throwing ksl_yX1_throwing kin_RX1 kco_yX1_throwing) ⟨rfl, rfl⟩ (by decide +kernel) ⟨Nat.le_of_ble_eq_true rfl, Nat.le_of_ble_eq_true rfl⟩ hP hK hD hS hA rfl rfl rfl rfl hl.1 rfl (Nat.le_of_ble_eq_true rfl) dX1_look_28 ⟨Nat.zero_le _, Nat.zero_le _⟩ (fun v9 H locs e9 hP hD hS => ?_)
    subst e9
    refine lv_if_eq (tgt := 36) hx hb dX1_look_31 (by decide) (fun h => by first | exact absurd h (by decide) | exact absurd (by decide) h) (fun _ => ?_)
    refine lv_iconst (v := 0) hx hb dX1_look_34 (by decide) ?_
    exact W.iret (v := 0) hx hb hr (fun t ht hW => ⟨⟨_, rfl, ⟨_, rfl⟩⟩, by rw [ht]; exact hP, hS.F ht⟩) hS.2.2 dX1_look_35
  refine lv_aload_n hx hb dX1_look_0 rfl (lv_at hl 0 rfl) ?_
  refine lv_iload_n hx hb dX1_look_1 rfl (lv_at hl 1 rfl) ?_
  refine lv_if_lt (tgt := 22) hx hb dX1_look_2 (by decide) (fun h1 => ?_) (fun h1 => ?_)
  · refine lv_iconst (v := 1) hx hb dX1_look_22 (by decide) ?_
    refine lv_goto (tgt := 27) hx hb dX1_look_23 (by decide) ?_
    exact tail ls (lv_sub hl [0, 1, 2] rfl)
  · refine lv_iload_n hx hb dX1_look_5 rfl (lv_at hl 1 rfl) ?_
    refine lv_aload_n hx hb dX1_look_6 rfl (lv_at hl 0 rfl) ?_
    refine va_get (D := D) (ci := 1) (v := .int (nI n)) (C := RX1) (T := TX1) (N := 9) hx hb ht xin_X1 hown hK hP 0 rfl rfl 1 (by decide) (ht _ kfl_RX1_29) (fun _ h9 => h9) rfl dX1_look_7 ?_
    refine lv_icmp_ge (tgt := 22) hx hb dX1_look_10 (by decide) (fun h2 => ?_) (fun h2 => ?_)
    · refine lv_iconst (v := 1) hx hb dX1_look_22 (by decide) ?_
      refine lv_goto (tgt := 27) hx hb dX1_look_23 (by decide) ?_
      exact tail ls (lv_sub hl [0, 1, 2] rfl)
    · refine lv_iload_n hx hb dX1_look_13 rfl (lv_at hl 2 rfl) ?_
      refine lv_if_lt (tgt := 22) hx hb dX1_look_14 (by decide) (fun h3 => ?_) (fun h3 => ?_)
      · refine lv_iconst (v := 1) hx hb dX1_look_22 (by decide) ?_
        refine lv_goto (tgt := 27) hx hb dX1_look_23 (by decide) ?_
        exact tail ls (lv_sub hl [0, 1, 2] rfl)
      · refine lv_iload_n hx hb dX1_look_17 rfl (lv_at hl 2 rfl) ?_
        refine lv_iconst (v := 3) hx hb dX1_look_18 (by decide) ?_
        refine lv_icmp_le (tgt := 26) hx hb dX1_look_19 (by decide) (fun h4 => ?_) (fun h4 => ?_)
        · exact absurd ⟨by
            rcases pk_ix x (n := n) (by omega) with q | q | q
            · exact absurd q h1
            · exact absurd q h2
            · exact q, by
            rcases pk_ix y (n := 4) (by decide) with q | q | q
            · exact absurd q h3
            · exact absurd (Int32.le_trans q h4) (by decide)
            · exact q⟩ hbad
        · refine lv_iconst (v := 1) hx hb dX1_look_22 (by decide) ?_
          refine lv_goto (tgt := 27) hx hb dX1_look_23 (by decide) ?_
          exact tail ls (lv_sub hl [0, 1, 2] rfl)

set_option maxHeartbeats 4000000 in
set_option maxRecDepth 100000 in
/-- look -/
theorem m_look_ok (l : Launch) (D : va_G) (A : Nat → Nat) (K : Nat → ClassId) (th n : Nat) (V TV TO : Nat → Bool) (AG OP NX : Nat → Nat) (TK : Nat) (hn : n ≤ 128) (hOP : ∀ q, q < 6 → OP q < 128) (j v0 : Nat) (hj : j < n) (hv : v0 < 4) (sz : Nat) : Met l yX1_look (xw yX1_look cX1_look 5 (some .int)) ({ frames := 1, cells := 0, slots := 0, locals := 23 }) (xk_M [.ref (A 0), .int (nI j), .int (nI v0)] D (xm_T K) (xm_W A K th n V TV TO AG OP NX TK) sz) (xk_Q (fun v => v = some (.int (xml V TV TO AG OP j v0))) D (xm_W A K th n V TV TO AG OP NX TK) (xm_W A K 0 n V TV TO AG OP NX TK)) 0 0 (va_A (xm_W A K th n V TV TO AG OP NX TK) sz) := by
  refine Met.ofW (cc := cX1_look) (maxL := 5) (ret := (some .int)) (by decide) rfl ?_
  intro p e s m args below meth c s₁ B0 hml hv
  obtain ⟨rfl, hsz, hP, hK, hD0⟩ := hv
  have hx := B0.exec
  have hb := B0.bytes
  have hr := B0.returns
  have ht : ∀ w ∈ xT, w.before _ s = true := fun w h => atoms_spec (ws := xw yX1_look cX1_look 5 (some .int)) B0.pre w (List.mem_cons_of_mem _ h)
  have hown : s.vm.findClass RX1 = some m.cls := findClass_of_methodNamed B0.named
  have hlocks := B0.notSynchronized
  have hl := lv_entry ([.ref (A 0), .int (nI j), .int (nI v0)]) (n := 5) (Nat.le_of_ble_eq_true rfl)
  rw [lg_entry_eq]
  generalize (lg_sl ([.ref (A 0), .int (nI j), .int (nI v0)]) ++ List.replicate (5 - (lg_sl ([.ref (A 0), .int (nI j), .int (nI v0)])).length) Slot.unset).toArray = ls at hl ⊢
  have hl : lv_has ls 5 [(0, .ref (A 0)), (1, .int (nI j)), (2, .int (nI v0))] := hl
  subst hsz
  have hD := hD0.self (sz := s.heap.size)
  have hA : ∀ q : Nat, s.heap.size ≤ q → va_A (xm_W A K th n V TV TO AG OP NX TK) s.heap.size q := fun q h => Or.inr h
  have hS : va_S (va_A (xm_W A K th n V TV TO AG OP NX TK) s.heap.size) s.heap s.heap [] := va_S.rf
  refine lv_aload_n hx hb dX1_look_0 rfl (lv_at hl 0 rfl) ?_
  refine lv_iload_n hx hb dX1_look_1 rfl (lv_at hl 1 rfl) ?_
  refine lv_if_lt (tgt := 22) hx hb dX1_look_2 (by decide) (fun h => absurd h (nI_pos (by omega))) (fun _ => ?_)
  refine lv_iload_n hx hb dX1_look_5 rfl (lv_at hl 1 rfl) ?_
  refine lv_aload_n hx hb dX1_look_6 rfl (lv_at hl 0 rfl) ?_
  refine va_get (D := D) (ci := 1) (v := .int (nI n)) (C := RX1) (T := TX1) (N := 9) hx hb ht xin_X1 hown hK hP 0 rfl rfl 1 (by decide) (ht _ kfl_RX1_29) (fun _ h9 => h9) rfl dX1_look_7 ?_
  refine lv_icmp_ge (tgt := 22) hx hb dX1_look_10 (by decide) (fun h => absurd h (nI_ge hj (by omega))) (fun _ => ?_)
  refine lv_iload_n hx hb dX1_look_13 rfl (lv_at hl 2 rfl) ?_
  refine lv_if_lt (tgt := 22) hx hb dX1_look_14 (by decide) (fun h => absurd h (nI_pos (by omega))) (fun _ => ?_)
  refine lv_iload_n hx hb dX1_look_17 rfl (lv_at hl 2 rfl) ?_
  refine lv_iconst (v := 3) hx hb dX1_look_18 (by decide) ?_
  refine lv_icmp_le (tgt := 26) hx hb dX1_look_19 (by decide) (fun _ => ?_) (fun h => absurd (nI_le (b := 3) (by omega) (by decide)) h)
  refine lv_iconst (v := 0) hx hb dX1_look_26 (by decide) ?_
  refine xa_top (y := xb false) rfl ?_
  refine lv_iconst (v := 0) hx hb dX1_look_27 (by decide) ?_
  refine xr_M (n := 2) (As := [.int (xb false), .int (xb false)]) (rest := []) ⟨hx, hb, hml, hown, ht⟩ (m_throwing l D A K th n V TV TO AG OP NX TK false false _) (xg_V kml_RX1_47 kim_yX1_throwing ksl_yX1_throwing kin_RX1 kco_yX1_throwing) ⟨rfl, rfl⟩ (by decide +kernel) ⟨Nat.le_of_ble_eq_true rfl, Nat.le_of_ble_eq_true rfl⟩ hP hK hD hS hA rfl rfl rfl rfl hl.1 rfl (Nat.le_of_ble_eq_true rfl) dX1_look_28 ⟨Nat.zero_le _, Nat.zero_le _⟩ (fun v9 H locs e9 hP hD hS => ?_)
  subst e9
  refine lv_if_eq (tgt := 36) hx hb dX1_look_31 (by decide) (fun _ => ?_) (fun h => by first | exact absurd h (by decide) | exact absurd (by decide) h)
  rcases (show v0 = 0 ∨ v0 = 1 ∨ v0 = 2 ∨ v0 = 3 by omega) with rfl | rfl | rfl | rfl
  · refine lv_iload_n hx hb dX1_look_36 rfl (lv_at hl 2 rfl) ?_
    refine lv_iconst (v := 2) hx hb dX1_look_37 (by decide) ?_
    refine lv_icmp_ne (tgt := 48) hx hb dX1_look_38 (by decide) (fun _ => ?_) (fun h => by first | exact absurd h (by decide) | exact absurd (by decide) h)
    refine lv_iload_n hx hb dX1_look_48 rfl (lv_at hl 2 rfl) ?_
    refine lv_iconst (v := 3) hx hb dX1_look_49 (by decide) ?_
    refine lv_icmp_ne (tgt := 67) hx hb dX1_look_50 (by decide) (fun _ => ?_) (fun h => by first | exact absurd h (by decide) | exact absurd (by decide) h)
    have loop : ∀ (f i : Nat), i ≤ 16 → 17 ≤ i + f → ∀ ls : Array Slot, lv_has ls 5 [(4, .int (xdn i)), (3, .int (nI (xhc (fun k => V (16 * j + k)) i))), (0, .ref (A 0)), (1, .int (nI j)), (2, .int (nI 0))] → W p l e (headSpec (xw yX1_look cX1_look 5 (some .int)) ({ frames := 1, cells := 0, slots := 0, locals := 23 })).room s m ([.ref (A 0), .int (nI j), .int (nI 0)] : List Value).toArray below meth c H locs 0 0 (MQ below (xk_Q (fun v => v = some (.int (xml V TV TO AG OP j 0))) D (xm_W A K th n V TV TO AG OP NX TK) (xm_W A K 0 n V TV TO AG OP NX TK)) ([.ref (A 0), .int (nI j), .int (nI 0)] : List Value).toArray s 0 0 (va_A (xm_W A K th n V TV TO AG OP NX TK) s.heap.size)) (F0 m 73 ls []) := by
      intro f
      induction f with
      | zero => intro i h1 h2; exact absurd h2 (by omega)
      | succ f ih =>
        intro i hi hf ls hl
        refine lv_iload hx hb dX1_look_73 (lv_at hl 0 rfl) ?_
        refine lv_if_lt (tgt := 131) hx hb dX1_look_75 (by decide) (fun h1 => ?_) (fun h1 => ?_)
        · have hin : i = 16 := by
            rcases Nat.lt_or_ge i 16 with q | q
            · exact absurd h1 (xdn_n i q)
            · omega
          subst hin
          refine lv_iload_n hx hb dX1_look_131 rfl (lv_at hl 1 rfl) ?_
          exact W.iret (v := nI (xhc (fun k => V (16 * j + k)) 16)) hx hb hr (fun t ht hW => ⟨⟨_, rfl, rfl⟩, by rw [ht]; exact hP, hS.F ht⟩) hS.2.2 dX1_look_132
        · have hin : i < 16 := by
            rcases Nat.lt_or_ge i 16 with q | q
            · exact q
            · exact absurd (by rw [show i = 16 by omega]; decide) h1
          refine lv_iconst (v := 2) hx hb dX1_look_78 (by decide) ?_
          refine lv_iload_n hx hb dX1_look_79 rfl (lv_at hl 1 rfl) ?_
          refine lv_imul hx hb dX1_look_80 ?_
          refine lv_iload_n hx hb dX1_look_81 rfl (lv_at hl 4 rfl) ?_
          refine lv_if_ne (tgt := 103) hx hb dX1_look_82 (by decide) (fun h => by first | exact absurd h (by decide) | exact absurd (by decide) h) (fun _ => ?_)
          refine lv_aload_n hx hb dX1_look_85 rfl (lv_at hl 2 rfl) ?_
          refine va_get (D := D) (ci := 1) (v := .ref (A 1)) (C := RX1) (T := TX1) (N := 9) hx hb ht xin_X1 hown hK hP 0 rfl rfl 2 (by decide) (ht _ kfl_RX1_7) (fun _ h9 => h9) rfl dX1_look_86 ?_
          refine lv_bipush (v := 16) hx hb dX1_look_89 (by decide) ?_
          refine lv_iload_n hx hb dX1_look_91 rfl (lv_at hl 3 rfl) ?_
          refine lv_imul hx hb dX1_look_92 ?_
          refine lv_iload hx hb dX1_look_93 (lv_at hl 0 rfl) ?_
          refine lv_iadd hx hb dX1_look_95 ?_
          refine xa_top (y := nI (16 * j + (15 - i))) (by rw [xdn_p i hin, xix]) ?_
          refine xa_zld hx hb hK hP 1 0 rfl rfl (v := xb (V (16 * j + (15 - i)))) (show 16 * j + (15 - i) < 2048 by omega) (by decide) rfl dX1_look_96 ?_
          refine lv_if_eq (tgt := 122) hx hb dX1_look_97 (by decide) (fun h2 => ?_) (fun h2 => ?_)
          · rw [xb_0] at h2
            refine lv_iconst (v := 0) hx hb dX1_look_122 (by decide) ?_
            refine lv_iadd hx hb dX1_look_123 ?_
            refine xa_top (y := nI (xhc (fun k => V (16 * j + k)) (i + 1))) (by rw [xhc, h2, show (2 : Int32) = nI 2 from rfl, pk_mul]; exact nI_add _ 0) ?_
            refine lv_istore_n (lv' := [(3, .int (nI (xhc (fun k => V (16 * j + k)) (i + 1)))), (4, .int (xdn i)), (0, .ref (A 0)), (1, .int (nI j)), (2, .int (nI 0))]) hx hb dX1_look_124 rfl hl (by decide) rfl (fun ls hl => ?_)
            refine lv_iinc (v := xdn (i + 1)) (lv' := [(4, .int (xdn (i + 1))), (3, .int (nI (xhc (fun k => V (16 * j + k)) (i + 1)))), (0, .ref (A 0)), (1, .int (nI j)), (2, .int (nI 0))]) hx hb dX1_look_125 hl (k := 1) rfl (xdn_s i hin) (by decide) rfl (fun ls hl => ?_)
            refine lv_goto (tgt := 73) hx hb dX1_look_128 (by decide) ?_
            exact ih (i + 1) (by omega) (by omega) ls (lv_sub hl [0, 1, 2, 3, 4] rfl)
          · rw [xb_n0] at h2
            refine lv_goto (tgt := 118) hx hb dX1_look_100 (by decide) ?_
            refine lv_iconst (v := 1) hx hb dX1_look_118 (by decide) ?_
            refine lv_goto (tgt := 123) hx hb dX1_look_119 (by decide) ?_
            refine lv_iadd hx hb dX1_look_123 ?_
            refine xa_top (y := nI (xhc (fun k => V (16 * j + k)) (i + 1))) (by rw [xhc, h2, show (2 : Int32) = nI 2 from rfl, pk_mul]; exact nI_add _ 1) ?_
            refine lv_istore_n (lv' := [(3, .int (nI (xhc (fun k => V (16 * j + k)) (i + 1)))), (4, .int (xdn i)), (0, .ref (A 0)), (1, .int (nI j)), (2, .int (nI 0))]) hx hb dX1_look_124 rfl hl (by decide) rfl (fun ls hl => ?_)
            refine lv_iinc (v := xdn (i + 1)) (lv' := [(4, .int (xdn (i + 1))), (3, .int (nI (xhc (fun k => V (16 * j + k)) (i + 1)))), (0, .ref (A 0)), (1, .int (nI j)), (2, .int (nI 0))]) hx hb dX1_look_125 hl (k := 1) rfl (xdn_s i hin) (by decide) rfl (fun ls hl => ?_)
            refine lv_goto (tgt := 73) hx hb dX1_look_128 (by decide) ?_
            exact ih (i + 1) (by omega) (by omega) ls (lv_sub hl [0, 1, 2, 3, 4] rfl)
    refine lv_iconst (v := 0) hx hb dX1_look_67 (by decide) ?_
    refine lv_istore_n (lv' := [(3, .int 0), (0, .ref (A 0)), (1, .int (nI j)), (2, .int (nI 0))]) hx hb dX1_look_68 rfl hl (by decide) rfl (fun ls hl => ?_)
    refine lv_bipush (v := 15) hx hb dX1_look_69 (by decide) ?_
    refine lv_istore (lv' := [(4, .int 15), (3, .int 0), (0, .ref (A 0)), (1, .int (nI j)), (2, .int (nI 0))]) hx hb dX1_look_71 hl (by decide) rfl (fun ls hl => ?_)
    exact loop 17 0 (by omega) (by omega) ls (lv_sub hl [0, 1, 2, 3, 4] rfl)
  · refine lv_iload_n hx hb dX1_look_36 rfl (lv_at hl 2 rfl) ?_
    refine lv_iconst (v := 2) hx hb dX1_look_37 (by decide) ?_
    refine lv_icmp_ne (tgt := 48) hx hb dX1_look_38 (by decide) (fun _ => ?_) (fun h => by first | exact absurd h (by decide) | exact absurd (by decide) h)
    refine lv_iload_n hx hb dX1_look_48 rfl (lv_at hl 2 rfl) ?_
    refine lv_iconst (v := 3) hx hb dX1_look_49 (by decide) ?_
    refine lv_icmp_ne (tgt := 67) hx hb dX1_look_50 (by decide) (fun _ => ?_) (fun h => by first | exact absurd h (by decide) | exact absurd (by decide) h)
    have loop : ∀ (f i : Nat), i ≤ 16 → 17 ≤ i + f → ∀ ls : Array Slot, lv_has ls 5 [(4, .int (xdn i)), (3, .int (nI (xhc (fun k => TV (16 * j + k)) i))), (0, .ref (A 0)), (1, .int (nI j)), (2, .int (nI 1))] → W p l e (headSpec (xw yX1_look cX1_look 5 (some .int)) ({ frames := 1, cells := 0, slots := 0, locals := 23 })).room s m ([.ref (A 0), .int (nI j), .int (nI 1)] : List Value).toArray below meth c H locs 0 0 (MQ below (xk_Q (fun v => v = some (.int (xml V TV TO AG OP j 1))) D (xm_W A K th n V TV TO AG OP NX TK) (xm_W A K 0 n V TV TO AG OP NX TK)) ([.ref (A 0), .int (nI j), .int (nI 1)] : List Value).toArray s 0 0 (va_A (xm_W A K th n V TV TO AG OP NX TK) s.heap.size)) (F0 m 73 ls []) := by
      intro f
      induction f with
      | zero => intro i h1 h2; exact absurd h2 (by omega)
      | succ f ih =>
        intro i hi hf ls hl
        refine lv_iload hx hb dX1_look_73 (lv_at hl 0 rfl) ?_
        refine lv_if_lt (tgt := 131) hx hb dX1_look_75 (by decide) (fun h1 => ?_) (fun h1 => ?_)
        · have hin : i = 16 := by
            rcases Nat.lt_or_ge i 16 with q | q
            · exact absurd h1 (xdn_n i q)
            · omega
          subst hin
          refine lv_iload_n hx hb dX1_look_131 rfl (lv_at hl 1 rfl) ?_
          exact W.iret (v := nI (xhc (fun k => TV (16 * j + k)) 16)) hx hb hr (fun t ht hW => ⟨⟨_, rfl, rfl⟩, by rw [ht]; exact hP, hS.F ht⟩) hS.2.2 dX1_look_132
        · have hin : i < 16 := by
            rcases Nat.lt_or_ge i 16 with q | q
            · exact q
            · exact absurd (by rw [show i = 16 by omega]; decide) h1
          refine lv_iconst (v := 2) hx hb dX1_look_78 (by decide) ?_
          refine lv_iload_n hx hb dX1_look_79 rfl (lv_at hl 1 rfl) ?_
          refine lv_imul hx hb dX1_look_80 ?_
          refine lv_iload_n hx hb dX1_look_81 rfl (lv_at hl 4 rfl) ?_
          refine lv_if_ne (tgt := 103) hx hb dX1_look_82 (by decide) (fun _ => ?_) (fun h => by first | exact absurd h (by decide) | exact absurd (by decide) h)
          refine lv_aload_n hx hb dX1_look_103 rfl (lv_at hl 2 rfl) ?_
          refine va_get (D := D) (ci := 1) (v := .ref (A 2)) (C := RX1) (T := TX1) (N := 9) hx hb ht xin_X1 hown hK hP 0 rfl rfl 3 (by decide) (ht _ kfl_RX1_13) (fun _ h9 => h9) rfl dX1_look_104 ?_
          refine lv_bipush (v := 16) hx hb dX1_look_107 (by decide) ?_
          refine lv_iload_n hx hb dX1_look_109 rfl (lv_at hl 3 rfl) ?_
          refine lv_imul hx hb dX1_look_110 ?_
          refine lv_iload hx hb dX1_look_111 (lv_at hl 0 rfl) ?_
          refine lv_iadd hx hb dX1_look_113 ?_
          refine xa_top (y := nI (16 * j + (15 - i))) (by rw [xdn_p i hin, xix]) ?_
          refine xa_zld hx hb hK hP 2 1 rfl rfl (v := xb (TV (16 * j + (15 - i)))) (show 16 * j + (15 - i) < 2048 by omega) (by decide) rfl dX1_look_114 ?_
          refine lv_if_eq (tgt := 122) hx hb dX1_look_115 (by decide) (fun h2 => ?_) (fun h2 => ?_)
          · rw [xb_0] at h2
            refine lv_iconst (v := 0) hx hb dX1_look_122 (by decide) ?_
            refine lv_iadd hx hb dX1_look_123 ?_
            refine xa_top (y := nI (xhc (fun k => TV (16 * j + k)) (i + 1))) (by rw [xhc, h2, show (2 : Int32) = nI 2 from rfl, pk_mul]; exact nI_add _ 0) ?_
            refine lv_istore_n (lv' := [(3, .int (nI (xhc (fun k => TV (16 * j + k)) (i + 1)))), (4, .int (xdn i)), (0, .ref (A 0)), (1, .int (nI j)), (2, .int (nI 1))]) hx hb dX1_look_124 rfl hl (by decide) rfl (fun ls hl => ?_)
            refine lv_iinc (v := xdn (i + 1)) (lv' := [(4, .int (xdn (i + 1))), (3, .int (nI (xhc (fun k => TV (16 * j + k)) (i + 1)))), (0, .ref (A 0)), (1, .int (nI j)), (2, .int (nI 1))]) hx hb dX1_look_125 hl (k := 1) rfl (xdn_s i hin) (by decide) rfl (fun ls hl => ?_)
            refine lv_goto (tgt := 73) hx hb dX1_look_128 (by decide) ?_
            exact ih (i + 1) (by omega) (by omega) ls (lv_sub hl [0, 1, 2, 3, 4] rfl)
          · rw [xb_n0] at h2
            refine lv_iconst (v := 1) hx hb dX1_look_118 (by decide) ?_
            refine lv_goto (tgt := 123) hx hb dX1_look_119 (by decide) ?_
            refine lv_iadd hx hb dX1_look_123 ?_
            refine xa_top (y := nI (xhc (fun k => TV (16 * j + k)) (i + 1))) (by rw [xhc, h2, show (2 : Int32) = nI 2 from rfl, pk_mul]; exact nI_add _ 1) ?_
            refine lv_istore_n (lv' := [(3, .int (nI (xhc (fun k => TV (16 * j + k)) (i + 1)))), (4, .int (xdn i)), (0, .ref (A 0)), (1, .int (nI j)), (2, .int (nI 1))]) hx hb dX1_look_124 rfl hl (by decide) rfl (fun ls hl => ?_)
            refine lv_iinc (v := xdn (i + 1)) (lv' := [(4, .int (xdn (i + 1))), (3, .int (nI (xhc (fun k => TV (16 * j + k)) (i + 1)))), (0, .ref (A 0)), (1, .int (nI j)), (2, .int (nI 1))]) hx hb dX1_look_125 hl (k := 1) rfl (xdn_s i hin) (by decide) rfl (fun ls hl => ?_)
            refine lv_goto (tgt := 73) hx hb dX1_look_128 (by decide) ?_
            exact ih (i + 1) (by omega) (by omega) ls (lv_sub hl [0, 1, 2, 3, 4] rfl)
    refine lv_iconst (v := 0) hx hb dX1_look_67 (by decide) ?_
    refine lv_istore_n (lv' := [(3, .int 0), (0, .ref (A 0)), (1, .int (nI j)), (2, .int (nI 1))]) hx hb dX1_look_68 rfl hl (by decide) rfl (fun ls hl => ?_)
    refine lv_bipush (v := 15) hx hb dX1_look_69 (by decide) ?_
    refine lv_istore (lv' := [(4, .int 15), (3, .int 0), (0, .ref (A 0)), (1, .int (nI j)), (2, .int (nI 1))]) hx hb dX1_look_71 hl (by decide) rfl (fun ls hl => ?_)
    exact loop 17 0 (by omega) (by omega) ls (lv_sub hl [0, 1, 2, 3, 4] rfl)
  · refine lv_iload_n hx hb dX1_look_36 rfl (lv_at hl 2 rfl) ?_
    refine lv_iconst (v := 2) hx hb dX1_look_37 (by decide) ?_
    refine lv_icmp_ne (tgt := 48) hx hb dX1_look_38 (by decide) (fun h => by first | exact absurd h (by decide) | exact absurd (by decide) h) (fun _ => ?_)
    refine lv_aload_n hx hb dX1_look_41 rfl (lv_at hl 0 rfl) ?_
    refine va_get (D := D) (ci := 1) (v := .ref (A 4)) (C := RX1) (T := TX1) (N := 9) hx hb ht xin_X1 hown hK hP 0 rfl rfl 5 (by decide) (ht _ kfl_RX1_19) (fun _ h9 => h9) rfl dX1_look_42 ?_
    refine lv_iload_n hx hb dX1_look_45 rfl (lv_at hl 1 rfl) ?_
    refine xa_ild hx hb hK hP 4 3 rfl rfl (v := nI (AG j)) (show j < 128 by omega) (by decide) rfl dX1_look_46 ?_
    exact W.iret (v := nI (AG j)) hx hb hr (fun t ht hW => ⟨⟨_, rfl, rfl⟩, by rw [ht]; exact hP, hS.F ht⟩) hS.2.2 dX1_look_47
  · refine lv_iload_n hx hb dX1_look_36 rfl (lv_at hl 2 rfl) ?_
    refine lv_iconst (v := 2) hx hb dX1_look_37 (by decide) ?_
    refine lv_icmp_ne (tgt := 48) hx hb dX1_look_38 (by decide) (fun _ => ?_) (fun h => by first | exact absurd h (by decide) | exact absurd (by decide) h)
    refine lv_iload_n hx hb dX1_look_48 rfl (lv_at hl 2 rfl) ?_
    refine lv_iconst (v := 3) hx hb dX1_look_49 (by decide) ?_
    refine lv_icmp_ne (tgt := 67) hx hb dX1_look_50 (by decide) (fun h => by first | exact absurd h (by decide) | exact absurd (by decide) h) (fun _ => ?_)
    refine lv_aload_n hx hb dX1_look_53 rfl (lv_at hl 0 rfl) ?_
    refine lv_iload_n hx hb dX1_look_54 rfl (lv_at hl 1 rfl) ?_
    refine xr_V (n := 1) (As := [.int (nI j)]) (rest := []) ⟨hx, hb, hml, hown, ht⟩ (m_isTaken l D A K 0 n V TV TO AG OP NX TK hOP j (by omega)) (xg_V kml_RX1_36 kim_yX1_isTaken ksl_yX1_isTaken kin_RX1 kco_yX1_isTaken) ⟨rfl, rfl⟩ (by decide +kernel) ⟨Nat.le_of_ble_eq_true rfl, Nat.le_of_ble_eq_true rfl⟩ (xk_preV hP hK rfl rfl) rfl hl.1 rfl (Nat.le_of_ble_eq_true rfl) dX1_look_55 ⟨Nat.le_of_ble_eq_true rfl, Nat.le_of_ble_eq_true rfl⟩ (fun r1 e1 => ?_)
    subst e1
    refine lv_if_eq (tgt := 65) hx hb dX1_look_58 (by decide) (fun h2 => ?_) (fun h2 => ?_)
    · refine lv_iconst (v := 0) hx hb dX1_look_65 (by decide) ?_
      exact W.iret (v := 0) hx hb hr (fun t ht hW => ⟨⟨_, rfl, by rw [xb_0] at h2; simp [xml, h2, xb]⟩, by rw [ht]; exact hP, hS.F ht⟩) hS.2.2 dX1_look_66
    · refine lv_iconst (v := 1) hx hb dX1_look_61 (by decide) ?_
      refine lv_goto (tgt := 66) hx hb dX1_look_62 (by decide) ?_
      exact W.iret (v := 1) hx hb hr (fun t ht hW => ⟨⟨_, rfl, by rw [xb_n0] at h2; simp [xml, h2, xb]⟩, by rw [ht]; exact hP, hS.F ht⟩) hS.2.2 dX1_look_66
end
section
/-! THE LAW'S OWN SMALL METHODS: their worlds (the object's cells, then the cell of one long) -/
def xo_W (ob : Nat) (kO : ClassId) (f : Nat → Int64) : va_W := [(ob, .inl (kO, 1, .inr (.inl f)))]
def xwH (y : MethodName) (b : ByteArray) (n : Nat) (r : Option FieldType) (hs : List (Nat × Nat × Nat × Nat)) : List Cond := .codeWith y b n r hs :: xT
theorem xg_SH {own : String} {i : Nat} {y : MethodName} {b : ByteArray} {n : Nat} {r : Option FieldType} {hs : List (Nat × Nat × Nat × Nat)} (h1 : .methodLink own i y ∈ xT) (h2 : .static y ∈ xT) (h4 : .initialized y.cls ∈ xT) (h5 : .codeWith y b n r hs ∈ xT) : GoodIn xT (va_wsS own i y (xwH y b n r hs)) := fun w hw =>
  (List.mem_append.mp hw).elim (fun h => by
    rcases List.mem_cons.mp h with rfl | h
    · exact xT_good _ h1
    rcases List.mem_cons.mp h with rfl | h
    · exact xT_good _ h2
    rcases List.mem_cons.mp h with rfl | h
    · exact xT_good _ h4
    cases h) (fun h => (List.mem_cons.mp h).elim (fun e => by rw [e]; exact xT_good _ h5) (fun h => xT_good w h))
theorem xP_l {D : va_G} {a b : va_W} {H : Heap} (h : va_P D xcl (a ++ b) H) : va_P D xcl a H := fun k q hk => h k q (by rw [List.getElem?_append_left (List.getElem?_eq_some_iff.mp hk).1]; exact hk)
theorem xP_r {D : va_G} {a b : va_W} {H : Heap} (h : va_P D xcl (a ++ b) H) : va_P D xcl b H := fun k q hk => h (a.length + k) q (by rw [List.getElem?_append_right (by omega), Nat.add_sub_cancel_left]; exact hk)
theorem xD_l {A : Nat → Prop} {a b : va_W} (h : va_D A (a ++ b)) : va_D A a := by
  have key : ∀ (k : Nat) (q : Nat × va_E), a[k]? = some q → (a ++ b)[k]? = some q := fun k q hk => by rw [List.getElem?_append_left (List.getElem?_eq_some_iff.mp hk).1]; exact hk
  exact ⟨fun i j x y hx hy => h.1 i j x y (key i x hx) (key j y hy), fun k q hk => h.2 k q (key k q hk)⟩
theorem xD_r {A : Nat → Prop} {a b : va_W} (h : va_D A (a ++ b)) : va_D A b := by
  have key : ∀ (k : Nat) (q : Nat × va_E), b[k]? = some q → (a ++ b)[a.length + k]? = some q := fun k q hk => by rw [List.getElem?_append_right (by omega), Nat.add_sub_cancel_left]; exact hk
  exact ⟨fun i j x y hx hy e => by have := h.1 (a.length + i) (a.length + j) x y (key i x hx) (key j y hy) e; omega, fun k q hk => h.2 _ q (key k q hk)⟩
/-- what a call on the cells a leaves alone: b behind it, or ahead -/
theorem xP_keepR {D : va_G} {A : Nat → Prop} {a b : va_W} {H H1 : Heap} (hD : va_D A (a ++ b)) (hP : va_P D xcl b H) (hk : ∀ q : Nat, q < H.size → ¬ va_A a H.size q → H1[q]? = H[q]?) : va_P D xcl b H1 := by
  refine hP.kept (fun k q hq => ?_)
  have hlt := (hP k q hq).lt
  refine hk q.1 hlt ?_
  rintro (⟨k', e', h'⟩ | h')
  · have h1 : (a ++ b)[k']? = some (q.1, e') := by rw [List.getElem?_append_left (List.getElem?_eq_some_iff.mp h').1]; exact h'
    have h2 : (a ++ b)[a.length + k]? = some q := by rw [List.getElem?_append_right (by omega), Nat.add_sub_cancel_left]; exact hq
    have := hD.1 k' (a.length + k) _ _ h1 h2 rfl
    have := (List.getElem?_eq_some_iff.mp h').1
    omega
  · omega
theorem xP_keepL {D : va_G} {A : Nat → Prop} {a b : va_W} {H H1 : Heap} (hD : va_D A (a ++ b)) (hP : va_P D xcl a H) (hk : ∀ q : Nat, q < H.size → ¬ va_A b H.size q → H1[q]? = H[q]?) : va_P D xcl a H1 := by
  refine hP.kept (fun k q hq => ?_)
  have hlt := (hP k q hq).lt
  refine hk q.1 hlt ?_
  rintro (⟨k', e', h'⟩ | h')
  · have h1 : (a ++ b)[k]? = some q := by rw [List.getElem?_append_left (List.getElem?_eq_some_iff.mp hq).1]; exact hq
    have h2 : (a ++ b)[a.length + k']? = some (q.1, e') := by rw [List.getElem?_append_right (by omega), Nat.add_sub_cancel_left]; exact h'
    have := hD.1 k (a.length + k') _ _ h1 h2 rfl
    have := (List.getElem?_eq_some_iff.mp hq).1
    omega
  · omega
def xk_MX (As : List Value) (D : va_G) (tys : List (ClassId × FieldType)) (ws : va_W) (sz sz0 : Nat) (sa : Nat → Nat) : Array Value → State → Prop := va_Pc As (fun U => U.heap.size = sz ∧ va_P D xcl ws U.heap ∧ va_K D xcl tys U ∧ va_D (fun _ => True) ws ∧ xS sz0 sa U)
theorem xk_blindMX {As : List Value} {D : va_G} {tys : List (ClassId × FieldType)} {ws : va_W} {sz sz0 : Nat} {sa : Nat → Nat} : FrameBlind (xk_MX As D tys ws sz sz0 sa) := fun a U g mk q => by obtain ⟨q0, q1, qP, qK, qD, qS⟩ := q; exact ⟨q0, q1, qP, va_K.moved (u := U) (U := U.calling g mk a) (Vm.Alike.refl U.vm) qK, qD, xS_same qS rfl rfl⟩
theorem xk_preMX {s : State} {H : Heap} {As : List Value} {D : va_G} {tys : List (ClassId × FieldType)} {ws : va_W} {sz0 : Nat} {sa : Nat → Nat} {A0 : Nat → Prop} (hP : va_P D xcl ws H) (hK : va_K D xcl tys s) (hD : va_D A0 ws) (hX : xS sz0 sa s) (hH : ∀ q : Nat, q < s.heap.size → q < sz0 → H[q]? = s.heap[q]?) : PreS s H (xk_MX As D tys ws H.size sz0 sa) As := ⟨xk_blindMX, fun U hU hW => ⟨rfl, by rw [hU], by rw [hU]; exact hP, va_K.moved hW.alike hK, hD.weaken (fun _ _ _ _ => trivial), xS_to hX hW (fun q h1 h2 => by rw [hU]; exact hH q h1 h2)⟩⟩
/-- a contract of a method with handlers -/
theorem xt_ofWith {l : Launch} {y : MethodName} {ws ws' : List Cond} {rm : Room} {Pc : Array Value → State → Prop} {Qc : Array Value → State → Outcome → State → Prop} {mc ms : Nat} {free : Addr → Prop} {cc : ByteArray} {maxL : Nat} {ret : Option FieldType} {hs : List (Nat × Nat × Nat × Nat)}
    (hy : plainName y.cls = true) (hw : ws = Cond.codeWith y cc maxL ret hs :: ws')
    (body : ∀ p e s m args below meth c s₁, BodyLoose p l y (headSpec ws rm) cc maxL ret e s m args below meth c s₁ → c.maxLocals = maxL → c.exceptionTable.toList = tableOf hs → Pc args s →
      W p l e (headSpec ws rm).room s m args below meth c s.heap [] 0 0 (MQ below Qc args s mc ms free) (entryFrame m args maxL)) : Met l y ws rm Pc Qc mc ms free := by
  refine MetFree.of_bodyS (code := cc) (maxLocals := maxL) (ret := ret) hy ?_ ?_
  · intro args s m h hn
    obtain ⟨m', meth, c, hn', h1, h2, h3, h4, -, h5, h6, -⟩ := Cond.codeWith_spec (atoms_spec (ws := ws) h _ (by rw [hw]; exact List.mem_cons_self))
    cases hn.symm.trans hn'
    exact ⟨meth, c, h1, h2, h3, h4, h5, h6⟩
  · intro p e s m args below meth c s₁ B hml hP _
    have hh0 : s₁.heap = s.heap := by rw [B.state]; rfl
    have ht := vx_table (x := y) B (atoms_spec (ws := ws) B.pre _ (by rw [hw]; exact List.mem_cons_self))
    obtain ⟨t, a1, o, b1, b2, b3⟩ := body p e s m args below meth c s₁ B hml ht hP s₁ hh0 (Stand.of_body B)
    exact ⟨t, o, a1, b1, b2, ⟨b3.1, b3.2⟩⟩
section XH
variable {p : Program} {l : Launch} {e : Env} {R : Room} {s : State} {m : MethodId} {args : Array Value} {below : List Frame} {meth : Method} {c : Code} {Q : State → Prop}
variable {pc : Nat} {ls : Array Slot} {rest st0 : List Value} {a : Array Value}
/-- the call throws E0; the table's row x behind pre catches it -/
theorem xh_i {E0 : String} {pre suf : List ExceptionTableEntry} {x : ExceptionTableEntry} (hr : vx_Run p l e R s m args below meth c s.heap [] 0 0 1 6 (F0 m pc ls st0) rest (xt_i a) (xt_X E0) (fun _ => False)) (hown : s.vm.findClass RL = some m.cls) (htab : c.exceptionTable.toList = pre ++ x :: suf)
    (hpass : ∀ z ∈ pre, covers z pc = false ∨ (z.catchType ≠ 0 ∧ ∃ nm : String, (Cond.classLink RL z.catchType nm).before args s = true ∧ va_Nc E0 nm s)) (hx : covers x pc = true) (h0 : x.catchType ≠ 0) (hlink : (Cond.classLink RL x.catchType E0).before args s = true) (hcast : (Cond.castable E0 E0).before args s = true)
    (kk : ∀ (y : Nat) (H1 : Heap) (locs1 : List Loc), va_S (fun _ => False) s.heap H1 locs1 → W p l e R s m args below meth c H1 locs1 1 6 Q (F0 m x.handlerPc ls [.ref y])) : W p l e R s m args below meth c s.heap [] 0 0 Q (F0 m pc ls st0) := by
  refine vx_calli (A0 := fun _ => False) hr va_S.rf (fun _ _ h => h) (fun _ h => h) (fun _ _ h => h) ?_ ?_
  · intro E ce q9 u t H1 locs1 ht hvm hpx hBX hz hk hS hcell hv hcl
    cases hBX
    exact vx_catch hown pre x suf htab hpass hx h0 hlink hcast hcell hv hcl (kk q9 H1 locs1 hS)
  · intro r u t H1 locs1 ht hvm hw
    exact hw.elim
theorem xh_v {E0 : String} {pre suf : List ExceptionTableEntry} {x : ExceptionTableEntry} (hr : vx_Run p l e R s m args below meth c s.heap [] 0 0 1 6 (F0 m pc ls st0) rest (xt_v a) (xt_X E0) (fun _ => False)) (hown : s.vm.findClass RL = some m.cls) (htab : c.exceptionTable.toList = pre ++ x :: suf)
    (hpass : ∀ z ∈ pre, covers z pc = false ∨ (z.catchType ≠ 0 ∧ ∃ nm : String, (Cond.classLink RL z.catchType nm).before args s = true ∧ va_Nc E0 nm s)) (hx : covers x pc = true) (h0 : x.catchType ≠ 0) (hlink : (Cond.classLink RL x.catchType E0).before args s = true) (hcast : (Cond.castable E0 E0).before args s = true)
    (kk : ∀ (y : Nat) (H1 : Heap) (locs1 : List Loc), va_S (fun _ => False) s.heap H1 locs1 → W p l e R s m args below meth c H1 locs1 1 6 Q (F0 m x.handlerPc ls [.ref y])) : W p l e R s m args below meth c s.heap [] 0 0 Q (F0 m pc ls st0) := by
  refine vx_callv (A0 := fun _ => False) hr va_S.rf (fun _ _ h => h) (fun _ h => h) (fun _ _ h => h) ?_ ?_
  · intro E ce q9 u t H1 locs1 ht hvm hpx hBX hz hk hS hcell hv hcl
    cases hBX
    exact vx_catch hown pre x suf htab hpass hx h0 hlink hcast hcell hv hcl (kk q9 H1 locs1 hS)
  · intro u t H1 locs1 ht hvm hw
    exact hw.elim
end XH
end
section
set_option maxHeartbeats 4000000 in
set_option maxRecDepth 100000 in
/-- cell(script, 0) -/
theorem h_cell (l : Launch) (b L : Nat) (xs : Nat → Int32) (hL : L < 2 ^ 31) : Met l yL_cell (xw yL_cell cL_cell 2 (some .int)) ({ frames := 0, cells := 0, slots := 0, locals := 0 }) (va_Pc [.ref b, .int 0] (fun U => va_X b L xs U U.heap)) (vp_Si (fun r => r = if 0 < L then xs 0 else 0)) 0 0 (fun _ => False) := by
  refine Met.ofW (cc := cL_cell) (maxL := 2) (ret := (some .int)) (by decide) rfl ?_
  intro p e s m args below meth c s₁ B0 hml hv
  obtain ⟨rfl, hX⟩ := hv
  have hx := B0.exec
  have hb := B0.bytes
  have hr := B0.returns
  have hlocks := B0.notSynchronized
  have hbl : b < s.heap.size := by obtain ⟨scr, h1, -⟩ := hX; exact (Array.getElem?_eq_some_iff.mp h1).1
  have hS : va_S (fun _ => False) s.heap s.heap [] := va_S.rf
  have hl := lv_entry ([.ref b, .int 0]) (n := 2) (Nat.le_of_ble_eq_true rfl)
  rw [lg_entry_eq]
  generalize (lg_sl ([.ref b, .int 0]) ++ List.replicate (2 - (lg_sl ([.ref b, .int 0])).length) Slot.unset).toArray = ls at hl ⊢
  have hl : lv_has ls 2 [(0, .ref b), (1, .int 0)] := hl
  refine lv_iload_n hx hb dL_cell_0 rfl (lv_at hl 1 rfl) ?_
  refine lv_aload_n hx hb dL_cell_1 rfl (lv_at hl 0 rfl) ?_
  refine va_slen (A := fun _ => False) hx hb hX hbl id hS dL_cell_2 ?_
  refine lv_icmp_ge (tgt := 12) hx hb dL_cell_3 (by decide) (fun h1 => ?_) (fun h1 => ?_)
  · have hz : L = 0 := by
      rcases Nat.eq_zero_or_pos L with q | q
      · exact q
      · exact absurd h1 (nI_nle q hL)
    refine lv_iconst (v := 0) hx hb dL_cell_12 (by decide) ?_
    exact W.iret (v := 0) hx hb hr (fun t ht hW => ⟨0, rfl, (by rw [hz]; rfl), ht⟩) (fun _ h => by cases h) dL_cell_13
  · have hz : 0 < L := by
      rcases Nat.eq_zero_or_pos L with q | q
      · exact absurd (by rw [q]; decide) h1
      · exact q
    refine lv_aload_n hx hb dL_cell_6 rfl (lv_at hl 0 rfl) ?_
    refine lv_iload_n hx hb dL_cell_7 rfl (lv_at hl 1 rfl) ?_
    refine va_sld (A := fun _ => False) hx hb hX hbl id hS (vp_in_nI (n := 0) hz hL) dL_cell_8 ?_
    refine lv_goto (tgt := 13) hx hb dL_cell_9 (by decide) ?_
    exact W.iret (v := xs 0) hx hb hr (fun t ht hW => ⟨xs 0, rfl, (by rw [if_pos hz]), ht⟩) (fun _ h => by cases h) dL_cell_13

set_option maxHeartbeats 4000000 in
set_option maxRecDepth 100000 in
/-- next -/
theorem h_next_ok (l : Launch) (D : va_G) (A : Nat → Nat) (K : Nat → ClassId) (n : Nat) (U TH AG : Nat → Nat) (Z : Nat → Bool) (B : Nat → Nat) (TK : Nat) (q : Nat) (hq : q < 6) (ob : Nat) (kO : ClassId) (f : Nat → Int64) (sz : Nat) : Met l yL_next (xwH yL_next cL_next 4 (some .int) [(0, 9, 12, 13)]) ({ frames := 2, cells := 0, slots := 0, locals := 41 }) (xk_M [.ref (A 0), .int (nI q), .ref ob] D (xc_T K ++ [(kO, .long)]) (xc_W A K n U TH AG Z B TK ++ xo_W ob kO f) sz) (xk_Q (fun v => v = some (.int 0)) D (xc_W A K n U TH AG Z B TK ++ xo_W ob kO f) (xc_W A K n U TH AG Z B TK ++ xo_W ob kO (vp_updL f 0 ((nI (B q)).toInt64)))) 0 0 (va_A (xc_W A K n U TH AG Z B TK ++ xo_W ob kO f) sz) := by
  refine xt_ofWith (cc := cL_next) (maxL := 4) (ret := some .int) (hs := [(0, 9, 12, 13)]) (by decide) rfl ?_
  intro p e s m args below meth c s₁ B0 hml htab hv
  obtain ⟨rfl, hsz, hP, hK, hD0⟩ := hv
  have hx := B0.exec
  have hb := B0.bytes
  have hr := B0.returns
  have ht : ∀ w ∈ xT, w.before _ s = true := fun w h => atoms_spec (ws := xwH yL_next cL_next 4 (some .int) [(0, 9, 12, 13)]) B0.pre w (List.mem_cons_of_mem _ h)
  have hown : s.vm.findClass RL = some m.cls := findClass_of_methodNamed B0.named
  have hlocks := B0.notSynchronized
  subst hsz
  have hD := hD0.self (sz := s.heap.size)
  have hA : ∀ q : Nat, s.heap.size ≤ q → va_A (xc_W A K n U TH AG Z B TK ++ xo_W ob kO f) s.heap.size q := fun q h => Or.inr h
  have hS : va_S (va_A (xc_W A K n U TH AG Z B TK ++ xo_W ob kO f) s.heap.size) s.heap s.heap [] := va_S.rf
  have hPc := xP_l hP
  have hDc := xD_l hD
  have hKc : va_K D xcl (xc_T K) s := hK.sub [0, 1, 2, 3, 4] rfl
  have hl := lv_entry ([.ref (A 0), .int (nI q), .ref ob]) (n := 4) (Nat.le_of_ble_eq_true rfl)
  rw [lg_entry_eq]
  generalize (lg_sl ([.ref (A 0), .int (nI q), .ref ob]) ++ List.replicate (4 - (lg_sl ([.ref (A 0), .int (nI q), .ref ob])).length) Slot.unset).toArray = ls at hl ⊢
  have hl : lv_has ls 4 [(0, .ref (A 0)), (1, .int (nI q)), (2, .ref ob)] := hl
  refine lv_aload_n hx hb dL_next_0 rfl (lv_at hl 2 rfl) ?_
  refine lv_iconst (v := 0) hx hb dL_next_1 (by decide) ?_
  refine lv_aload_n hx hb dL_next_2 rfl (lv_at hl 0 rfl) ?_
  refine lv_iload_n hx hb dL_next_3 rfl (lv_at hl 1 rfl) ?_
  refine xr_V (n := 1) (As := [.int (nI q)]) (rest := [.int 0, .ref ob]) ⟨hx, hb, hml, hown, ht⟩ (c_next_ok l D A K n U TH AG Z B TK q hq) (xg_V kml_RL_17 kim_yX0_next ksl_yX0_next kin_RX0 kco_yX0_next) ⟨rfl, rfl⟩ (by decide +kernel) ⟨Nat.le_of_ble_eq_true rfl, Nat.le_of_ble_eq_true rfl⟩ (xk_preV hPc hKc rfl rfl) rfl hl.1 rfl (Nat.le_of_ble_eq_true rfl) dL_next_4 ⟨Nat.le_of_ble_eq_true rfl, Nat.le_of_ble_eq_true rfl⟩ (fun r1 e1 => ?_)
  subst e1
  refine lv_i2l hx hb dL_next_7 rfl ?_
  refine va_last (i := 0) hx hb hK hP hD hS 6 5 rfl rfl (vp_in_nI (n := 0) (by decide) (by decide)) dL_next_8 (fun H locs hP hD hS => ?_)
  have hP : va_P D xcl (xc_W A K n U TH AG Z B TK ++ xo_W ob kO (vp_updL f 0 ((nI (B q)).toInt64))) H := hP
  refine lv_goto (tgt := 15) hx hb dL_next_9 (by decide) ?_
  refine lv_iconst (v := 0) hx hb dL_next_15 (by decide) ?_
  exact W.iret (v := 0) hx hb hr (fun t ht hW => ⟨⟨_, rfl, rfl⟩, by rw [ht]; exact hP, hS.F ht⟩) hS.2.2 dL_next_16

set_option maxHeartbeats 4000000 in
set_option maxRecDepth 100000 in
/-- next -/
theorem h_next_bad (l : Launch) (D : va_G) (A : Nat → Nat) (K : Nat → ClassId) (n : Nat) (U TH AG : Nat → Nat) (Z : Nat → Bool) (B : Nat → Nat) (TK : Nat) (x : Int32) (hbad : ¬ ∃ j : Nat, j < 6 ∧ x = nI j) (ob : Nat) (kO : ClassId) (f : Nat → Int64) (sz : Nat) (sz0 : Nat) (sa : Nat → Nat) (hl0 : l.stackTraces = false) : Met l yL_next (xwH yL_next cL_next 4 (some .int) [(0, 9, 12, 13)]) ({ frames := 7, cells := 1, slots := 6, locals := 111 }) (xk_MX [.ref (A 0), .int x, .ref ob] D (xc_T K ++ [(kO, .long)]) (xc_W A K n U TH AG Z B TK ++ xo_W ob kO f) sz sz0 sa) (xk_Q (fun v => v = some (.int 1)) D (xc_W A K n U TH AG Z B TK ++ xo_W ob kO f) (xc_W A K n U TH AG Z B TK ++ xo_W ob kO f)) 1 6 (va_A (xc_W A K n U TH AG Z B TK ++ xo_W ob kO f) sz) := by
  refine xt_ofWith (cc := cL_next) (maxL := 4) (ret := some .int) (hs := [(0, 9, 12, 13)]) (by decide) rfl ?_
  intro p e s m args below meth c s₁ B0 hml htab hv
  obtain ⟨rfl, hsz, hP, hK, hD0, hX⟩ := hv
  have hx := B0.exec
  have hb := B0.bytes
  have hr := B0.returns
  have ht : ∀ w ∈ xT, w.before _ s = true := fun w h => atoms_spec (ws := xwH yL_next cL_next 4 (some .int) [(0, 9, 12, 13)]) B0.pre w (List.mem_cons_of_mem _ h)
  have hown : s.vm.findClass RL = some m.cls := findClass_of_methodNamed B0.named
  have hlocks := B0.notSynchronized
  subst hsz
  have hD := hD0.self (sz := s.heap.size)
  have hA : ∀ q : Nat, s.heap.size ≤ q → va_A (xc_W A K n U TH AG Z B TK ++ xo_W ob kO f) s.heap.size q := fun q h => Or.inr h
  have hS : va_S (va_A (xc_W A K n U TH AG Z B TK ++ xo_W ob kO f) s.heap.size) s.heap s.heap [] := va_S.rf
  have hPc := xP_l hP
  have hDc := xD_l hD
  have hKc : va_K D xcl (xc_T K) s := hK.sub [0, 1, 2, 3, 4] rfl
  have hl := lv_entry ([.ref (A 0), .int x, .ref ob]) (n := 4) (Nat.le_of_ble_eq_true rfl)
  rw [lg_entry_eq]
  generalize (lg_sl ([.ref (A 0), .int x, .ref ob]) ++ List.replicate (4 - (lg_sl ([.ref (A 0), .int x, .ref ob])).length) Slot.unset).toArray = ls at hl ⊢
  have hl : lv_has ls 4 [(0, .ref (A 0)), (1, .int x), (2, .ref ob)] := hl
  refine lv_aload_n hx hb dL_next_0 rfl (lv_at hl 2 rfl) ?_
  refine lv_iconst (v := 0) hx hb dL_next_1 (by decide) ?_
  refine lv_aload_n hx hb dL_next_2 rfl (lv_at hl 0 rfl) ?_
  refine lv_iload_n hx hb dL_next_3 rfl (lv_at hl 1 rfl) ?_
  refine xh_i (E0 := xIA) (pre := []) (suf := []) (x := ⟨0, 9, 12, 13⟩) (vx_runV (As := [.int x]) (rest := [.int 0, .ref ob]) ⟨hx, hb, hml, hown, ht⟩ (c_next_bad l D A K n U TH AG Z B TK x hbad sz0 sa hl0) (cwV 1 ht (xg_V kml_RL_17 kim_yX0_next ksl_yX0_next kin_RX0 kco_yX0_next) rfl rfl rfl (by decide +kernel) ⟨Nat.le_of_ble_eq_true rfl, Nat.le_of_ble_eq_true rfl⟩) (xk_preX hPc hKc hX (fun _ _ _ => rfl) rfl rfl) rfl rfl hl.1 rfl (lv_room (Nat.le_of_ble_eq_true rfl)) dL_next_4 ⟨Nat.le_of_ble_eq_true rfl, Nat.le_of_ble_eq_true rfl⟩) hown htab (fun z hz => by cases hz) (by decide) (by decide) (ht _ kcl_RL_13) (va_Nw.use (xN_tab _ (by decide +kernel)) (hX.2.2.1 (.castable xIA xIA) (by decide +kernel))) (fun y9 H locs hS9 => ?_)
  have hP : va_P D xcl (xc_W A K n U TH AG Z B TK ++ xo_W ob kO f) H := hP.kept (fun k q hk => hS9.2.1 q.1 ((hP k q hk).lt) id)
  have hS : va_S (va_A (xc_W A K n U TH AG Z B TK ++ xo_W ob kO f) s.heap.size) s.heap H locs := ⟨hS9.1, fun q h1 _ => hS9.2.1 q h1 id, fun q hq => (hS9.2.2 q hq).elim⟩
  refine lv_astore_n (lv' := [(3, .ref y9), (0, .ref (A 0)), (1, .int x), (2, .ref ob)]) hx hb dL_next_12 rfl hl (by decide) rfl (fun ls hl => ?_)
  refine lv_iconst (v := 1) hx hb dL_next_13 (by decide) ?_
  exact W.iret (v := 1) hx hb hr (fun t ht hW => ⟨⟨_, rfl, rfl⟩, by rw [ht]; exact hP, hS.F ht⟩) hS.2.2 dL_next_14

set_option maxHeartbeats 4000000 in
set_option maxRecDepth 100000 in
/-- isUsed -/
theorem h_isUsed_ok (l : Launch) (D : va_G) (A : Nat → Nat) (K : Nat → ClassId) (n : Nat) (U TH AG : Nat → Nat) (Z : Nat → Bool) (B : Nat → Nat) (TK : Nat) (hn : n ≤ 128) (hU : ∀ j, U j < 65536) (hT : ∀ j, TH j < 65536) (j k : Nat) (hj : j < n) (hk : k < 16) (ob : Nat) (kO : ClassId) (f : Nat → Int64) (sz : Nat) : Met l yL_isUsed (xwH yL_isUsed cL_isUsed 4 (some .int) [(0, 16, 19, 13)]) ({ frames := 3, cells := 0, slots := 0, locals := 63 }) (xk_M [.ref (A 0), .int (nI (96 + 16 * j + k)), .ref ob] D (xc_T K ++ [(kO, .long)]) (xc_W A K n U TH AG Z B TK ++ xo_W ob kO f) sz) (xk_Q (fun v => v = some (.int 0)) D (xc_W A K n U TH AG Z B TK ++ xo_W ob kO f) (xc_W A K n U TH AG Z B TK ++ xo_W ob kO (vp_updL f 0 (if (U j).testBit k then 1 else 0)))) 0 0 (va_A (xc_W A K n U TH AG Z B TK ++ xo_W ob kO f) sz) := by
  refine xt_ofWith (cc := cL_isUsed) (maxL := 4) (ret := some .int) (hs := [(0, 16, 19, 13)]) (by decide) rfl ?_
  intro p e s m args below meth c s₁ B0 hml htab hv
  obtain ⟨rfl, hsz, hP, hK, hD0⟩ := hv
  have hx := B0.exec
  have hb := B0.bytes
  have hr := B0.returns
  have ht : ∀ w ∈ xT, w.before _ s = true := fun w h => atoms_spec (ws := xwH yL_isUsed cL_isUsed 4 (some .int) [(0, 16, 19, 13)]) B0.pre w (List.mem_cons_of_mem _ h)
  have hown : s.vm.findClass RL = some m.cls := findClass_of_methodNamed B0.named
  have hlocks := B0.notSynchronized
  subst hsz
  have hD := hD0.self (sz := s.heap.size)
  have hA : ∀ q : Nat, s.heap.size ≤ q → va_A (xc_W A K n U TH AG Z B TK ++ xo_W ob kO f) s.heap.size q := fun q h => Or.inr h
  have hS : va_S (va_A (xc_W A K n U TH AG Z B TK ++ xo_W ob kO f) s.heap.size) s.heap s.heap [] := va_S.rf
  have hPc := xP_l hP
  have hDc := xD_l hD
  have hKc : va_K D xcl (xc_T K) s := hK.sub [0, 1, 2, 3, 4] rfl
  have hl := lv_entry ([.ref (A 0), .int (nI (96 + 16 * j + k)), .ref ob]) (n := 4) (Nat.le_of_ble_eq_true rfl)
  rw [lg_entry_eq]
  generalize (lg_sl ([.ref (A 0), .int (nI (96 + 16 * j + k)), .ref ob]) ++ List.replicate (4 - (lg_sl ([.ref (A 0), .int (nI (96 + 16 * j + k)), .ref ob])).length) Slot.unset).toArray = ls at hl ⊢
  have hl : lv_has ls 4 [(0, .ref (A 0)), (1, .int (nI (96 + 16 * j + k))), (2, .ref ob)] := hl
  refine lv_aload_n hx hb dL_isUsed_0 rfl (lv_at hl 2 rfl) ?_
  refine lv_iconst (v := 0) hx hb dL_isUsed_1 (by decide) ?_
  refine lv_aload_n hx hb dL_isUsed_2 rfl (lv_at hl 0 rfl) ?_
  refine lv_iload_n hx hb dL_isUsed_3 rfl (lv_at hl 1 rfl) ?_
  refine xr_V (n := 1) (As := [.int (nI (96 + 16 * j + k))]) (rest := [.int 0, .ref ob]) ⟨hx, hb, hml, hown, ht⟩ (c_isUsed_ok l D A K n U TH AG Z B TK hn hU hT j k hj hk) (xg_V kml_RL_24 kim_yX0_isUsed ksl_yX0_isUsed kin_RX0 kco_yX0_isUsed) ⟨rfl, rfl⟩ (by decide +kernel) ⟨Nat.le_of_ble_eq_true rfl, Nat.le_of_ble_eq_true rfl⟩ (xk_preV hPc hKc rfl rfl) rfl hl.1 rfl (Nat.le_of_ble_eq_true rfl) dL_isUsed_4 ⟨Nat.le_of_ble_eq_true rfl, Nat.le_of_ble_eq_true rfl⟩ (fun r1 e1 => ?_)
  subst e1
  refine lv_if_eq (tgt := 14) hx hb dL_isUsed_7 (by decide) (fun h2 => ?_) (fun h2 => ?_)
  · rw [xb_0] at h2
    refine lv_lconst (v := 0) hx hb dL_isUsed_14 rfl ?_
    refine va_last (i := 0) hx hb hK hP hD hS 6 5 rfl rfl (vp_in_nI (n := 0) (by decide) (by decide)) dL_isUsed_15 (fun H locs hP hD hS => ?_)
    have hP : va_P D xcl (xc_W A K n U TH AG Z B TK ++ xo_W ob kO (vp_updL f 0 (if (U j).testBit k then 1 else 0))) H := by rw [h2]; exact hP
    refine lv_goto (tgt := 22) hx hb dL_isUsed_16 (by decide) ?_
    refine lv_iconst (v := 0) hx hb dL_isUsed_22 (by decide) ?_
    exact W.iret (v := 0) hx hb hr (fun t ht hW => ⟨⟨_, rfl, rfl⟩, by rw [ht]; exact hP, hS.F ht⟩) hS.2.2 dL_isUsed_23
  · rw [xb_n0] at h2
    refine lv_lconst (v := 1) hx hb dL_isUsed_10 rfl ?_
    refine lv_goto (tgt := 15) hx hb dL_isUsed_11 (by decide) ?_
    refine va_last (i := 0) hx hb hK hP hD hS 6 5 rfl rfl (vp_in_nI (n := 0) (by decide) (by decide)) dL_isUsed_15 (fun H locs hP hD hS => ?_)
    have hP : va_P D xcl (xc_W A K n U TH AG Z B TK ++ xo_W ob kO (vp_updL f 0 (if (U j).testBit k then 1 else 0))) H := by rw [h2]; exact hP
    refine lv_goto (tgt := 22) hx hb dL_isUsed_16 (by decide) ?_
    refine lv_iconst (v := 0) hx hb dL_isUsed_22 (by decide) ?_
    exact W.iret (v := 0) hx hb hr (fun t ht hW => ⟨⟨_, rfl, rfl⟩, by rw [ht]; exact hP, hS.F ht⟩) hS.2.2 dL_isUsed_23

set_option maxHeartbeats 4000000 in
set_option maxRecDepth 100000 in
/-- isUsed -/
theorem h_isUsed_bad (l : Launch) (D : va_G) (A : Nat → Nat) (K : Nat → ClassId) (n : Nat) (U TH AG : Nat → Nat) (Z : Nat → Bool) (B : Nat → Nat) (TK : Nat) (hn : n ≤ 128) (x : Int32) (hbad : ¬ ∃ j k : Nat, j < n ∧ k < 16 ∧ x = nI (96 + 16 * j + k)) (ob : Nat) (kO : ClassId) (f : Nat → Int64) (sz : Nat) (sz0 : Nat) (sa : Nat → Nat) (hl0 : l.stackTraces = false) : Met l yL_isUsed (xwH yL_isUsed cL_isUsed 4 (some .int) [(0, 16, 19, 13)]) ({ frames := 7, cells := 1, slots := 6, locals := 112 }) (xk_MX [.ref (A 0), .int x, .ref ob] D (xc_T K ++ [(kO, .long)]) (xc_W A K n U TH AG Z B TK ++ xo_W ob kO f) sz sz0 sa) (xk_Q (fun v => v = some (.int 1)) D (xc_W A K n U TH AG Z B TK ++ xo_W ob kO f) (xc_W A K n U TH AG Z B TK ++ xo_W ob kO f)) 1 6 (va_A (xc_W A K n U TH AG Z B TK ++ xo_W ob kO f) sz) := by
  refine xt_ofWith (cc := cL_isUsed) (maxL := 4) (ret := some .int) (hs := [(0, 16, 19, 13)]) (by decide) rfl ?_
  intro p e s m args below meth c s₁ B0 hml htab hv
  obtain ⟨rfl, hsz, hP, hK, hD0, hX⟩ := hv
  have hx := B0.exec
  have hb := B0.bytes
  have hr := B0.returns
  have ht : ∀ w ∈ xT, w.before _ s = true := fun w h => atoms_spec (ws := xwH yL_isUsed cL_isUsed 4 (some .int) [(0, 16, 19, 13)]) B0.pre w (List.mem_cons_of_mem _ h)
  have hown : s.vm.findClass RL = some m.cls := findClass_of_methodNamed B0.named
  have hlocks := B0.notSynchronized
  subst hsz
  have hD := hD0.self (sz := s.heap.size)
  have hA : ∀ q : Nat, s.heap.size ≤ q → va_A (xc_W A K n U TH AG Z B TK ++ xo_W ob kO f) s.heap.size q := fun q h => Or.inr h
  have hS : va_S (va_A (xc_W A K n U TH AG Z B TK ++ xo_W ob kO f) s.heap.size) s.heap s.heap [] := va_S.rf
  have hPc := xP_l hP
  have hDc := xD_l hD
  have hKc : va_K D xcl (xc_T K) s := hK.sub [0, 1, 2, 3, 4] rfl
  have hl := lv_entry ([.ref (A 0), .int x, .ref ob]) (n := 4) (Nat.le_of_ble_eq_true rfl)
  rw [lg_entry_eq]
  generalize (lg_sl ([.ref (A 0), .int x, .ref ob]) ++ List.replicate (4 - (lg_sl ([.ref (A 0), .int x, .ref ob])).length) Slot.unset).toArray = ls at hl ⊢
  have hl : lv_has ls 4 [(0, .ref (A 0)), (1, .int x), (2, .ref ob)] := hl
  refine lv_aload_n hx hb dL_isUsed_0 rfl (lv_at hl 2 rfl) ?_
  refine lv_iconst (v := 0) hx hb dL_isUsed_1 (by decide) ?_
  refine lv_aload_n hx hb dL_isUsed_2 rfl (lv_at hl 0 rfl) ?_
  refine lv_iload_n hx hb dL_isUsed_3 rfl (lv_at hl 1 rfl) ?_
  refine xh_i (E0 := xIA) (pre := []) (suf := []) (x := ⟨0, 16, 19, 13⟩) (vx_runV (As := [.int x]) (rest := [.int 0, .ref ob]) ⟨hx, hb, hml, hown, ht⟩ (c_isUsed_bad l D A K n U TH AG Z B TK hn x hbad sz0 sa hl0) (cwV 1 ht (xg_V kml_RL_24 kim_yX0_isUsed ksl_yX0_isUsed kin_RX0 kco_yX0_isUsed) rfl rfl rfl (by decide +kernel) ⟨Nat.le_of_ble_eq_true rfl, Nat.le_of_ble_eq_true rfl⟩) (xk_preX hPc hKc hX (fun _ _ _ => rfl) rfl rfl) rfl rfl hl.1 rfl (lv_room (Nat.le_of_ble_eq_true rfl)) dL_isUsed_4 ⟨Nat.le_of_ble_eq_true rfl, Nat.le_of_ble_eq_true rfl⟩) hown htab (fun z hz => by cases hz) (by decide) (by decide) (ht _ kcl_RL_13) (va_Nw.use (xN_tab _ (by decide +kernel)) (hX.2.2.1 (.castable xIA xIA) (by decide +kernel))) (fun y9 H locs hS9 => ?_)
  have hP : va_P D xcl (xc_W A K n U TH AG Z B TK ++ xo_W ob kO f) H := hP.kept (fun k q hk => hS9.2.1 q.1 ((hP k q hk).lt) id)
  have hS : va_S (va_A (xc_W A K n U TH AG Z B TK ++ xo_W ob kO f) s.heap.size) s.heap H locs := ⟨hS9.1, fun q h1 _ => hS9.2.1 q h1 id, fun q hq => (hS9.2.2 q hq).elim⟩
  refine lv_astore_n (lv' := [(3, .ref y9), (0, .ref (A 0)), (1, .int x), (2, .ref ob)]) hx hb dL_isUsed_19 rfl hl (by decide) rfl (fun ls hl => ?_)
  refine lv_iconst (v := 1) hx hb dL_isUsed_20 (by decide) ?_
  exact W.iret (v := 1) hx hb hr (fun t ht hW => ⟨⟨_, rfl, rfl⟩, by rw [ht]; exact hP, hS.F ht⟩) hS.2.2 dL_isUsed_21

set_option maxHeartbeats 4000000 in
set_option maxRecDepth 100000 in
/-- look -/
theorem h_look_ok (l : Launch) (D : va_G) (A : Nat → Nat) (K : Nat → ClassId) (n : Nat) (U TH AG : Nat → Nat) (Z : Nat → Bool) (B : Nat → Nat) (TK : Nat) (hn : n ≤ 128) (j v : Nat) (hj : j < n) (hv : v < 4) (ob : Nat) (kO : ClassId) (f : Nat → Int64) (sz : Nat) : Met l yL_look (xwH yL_look cL_look 5 (some .int) [(0, 10, 13, 13)]) ({ frames := 2, cells := 0, slots := 0, locals := 43 }) (xk_M [.ref (A 0), .int (nI j), .int (nI v), .ref ob] D (xc_T K ++ [(kO, .long)]) (xc_W A K n U TH AG Z B TK ++ xo_W ob kO f) sz) (xk_Q (fun v => v = some (.int 0)) D (xc_W A K n U TH AG Z B TK ++ xo_W ob kO f) (xc_W A K n U TH AG Z B TK ++ xo_W ob kO (vp_updL f 0 ((xlk U TH AG Z j v).toInt64)))) 0 0 (va_A (xc_W A K n U TH AG Z B TK ++ xo_W ob kO f) sz) := by
  refine xt_ofWith (cc := cL_look) (maxL := 5) (ret := some .int) (hs := [(0, 10, 13, 13)]) (by decide) rfl ?_
  intro p e s m args below meth c s₁ B0 hml htab hv
  obtain ⟨rfl, hsz, hP, hK, hD0⟩ := hv
  have hx := B0.exec
  have hb := B0.bytes
  have hr := B0.returns
  have ht : ∀ w ∈ xT, w.before _ s = true := fun w h => atoms_spec (ws := xwH yL_look cL_look 5 (some .int) [(0, 10, 13, 13)]) B0.pre w (List.mem_cons_of_mem _ h)
  have hown : s.vm.findClass RL = some m.cls := findClass_of_methodNamed B0.named
  have hlocks := B0.notSynchronized
  subst hsz
  have hD := hD0.self (sz := s.heap.size)
  have hA : ∀ q : Nat, s.heap.size ≤ q → va_A (xc_W A K n U TH AG Z B TK ++ xo_W ob kO f) s.heap.size q := fun q h => Or.inr h
  have hS : va_S (va_A (xc_W A K n U TH AG Z B TK ++ xo_W ob kO f) s.heap.size) s.heap s.heap [] := va_S.rf
  have hPc := xP_l hP
  have hDc := xD_l hD
  have hKc : va_K D xcl (xc_T K) s := hK.sub [0, 1, 2, 3, 4] rfl
  have hl := lv_entry ([.ref (A 0), .int (nI j), .int (nI v), .ref ob]) (n := 5) (Nat.le_of_ble_eq_true rfl)
  rw [lg_entry_eq]
  generalize (lg_sl ([.ref (A 0), .int (nI j), .int (nI v), .ref ob]) ++ List.replicate (5 - (lg_sl ([.ref (A 0), .int (nI j), .int (nI v), .ref ob])).length) Slot.unset).toArray = ls at hl ⊢
  have hl : lv_has ls 5 [(0, .ref (A 0)), (1, .int (nI j)), (2, .int (nI v)), (3, .ref ob)] := hl
  refine lv_aload_n hx hb dL_look_0 rfl (lv_at hl 3 rfl) ?_
  refine lv_iconst (v := 0) hx hb dL_look_1 (by decide) ?_
  refine lv_aload_n hx hb dL_look_2 rfl (lv_at hl 0 rfl) ?_
  refine lv_iload_n hx hb dL_look_3 rfl (lv_at hl 1 rfl) ?_
  refine lv_iload_n hx hb dL_look_4 rfl (lv_at hl 2 rfl) ?_
  refine xr_V (n := 2) (As := [.int (nI j), .int (nI v)]) (rest := [.int 0, .ref ob]) ⟨hx, hb, hml, hown, ht⟩ (c_look_ok l D A K n U TH AG Z B TK hn j v hj hv) (xg_V kml_RL_28 kim_yX0_look ksl_yX0_look kin_RX0 kco_yX0_look) ⟨rfl, rfl⟩ (by decide +kernel) ⟨Nat.le_of_ble_eq_true rfl, Nat.le_of_ble_eq_true rfl⟩ (xk_preV hPc hKc rfl rfl) rfl hl.1 rfl (Nat.le_of_ble_eq_true rfl) dL_look_5 ⟨Nat.le_of_ble_eq_true rfl, Nat.le_of_ble_eq_true rfl⟩ (fun r1 e1 => ?_)
  subst e1
  refine lv_i2l hx hb dL_look_8 rfl ?_
  refine va_last (i := 0) hx hb hK hP hD hS 6 5 rfl rfl (vp_in_nI (n := 0) (by decide) (by decide)) dL_look_9 (fun H locs hP hD hS => ?_)
  have hP : va_P D xcl (xc_W A K n U TH AG Z B TK ++ xo_W ob kO (vp_updL f 0 ((xlk U TH AG Z j v).toInt64))) H := hP
  refine lv_goto (tgt := 17) hx hb dL_look_10 (by decide) ?_
  refine lv_iconst (v := 0) hx hb dL_look_17 (by decide) ?_
  exact W.iret (v := 0) hx hb hr (fun t ht hW => ⟨⟨_, rfl, rfl⟩, by rw [ht]; exact hP, hS.F ht⟩) hS.2.2 dL_look_18

set_option maxHeartbeats 4000000 in
set_option maxRecDepth 100000 in
/-- look -/
theorem h_look_badS (l : Launch) (D : va_G) (A : Nat → Nat) (K : Nat → ClassId) (n : Nat) (U TH AG : Nat → Nat) (Z : Nat → Bool) (B : Nat → Nat) (TK : Nat) (hn : n ≤ 128) (x y : Int32) (hbad : ¬ ∃ j : Nat, j < n ∧ x = nI j) (ob : Nat) (kO : ClassId) (f : Nat → Int64) (sz : Nat) (sz0 : Nat) (sa : Nat → Nat) (hl0 : l.stackTraces = false) : Met l yL_look (xwH yL_look cL_look 5 (some .int) [(0, 10, 13, 13)]) ({ frames := 7, cells := 1, slots := 6, locals := 112 }) (xk_MX [.ref (A 0), .int x, .int y, .ref ob] D (xc_T K ++ [(kO, .long)]) (xc_W A K n U TH AG Z B TK ++ xo_W ob kO f) sz sz0 sa) (xk_Q (fun v => v = some (.int 1)) D (xc_W A K n U TH AG Z B TK ++ xo_W ob kO f) (xc_W A K n U TH AG Z B TK ++ xo_W ob kO f)) 1 6 (va_A (xc_W A K n U TH AG Z B TK ++ xo_W ob kO f) sz) := by
  refine xt_ofWith (cc := cL_look) (maxL := 5) (ret := some .int) (hs := [(0, 10, 13, 13)]) (by decide) rfl ?_
  intro p e s m args below meth c s₁ B0 hml htab hv
  obtain ⟨rfl, hsz, hP, hK, hD0, hX⟩ := hv
  have hx := B0.exec
  have hb := B0.bytes
  have hr := B0.returns
  have ht : ∀ w ∈ xT, w.before _ s = true := fun w h => atoms_spec (ws := xwH yL_look cL_look 5 (some .int) [(0, 10, 13, 13)]) B0.pre w (List.mem_cons_of_mem _ h)
  have hown : s.vm.findClass RL = some m.cls := findClass_of_methodNamed B0.named
  have hlocks := B0.notSynchronized
  subst hsz
  have hD := hD0.self (sz := s.heap.size)
  have hA : ∀ q : Nat, s.heap.size ≤ q → va_A (xc_W A K n U TH AG Z B TK ++ xo_W ob kO f) s.heap.size q := fun q h => Or.inr h
  have hS : va_S (va_A (xc_W A K n U TH AG Z B TK ++ xo_W ob kO f) s.heap.size) s.heap s.heap [] := va_S.rf
  have hPc := xP_l hP
  have hDc := xD_l hD
  have hKc : va_K D xcl (xc_T K) s := hK.sub [0, 1, 2, 3, 4] rfl
  have hl := lv_entry ([.ref (A 0), .int x, .int y, .ref ob]) (n := 5) (Nat.le_of_ble_eq_true rfl)
  rw [lg_entry_eq]
  generalize (lg_sl ([.ref (A 0), .int x, .int y, .ref ob]) ++ List.replicate (5 - (lg_sl ([.ref (A 0), .int x, .int y, .ref ob])).length) Slot.unset).toArray = ls at hl ⊢
  have hl : lv_has ls 5 [(0, .ref (A 0)), (1, .int x), (2, .int y), (3, .ref ob)] := hl
  refine lv_aload_n hx hb dL_look_0 rfl (lv_at hl 3 rfl) ?_
  refine lv_iconst (v := 0) hx hb dL_look_1 (by decide) ?_
  refine lv_aload_n hx hb dL_look_2 rfl (lv_at hl 0 rfl) ?_
  refine lv_iload_n hx hb dL_look_3 rfl (lv_at hl 1 rfl) ?_
  refine lv_iload_n hx hb dL_look_4 rfl (lv_at hl 2 rfl) ?_
  refine xh_i (E0 := xIA) (pre := []) (suf := []) (x := ⟨0, 10, 13, 13⟩) (vx_runV (As := [.int x, .int y]) (rest := [.int 0, .ref ob]) ⟨hx, hb, hml, hown, ht⟩ (c_look_badS l D A K n U TH AG Z B TK hn x y hbad sz0 sa hl0) (cwV 2 ht (xg_V kml_RL_28 kim_yX0_look ksl_yX0_look kin_RX0 kco_yX0_look) rfl rfl rfl (by decide +kernel) ⟨Nat.le_of_ble_eq_true rfl, Nat.le_of_ble_eq_true rfl⟩) (xk_preX hPc hKc hX (fun _ _ _ => rfl) rfl rfl) rfl rfl hl.1 rfl (lv_room (Nat.le_of_ble_eq_true rfl)) dL_look_5 ⟨Nat.le_of_ble_eq_true rfl, Nat.le_of_ble_eq_true rfl⟩) hown htab (fun z hz => by cases hz) (by decide) (by decide) (ht _ kcl_RL_13) (va_Nw.use (xN_tab _ (by decide +kernel)) (hX.2.2.1 (.castable xIA xIA) (by decide +kernel))) (fun y9 H locs hS9 => ?_)
  have hP : va_P D xcl (xc_W A K n U TH AG Z B TK ++ xo_W ob kO f) H := hP.kept (fun k q hk => hS9.2.1 q.1 ((hP k q hk).lt) id)
  have hS : va_S (va_A (xc_W A K n U TH AG Z B TK ++ xo_W ob kO f) s.heap.size) s.heap H locs := ⟨hS9.1, fun q h1 _ => hS9.2.1 q h1 id, fun q hq => (hS9.2.2 q hq).elim⟩
  refine lv_astore (lv' := [(4, .ref y9), (0, .ref (A 0)), (1, .int x), (2, .int y), (3, .ref ob)]) hx hb dL_look_13 hl (by decide) rfl (fun ls hl => ?_)
  refine lv_iconst (v := 1) hx hb dL_look_15 (by decide) ?_
  exact W.iret (v := 1) hx hb hr (fun t ht hW => ⟨⟨_, rfl, rfl⟩, by rw [ht]; exact hP, hS.F ht⟩) hS.2.2 dL_look_16

set_option maxHeartbeats 4000000 in
set_option maxRecDepth 100000 in
/-- look -/
theorem h_look_badW (l : Launch) (D : va_G) (A : Nat → Nat) (K : Nat → ClassId) (n : Nat) (U TH AG : Nat → Nat) (Z : Nat → Bool) (B : Nat → Nat) (TK : Nat) (hn : n ≤ 128) (j : Nat) (hj : j < n) (y : Int32) (hbad : ¬ ∃ v : Nat, v < 4 ∧ y = nI v) (ob : Nat) (kO : ClassId) (f : Nat → Int64) (sz : Nat) (sz0 : Nat) (sa : Nat → Nat) (hl0 : l.stackTraces = false) : Met l yL_look (xwH yL_look cL_look 5 (some .int) [(0, 10, 13, 13)]) ({ frames := 7, cells := 1, slots := 6, locals := 112 }) (xk_MX [.ref (A 0), .int (nI j), .int y, .ref ob] D (xc_T K ++ [(kO, .long)]) (xc_W A K n U TH AG Z B TK ++ xo_W ob kO f) sz sz0 sa) (xk_Q (fun v => v = some (.int 1)) D (xc_W A K n U TH AG Z B TK ++ xo_W ob kO f) (xc_W A K n U TH AG Z B TK ++ xo_W ob kO f)) 1 6 (va_A (xc_W A K n U TH AG Z B TK ++ xo_W ob kO f) sz) := by
  refine xt_ofWith (cc := cL_look) (maxL := 5) (ret := some .int) (hs := [(0, 10, 13, 13)]) (by decide) rfl ?_
  intro p e s m args below meth c s₁ B0 hml htab hv
  obtain ⟨rfl, hsz, hP, hK, hD0, hX⟩ := hv
  have hx := B0.exec
  have hb := B0.bytes
  have hr := B0.returns
  have ht : ∀ w ∈ xT, w.before _ s = true := fun w h => atoms_spec (ws := xwH yL_look cL_look 5 (some .int) [(0, 10, 13, 13)]) B0.pre w (List.mem_cons_of_mem _ h)
  have hown : s.vm.findClass RL = some m.cls := findClass_of_methodNamed B0.named
  have hlocks := B0.notSynchronized
  subst hsz
  have hD := hD0.self (sz := s.heap.size)
  have hA : ∀ q : Nat, s.heap.size ≤ q → va_A (xc_W A K n U TH AG Z B TK ++ xo_W ob kO f) s.heap.size q := fun q h => Or.inr h
  have hS : va_S (va_A (xc_W A K n U TH AG Z B TK ++ xo_W ob kO f) s.heap.size) s.heap s.heap [] := va_S.rf
  have hPc := xP_l hP
  have hDc := xD_l hD
  have hKc : va_K D xcl (xc_T K) s := hK.sub [0, 1, 2, 3, 4] rfl
  have hl := lv_entry ([.ref (A 0), .int (nI j), .int y, .ref ob]) (n := 5) (Nat.le_of_ble_eq_true rfl)
  rw [lg_entry_eq]
  generalize (lg_sl ([.ref (A 0), .int (nI j), .int y, .ref ob]) ++ List.replicate (5 - (lg_sl ([.ref (A 0), .int (nI j), .int y, .ref ob])).length) Slot.unset).toArray = ls at hl ⊢
  have hl : lv_has ls 5 [(0, .ref (A 0)), (1, .int (nI j)), (2, .int y), (3, .ref ob)] := hl
  refine lv_aload_n hx hb dL_look_0 rfl (lv_at hl 3 rfl) ?_
  refine lv_iconst (v := 0) hx hb dL_look_1 (by decide) ?_
  refine lv_aload_n hx hb dL_look_2 rfl (lv_at hl 0 rfl) ?_
  refine lv_iload_n hx hb dL_look_3 rfl (lv_at hl 1 rfl) ?_
  refine lv_iload_n hx hb dL_look_4 rfl (lv_at hl 2 rfl) ?_
  refine xh_i (E0 := xIA) (pre := []) (suf := []) (x := ⟨0, 10, 13, 13⟩) (vx_runV (As := [.int (nI j), .int y]) (rest := [.int 0, .ref ob]) ⟨hx, hb, hml, hown, ht⟩ (c_look_badW l D A K n U TH AG Z B TK hn j hj y hbad sz0 sa hl0) (cwV 2 ht (xg_V kml_RL_28 kim_yX0_look ksl_yX0_look kin_RX0 kco_yX0_look) rfl rfl rfl (by decide +kernel) ⟨Nat.le_of_ble_eq_true rfl, Nat.le_of_ble_eq_true rfl⟩) (xk_preX hPc hKc hX (fun _ _ _ => rfl) rfl rfl) rfl rfl hl.1 rfl (lv_room (Nat.le_of_ble_eq_true rfl)) dL_look_5 ⟨Nat.le_of_ble_eq_true rfl, Nat.le_of_ble_eq_true rfl⟩) hown htab (fun z hz => by cases hz) (by decide) (by decide) (ht _ kcl_RL_13) (va_Nw.use (xN_tab _ (by decide +kernel)) (hX.2.2.1 (.castable xIA xIA) (by decide +kernel))) (fun y9 H locs hS9 => ?_)
  have hP : va_P D xcl (xc_W A K n U TH AG Z B TK ++ xo_W ob kO f) H := hP.kept (fun k q hk => hS9.2.1 q.1 ((hP k q hk).lt) id)
  have hS : va_S (va_A (xc_W A K n U TH AG Z B TK ++ xo_W ob kO f) s.heap.size) s.heap H locs := ⟨hS9.1, fun q h1 _ => hS9.2.1 q h1 id, fun q hq => (hS9.2.2 q hq).elim⟩
  refine lv_astore (lv' := [(4, .ref y9), (0, .ref (A 0)), (1, .int (nI j)), (2, .int y), (3, .ref ob)]) hx hb dL_look_13 hl (by decide) rfl (fun ls hl => ?_)
  refine lv_iconst (v := 1) hx hb dL_look_15 (by decide) ?_
  exact W.iret (v := 1) hx hb hr (fun t ht hW => ⟨⟨_, rfl, rfl⟩, by rw [ht]; exact hP, hS.F ht⟩) hS.2.2 dL_look_16

set_option maxHeartbeats 4000000 in
set_option maxRecDepth 100000 in
/-- drop -/
theorem h_drop_ok (l : Launch) (D : va_G) (A : Nat → Nat) (K : Nat → ClassId) (n : Nat) (U TH AG : Nat → Nat) (Z : Nat → Bool) (B : Nat → Nat) (TK : Nat) (hn : n ≤ 128) (hU : ∀ j, U j < 65536) (hT : ∀ j, TH j < 65536) (j k : Nat) (hj : j < n) (hk : k < 16) (hs : (U j).testBit k = true) (ob : Nat) (kO : ClassId) (f : Nat → Int64) (sz : Nat) : Met l yL_drop (xwH yL_drop cL_drop 3 (some .int) [(0, 5, 8, 13), (0, 5, 11, 15)]) ({ frames := 3, cells := 0, slots := 0, locals := 63 }) (xk_M [.ref (A 0), .int (nI (96 + 16 * j + k))] D (xc_T K ++ [(kO, .long)]) (xc_W A K n U TH AG Z B TK ++ xo_W ob kO f) sz) (xk_Q (fun v => v = some (.int 0)) D (xc_W A K n U TH AG Z B TK ++ xo_W ob kO f) (xc_W A K n (va_up U j (U j &&& (65535 ^^^ 2 ^ k))) TH AG Z B TK ++ xo_W ob kO f)) 0 0 (va_A (xc_W A K n U TH AG Z B TK ++ xo_W ob kO f) sz) := by
  refine xt_ofWith (cc := cL_drop) (maxL := 3) (ret := some .int) (hs := [(0, 5, 8, 13), (0, 5, 11, 15)]) (by decide) rfl ?_
  intro p e s m args below meth c s₁ B0 hml htab hv
  obtain ⟨rfl, hsz, hP, hK, hD0⟩ := hv
  have hx := B0.exec
  have hb := B0.bytes
  have hr := B0.returns
  have ht : ∀ w ∈ xT, w.before _ s = true := fun w h => atoms_spec (ws := xwH yL_drop cL_drop 3 (some .int) [(0, 5, 8, 13), (0, 5, 11, 15)]) B0.pre w (List.mem_cons_of_mem _ h)
  have hown : s.vm.findClass RL = some m.cls := findClass_of_methodNamed B0.named
  have hlocks := B0.notSynchronized
  subst hsz
  have hD := hD0.self (sz := s.heap.size)
  have hA : ∀ q : Nat, s.heap.size ≤ q → va_A (xc_W A K n U TH AG Z B TK ++ xo_W ob kO f) s.heap.size q := fun q h => Or.inr h
  have hS : va_S (va_A (xc_W A K n U TH AG Z B TK ++ xo_W ob kO f) s.heap.size) s.heap s.heap [] := va_S.rf
  have hPc := xP_l hP
  have hDc := xD_l hD
  have hKc : va_K D xcl (xc_T K) s := hK.sub [0, 1, 2, 3, 4] rfl
  have hl := lv_entry ([.ref (A 0), .int (nI (96 + 16 * j + k))]) (n := 3) (Nat.le_of_ble_eq_true rfl)
  rw [lg_entry_eq]
  generalize (lg_sl ([.ref (A 0), .int (nI (96 + 16 * j + k))]) ++ List.replicate (3 - (lg_sl ([.ref (A 0), .int (nI (96 + 16 * j + k))])).length) Slot.unset).toArray = ls at hl ⊢
  have hl : lv_has ls 3 [(0, .ref (A 0)), (1, .int (nI (96 + 16 * j + k)))] := hl
  refine lv_aload_n hx hb dL_drop_0 rfl (lv_at hl 0 rfl) ?_
  refine lv_iload_n hx hb dL_drop_1 rfl (lv_at hl 1 rfl) ?_
  refine xr_go (ws := xc_W A K n U TH AG Z B TK) (ws' := xc_W A K n (va_up U j (U j &&& (65535 ^^^ 2 ^ k))) TH AG Z B TK) (va_runV (As := [.int (nI (96 + 16 * j + k))]) (rest := []) ⟨hx, hb, hml, hown, ht⟩ (c_drop_ok l D A K n U TH AG Z B TK hn hU hT j k hj hk hs s.heap.size) (cwV 1 ht (xg_V kml_RL_20 kim_yX0_drop ksl_yX0_drop kin_RX0 kco_yX0_drop) rfl rfl rfl (by decide +kernel) ⟨Nat.le_of_ble_eq_true rfl, Nat.le_of_ble_eq_true rfl⟩) (xk_preMV hPc hKc hDc rfl rfl) rfl rfl hl.1 rfl (lv_room (Nat.le_of_ble_eq_true rfl)) dL_drop_2 ⟨Nat.le_of_ble_eq_true rfl, Nat.le_of_ble_eq_true rfl⟩) hS (xD_A hDc hS hA) (fun v9 H locs e9 hP1 hz9 hk9 hS => ?_)
  subst e9
  have hP : va_P D xcl (xc_W A K n (va_up U j (U j &&& (65535 ^^^ 2 ^ k))) TH AG Z B TK ++ xo_W ob kO f) H := hP1.app (xP_keepR hD (xP_r hP) hk9)
  have hD : va_D (va_A (xc_W A K n U TH AG Z B TK ++ xo_W ob kO f) s.heap.size) (xc_W A K n (va_up U j (U j &&& (65535 ^^^ 2 ^ k))) TH AG Z B TK ++ xo_W ob kO f) := xD_same (ws := xc_W A K n U TH AG Z B TK ++ xo_W ob kO f) rfl hD
  refine lv_goto (tgt := 14) hx hb dL_drop_5 (by decide) ?_
  refine lv_iconst (v := 0) hx hb dL_drop_14 (by decide) ?_
  exact W.iret (v := 0) hx hb hr (fun t ht hW => ⟨⟨_, rfl, rfl⟩, by rw [ht]; exact hP, hS.F ht⟩) hS.2.2 dL_drop_15

set_option maxHeartbeats 4000000 in
set_option maxRecDepth 100000 in
/-- drop -/
theorem h_drop_bad (l : Launch) (D : va_G) (A : Nat → Nat) (K : Nat → ClassId) (n : Nat) (U TH AG : Nat → Nat) (Z : Nat → Bool) (B : Nat → Nat) (TK : Nat) (hn : n ≤ 128) (x : Int32) (hbad : ¬ ∃ j k : Nat, j < n ∧ k < 16 ∧ x = nI (96 + 16 * j + k)) (ob : Nat) (kO : ClassId) (f : Nat → Int64) (sz : Nat) (sz0 : Nat) (sa : Nat → Nat) (hl0 : l.stackTraces = false) : Met l yL_drop (xwH yL_drop cL_drop 3 (some .int) [(0, 5, 8, 13), (0, 5, 11, 15)]) ({ frames := 7, cells := 1, slots := 6, locals := 112 }) (xk_MX [.ref (A 0), .int x] D (xc_T K ++ [(kO, .long)]) (xc_W A K n U TH AG Z B TK ++ xo_W ob kO f) sz sz0 sa) (xk_Q (fun v => v = some (.int 1)) D (xc_W A K n U TH AG Z B TK ++ xo_W ob kO f) (xc_W A K n U TH AG Z B TK ++ xo_W ob kO f)) 1 6 (va_A (xc_W A K n U TH AG Z B TK ++ xo_W ob kO f) sz) := by
  refine xt_ofWith (cc := cL_drop) (maxL := 3) (ret := some .int) (hs := [(0, 5, 8, 13), (0, 5, 11, 15)]) (by decide) rfl ?_
  intro p e s m args below meth c s₁ B0 hml htab hv
  obtain ⟨rfl, hsz, hP, hK, hD0, hX⟩ := hv
  have hx := B0.exec
  have hb := B0.bytes
  have hr := B0.returns
  have ht : ∀ w ∈ xT, w.before _ s = true := fun w h => atoms_spec (ws := xwH yL_drop cL_drop 3 (some .int) [(0, 5, 8, 13), (0, 5, 11, 15)]) B0.pre w (List.mem_cons_of_mem _ h)
  have hown : s.vm.findClass RL = some m.cls := findClass_of_methodNamed B0.named
  have hlocks := B0.notSynchronized
  subst hsz
  have hD := hD0.self (sz := s.heap.size)
  have hA : ∀ q : Nat, s.heap.size ≤ q → va_A (xc_W A K n U TH AG Z B TK ++ xo_W ob kO f) s.heap.size q := fun q h => Or.inr h
  have hS : va_S (va_A (xc_W A K n U TH AG Z B TK ++ xo_W ob kO f) s.heap.size) s.heap s.heap [] := va_S.rf
  have hPc := xP_l hP
  have hDc := xD_l hD
  have hKc : va_K D xcl (xc_T K) s := hK.sub [0, 1, 2, 3, 4] rfl
  have hl := lv_entry ([.ref (A 0), .int x]) (n := 3) (Nat.le_of_ble_eq_true rfl)
  rw [lg_entry_eq]
  generalize (lg_sl ([.ref (A 0), .int x]) ++ List.replicate (3 - (lg_sl ([.ref (A 0), .int x])).length) Slot.unset).toArray = ls at hl ⊢
  have hl : lv_has ls 3 [(0, .ref (A 0)), (1, .int x)] := hl
  refine lv_aload_n hx hb dL_drop_0 rfl (lv_at hl 0 rfl) ?_
  refine lv_iload_n hx hb dL_drop_1 rfl (lv_at hl 1 rfl) ?_
  refine xh_v (E0 := xIA) (pre := []) (suf := [⟨0, 5, 11, 15⟩]) (x := ⟨0, 5, 8, 13⟩) (vx_runV (As := [.int x]) (rest := []) ⟨hx, hb, hml, hown, ht⟩ (c_drop_bad l D A K n U TH AG Z B TK hn x hbad sz0 sa hl0) (cwV 1 ht (xg_V kml_RL_20 kim_yX0_drop ksl_yX0_drop kin_RX0 kco_yX0_drop) rfl rfl rfl (by decide +kernel) ⟨Nat.le_of_ble_eq_true rfl, Nat.le_of_ble_eq_true rfl⟩) (xk_preX hPc hKc hX (fun _ _ _ => rfl) rfl rfl) rfl rfl hl.1 rfl (lv_room (Nat.le_of_ble_eq_true rfl)) dL_drop_2 ⟨Nat.le_of_ble_eq_true rfl, Nat.le_of_ble_eq_true rfl⟩) hown htab (fun z hz => by cases hz) (by decide) (by decide) (ht _ kcl_RL_13) (va_Nw.use (xN_tab _ (by decide +kernel)) (hX.2.2.1 (.castable xIA xIA) (by decide +kernel))) (fun y9 H locs hS9 => ?_)
  have hP : va_P D xcl (xc_W A K n U TH AG Z B TK ++ xo_W ob kO f) H := hP.kept (fun k q hk => hS9.2.1 q.1 ((hP k q hk).lt) id)
  have hS : va_S (va_A (xc_W A K n U TH AG Z B TK ++ xo_W ob kO f) s.heap.size) s.heap H locs := ⟨hS9.1, fun q h1 _ => hS9.2.1 q h1 id, fun q hq => (hS9.2.2 q hq).elim⟩
  refine lv_astore_n (lv' := [(2, .ref y9), (0, .ref (A 0)), (1, .int x)]) hx hb dL_drop_8 rfl hl (by decide) rfl (fun ls hl => ?_)
  refine lv_iconst (v := 1) hx hb dL_drop_9 (by decide) ?_
  exact W.iret (v := 1) hx hb hr (fun t ht hW => ⟨⟨_, rfl, rfl⟩, by rw [ht]; exact hP, hS.F ht⟩) hS.2.2 dL_drop_10

set_option maxHeartbeats 4000000 in
set_option maxRecDepth 100000 in
/-- drop -/
theorem h_drop_no (l : Launch) (D : va_G) (A : Nat → Nat) (K : Nat → ClassId) (n : Nat) (U TH AG : Nat → Nat) (Z : Nat → Bool) (B : Nat → Nat) (TK : Nat) (hn : n ≤ 128) (hU : ∀ j, U j < 65536) (hT : ∀ j, TH j < 65536) (j k : Nat) (hj : j < n) (hk : k < 16) (hs : (U j).testBit k = false) (ob : Nat) (kO : ClassId) (f : Nat → Int64) (sz : Nat) (sz0 : Nat) (sa : Nat → Nat) (hl0 : l.stackTraces = false) : Met l yL_drop (xwH yL_drop cL_drop 3 (some .int) [(0, 5, 8, 13), (0, 5, 11, 15)]) ({ frames := 7, cells := 1, slots := 6, locals := 112 }) (xk_MX [.ref (A 0), .int (nI (96 + 16 * j + k))] D (xc_T K ++ [(kO, .long)]) (xc_W A K n U TH AG Z B TK ++ xo_W ob kO f) sz sz0 sa) (xk_Q (fun v => v = some (.int 2)) D (xc_W A K n U TH AG Z B TK ++ xo_W ob kO f) (xc_W A K n U TH AG Z B TK ++ xo_W ob kO f)) 1 6 (va_A (xc_W A K n U TH AG Z B TK ++ xo_W ob kO f) sz) := by
  refine xt_ofWith (cc := cL_drop) (maxL := 3) (ret := some .int) (hs := [(0, 5, 8, 13), (0, 5, 11, 15)]) (by decide) rfl ?_
  intro p e s m args below meth c s₁ B0 hml htab hv
  obtain ⟨rfl, hsz, hP, hK, hD0, hX⟩ := hv
  have hx := B0.exec
  have hb := B0.bytes
  have hr := B0.returns
  have ht : ∀ w ∈ xT, w.before _ s = true := fun w h => atoms_spec (ws := xwH yL_drop cL_drop 3 (some .int) [(0, 5, 8, 13), (0, 5, 11, 15)]) B0.pre w (List.mem_cons_of_mem _ h)
  have hown : s.vm.findClass RL = some m.cls := findClass_of_methodNamed B0.named
  have hlocks := B0.notSynchronized
  subst hsz
  have hD := hD0.self (sz := s.heap.size)
  have hA : ∀ q : Nat, s.heap.size ≤ q → va_A (xc_W A K n U TH AG Z B TK ++ xo_W ob kO f) s.heap.size q := fun q h => Or.inr h
  have hS : va_S (va_A (xc_W A K n U TH AG Z B TK ++ xo_W ob kO f) s.heap.size) s.heap s.heap [] := va_S.rf
  have hPc := xP_l hP
  have hDc := xD_l hD
  have hKc : va_K D xcl (xc_T K) s := hK.sub [0, 1, 2, 3, 4] rfl
  have hl := lv_entry ([.ref (A 0), .int (nI (96 + 16 * j + k))]) (n := 3) (Nat.le_of_ble_eq_true rfl)
  rw [lg_entry_eq]
  generalize (lg_sl ([.ref (A 0), .int (nI (96 + 16 * j + k))]) ++ List.replicate (3 - (lg_sl ([.ref (A 0), .int (nI (96 + 16 * j + k))])).length) Slot.unset).toArray = ls at hl ⊢
  have hl : lv_has ls 3 [(0, .ref (A 0)), (1, .int (nI (96 + 16 * j + k)))] := hl
  refine lv_aload_n hx hb dL_drop_0 rfl (lv_at hl 0 rfl) ?_
  refine lv_iload_n hx hb dL_drop_1 rfl (lv_at hl 1 rfl) ?_
  refine xh_v (E0 := xIS) (pre := [⟨0, 5, 8, 13⟩]) (suf := []) (x := ⟨0, 5, 11, 15⟩) (vx_runV (As := [.int (nI (96 + 16 * j + k))]) (rest := []) ⟨hx, hb, hml, hown, ht⟩ (c_drop_no l D A K n U TH AG Z B TK hn hU hT j k hj hk hs sz0 sa hl0) (cwV 1 ht (xg_V kml_RL_20 kim_yX0_drop ksl_yX0_drop kin_RX0 kco_yX0_drop) rfl rfl rfl (by decide +kernel) ⟨Nat.le_of_ble_eq_true rfl, Nat.le_of_ble_eq_true rfl⟩) (xk_preX hPc hKc hX (fun _ _ _ => rfl) rfl rfl) rfl rfl hl.1 rfl (lv_room (Nat.le_of_ble_eq_true rfl)) dL_drop_2 ⟨Nat.le_of_ble_eq_true rfl, Nat.le_of_ble_eq_true rfl⟩) hown htab (fun z hz => by cases List.mem_singleton.mp hz; exact Or.inr ⟨by decide, _, ht _ kcl_RL_13, hX.2.2.2.2.2.2.2.2.2⟩) (by decide) (by decide) (ht _ kcl_RL_15) (va_Nw.use (xN_tab _ (by decide +kernel)) (hX.2.2.1 (.castable xIS xIS) (by decide +kernel))) (fun y9 H locs hS9 => ?_)
  have hP : va_P D xcl (xc_W A K n U TH AG Z B TK ++ xo_W ob kO f) H := hP.kept (fun k q hk => hS9.2.1 q.1 ((hP k q hk).lt) id)
  have hS : va_S (va_A (xc_W A K n U TH AG Z B TK ++ xo_W ob kO f) s.heap.size) s.heap H locs := ⟨hS9.1, fun q h1 _ => hS9.2.1 q h1 id, fun q hq => (hS9.2.2 q hq).elim⟩
  refine lv_astore_n (lv' := [(2, .ref y9), (0, .ref (A 0)), (1, .int (nI (96 + 16 * j + k)))]) hx hb dL_drop_11 rfl hl (by decide) rfl (fun ls hl => ?_)
  refine lv_iconst (v := 2) hx hb dL_drop_12 (by decide) ?_
  exact W.iret (v := 2) hx hb hr (fun t ht hW => ⟨⟨_, rfl, rfl⟩, by rw [ht]; exact hP, hS.F ht⟩) hS.2.2 dL_drop_13

set_option maxHeartbeats 4000000 in
set_option maxRecDepth 100000 in
/-- take -/
theorem h_take_stay (l : Launch) (D : va_G) (A : Nat → Nat) (K : Nat → ClassId) (n : Nat) (U TH AG : Nat → Nat) (Z : Nat → Bool) (B : Nat → Nat) (TK : Nat) (hn : n ≤ 128) (hU : ∀ j, U j < 65536) (hT : ∀ j, TH j < 65536) (q j k : Nat) (hq : q < 6) (hB : B q = 96 + 16 * j + k) (hj : j < n) (hk : k < 15) (ob : Nat) (kO : ClassId) (f : Nat → Int64) (sz : Nat) : Met l yL_take (xwH yL_take cL_take 4 (some .int) [(0, 9, 12, 13), (0, 9, 15, 15)]) ({ frames := 5, cells := 0, slots := 0, locals := 108 }) (xk_M [.ref (A 0), .int (nI q), .ref ob] D (xc_T K ++ [(kO, .long)]) (xc_W A K n U TH AG Z B TK ++ xo_W ob kO f) sz) (xk_Q (fun v => v = some (.int 0)) D (xc_W A K n U TH AG Z B TK ++ xo_W ob kO f) (xc_W A K n (va_up U j (U j ||| 2 ^ k)) TH (va_up AG j (TK + 1)) (va_up Z j true) (va_up B q (96 + 16 * j + (k + 1))) (TK + 1) ++ xo_W ob kO (vp_updL f 0 (nI (96 + 16 * j + k)).toInt64))) 0 0 (va_A (xc_W A K n U TH AG Z B TK ++ xo_W ob kO f) sz) := by
  refine xt_ofWith (cc := cL_take) (maxL := 4) (ret := some .int) (hs := [(0, 9, 12, 13), (0, 9, 15, 15)]) (by decide) rfl ?_
  intro p e s m args below meth c s₁ B0 hml htab hv
  obtain ⟨rfl, hsz, hP, hK, hD0⟩ := hv
  have hx := B0.exec
  have hb := B0.bytes
  have hr := B0.returns
  have ht : ∀ w ∈ xT, w.before _ s = true := fun w h => atoms_spec (ws := xwH yL_take cL_take 4 (some .int) [(0, 9, 12, 13), (0, 9, 15, 15)]) B0.pre w (List.mem_cons_of_mem _ h)
  have hown : s.vm.findClass RL = some m.cls := findClass_of_methodNamed B0.named
  have hlocks := B0.notSynchronized
  subst hsz
  have hD := hD0.self (sz := s.heap.size)
  have hA : ∀ q : Nat, s.heap.size ≤ q → va_A (xc_W A K n U TH AG Z B TK ++ xo_W ob kO f) s.heap.size q := fun q h => Or.inr h
  have hS : va_S (va_A (xc_W A K n U TH AG Z B TK ++ xo_W ob kO f) s.heap.size) s.heap s.heap [] := va_S.rf
  have hPc := xP_l hP
  have hDc := xD_l hD
  have hKc : va_K D xcl (xc_T K) s := hK.sub [0, 1, 2, 3, 4] rfl
  have hl := lv_entry ([.ref (A 0), .int (nI q), .ref ob]) (n := 4) (Nat.le_of_ble_eq_true rfl)
  rw [lg_entry_eq]
  generalize (lg_sl ([.ref (A 0), .int (nI q), .ref ob]) ++ List.replicate (4 - (lg_sl ([.ref (A 0), .int (nI q), .ref ob])).length) Slot.unset).toArray = ls at hl ⊢
  have hl : lv_has ls 4 [(0, .ref (A 0)), (1, .int (nI q)), (2, .ref ob)] := hl
  refine lv_aload_n hx hb dL_take_0 rfl (lv_at hl 2 rfl) ?_
  refine lv_iconst (v := 0) hx hb dL_take_1 (by decide) ?_
  refine lv_aload_n hx hb dL_take_2 rfl (lv_at hl 0 rfl) ?_
  refine lv_iload_n hx hb dL_take_3 rfl (lv_at hl 1 rfl) ?_
  refine xr_go (ws := xc_W A K n U TH AG Z B TK) (ws' := xc_W A K n (va_up U j (U j ||| 2 ^ k)) TH (va_up AG j (TK + 1)) (va_up Z j true) (va_up B q (96 + 16 * j + (k + 1))) (TK + 1)) (va_runV (As := [.int (nI q)]) (rest := [.int 0, .ref ob]) ⟨hx, hb, hml, hown, ht⟩ (c_take_stay l D A K n U TH AG Z B TK hn hU hT q j k hq hB hj hk s.heap.size) (cwV 1 ht (xg_V kml_RL_7 kim_yX0_take ksl_yX0_take kin_RX0 kco_yX0_take) rfl rfl rfl (by decide +kernel) ⟨Nat.le_of_ble_eq_true rfl, Nat.le_of_ble_eq_true rfl⟩) (xk_preMV hPc hKc hDc rfl rfl) rfl rfl hl.1 rfl (lv_room (Nat.le_of_ble_eq_true rfl)) dL_take_4 ⟨Nat.le_of_ble_eq_true rfl, Nat.le_of_ble_eq_true rfl⟩) hS (xD_A hDc hS hA) (fun v9 H locs e9 hP1 hz9 hk9 hS => ?_)
  subst e9
  have hP : va_P D xcl (xc_W A K n (va_up U j (U j ||| 2 ^ k)) TH (va_up AG j (TK + 1)) (va_up Z j true) (va_up B q (96 + 16 * j + (k + 1))) (TK + 1) ++ xo_W ob kO f) H := hP1.app (xP_keepR hD (xP_r hP) hk9)
  have hD : va_D (va_A (xc_W A K n U TH AG Z B TK ++ xo_W ob kO f) s.heap.size) (xc_W A K n (va_up U j (U j ||| 2 ^ k)) TH (va_up AG j (TK + 1)) (va_up Z j true) (va_up B q (96 + 16 * j + (k + 1))) (TK + 1) ++ xo_W ob kO f) := xD_same (ws := xc_W A K n U TH AG Z B TK ++ xo_W ob kO f) rfl hD
  refine lv_i2l hx hb dL_take_7 rfl ?_
  refine va_last (i := 0) hx hb hK hP hD hS 6 5 rfl rfl (vp_in_nI (n := 0) (by decide) (by decide)) dL_take_8 (fun H locs hP hD hS => ?_)
  have hP : va_P D xcl (xc_W A K n (va_up U j (U j ||| 2 ^ k)) TH (va_up AG j (TK + 1)) (va_up Z j true) (va_up B q (96 + 16 * j + (k + 1))) (TK + 1) ++ xo_W ob kO (vp_updL f 0 ((nI (96 + 16 * j + k)).toInt64))) H := hP
  refine lv_goto (tgt := 18) hx hb dL_take_9 (by decide) ?_
  refine lv_iconst (v := 0) hx hb dL_take_18 (by decide) ?_
  exact W.iret (v := 0) hx hb hr (fun t ht hW => ⟨⟨_, rfl, rfl⟩, by rw [ht]; exact hP, hS.F ht⟩) hS.2.2 dL_take_19

set_option maxHeartbeats 4000000 in
set_option maxRecDepth 100000 in
/-- take -/
theorem h_take_open (l : Launch) (D : va_G) (A : Nat → Nat) (K : Nat → ClassId) (n : Nat) (U TH AG : Nat → Nat) (Z : Nat → Bool) (B : Nat → Nat) (TK : Nat) (hn : n ≤ 128) (hU : ∀ j, U j < 65536) (hT : ∀ j, TH j < 65536) (q j k : Nat) (hq : q < 6) (hB : B q = 96 + 16 * j + k) (hj : j < n) (hk : k = 15) (o : Nat) (ho : o < n) (ho1 : xfr U TH Z o = true) (ho2 : ∀ i, i < o → xfr U TH Z i = false) (ob : Nat) (kO : ClassId) (f : Nat → Int64) (sz : Nat) : Met l yL_take (xwH yL_take cL_take 4 (some .int) [(0, 9, 12, 13), (0, 9, 15, 15)]) ({ frames := 5, cells := 0, slots := 0, locals := 108 }) (xk_M [.ref (A 0), .int (nI q), .ref ob] D (xc_T K ++ [(kO, .long)]) (xc_W A K n U TH AG Z B TK ++ xo_W ob kO f) sz) (xk_Q (fun v => v = some (.int 0)) D (xc_W A K n U TH AG Z B TK ++ xo_W ob kO f) (xc_W A K n (va_up U j (U j ||| 2 ^ k)) TH (va_up AG j (TK + 1)) (va_up Z o true) (va_up B q (96 + 16 * o + 0)) (TK + 1) ++ xo_W ob kO (vp_updL f 0 (nI (96 + 16 * j + k)).toInt64))) 0 0 (va_A (xc_W A K n U TH AG Z B TK ++ xo_W ob kO f) sz) := by
  refine xt_ofWith (cc := cL_take) (maxL := 4) (ret := some .int) (hs := [(0, 9, 12, 13), (0, 9, 15, 15)]) (by decide) rfl ?_
  intro p e s m args below meth c s₁ B0 hml htab hv
  obtain ⟨rfl, hsz, hP, hK, hD0⟩ := hv
  have hx := B0.exec
  have hb := B0.bytes
  have hr := B0.returns
  have ht : ∀ w ∈ xT, w.before _ s = true := fun w h => atoms_spec (ws := xwH yL_take cL_take 4 (some .int) [(0, 9, 12, 13), (0, 9, 15, 15)]) B0.pre w (List.mem_cons_of_mem _ h)
  have hown : s.vm.findClass RL = some m.cls := findClass_of_methodNamed B0.named
  have hlocks := B0.notSynchronized
  subst hsz
  have hD := hD0.self (sz := s.heap.size)
  have hA : ∀ q : Nat, s.heap.size ≤ q → va_A (xc_W A K n U TH AG Z B TK ++ xo_W ob kO f) s.heap.size q := fun q h => Or.inr h
  have hS : va_S (va_A (xc_W A K n U TH AG Z B TK ++ xo_W ob kO f) s.heap.size) s.heap s.heap [] := va_S.rf
  have hPc := xP_l hP
  have hDc := xD_l hD
  have hKc : va_K D xcl (xc_T K) s := hK.sub [0, 1, 2, 3, 4] rfl
  have hl := lv_entry ([.ref (A 0), .int (nI q), .ref ob]) (n := 4) (Nat.le_of_ble_eq_true rfl)
  rw [lg_entry_eq]
  generalize (lg_sl ([.ref (A 0), .int (nI q), .ref ob]) ++ List.replicate (4 - (lg_sl ([.ref (A 0), .int (nI q), .ref ob])).length) Slot.unset).toArray = ls at hl ⊢
  have hl : lv_has ls 4 [(0, .ref (A 0)), (1, .int (nI q)), (2, .ref ob)] := hl
  refine lv_aload_n hx hb dL_take_0 rfl (lv_at hl 2 rfl) ?_
  refine lv_iconst (v := 0) hx hb dL_take_1 (by decide) ?_
  refine lv_aload_n hx hb dL_take_2 rfl (lv_at hl 0 rfl) ?_
  refine lv_iload_n hx hb dL_take_3 rfl (lv_at hl 1 rfl) ?_
  refine xr_go (ws := xc_W A K n U TH AG Z B TK) (ws' := xc_W A K n (va_up U j (U j ||| 2 ^ k)) TH (va_up AG j (TK + 1)) (va_up Z o true) (va_up B q (96 + 16 * o + 0)) (TK + 1)) (va_runV (As := [.int (nI q)]) (rest := [.int 0, .ref ob]) ⟨hx, hb, hml, hown, ht⟩ (c_take_open l D A K n U TH AG Z B TK hn hU hT q j k hq hB hj hk o ho ho1 ho2 s.heap.size) (cwV 1 ht (xg_V kml_RL_7 kim_yX0_take ksl_yX0_take kin_RX0 kco_yX0_take) rfl rfl rfl (by decide +kernel) ⟨Nat.le_of_ble_eq_true rfl, Nat.le_of_ble_eq_true rfl⟩) (xk_preMV hPc hKc hDc rfl rfl) rfl rfl hl.1 rfl (lv_room (Nat.le_of_ble_eq_true rfl)) dL_take_4 ⟨Nat.le_of_ble_eq_true rfl, Nat.le_of_ble_eq_true rfl⟩) hS (xD_A hDc hS hA) (fun v9 H locs e9 hP1 hz9 hk9 hS => ?_)
  subst e9
  have hP : va_P D xcl (xc_W A K n (va_up U j (U j ||| 2 ^ k)) TH (va_up AG j (TK + 1)) (va_up Z o true) (va_up B q (96 + 16 * o + 0)) (TK + 1) ++ xo_W ob kO f) H := hP1.app (xP_keepR hD (xP_r hP) hk9)
  have hD : va_D (va_A (xc_W A K n U TH AG Z B TK ++ xo_W ob kO f) s.heap.size) (xc_W A K n (va_up U j (U j ||| 2 ^ k)) TH (va_up AG j (TK + 1)) (va_up Z o true) (va_up B q (96 + 16 * o + 0)) (TK + 1) ++ xo_W ob kO f) := xD_same (ws := xc_W A K n U TH AG Z B TK ++ xo_W ob kO f) rfl hD
  refine lv_i2l hx hb dL_take_7 rfl ?_
  refine va_last (i := 0) hx hb hK hP hD hS 6 5 rfl rfl (vp_in_nI (n := 0) (by decide) (by decide)) dL_take_8 (fun H locs hP hD hS => ?_)
  have hP : va_P D xcl (xc_W A K n (va_up U j (U j ||| 2 ^ k)) TH (va_up AG j (TK + 1)) (va_up Z o true) (va_up B q (96 + 16 * o + 0)) (TK + 1) ++ xo_W ob kO (vp_updL f 0 ((nI (96 + 16 * j + k)).toInt64))) H := hP
  refine lv_goto (tgt := 18) hx hb dL_take_9 (by decide) ?_
  refine lv_iconst (v := 0) hx hb dL_take_18 (by decide) ?_
  exact W.iret (v := 0) hx hb hr (fun t ht hW => ⟨⟨_, rfl, rfl⟩, by rw [ht]; exact hP, hS.F ht⟩) hS.2.2 dL_take_19

set_option maxHeartbeats 4000000 in
set_option maxRecDepth 100000 in
/-- take -/
theorem h_take_full (l : Launch) (D : va_G) (A : Nat → Nat) (K : Nat → ClassId) (n : Nat) (U TH AG : Nat → Nat) (Z : Nat → Bool) (B : Nat → Nat) (TK : Nat) (hn : n ≤ 128) (hU : ∀ j, U j < 65536) (hT : ∀ j, TH j < 65536) (q j k : Nat) (hq : q < 6) (hB : B q = 96 + 16 * j + k) (hj : j < n) (hk : k = 15) (hf : ∀ i, i < n → xfr U TH Z i = false) (ob : Nat) (kO : ClassId) (f : Nat → Int64) (sz : Nat) (sz0 : Nat) (sa : Nat → Nat) (hl0 : l.stackTraces = false) : Met l yL_take (xwH yL_take cL_take 4 (some .int) [(0, 9, 12, 13), (0, 9, 15, 15)]) ({ frames := 7, cells := 1, slots := 6, locals := 113 }) (xk_MX [.ref (A 0), .int (nI q), .ref ob] D (xc_T K ++ [(kO, .long)]) (xc_W A K n U TH AG Z B TK ++ xo_W ob kO f) sz sz0 sa) (xk_Q (fun v => v = some (.int 2)) D (xc_W A K n U TH AG Z B TK ++ xo_W ob kO f) (xc_W A K n U TH AG Z B TK ++ xo_W ob kO f)) 1 6 (va_A (xc_W A K n U TH AG Z B TK ++ xo_W ob kO f) sz) := by
  refine xt_ofWith (cc := cL_take) (maxL := 4) (ret := some .int) (hs := [(0, 9, 12, 13), (0, 9, 15, 15)]) (by decide) rfl ?_
  intro p e s m args below meth c s₁ B0 hml htab hv
  obtain ⟨rfl, hsz, hP, hK, hD0, hX⟩ := hv
  have hx := B0.exec
  have hb := B0.bytes
  have hr := B0.returns
  have ht : ∀ w ∈ xT, w.before _ s = true := fun w h => atoms_spec (ws := xwH yL_take cL_take 4 (some .int) [(0, 9, 12, 13), (0, 9, 15, 15)]) B0.pre w (List.mem_cons_of_mem _ h)
  have hown : s.vm.findClass RL = some m.cls := findClass_of_methodNamed B0.named
  have hlocks := B0.notSynchronized
  subst hsz
  have hD := hD0.self (sz := s.heap.size)
  have hA : ∀ q : Nat, s.heap.size ≤ q → va_A (xc_W A K n U TH AG Z B TK ++ xo_W ob kO f) s.heap.size q := fun q h => Or.inr h
  have hS : va_S (va_A (xc_W A K n U TH AG Z B TK ++ xo_W ob kO f) s.heap.size) s.heap s.heap [] := va_S.rf
  have hPc := xP_l hP
  have hDc := xD_l hD
  have hKc : va_K D xcl (xc_T K) s := hK.sub [0, 1, 2, 3, 4] rfl
  have hl := lv_entry ([.ref (A 0), .int (nI q), .ref ob]) (n := 4) (Nat.le_of_ble_eq_true rfl)
  rw [lg_entry_eq]
  generalize (lg_sl ([.ref (A 0), .int (nI q), .ref ob]) ++ List.replicate (4 - (lg_sl ([.ref (A 0), .int (nI q), .ref ob])).length) Slot.unset).toArray = ls at hl ⊢
  have hl : lv_has ls 4 [(0, .ref (A 0)), (1, .int (nI q)), (2, .ref ob)] := hl
  refine lv_aload_n hx hb dL_take_0 rfl (lv_at hl 2 rfl) ?_
  refine lv_iconst (v := 0) hx hb dL_take_1 (by decide) ?_
  refine lv_aload_n hx hb dL_take_2 rfl (lv_at hl 0 rfl) ?_
  refine lv_iload_n hx hb dL_take_3 rfl (lv_at hl 1 rfl) ?_
  refine xh_i (E0 := xIS) (pre := [⟨0, 9, 12, 13⟩]) (suf := []) (x := ⟨0, 9, 15, 15⟩) (vx_runV (As := [.int (nI q)]) (rest := [.int 0, .ref ob]) ⟨hx, hb, hml, hown, ht⟩ (c_take_full l D A K n U TH AG Z B TK hn hU hT q j k hq hB hj hk hf sz0 sa hl0) (cwV 1 ht (xg_V kml_RL_7 kim_yX0_take ksl_yX0_take kin_RX0 kco_yX0_take) rfl rfl rfl (by decide +kernel) ⟨Nat.le_of_ble_eq_true rfl, Nat.le_of_ble_eq_true rfl⟩) (xk_preX hPc hKc hX (fun _ _ _ => rfl) rfl rfl) rfl rfl hl.1 rfl (lv_room (Nat.le_of_ble_eq_true rfl)) dL_take_4 ⟨Nat.le_of_ble_eq_true rfl, Nat.le_of_ble_eq_true rfl⟩) hown htab (fun z hz => by cases List.mem_singleton.mp hz; exact Or.inr ⟨by decide, _, ht _ kcl_RL_13, hX.2.2.2.2.2.2.2.2.2⟩) (by decide) (by decide) (ht _ kcl_RL_15) (va_Nw.use (xN_tab _ (by decide +kernel)) (hX.2.2.1 (.castable xIS xIS) (by decide +kernel))) (fun y9 H locs hS9 => ?_)
  have hP : va_P D xcl (xc_W A K n U TH AG Z B TK ++ xo_W ob kO f) H := hP.kept (fun k q hk => hS9.2.1 q.1 ((hP k q hk).lt) id)
  have hS : va_S (va_A (xc_W A K n U TH AG Z B TK ++ xo_W ob kO f) s.heap.size) s.heap H locs := ⟨hS9.1, fun q h1 _ => hS9.2.1 q h1 id, fun q hq => (hS9.2.2 q hq).elim⟩
  refine lv_astore_n (lv' := [(3, .ref y9), (0, .ref (A 0)), (1, .int (nI q)), (2, .ref ob)]) hx hb dL_take_15 rfl hl (by decide) rfl (fun ls hl => ?_)
  refine lv_iconst (v := 2) hx hb dL_take_16 (by decide) ?_
  exact W.iret (v := 2) hx hb hr (fun t ht hW => ⟨⟨_, rfl, rfl⟩, by rw [ht]; exact hP, hS.F ht⟩) hS.2.2 dL_take_17

set_option maxHeartbeats 4000000 in
set_option maxRecDepth 100000 in
/-- take -/
theorem h_take_bad (l : Launch) (D : va_G) (A : Nat → Nat) (K : Nat → ClassId) (n : Nat) (U TH AG : Nat → Nat) (Z : Nat → Bool) (B : Nat → Nat) (TK : Nat) (x : Int32) (hbad : ¬ ∃ j : Nat, j < 6 ∧ x = nI j) (ob : Nat) (kO : ClassId) (f : Nat → Int64) (sz : Nat) (sz0 : Nat) (sa : Nat → Nat) (hl0 : l.stackTraces = false) : Met l yL_take (xwH yL_take cL_take 4 (some .int) [(0, 9, 12, 13), (0, 9, 15, 15)]) ({ frames := 7, cells := 1, slots := 6, locals := 113 }) (xk_MX [.ref (A 0), .int x, .ref ob] D (xc_T K ++ [(kO, .long)]) (xc_W A K n U TH AG Z B TK ++ xo_W ob kO f) sz sz0 sa) (xk_Q (fun v => v = some (.int 1)) D (xc_W A K n U TH AG Z B TK ++ xo_W ob kO f) (xc_W A K n U TH AG Z B TK ++ xo_W ob kO f)) 1 6 (va_A (xc_W A K n U TH AG Z B TK ++ xo_W ob kO f) sz) := by
  refine xt_ofWith (cc := cL_take) (maxL := 4) (ret := some .int) (hs := [(0, 9, 12, 13), (0, 9, 15, 15)]) (by decide) rfl ?_
  intro p e s m args below meth c s₁ B0 hml htab hv
  obtain ⟨rfl, hsz, hP, hK, hD0, hX⟩ := hv
  have hx := B0.exec
  have hb := B0.bytes
  have hr := B0.returns
  have ht : ∀ w ∈ xT, w.before _ s = true := fun w h => atoms_spec (ws := xwH yL_take cL_take 4 (some .int) [(0, 9, 12, 13), (0, 9, 15, 15)]) B0.pre w (List.mem_cons_of_mem _ h)
  have hown : s.vm.findClass RL = some m.cls := findClass_of_methodNamed B0.named
  have hlocks := B0.notSynchronized
  subst hsz
  have hD := hD0.self (sz := s.heap.size)
  have hA : ∀ q : Nat, s.heap.size ≤ q → va_A (xc_W A K n U TH AG Z B TK ++ xo_W ob kO f) s.heap.size q := fun q h => Or.inr h
  have hS : va_S (va_A (xc_W A K n U TH AG Z B TK ++ xo_W ob kO f) s.heap.size) s.heap s.heap [] := va_S.rf
  have hPc := xP_l hP
  have hDc := xD_l hD
  have hKc : va_K D xcl (xc_T K) s := hK.sub [0, 1, 2, 3, 4] rfl
  have hl := lv_entry ([.ref (A 0), .int x, .ref ob]) (n := 4) (Nat.le_of_ble_eq_true rfl)
  rw [lg_entry_eq]
  generalize (lg_sl ([.ref (A 0), .int x, .ref ob]) ++ List.replicate (4 - (lg_sl ([.ref (A 0), .int x, .ref ob])).length) Slot.unset).toArray = ls at hl ⊢
  have hl : lv_has ls 4 [(0, .ref (A 0)), (1, .int x), (2, .ref ob)] := hl
  refine lv_aload_n hx hb dL_take_0 rfl (lv_at hl 2 rfl) ?_
  refine lv_iconst (v := 0) hx hb dL_take_1 (by decide) ?_
  refine lv_aload_n hx hb dL_take_2 rfl (lv_at hl 0 rfl) ?_
  refine lv_iload_n hx hb dL_take_3 rfl (lv_at hl 1 rfl) ?_
  refine xh_i (E0 := xIA) (pre := []) (suf := [⟨0, 9, 15, 15⟩]) (x := ⟨0, 9, 12, 13⟩) (vx_runV (As := [.int x]) (rest := [.int 0, .ref ob]) ⟨hx, hb, hml, hown, ht⟩ (c_take_bad l D A K n U TH AG Z B TK x hbad sz0 sa hl0) (cwV 1 ht (xg_V kml_RL_7 kim_yX0_take ksl_yX0_take kin_RX0 kco_yX0_take) rfl rfl rfl (by decide +kernel) ⟨Nat.le_of_ble_eq_true rfl, Nat.le_of_ble_eq_true rfl⟩) (xk_preX hPc hKc hX (fun _ _ _ => rfl) rfl rfl) rfl rfl hl.1 rfl (lv_room (Nat.le_of_ble_eq_true rfl)) dL_take_4 ⟨Nat.le_of_ble_eq_true rfl, Nat.le_of_ble_eq_true rfl⟩) hown htab (fun z hz => by cases hz) (by decide) (by decide) (ht _ kcl_RL_13) (va_Nw.use (xN_tab _ (by decide +kernel)) (hX.2.2.1 (.castable xIA xIA) (by decide +kernel))) (fun y9 H locs hS9 => ?_)
  have hP : va_P D xcl (xc_W A K n U TH AG Z B TK ++ xo_W ob kO f) H := hP.kept (fun k q hk => hS9.2.1 q.1 ((hP k q hk).lt) id)
  have hS : va_S (va_A (xc_W A K n U TH AG Z B TK ++ xo_W ob kO f) s.heap.size) s.heap H locs := ⟨hS9.1, fun q h1 _ => hS9.2.1 q h1 id, fun q hq => (hS9.2.2 q hq).elim⟩
  refine lv_astore_n (lv' := [(3, .ref y9), (0, .ref (A 0)), (1, .int x), (2, .ref ob)]) hx hb dL_take_12 rfl hl (by decide) rfl (fun ls hl => ?_)
  refine lv_iconst (v := 1) hx hb dL_take_13 (by decide) ?_
  exact W.iret (v := 1) hx hb hr (fun t ht hW => ⟨⟨_, rfl, rfl⟩, by rw [ht]; exact hP, hS.F ht⟩) hS.2.2 dL_take_14
end
section
/-! THE CLASS BESIDE THE REFERENCE: masks of bits, free segments, victims, updates -/
def xmk (V : Nat → Bool) (j : Nat) : Nat := xhc (fun k => V (16 * j + k)) 16
theorem xhc_lt (f : Nat → Bool) (i : Nat) : xhc f i < 2 ^ i := by
  induction i with
  | zero => exact Nat.one_pos
  | succ i ih =>
    rw [xhc, Nat.pow_succ]
    have : (f (15 - i)).toNat ≤ 1 := by cases f (15 - i) <;> decide
    omega
theorem xhc_bit (f : Nat → Bool) : ∀ i, i ≤ 16 → ∀ k, (xhc f i).testBit k = (decide (k < i) && f (16 - i + k)) := by
  intro i
  induction i with
  | zero => intro _ k; simp [xhc]
  | succ i ih =>
    intro hi k
    have hb : (f (15 - i)).toNat ≤ 1 := by cases f (15 - i) <;> decide
    cases k with
    | zero =>
      rw [xhc, Nat.testBit_zero]
      rw [show 16 - (i + 1) + 0 = 15 - i by omega]
      cases f (15 - i) <;> simp
    | succ k =>
      rw [xhc, Nat.testBit_succ, show (2 * xhc f i + (f (15 - i)).toNat) / 2 = xhc f i by omega, ih (by omega) k]
      rw [show 16 - (i + 1) + (k + 1) = 16 - i + k by omega]
      simp
theorem xmk_lt (V : Nat → Bool) (j : Nat) : xmk V j < 65536 := xhc_lt _ 16
theorem xmk_bit (V : Nat → Bool) (j k : Nat) : (xmk V j).testBit k = (decide (k < 16) && V (16 * j + k)) := by
  rw [xmk, xhc_bit _ 16 (Nat.le_refl _) k, show 16 - 16 + k = k by omega]
theorem xmk_bit' (V : Nat → Bool) (j k : Nat) (hk : k < 16) : (xmk V j).testBit k = V (16 * j + k) := by rw [xmk_bit]; simp [hk]
theorem xmk_pc (V : Nat → Bool) (j : Nat) : xpc (xmk V j) = xmu V j := xcnt_congr 16 (fun k hk => by rw [xmk_bit' V j k hk])
theorem xmk_0 (V : Nat → Bool) (j : Nat) : xmk V j = 0 ↔ ∀ k, k < 16 → V (16 * j + k) = false := by
  constructor
  · intro h k hk
    rw [← xmk_bit' V j k hk, h, Nat.zero_testBit]
  · intro h
    apply Nat.eq_of_testBit_eq
    intro k
    rw [xmk_bit, Nat.zero_testBit]
    by_cases hk : k < 16
    · rw [h k hk]; simp
    · simp [hk]
theorem xmf_iff (V TV : Nat → Bool) (t : Bool) (j : Nat) : ∀ i, xmf V TV t j i = true ↔ t = false ∧ ∀ k, k < i → V (16 * j + k) = false ∧ TV (16 * j + k) = false := by
  intro i
  induction i with
  | zero => simp [xmf]
  | succ i ih =>
    rw [xmf, Bool.and_eq_true, ih]
    constructor
    · rintro ⟨⟨h1, h2⟩, h3⟩
      refine ⟨h1, fun k hk => ?_⟩
      rcases Nat.lt_or_ge k i with q | q
      · exact h2 k q
      · have : k = i := by omega
        subst this
        simpa using h3
    · rintro ⟨h1, h2⟩
      refine ⟨⟨h1, fun k hk => h2 k (by omega)⟩, ?_⟩
      simpa using h2 i (by omega)
theorem xfr_tie (V TV : Nat → Bool) (Z : Nat → Bool) (TO : Nat → Bool) (OP : Nat → Nat) (j : Nat) (hz : Z j = xtk TO OP j 6) : xfr (xmk V) (xmk TV) Z j = xmfr V TV TO OP j := by
  rw [Bool.eq_iff_iff, xmfr, xmf_iff, ← hz]
  simp only [xfr, Bool.and_eq_true, beq_iff_eq, Bool.not_eq_true', xmk_0]
  constructor
  · rintro ⟨h1, h2, h3⟩
    exact ⟨h3, fun k hk => ⟨h1 k hk, h2 k hk⟩⟩
  · rintro ⟨h1, h2⟩
    exact ⟨fun k hk => (h2 k hk).1, fun k hk => (h2 k hk).2, h1⟩
theorem xcand_tie (V : Nat → Bool) (TO : Nat → Bool) (OP : Nat → Nat) : xcand (xmk V) (fun j => xtk TO OP j 6) = xmc V TO OP := by
  funext j
  simp only [xcand, xmc, xmk_pc]
theorem xwo_tie (g : Bool) (V : Nat → Bool) (AG : Nat → Nat) (TK : Nat) : xwo g (xmk V) AG TK = xmw g V AG TK := by
  funext j
  simp only [xwo, xmw, xmk_pc]
theorem xdiv16 {j k j' k' : Nat} (hk : k < 16) (hk' : k' < 16) : 16 * j' + k' = 16 * j + k ↔ j' = j ∧ k' = k := by omega
theorem xmk_set (V : Nat → Bool) (j k : Nat) (hk : k < 16) : va_up (xmk V) j (xmk V j ||| 2 ^ k) = xmk (va_up V (16 * j + k) true) := by
  funext i
  apply Nat.eq_of_testBit_eq
  intro b
  rw [xmk_bit]
  by_cases hb : b < 16
  · by_cases hi : i = j
    · subst hi
      by_cases hbk : b = k
      · subst hbk; simp [va_up, hb, Nat.testBit_or, Nat.testBit_two_pow]
      · have h1 : ¬ 16 * i + b = 16 * i + k := by omega
        have h2 : ¬ k = b := fun h => hbk h.symm
        simp [va_up, hb, Nat.testBit_or, Nat.testBit_two_pow, xmk_bit, h2, hbk]
    · have h1 : ¬ 16 * i + b = 16 * j + k := by omega
      simp [va_up, hi, h1, xmk_bit]
  · have hkb : ¬ k = b := by omega
    by_cases hi : i = j
    · subst hi; simp [va_up, hb, Nat.testBit_or, Nat.testBit_two_pow, xmk_bit, hkb]
    · simp [va_up, hb, hi, xmk_bit]
theorem x65535 : ∀ b, b < 16 → Nat.testBit 65535 b = true := by decide
theorem xmk_clr (V : Nat → Bool) (j k : Nat) (hk : k < 16) : va_up (xmk V) j (xmk V j &&& (65535 ^^^ 2 ^ k)) = xmk (va_up V (16 * j + k) false) := by
  funext i
  apply Nat.eq_of_testBit_eq
  intro b
  rw [xmk_bit]
  by_cases hb : b < 16
  · by_cases hi : i = j
    · subst hi
      by_cases hbk : b = k
      · subst hbk; simp [va_up, hb, Nat.testBit_and, Nat.testBit_xor, Nat.testBit_two_pow, x65535 b hb]
      · have h1 : ¬ 16 * i + b = 16 * i + k := by omega
        have h2 : ¬ k = b := fun h => hbk h.symm
        simp [va_up, hb, Nat.testBit_and, Nat.testBit_xor, Nat.testBit_two_pow, x65535 b hb, xmk_bit, h2, hbk]
    · have h1 : ¬ 16 * i + b = 16 * j + k := by omega
      simp [va_up, hi, h1, xmk_bit]
  · by_cases hi : i = j
    · subst hi; simp [va_up, hb, Nat.testBit_and, xmk_bit]
    · simp [va_up, hb, hi, xmk_bit]
/-- the class's taken segments -/
def xzk (TO : Nat → Bool) (OP : Nat → Nat) (j : Nat) : Bool := xtk TO OP j 6
/-- the class's next blocks -/
def xbk (OP NX : Nat → Nat) (q : Nat) : Nat := if q < 6 then 96 + 16 * OP q + NX q else 0
theorem xtk_iff (TO : Nat → Bool) (OP : Nat → Nat) (j : Nat) : ∀ i, xtk TO OP j i = true ↔ TO j = true ∨ ∃ q, q < i ∧ OP q = j := by
  intro i
  induction i with
  | zero => simp [xtk]
  | succ i ih =>
    rw [xtk, Bool.or_eq_true, ih, beq_iff_eq]
    constructor
    · rintro ((h | ⟨q, h1, h2⟩) | h)
      · exact Or.inl h
      · exact Or.inr ⟨q, by omega, h2⟩
      · exact Or.inr ⟨i, by omega, h⟩
    · rintro (h | ⟨q, h1, h2⟩)
      · exact Or.inl (Or.inl h)
      · rcases Nat.lt_or_ge q i with z | z
        · exact Or.inl (Or.inr ⟨q, z, h2⟩)
        · have : q = i := by omega
          subst this; exact Or.inr h2
theorem xzk_iff (TO : Nat → Bool) (OP : Nat → Nat) (j : Nat) : xzk TO OP j = true ↔ TO j = true ∨ ∃ q, q < 6 ∧ OP q = j := xtk_iff TO OP j 6
theorem xzk_stay (TO : Nat → Bool) (OP : Nat → Nat) (j : Nat) : va_up (xzk TO OP) j true = xzk (va_up TO j true) OP := by
  funext i
  rw [Bool.eq_iff_iff, xzk_iff]
  by_cases h : i = j
  · subst h; simp [va_up]
  · simp [va_up, h, xzk_iff]
theorem xzk_open (TO : Nat → Bool) (OP : Nat → Nat) (q j o : Nat) (hq : q < 6) (hO : OP q = j) : va_up (xzk TO OP) o true = xzk (va_up (va_up TO j true) o true) (va_up OP q o) := by
  funext i
  rw [Bool.eq_iff_iff, xzk_iff]
  by_cases h : i = o
  · subst h; simp [va_up]
  · by_cases h2 : i = j
    · subst h2
      have : xzk TO OP i = true := (xzk_iff TO OP i).mpr (Or.inr ⟨q, hq, hO⟩)
      simp [va_up, h, this]
    · simp only [va_up, h, h2, if_false, xzk_iff]
      constructor
      · rintro (z | ⟨r, z1, z2⟩)
        · exact Or.inl z
        · refine Or.inr ⟨r, z1, ?_⟩
          have : ¬ r = q := fun e => h2 (by rw [← z2, e, hO])
          rw [if_neg this]; exact z2
      · rintro (z | ⟨r, z1, z2⟩)
        · exact Or.inl z
        · refine Or.inr ⟨r, z1, ?_⟩
          by_cases e : r = q
          · rw [if_pos e] at z2; exact absurd z2.symm h
          · rw [if_neg e] at z2; exact z2
theorem xop_iff (OP : Nat → Nat) (j : Nat) : ∀ i, xop OP i j = true ↔ ∃ q, q < i ∧ OP q = j := by
  intro i
  induction i with
  | zero => simp [xop]
  | succ i ih =>
    rw [xop]
    by_cases h : j = OP i
    · simp only [va_up, h, if_true, true_iff]; exact ⟨i, by omega, rfl⟩
    · simp only [va_up, h, if_false, ih]
      constructor
      · rintro ⟨q, z1, z2⟩; exact ⟨q, by omega, z2⟩
      · rintro ⟨q, z1, z2⟩
        rcases Nat.lt_or_ge q i with z | z
        · exact ⟨q, z, z2⟩
        · have : q = i := by omega
          subst this; exact absurd z2.symm h
theorem xzk_op (OP : Nat → Nat) : xop OP 6 = xzk (fun _ => false) OP := by
  funext j
  rw [Bool.eq_iff_iff, xzk_iff, xop_iff]
  simp
theorem xbk_stay (OP NX : Nat → Nat) (q j k : Nat) (hq : q < 6) (hO : OP q = j) : va_up (xbk OP NX) q (96 + 16 * j + (k + 1)) = xbk OP (va_up NX q (k + 1)) := by
  funext i
  by_cases h : i = q
  · subst h; simp [va_up, xbk, hq, hO]
  · simp [va_up, xbk, h]
theorem xbk_open (OP NX : Nat → Nat) (q k o : Nat) (hq : q < 6) : va_up (xbk OP NX) q (96 + 16 * o + 0) = xbk (va_up OP q o) (va_up (va_up NX q (k + 1)) q 0) := by
  funext i
  by_cases h : i = q
  · subst h; simp [va_up, xbk, hq]
  · simp [va_up, xbk, h]
theorem xZ0_iff (j : Nat) : ∀ i, xZ0 i j = true ↔ j < i := by
  intro i
  induction i with
  | zero => simp [xZ0]
  | succ i ih =>
    rw [xZ0]
    by_cases h : j = i
    · simp [va_up, h]
    · simp only [va_up, h, if_false, ih]; omega
theorem xO0_eq (q : Nat) : ∀ i, q < i → xO0 i q = q := by
  intro i
  induction i with
  | zero => intro h; omega
  | succ i ih =>
    intro h
    rw [xO0]
    by_cases e : q = i
    · simp [va_up, e]
    · simp only [va_up, e, if_false]; exact ih (by omega)
theorem xB0_eq (q : Nat) : ∀ i, xB0 i q = if q < i then 96 + 16 * q else 0 := by
  intro i
  induction i with
  | zero => simp [xB0]
  | succ i ih =>
    rw [xB0]
    by_cases e : q = i
    · simp [va_up, e]
    · simp only [va_up, e, if_false, ih]
      by_cases z : q < i
      · rw [if_pos z, if_pos (by omega)]
      · rw [if_neg z, if_neg (by omega)]
theorem xZ0_tie : xZ0 6 = xzk (fun _ => false) (xO0 6) := by
  funext j
  rw [Bool.eq_iff_iff, xZ0_iff, xzk_iff]
  constructor
  · intro h; exact Or.inr ⟨j, h, xO0_eq j 6 h⟩
  · rintro (h | ⟨q, h1, h2⟩)
    · cases h
    · rw [xO0_eq q 6 h1] at h2; omega
theorem xB0_tie : xB0 6 = xbk (xO0 6) (fun _ => 0) := by
  funext q
  rw [xB0_eq, xbk]
  by_cases h : q < 6
  · rw [if_pos h, if_pos h, xO0_eq q 6 h, Nat.add_zero]
  · rw [if_neg h, if_neg h]
theorem xmk_none : (fun _ => 0 : Nat → Nat) = xmk (fun _ => false) := by
  funext j
  exact ((xmk_0 _ j).mpr (fun _ _ => rfl)).symm
/-- what holds of class and reference between two calls, T calls having gone by -/
def xI (n : Nat) (V TV TO : Nat → Bool) (AG OP NX : Nat → Nat) (TK T : Nat) : Prop :=
  12 ≤ n ∧ n ≤ 128 ∧ (∀ q, q < 6 → OP q < n ∧ NX q < 16) ∧ (∀ i, 16 * n ≤ i → V i = false ∧ TV i = false) ∧ (∀ j, n ≤ j → TO j = false) ∧ (∀ j, AG j ≤ TK) ∧ TK ≤ T
theorem xI_0 {n : Nat} (h : 12 ≤ n ∧ n ≤ 128) : xI n (fun _ => false) (fun _ => false) (fun _ => false) (fun _ => 0) (xO0 6) (fun _ => 0) 0 0 :=
  ⟨h.1, h.2, fun q hq => ⟨by rw [xO0_eq q 6 hq]; omega, show 0 < 16 by decide⟩, fun _ _ => ⟨rfl, rfl⟩, fun _ _ => rfl, fun _ => Nat.le_refl _, Nat.le_refl _⟩
section XI
variable {n : Nat} {V TV TO : Nat → Bool} {AG OP NX : Nat → Nat} {TK T : Nat}
theorem xI.more (h : xI n V TV TO AG OP NX TK T) : xI n V TV TO AG OP NX TK (T + 1) := ⟨h.1, h.2.1, h.2.2.1, h.2.2.2.1, h.2.2.2.2.1, h.2.2.2.2.2.1, Nat.le_succ_of_le h.2.2.2.2.2.2⟩
theorem xI.op (h : xI n V TV TO AG OP NX TK T) : ∀ q, q < 6 → OP q < 128 := fun q hq => Nat.lt_of_lt_of_le (h.2.2.1 q hq).1 h.2.1
theorem xI.drop (h : xI n V TV TO AG OP NX TK T) (i : Nat) : xI n (va_up V i false) TV TO AG OP NX TK (T + 1) := ⟨h.1, h.2.1, h.2.2.1, fun q hq => ⟨by simp only [va_up]; split; rfl; exact (h.2.2.2.1 q hq).1, (h.2.2.2.1 q hq).2⟩, h.2.2.2.2.1, h.2.2.2.2.2.1, Nat.le_succ_of_le h.2.2.2.2.2.2⟩
theorem xI.check (h : xI n V TV TO AG OP NX TK T) : xI n V V (fun _ => false) AG OP NX TK (T + 1) := ⟨h.1, h.2.1, h.2.2.1, fun q hq => ⟨(h.2.2.2.1 q hq).1, (h.2.2.2.1 q hq).1⟩, fun _ _ => rfl, h.2.2.2.2.2.1, Nat.le_succ_of_le h.2.2.2.2.2.2⟩
theorem xI.age (h : xI n V TV TO AG OP NX TK T) (j : Nat) : ∀ i, va_up AG j (TK + 1) i ≤ TK + 1 := fun i => by simp only [va_up]; split; exact Nat.le_refl _; exact Nat.le_succ_of_le (h.2.2.2.2.2.1 i)
theorem xI.stay (h : xI n V TV TO AG OP NX TK T) {q j k : Nat} (hj : j < n) (hk : k < 15) : xI n (va_up V (16 * j + k) true) TV (va_up TO j true) (va_up AG j (TK + 1)) OP (va_up NX q (k + 1)) (TK + 1) (T + 1) :=
  ⟨h.1, h.2.1, fun r hr => ⟨(h.2.2.1 r hr).1, by simp only [va_up]; split; omega; exact (h.2.2.1 r hr).2⟩,
   fun i hi => ⟨by rw [va_up, if_neg (by omega)]; exact (h.2.2.2.1 i hi).1, (h.2.2.2.1 i hi).2⟩,
   fun i hi => by rw [va_up, if_neg (by omega)]; exact h.2.2.2.2.1 i hi, h.age j, Nat.succ_le_succ h.2.2.2.2.2.2⟩
theorem xI.fresh (h : xI n V TV TO AG OP NX TK T) {q j k o : Nat} (hj : j < n) (hk : k < 16) (ho : o < n) : xI n (va_up V (16 * j + k) true) TV (va_up (va_up TO j true) o true) (va_up AG j (TK + 1)) (va_up OP q o) (va_up (va_up NX q (k + 1)) q 0) (TK + 1) (T + 1) :=
  ⟨h.1, h.2.1, fun r hr => ⟨by simp only [va_up]; split; exact ho; exact (h.2.2.1 r hr).1, by simp only [va_up]; split; decide; exact (h.2.2.1 r hr).2⟩,
   fun i hi => ⟨by rw [va_up, if_neg (by omega)]; exact (h.2.2.2.1 i hi).1, (h.2.2.2.1 i hi).2⟩,
   fun i hi => by rw [va_up, if_neg (by omega), va_up, if_neg (by omega)]; exact h.2.2.2.2.1 i hi, h.age j, Nat.succ_le_succ h.2.2.2.2.2.2⟩
theorem xI.far (h : xI n V TV TO AG OP NX TK T) : ∀ j, n ≤ j → xmk TV j = xmk V j ∧ xzk TO OP j = false := fun j hj =>
  ⟨by rw [(xmk_0 TV j).mpr (fun k hk => (h.2.2.2.1 _ (by omega)).2), (xmk_0 V j).mpr (fun k hk => (h.2.2.2.1 _ (by omega)).1)], by
    cases e : xzk TO OP j with
    | false => rfl
    | true =>
      rcases (xzk_iff TO OP j).mp e with z | ⟨q, z1, z2⟩
      · rw [h.2.2.2.2.1 j hj] at z; cases z
      · have := (h.2.2.1 q z1).1; omega⟩
theorem xI.farV (h : xI n V TV TO AG OP NX TK T) : ∀ i, 2048 ≤ i → TV i = V i := fun i hi => by have h1 := h.2.2.2.1 i (by have := h.2.1; omega); rw [h1.1, h1.2]
theorem xI.farT (h : xI n V TV TO AG OP NX TK T) : ∀ j, 128 ≤ j → TO j = false := fun j hj => h.2.2.2.2.1 j (by have := h.2.1; omega)
theorem xI.blk (h : xI n V TV TO AG OP NX TK T) : ∀ q, q < 6 → xbk OP NX q = 96 + 16 * OP q + NX q ∧ OP q < n ∧ NX q < 16 := fun q hq => ⟨by rw [xbk, if_pos hq], h.2.2.1 q hq⟩
end XI
theorem xfr_t (V TV TO : Nat → Bool) (OP : Nat → Nat) (j : Nat) : xfr (xmk V) (xmk TV) (xzk TO OP) j = xmfr V TV TO OP j := xfr_tie V TV (xzk TO OP) TO OP j rfl
theorem xcnt_fr (V TV TO : Nat → Bool) (OP : Nat → Nat) (n : Nat) : xcnt (fun j => (xfr (xmk V) (xmk TV) (xzk TO OP) j).toNat) n = xcnt (fun j => (xmfr V TV TO OP j).toNat) n := xcnt_congr n (fun j _ => by rw [xfr_t])
theorem xcnt_mu (V : Nat → Bool) (n : Nat) : xcnt (fun j => xpc (xmk V j)) n = xcnt (fun j => xmu V j) n := xcnt_congr n (fun j _ => xmk_pc V j)
theorem xvic_tie (g : Bool) (V TO : Nat → Bool) (AG OP : Nat → Nat) (TK n : Nat) : xvic (xcand (xmk V) (xzk TO OP)) (xwo g (xmk V) AG TK) n = xvic (xmc V TO OP) (xmw g V AG TK) n := by
  rw [show xcand (xmk V) (xzk TO OP) = xmc V TO OP from xcand_tie V TO OP, xwo_tie]
theorem xlk_tie (V TV TO : Nat → Bool) (AG OP : Nat → Nat) (j v : Nat) : xlk (xmk V) (xmk TV) AG (xzk TO OP) j v = xml V TV TO AG OP j v := by
  match v with
  | 0 => rfl
  | 1 => rfl
  | 2 => rfl
  | _ + 3 => rfl
end
section
/-! THE LAW: its end, what holds at its entry, its world, and rows for its calls -/
def lw_P (b : Addr) (xs : List Int32) (args : Array Value) (s : State) : Prop := args = #[.ref b] ∧ s.IntsAt b xs ∧ xs.length ≤ 1537 ∧ (Jvm.Cond.and given_1 narrow_1).before args s = true
def lw_Q (_ : Array Value) (s : State) (o : Outcome) (t : State) : Prop := o = .returned (some (.int 1)) ∧ Framed s o t [] 601024 7293000
def lw_Z (below : List Frame) (a : Array Value) (s : State) : State → Prop := fun t => ∃ o, t.status = .running ∧ Ended t below o ∧ lw_Q a s o t
/-- the law's own end, with 1 on the stack, nothing written that was there before, its room as the claim has it -/
theorem lw_ret {p : Program} {l : Launch} {e : Env} {s : State} {m : MethodId} {below : List Frame} {meth : Method} {c : Code} {b : Nat} (hx : p.tables.exec = Jvm.exec) (hb : c.code = code) (hr : meth.sig.returnType = ret) (hlocks : meth.locks = false) {pc : Nat} {H : Heap} {ls : Array Slot} (hdg : decode code pc = .ok (.ireturn, 1)) : W p l e room_1 s m #[Value.ref b] below meth c H [] 601024 7293000 (lw_Z below #[Value.ref b] s) (F0 m pc ls [.int 1]) := by
  intro T hT X
  obtain ⟨fs, hret, hrun, hended, hW, hframe⟩ := X.leave (v := some (.int 1)) (hlocks := hlocks) (fun h => by rw [hr] at h; cases h)
  have hmeth' : T.vm.method? m = some meth := X.method'
  refine ⟨T.setFrames fs, ?_, .returned (some (.int 1)), hrun, hended, rfl, ⟨_, rfl⟩, hW, hframe⟩
  jvm_step X.here [X.here.top, hx, hb, hdg, hmeth', hr, ret, narrow_b1]
  (try refine ⟨rfl, ?_⟩); (try refine ⟨rfl, ?_⟩)
  first | (intro acts; rw [hret _ acts rfl rfl rfl]) | rw [hret _ _ rfl rfl rfl]
  exact Steps.refl _
/-- what holds at the law's entry -/
def lw_At (p : Program) (s : State) (m : MethodId) (meth : Method) (c : Code) (b L : Nat) (xs : Nat → Int32) : Prop :=
  p.tables.exec = Jvm.exec ∧ c.code = code ∧ meth.sig.returnType = ret ∧ c.maxLocals = 7 ∧ s.vm.findClass RL = some m.cls ∧ (∀ w ∈ lw_tbl, w.before #[Value.ref b] s = true) ∧ va_X b L xs s s.heap ∧ b < s.heap.size ∧ meth.locks = false ∧ (Jvm.Cond.and given_1 narrow_1).before #[Value.ref b] s = true
/-- the cells of class, law and reference, in step -/
def xL_c (A : Nat → Nat) (K : Nat → ClassId) (n : Nat) (V TV TO : Nat → Bool) (AG OP NX : Nat → Nat) (TK : Nat) : va_W := xc_W A K n (xmk V) (xmk TV) AG (xzk TO OP) (xbk OP NX) TK
def xL_W (A : Nat → Nat) (K : Nat → ClassId) (n : Nat) (V TV TO : Nat → Bool) (AG OP NX : Nat → Nat) (TK ob : Nat) (kO : ClassId) (f : Nat → Int64) (A2 : Nat → Nat) (K2 : Nat → ClassId) (th : Nat) : va_W := (xc_W A K n (xmk V) (xmk TV) AG (xzk TO OP) (xbk OP NX) TK ++ xo_W ob kO f) ++ xm_W A2 K2 th n V TV TO AG OP NX TK
def xL_T (K : Nat → ClassId) (kO : ClassId) (K2 : Nat → ClassId) : List (ClassId × FieldType) := (xc_T K ++ [(kO, .long)]) ++ xm_T K2
def xL_S (s : State) (D : va_G) (ws : va_W) (H : Heap) (locs : List Loc) : Prop := va_P D xcl ws H ∧ va_D (fun q : Nat => s.heap.size ≤ q) ws ∧ va_S (fun q : Nat => s.heap.size ≤ q) s.heap H locs
def xL_C (p : Program) (l : Launch) (s : State) (m : MethodId) (meth : Method) (c : Code) (D : va_G) (b L : Nat) (xs : Nat → Int32) (K : Nat → ClassId) (kO : ClassId) (K2 : Nat → ClassId) (sa : Nat → Nat) : Prop :=
  lw_At p s m meth c b L xs ∧ va_K D xcl (xL_T K kO K2) s ∧ xS s.heap.size sa s ∧ l.stackTraces = false ∧ ∀ w ∈ xT, w.before #[Value.ref b] s = true
def xL_l (b o1 o2 ob i : Nat) : List (Nat × Value) := [(0, .ref b), (1, .ref o1), (2, .ref o2), (3, .ref ob), (4, .int (nI i))]
/-- behind a call of the script: T calls have gone by, and this one -/
def xL_K (p : Program) (l : Launch) (e : Env) (s : State) (m : MethodId) (below : List Frame) (meth : Method) (c : Code) (D : va_G) (b : Nat) (A : Nat → Nat) (K : Nat → ClassId) (A2 : Nat → Nat) (K2 : Nat → ClassId) (ob : Nat) (kO : ClassId) (n T i : Nat) : Prop :=
  ∀ (V TV TO : Nat → Bool) (AG OP NX : Nat → Nat) (TK th : Nat) (f : Nat → Int64) (H : Heap) (locs : List Loc) (ls : Array Slot), xI n V TV TO AG OP NX TK (T + 1) → xL_S s D (xL_W A K n V TV TO AG OP NX TK ob kO f A2 K2 th) H locs → lv_has ls 7 [(0, .ref b), (1, .ref (A 0)), (2, .ref (A2 0)), (3, .ref ob), (4, .int (nI i))] →
    W p l e room_1 s m #[Value.ref b] below meth c H locs (14 + (T + 1)) (4900 + 6 * (T + 1)) (lw_Z below #[Value.ref b] s) (F0 m 459 ls [])
theorem xl_cmp (x : Int64) : lg_cmp x x = 0 := by
  unfold lg_cmp
  rw [if_neg (show ¬ x > x from Int64.lt_irrefl), if_pos rfl]
theorem xl_last {L i : Nat} (hL : L ≤ 1537) (hi : i ≤ 2000) (h : ¬ nI L - 3 < nI i) : i + 3 ≤ L := by
  rcases Nat.lt_or_ge L 3 with q | q
  · exfalso
    have h3 : L = 0 ∨ L = 1 ∨ L = 2 := by omega
    refine h ?_
    have hp := nI_pos' (n := i) (by omega)
    have key : nI L - 3 < 0 := by rcases h3 with rfl | rfl | rfl <;> decide
    rw [Int32.lt_iff_toInt_lt] at key ⊢
    rw [Int32.le_iff_toInt_le] at hp
    omega
  · rw [show (3 : Int32) = nI 3 from rfl, pk_sub q] at h
    rcases Nat.lt_or_ge (L - 3) i with z | z
    · exact absurd (nI_lt z (by omega)) h
    · omega
theorem xl_out {y : Int32} (h : y < 0 ∨ nI 9 ≤ y) : y.toInt < 0 ∨ 8 < y.toInt := by
  rcases h with h | h
  · rw [Int32.lt_iff_toInt_lt] at h; exact Or.inl h
  · rw [Int32.le_iff_toInt_le] at h
    have : (nI 9).toInt = 9 := by decide
    omega
section XLC
variable {p : Program} {l : Launch} {e : Env} {R : Room} {s : State} {m : MethodId} {args : Array Value} {below : List Frame} {meth : Method} {c : Code} {H : Heap} {locs : List Loc} {cells slots mc ms : Nat} {Q : State → Prop}
variable {D : va_G} {ws ws' w1 w2 wr : va_W} {rest st0 : List Value} {pc : Nat} {ls : Array Slot} {post : Option Value → Prop} {a : Array Value}
theorem xl_L (hr : va_Run p l e R s m args below meth c H locs cells slots mc ms (F0 m pc ls st0) rest (xk_Q post D ws ws' a) (va_A ws H.size)) (hsame : ws.map (·.1) = ws'.map (·.1)) (hW : xL_S s D (ws ++ wr) H locs)
    (kk : ∀ (v : Option Value) (H1 : Heap) (locs1 : List Loc), post v → xL_S s D (ws' ++ wr) H1 locs1 → W p l e R s m args below meth c H1 locs1 (cells + mc) (slots + ms) Q (F0 m (pc + 3) ls (v.toList ++ rest))) : W p l e R s m args below meth c H locs cells slots Q (F0 m pc ls st0) :=
  xr_go hr hW.2.2 (xD_A (xD_l hW.2.1) hW.2.2 (fun _ h => h)) (fun v H1 locs1 h1 h2 _ h4 h5 => kk v H1 locs1 h1 ⟨h2.app (xP_keepR hW.2.1 (xP_r hW.1) h4), xD_same (ws := ws ++ wr) (by rw [List.map_append, List.map_append, hsame]) hW.2.1, h5⟩)
theorem xl_R (hr : va_Run p l e R s m args below meth c H locs cells slots mc ms (F0 m pc ls st0) rest (xk_Q post D ws ws' a) (va_A ws H.size)) (hsame : ws.map (·.1) = ws'.map (·.1)) (hW : xL_S s D (wr ++ ws) H locs)
    (kk : ∀ (v : Option Value) (H1 : Heap) (locs1 : List Loc), post v → xL_S s D (wr ++ ws') H1 locs1 → W p l e R s m args below meth c H1 locs1 (cells + mc) (slots + ms) Q (F0 m (pc + 3) ls (v.toList ++ rest))) : W p l e R s m args below meth c H locs cells slots Q (F0 m pc ls st0) :=
  xr_go hr hW.2.2 (xD_A (xD_r hW.2.1) hW.2.2 (fun _ h => h)) (fun v H1 locs1 h1 h2 _ h4 h5 => kk v H1 locs1 h1 ⟨(xP_keepL hW.2.1 (xP_l hW.1) h4).app h2, xD_same (ws := wr ++ ws) (by rw [List.map_append, List.map_append, hsame]) hW.2.1, h5⟩)
theorem xl_LL (hr : va_Run p l e R s m args below meth c H locs cells slots mc ms (F0 m pc ls st0) rest (xk_Q post D ws ws' a) (va_A ws H.size)) (hsame : ws.map (·.1) = ws'.map (·.1)) (hW : xL_S s D ((ws ++ w2) ++ wr) H locs)
    (kk : ∀ (v : Option Value) (H1 : Heap) (locs1 : List Loc), post v → xL_S s D ((ws' ++ w2) ++ wr) H1 locs1 → W p l e R s m args below meth c H1 locs1 (cells + mc) (slots + ms) Q (F0 m (pc + 3) ls (v.toList ++ rest))) : W p l e R s m args below meth c H locs cells slots Q (F0 m pc ls st0) :=
  xl_L hr hsame (wr := w2 ++ wr) (by rw [← List.append_assoc]; exact hW) (fun v H1 locs1 h1 h2 => kk v H1 locs1 h1 (by rw [List.append_assoc]; exact h2))
theorem xl_kept (hW : xL_S s D ws H locs) : ∀ q : Nat, q < s.heap.size → q < s.heap.size → H[q]? = s.heap[q]? := fun q h1 _ => hW.2.2.2.1 q h1 (Nat.not_le.mpr h1)
end XLC
end
section
/-! THE LAW'S CALLS, one theorem for each road of the switch -/
theorem xl_f0 (f : Nat → Int64) (v : Int64) : vp_updL f 0 v ((0 : Int32).toNatClampNeg) = v := rfl
section LAW
variable {p : Program} {l : Launch} {e : Env} {s : State} {m : MethodId} {below : List Frame} {meth : Method} {c : Code} {D : va_G} {b L : Nat} {xs : Nat → Int32} {A A2 : Nat → Nat} {K K2 : Nat → ClassId} {ob : Nat} {kO : ClassId} {sa : Nat → Nat}
variable {n : Nat} {V TV TO : Nat → Bool} {AG OP NX : Nat → Nat} {TK T th i : Nat} {f : Nat → Int64} {H : Heap} {locs : List Loc} {ls : Array Slot}
set_option maxHeartbeats 4000000 in
set_option maxRecDepth 100000 in
/-- next, answered -/
theorem l_next_ok (C : xL_C p l s m meth c D b L xs K kO K2 sa) (hT : T ≤ 600) (hi : i + 2 < L) (hL : L ≤ 1537) (hI : xI n V TV TO AG OP NX TK T) (hW : xL_S s D (xL_W A K n V TV TO AG OP NX TK ob kO f A2 K2 th) H locs) (hl : lv_has ls 7 [(0, .ref b), (1, .ref (A 0)), (2, .ref (A2 0)), (3, .ref ob), (4, .int (nI i))]) (kk : xL_K p l e s m below meth c D b A K A2 K2 ob kO n T i) (q : Nat) (hq : q < 6) (e1 : xs (nI (i + 1)).toNatClampNeg = nI q) : W p l e room_1 s m #[Value.ref b] below meth c H locs (14 + T) (4900 + 6 * T) (lw_Z below #[Value.ref b] s) (F0 m 156 ls []) := by
  obtain ⟨⟨hx, hb, hr, hml, hown, hts, hX, hbl, hlocks, hgv⟩, hK, hXS, hl0, ht⟩ := C
  have hbA : ¬ (fun q : Nat => s.heap.size ≤ q) b := Nat.not_le.mpr hbl
  have hn : n ≤ 128 := hI.2.1
  have hKh : va_K D xcl (xc_T K ++ [(kO, .long)]) s := hK.sub [0, 1, 2, 3, 4, 5] rfl
  have hKc : va_K D xcl (xc_T K) s := hK.sub [0, 1, 2, 3, 4] rfl
  have hKm : va_K D xcl (xm_T K2) s := hK.sub [6, 7, 8, 9, 10, 11] rfl
  have in1 : vp_in (nI (i + 1)) L := vp_in_nI (by omega) (by omega)
  have in2 : vp_in (nI (i + 2)) L := vp_in_nI (by omega) (by omega)
  have hW : xL_S s D ((xc_W A K n (xmk V) (xmk TV) AG (xzk TO OP) (xbk OP NX) TK ++ xo_W ob kO f) ++ xm_W A2 K2 th n V TV TO AG OP NX TK) H locs := hW
  refine lv_aload_n hx hb dL_law_156 rfl (lv_at hl 1 rfl) ?_
  refine lv_aload_n hx hb dL_law_157 rfl (lv_at hl 0 rfl) ?_
  refine lv_iload hx hb dL_law_158 (lv_at hl 4 rfl) ?_
  refine lv_iconst (v := 1) hx hb dL_law_160 (by decide) ?_
  refine lv_iadd hx hb dL_law_161 ?_
  refine xa_top (y := nI (i + 1)) (nI_add i 1) ?_
  refine va_sld hx hb hX hbl hbA hW.2.2 in1 dL_law_162 ?_
  refine xa_top (y := nI q) e1 ?_
  refine lv_aload_n hx hb dL_law_163 rfl (lv_at hl 3 rfl) ?_
  refine xl_L (ws := xc_W A K n (xmk V) (xmk TV) AG (xzk TO OP) (xbk OP NX) TK ++ xo_W ob kO f) (ws' := xc_W A K n (xmk V) (xmk TV) AG (xzk TO OP) (xbk OP NX) TK ++ xo_W ob kO (vp_updL f 0 ((nI (xbk OP NX q)).toInt64))) (wr := xm_W A2 K2 th n V TV TO AG OP NX TK) (vx_runSW (As := [.ref (A 0), .int (nI q), .ref ob]) (rest := []) ⟨hx, hb, hml, hown, ht⟩ (h_next_ok l D A K n (xmk V) (xmk TV) AG (xzk TO OP) (xbk OP NX) TK q hq ob kO f H.size) (vx_cwSW 3 ht (xg_SH kml_RL_51 kst_yL_next kin_RL kco_yL_next) rfl rfl rfl (by decide +kernel) ⟨Nat.le_of_ble_eq_true rfl, Nat.le_of_ble_eq_true rfl⟩) (xk_preM (xP_l hW.1) hKh (xD_l hW.2.1)) rfl rfl hl.1 rfl (lv_room (Nat.le_of_ble_eq_true rfl)) dL_law_164 ⟨by show 14 + T + 0 ≤ 601024; omega, by show 4900 + 6 * T + 0 ≤ 7293000; omega⟩) rfl hW (fun v9 H locs e9 hW => ?_)
  subst e9
  refine W.widen (k := 14 + (T + 1)) (n := 4900 + 6 * (T + 1)) (by omega) (by omega) ?_
  refine lv_istore (lv' := [(5, .int 0), (0, .ref b), (1, .ref (A 0)), (2, .ref (A2 0)), (3, .ref ob), (4, .int (nI i))]) hx hb dL_law_167 hl (by decide) rfl (fun ls hl => ?_)
  refine lv_aload_n hx hb dL_law_169 rfl (lv_at hl 3 rfl) ?_
  refine lv_aload_n hx hb dL_law_170 rfl (lv_at hl 1 rfl) ?_
  refine lv_iload hx hb dL_law_171 (lv_at hl 5 rfl) ?_
  refine lv_iconst (v := 1) hx hb dL_law_173 (by decide) ?_
  refine lv_iadd hx hb dL_law_174 ?_
  refine xa_top (y := nI (i + 1)) (nI_add i 1) ?_
  refine va_sld hx hb hX hbl hbA hW.2.2 in1 dL_law_175 ?_
  refine xa_top (y := nI q) e1 ?_
  refine xl_R (ws := xm_W A2 K2 th n V TV TO AG OP NX TK) (ws' := xm_W A2 K2 0 n V TV TO AG OP NX TK) (wr := xc_W A K n (xmk V) (xmk TV) AG (xzk TO OP) (xbk OP NX) TK ++ xo_W ob kO (vp_updL f 0 ((nI (xbk OP NX q)).toInt64))) (va_runV (As := [.int (nI q)]) (rest := []) ⟨hx, hb, hml, hown, ht⟩ (m_next_ok l D A2 K2 th n V TV TO AG OP NX TK q hq H.size) (cwV 1 ht (xg_V kml_RL_53 kim_yX1_next ksl_yX1_next kin_RX1 kco_yX1_next) rfl rfl rfl (by decide +kernel) ⟨Nat.le_of_ble_eq_true rfl, Nat.le_of_ble_eq_true rfl⟩) (xk_preMV (xP_r hW.1) hKm (xD_r hW.2.1) rfl rfl) rfl rfl hl.1 rfl (lv_room (Nat.le_of_ble_eq_true rfl)) dL_law_176 ⟨by show 14 + (T + 1) + 0 ≤ 601024; omega, by show 4900 + 6 * (T + 1) + 0 ≤ 7293000; omega⟩) rfl hW (fun v9 H locs e9 hW => ?_)
  subst e9
  refine W.widen (k := 14 + (T + 1)) (n := 4900 + 6 * (T + 1)) (by omega) (by omega) ?_
  refine lv_istore (lv' := [(6, .int (nI (96 + 16 * OP q + NX q))), (5, .int 0), (0, .ref b), (1, .ref (A 0)), (2, .ref (A2 0)), (3, .ref ob), (4, .int (nI i))]) hx hb dL_law_179 hl (by decide) rfl (fun ls hl => ?_)
  refine lv_aload_n hx hb dL_law_181 rfl (lv_at hl 4 rfl) ?_
  refine xr_V (n := 0) (As := []) (rest := []) ⟨hx, hb, hml, hown, ht⟩ (m_thrown l D A2 K2 0 n V TV TO AG OP NX TK) (xg_V kml_RL_47 kim_yX1_thrown ksl_yX1_thrown kin_RX1 kco_yX1_thrown) ⟨rfl, rfl⟩ (by decide +kernel) ⟨Nat.le_of_ble_eq_true rfl, Nat.le_of_ble_eq_true rfl⟩ (xk_preV (xP_r hW.1) hKm rfl rfl) rfl hl.1 rfl (Nat.le_of_ble_eq_true rfl) dL_law_182 ⟨by show 14 + (T + 1) ≤ 601024; omega, by show 4900 + 6 * (T + 1) ≤ 7293000; omega⟩ (fun r8 e8 => ?_)
  subst e8
  refine lv_iload hx hb dL_law_185 (lv_at hl 1 rfl) ?_
  refine lv_icmp_eq (tgt := 192) hx hb dL_law_187 (by decide) (fun _ => ?_) (fun h => by first | exact absurd h (by decide) | exact absurd (by decide) h)
  refine lv_iload hx hb dL_law_192 (lv_at hl 1 rfl) ?_
  refine lv_if_ne (tgt := 209) hx hb dL_law_194 (by decide) (fun h => by first | exact absurd h (by decide) | exact absurd (by decide) h) (fun _ => ?_)
  refine lv_aload_n hx hb dL_law_197 rfl (lv_at hl 5 rfl) ?_
  refine lv_iconst (v := 0) hx hb dL_law_198 (by decide) ?_
  refine va_lald hx hb hKh (xP_l hW.1) 6 5 rfl rfl (i := 0) (vp_in_nI (n := 0) (by decide) (by decide)) dL_law_199 ?_
  refine lv_iload hx hb dL_law_200 (lv_at hl 0 rfl) ?_
  refine lv_i2l hx hb dL_law_202 rfl ?_
  refine W.lcmp hx hb dL_law_203 ?_
  refine lv_if_eq (tgt := 209) hx hb dL_law_204 (by decide) (fun _ => ?_) (fun h => absurd (by rw [xl_f0, (hI.blk q hq).1]; exact xl_cmp _) h)
  refine lv_goto (tgt := 459) hx hb dL_law_209 (by decide) ?_
  have hW : xL_S s D (xL_W A K n V TV TO AG OP NX TK ob kO (vp_updL f 0 ((nI (xbk OP NX q)).toInt64)) A2 K2 0) H locs := by exact hW
  exact kk _ _ _ _ _ _ _ _ _ _ _ ls (hI.more) hW (lv_sub hl [2, 3, 4, 5, 6] rfl)

set_option maxHeartbeats 4000000 in
set_option maxRecDepth 100000 in
/-- next, refused -/
theorem l_next_bad (C : xL_C p l s m meth c D b L xs K kO K2 sa) (hT : T ≤ 600) (hi : i + 2 < L) (hL : L ≤ 1537) (hI : xI n V TV TO AG OP NX TK T) (hW : xL_S s D (xL_W A K n V TV TO AG OP NX TK ob kO f A2 K2 th) H locs) (hl : lv_has ls 7 [(0, .ref b), (1, .ref (A 0)), (2, .ref (A2 0)), (3, .ref ob), (4, .int (nI i))]) (kk : xL_K p l e s m below meth c D b A K A2 K2 ob kO n T i) (x : Int32) (e1 : xs (nI (i + 1)).toNatClampNeg = x) (hbad : ¬ ∃ j : Nat, j < 6 ∧ x = nI j) : W p l e room_1 s m #[Value.ref b] below meth c H locs (14 + T) (4900 + 6 * T) (lw_Z below #[Value.ref b] s) (F0 m 156 ls []) := by
  obtain ⟨⟨hx, hb, hr, hml, hown, hts, hX, hbl, hlocks, hgv⟩, hK, hXS, hl0, ht⟩ := C
  have hbA : ¬ (fun q : Nat => s.heap.size ≤ q) b := Nat.not_le.mpr hbl
  have hn : n ≤ 128 := hI.2.1
  have hKh : va_K D xcl (xc_T K ++ [(kO, .long)]) s := hK.sub [0, 1, 2, 3, 4, 5] rfl
  have hKc : va_K D xcl (xc_T K) s := hK.sub [0, 1, 2, 3, 4] rfl
  have hKm : va_K D xcl (xm_T K2) s := hK.sub [6, 7, 8, 9, 10, 11] rfl
  have in1 : vp_in (nI (i + 1)) L := vp_in_nI (by omega) (by omega)
  have in2 : vp_in (nI (i + 2)) L := vp_in_nI (by omega) (by omega)
  have hW : xL_S s D ((xc_W A K n (xmk V) (xmk TV) AG (xzk TO OP) (xbk OP NX) TK ++ xo_W ob kO f) ++ xm_W A2 K2 th n V TV TO AG OP NX TK) H locs := hW
  refine lv_aload_n hx hb dL_law_156 rfl (lv_at hl 1 rfl) ?_
  refine lv_aload_n hx hb dL_law_157 rfl (lv_at hl 0 rfl) ?_
  refine lv_iload hx hb dL_law_158 (lv_at hl 4 rfl) ?_
  refine lv_iconst (v := 1) hx hb dL_law_160 (by decide) ?_
  refine lv_iadd hx hb dL_law_161 ?_
  refine xa_top (y := nI (i + 1)) (nI_add i 1) ?_
  refine va_sld hx hb hX hbl hbA hW.2.2 in1 dL_law_162 ?_
  refine xa_top (y := x) e1 ?_
  refine lv_aload_n hx hb dL_law_163 rfl (lv_at hl 3 rfl) ?_
  refine xl_L (ws := xc_W A K n (xmk V) (xmk TV) AG (xzk TO OP) (xbk OP NX) TK ++ xo_W ob kO f) (ws' := xc_W A K n (xmk V) (xmk TV) AG (xzk TO OP) (xbk OP NX) TK ++ xo_W ob kO f) (wr := xm_W A2 K2 th n V TV TO AG OP NX TK) (vx_runSW (As := [.ref (A 0), .int x, .ref ob]) (rest := []) ⟨hx, hb, hml, hown, ht⟩ (h_next_bad l D A K n (xmk V) (xmk TV) AG (xzk TO OP) (xbk OP NX) TK x hbad ob kO f H.size s.heap.size sa hl0) (vx_cwSW 3 ht (xg_SH kml_RL_51 kst_yL_next kin_RL kco_yL_next) rfl rfl rfl (by decide +kernel) ⟨Nat.le_of_ble_eq_true rfl, Nat.le_of_ble_eq_true rfl⟩) (xk_preMX (xP_l hW.1) hKh (xD_l hW.2.1) hXS (xl_kept hW)) rfl rfl hl.1 rfl (lv_room (Nat.le_of_ble_eq_true rfl)) dL_law_164 ⟨by show 14 + T + 1 ≤ 601024; omega, by show 4900 + 6 * T + 6 ≤ 7293000; omega⟩) rfl hW (fun v9 H locs e9 hW => ?_)
  subst e9
  refine W.widen (k := 14 + (T + 1)) (n := 4900 + 6 * (T + 1)) (by omega) (by omega) ?_
  refine lv_istore (lv' := [(5, .int 1), (0, .ref b), (1, .ref (A 0)), (2, .ref (A2 0)), (3, .ref ob), (4, .int (nI i))]) hx hb dL_law_167 hl (by decide) rfl (fun ls hl => ?_)
  refine lv_aload_n hx hb dL_law_169 rfl (lv_at hl 3 rfl) ?_
  refine lv_aload_n hx hb dL_law_170 rfl (lv_at hl 1 rfl) ?_
  refine lv_iload hx hb dL_law_171 (lv_at hl 5 rfl) ?_
  refine lv_iconst (v := 1) hx hb dL_law_173 (by decide) ?_
  refine lv_iadd hx hb dL_law_174 ?_
  refine xa_top (y := nI (i + 1)) (nI_add i 1) ?_
  refine va_sld hx hb hX hbl hbA hW.2.2 in1 dL_law_175 ?_
  refine xa_top (y := x) e1 ?_
  refine xl_R (ws := xm_W A2 K2 th n V TV TO AG OP NX TK) (ws' := xm_W A2 K2 1 n V TV TO AG OP NX TK) (wr := xc_W A K n (xmk V) (xmk TV) AG (xzk TO OP) (xbk OP NX) TK ++ xo_W ob kO f) (va_runV (As := [.int x]) (rest := []) ⟨hx, hb, hml, hown, ht⟩ (m_next_bad l D A2 K2 th n V TV TO AG OP NX TK x hbad H.size) (cwV 1 ht (xg_V kml_RL_53 kim_yX1_next ksl_yX1_next kin_RX1 kco_yX1_next) rfl rfl rfl (by decide +kernel) ⟨Nat.le_of_ble_eq_true rfl, Nat.le_of_ble_eq_true rfl⟩) (xk_preMV (xP_r hW.1) hKm (xD_r hW.2.1) rfl rfl) rfl rfl hl.1 rfl (lv_room (Nat.le_of_ble_eq_true rfl)) dL_law_176 ⟨by show 14 + (T + 1) + 0 ≤ 601024; omega, by show 4900 + 6 * (T + 1) + 0 ≤ 7293000; omega⟩) rfl hW (fun v9 H locs e9 hW => ?_)
  obtain ⟨r9, e9⟩ := e9
  subst e9
  refine W.widen (k := 14 + (T + 1)) (n := 4900 + 6 * (T + 1)) (by omega) (by omega) ?_
  refine lv_istore (lv' := [(6, .int r9), (5, .int 1), (0, .ref b), (1, .ref (A 0)), (2, .ref (A2 0)), (3, .ref ob), (4, .int (nI i))]) hx hb dL_law_179 hl (by decide) rfl (fun ls hl => ?_)
  refine lv_aload_n hx hb dL_law_181 rfl (lv_at hl 4 rfl) ?_
  refine xr_V (n := 0) (As := []) (rest := []) ⟨hx, hb, hml, hown, ht⟩ (m_thrown l D A2 K2 1 n V TV TO AG OP NX TK) (xg_V kml_RL_47 kim_yX1_thrown ksl_yX1_thrown kin_RX1 kco_yX1_thrown) ⟨rfl, rfl⟩ (by decide +kernel) ⟨Nat.le_of_ble_eq_true rfl, Nat.le_of_ble_eq_true rfl⟩ (xk_preV (xP_r hW.1) hKm rfl rfl) rfl hl.1 rfl (Nat.le_of_ble_eq_true rfl) dL_law_182 ⟨by show 14 + (T + 1) ≤ 601024; omega, by show 4900 + 6 * (T + 1) ≤ 7293000; omega⟩ (fun r8 e8 => ?_)
  subst e8
  refine lv_iload hx hb dL_law_185 (lv_at hl 1 rfl) ?_
  refine lv_icmp_eq (tgt := 192) hx hb dL_law_187 (by decide) (fun _ => ?_) (fun h => by first | exact absurd h (by decide) | exact absurd (by decide) h)
  refine lv_iload hx hb dL_law_192 (lv_at hl 1 rfl) ?_
  refine lv_if_ne (tgt := 209) hx hb dL_law_194 (by decide) (fun _ => ?_) (fun h => by first | exact absurd h (by decide) | exact absurd (by decide) h)
  refine lv_goto (tgt := 459) hx hb dL_law_209 (by decide) ?_
  have hW : xL_S s D (xL_W A K n V TV TO AG OP NX TK ob kO f A2 K2 1) H locs := by exact hW
  exact kk _ _ _ _ _ _ _ _ _ _ _ ls (hI.more) hW (lv_sub hl [2, 3, 4, 5, 6] rfl)

set_option maxHeartbeats 4000000 in
set_option maxRecDepth 100000 in
/-- drop -/
theorem l_drop_ok (C : xL_C p l s m meth c D b L xs K kO K2 sa) (hT : T ≤ 600) (hi : i + 2 < L) (hL : L ≤ 1537) (hI : xI n V TV TO AG OP NX TK T) (hW : xL_S s D (xL_W A K n V TV TO AG OP NX TK ob kO f A2 K2 th) H locs) (hl : lv_has ls 7 [(0, .ref b), (1, .ref (A 0)), (2, .ref (A2 0)), (3, .ref ob), (4, .int (nI i))]) (kk : xL_K p l e s m below meth c D b A K A2 K2 ob kO n T i) (j k : Nat) (hj : j < n) (hk : k < 16) (e1 : xs (nI (i + 1)).toNatClampNeg = nI (96 + 16 * j + k)) (hs : V (16 * j + k) = true) : W p l e room_1 s m #[Value.ref b] below meth c H locs (14 + T) (4900 + 6 * T) (lw_Z below #[Value.ref b] s) (F0 m 212 ls []) := by
  obtain ⟨⟨hx, hb, hr, hml, hown, hts, hX, hbl, hlocks, hgv⟩, hK, hXS, hl0, ht⟩ := C
  have hbA : ¬ (fun q : Nat => s.heap.size ≤ q) b := Nat.not_le.mpr hbl
  have hn : n ≤ 128 := hI.2.1
  have hKh : va_K D xcl (xc_T K ++ [(kO, .long)]) s := hK.sub [0, 1, 2, 3, 4, 5] rfl
  have hKc : va_K D xcl (xc_T K) s := hK.sub [0, 1, 2, 3, 4] rfl
  have hKm : va_K D xcl (xm_T K2) s := hK.sub [6, 7, 8, 9, 10, 11] rfl
  have in1 : vp_in (nI (i + 1)) L := vp_in_nI (by omega) (by omega)
  have in2 : vp_in (nI (i + 2)) L := vp_in_nI (by omega) (by omega)
  have hW : xL_S s D ((xc_W A K n (xmk V) (xmk TV) AG (xzk TO OP) (xbk OP NX) TK ++ xo_W ob kO f) ++ xm_W A2 K2 th n V TV TO AG OP NX TK) H locs := hW
  refine lv_aload_n hx hb dL_law_212 rfl (lv_at hl 1 rfl) ?_
  refine lv_aload_n hx hb dL_law_213 rfl (lv_at hl 0 rfl) ?_
  refine lv_iload hx hb dL_law_214 (lv_at hl 4 rfl) ?_
  refine lv_iconst (v := 1) hx hb dL_law_216 (by decide) ?_
  refine lv_iadd hx hb dL_law_217 ?_
  refine xa_top (y := nI (i + 1)) (nI_add i 1) ?_
  refine va_sld hx hb hX hbl hbA hW.2.2 in1 dL_law_218 ?_
  refine xa_top (y := nI (96 + 16 * j + k)) e1 ?_
  refine xl_L (ws := xc_W A K n (xmk V) (xmk TV) AG (xzk TO OP) (xbk OP NX) TK ++ xo_W ob kO f) (ws' := xc_W A K n (va_up (xmk V) j (xmk V j &&& (65535 ^^^ 2 ^ k))) (xmk TV) AG (xzk TO OP) (xbk OP NX) TK ++ xo_W ob kO f) (wr := xm_W A2 K2 th n V TV TO AG OP NX TK) (vx_runSW (As := [.ref (A 0), .int (nI (96 + 16 * j + k))]) (rest := []) ⟨hx, hb, hml, hown, ht⟩ (h_drop_ok l D A K n (xmk V) (xmk TV) AG (xzk TO OP) (xbk OP NX) TK hn (fun j => xmk_lt V j) (fun j => xmk_lt TV j) j k hj hk ((xmk_bit' V j k hk).trans hs) ob kO f H.size) (vx_cwSW 2 ht (xg_SH kml_RL_54 kst_yL_drop kin_RL kco_yL_drop) rfl rfl rfl (by decide +kernel) ⟨Nat.le_of_ble_eq_true rfl, Nat.le_of_ble_eq_true rfl⟩) (xk_preM (xP_l hW.1) hKh (xD_l hW.2.1)) rfl rfl hl.1 rfl (lv_room (Nat.le_of_ble_eq_true rfl)) dL_law_219 ⟨by show 14 + T + 0 ≤ 601024; omega, by show 4900 + 6 * T + 0 ≤ 7293000; omega⟩) rfl hW (fun v9 H locs e9 hW => ?_)
  subst e9
  refine W.widen (k := 14 + (T + 1)) (n := 4900 + 6 * (T + 1)) (by omega) (by omega) ?_
  refine lv_istore (lv' := [(5, .int 0), (0, .ref b), (1, .ref (A 0)), (2, .ref (A2 0)), (3, .ref ob), (4, .int (nI i))]) hx hb dL_law_222 hl (by decide) rfl (fun ls hl => ?_)
  refine lv_aload_n hx hb dL_law_224 rfl (lv_at hl 3 rfl) ?_
  refine lv_aload_n hx hb dL_law_225 rfl (lv_at hl 1 rfl) ?_
  refine lv_iload hx hb dL_law_226 (lv_at hl 5 rfl) ?_
  refine lv_iconst (v := 1) hx hb dL_law_228 (by decide) ?_
  refine lv_iadd hx hb dL_law_229 ?_
  refine xa_top (y := nI (i + 1)) (nI_add i 1) ?_
  refine va_sld hx hb hX hbl hbA hW.2.2 in1 dL_law_230 ?_
  refine xa_top (y := nI (96 + 16 * j + k)) e1 ?_
  refine xl_R (ws := xm_W A2 K2 th n V TV TO AG OP NX TK) (ws' := xm_W A2 K2 0 n (va_up V (16 * j + k) false) TV TO AG OP NX TK) (wr := xc_W A K n (va_up (xmk V) j (xmk V j &&& (65535 ^^^ 2 ^ k))) (xmk TV) AG (xzk TO OP) (xbk OP NX) TK ++ xo_W ob kO f) (va_runV (As := [.int (nI (96 + 16 * j + k))]) (rest := []) ⟨hx, hb, hml, hown, ht⟩ (m_drop_ok l D A2 K2 th n V TV TO AG OP NX TK hn j k hj hk hs H.size) (cwV 1 ht (xg_V kml_RL_57 kim_yX1_drop ksl_yX1_drop kin_RX1 kco_yX1_drop) rfl rfl rfl (by decide +kernel) ⟨Nat.le_of_ble_eq_true rfl, Nat.le_of_ble_eq_true rfl⟩) (xk_preMV (xP_r hW.1) hKm (xD_r hW.2.1) rfl rfl) rfl rfl hl.1 rfl (lv_room (Nat.le_of_ble_eq_true rfl)) dL_law_231 ⟨by show 14 + (T + 1) + 0 ≤ 601024; omega, by show 4900 + 6 * (T + 1) + 0 ≤ 7293000; omega⟩) rfl hW (fun v9 H locs e9 hW => ?_)
  subst e9
  refine W.widen (k := 14 + (T + 1)) (n := 4900 + 6 * (T + 1)) (by omega) (by omega) ?_
  refine lv_aload_n hx hb dL_law_234 rfl (lv_at hl 3 rfl) ?_
  refine xr_V (n := 0) (As := []) (rest := []) ⟨hx, hb, hml, hown, ht⟩ (m_thrown l D A2 K2 0 n (va_up V (16 * j + k) false) TV TO AG OP NX TK) (xg_V kml_RL_47 kim_yX1_thrown ksl_yX1_thrown kin_RX1 kco_yX1_thrown) ⟨rfl, rfl⟩ (by decide +kernel) ⟨Nat.le_of_ble_eq_true rfl, Nat.le_of_ble_eq_true rfl⟩ (xk_preV (xP_r hW.1) hKm rfl rfl) rfl hl.1 rfl (Nat.le_of_ble_eq_true rfl) dL_law_235 ⟨by show 14 + (T + 1) ≤ 601024; omega, by show 4900 + 6 * (T + 1) ≤ 7293000; omega⟩ (fun r8 e8 => ?_)
  subst e8
  refine lv_iload hx hb dL_law_238 (lv_at hl 0 rfl) ?_
  refine lv_icmp_eq (tgt := 245) hx hb dL_law_240 (by decide) (fun _ => ?_) (fun h => by first | exact absurd h (by decide) | exact absurd (by decide) h)
  refine lv_goto (tgt := 459) hx hb dL_law_245 (by decide) ?_
  have hW : xL_S s D (xL_W A K n (va_up V (16 * j + k) false) TV TO AG OP NX TK ob kO f A2 K2 0) H locs := by rw [xmk_clr V j k hk] at hW; exact hW
  exact kk _ _ _ _ _ _ _ _ _ _ _ ls (hI.drop _) hW (lv_sub hl [1, 2, 3, 4, 5] rfl)

set_option maxHeartbeats 4000000 in
set_option maxRecDepth 100000 in
/-- drop, no such block -/
theorem l_drop_bad (C : xL_C p l s m meth c D b L xs K kO K2 sa) (hT : T ≤ 600) (hi : i + 2 < L) (hL : L ≤ 1537) (hI : xI n V TV TO AG OP NX TK T) (hW : xL_S s D (xL_W A K n V TV TO AG OP NX TK ob kO f A2 K2 th) H locs) (hl : lv_has ls 7 [(0, .ref b), (1, .ref (A 0)), (2, .ref (A2 0)), (3, .ref ob), (4, .int (nI i))]) (kk : xL_K p l e s m below meth c D b A K A2 K2 ob kO n T i) (x : Int32) (e1 : xs (nI (i + 1)).toNatClampNeg = x) (hbad : ¬ ∃ j k : Nat, j < n ∧ k < 16 ∧ x = nI (96 + 16 * j + k)) : W p l e room_1 s m #[Value.ref b] below meth c H locs (14 + T) (4900 + 6 * T) (lw_Z below #[Value.ref b] s) (F0 m 212 ls []) := by
  obtain ⟨⟨hx, hb, hr, hml, hown, hts, hX, hbl, hlocks, hgv⟩, hK, hXS, hl0, ht⟩ := C
  have hbA : ¬ (fun q : Nat => s.heap.size ≤ q) b := Nat.not_le.mpr hbl
  have hn : n ≤ 128 := hI.2.1
  have hKh : va_K D xcl (xc_T K ++ [(kO, .long)]) s := hK.sub [0, 1, 2, 3, 4, 5] rfl
  have hKc : va_K D xcl (xc_T K) s := hK.sub [0, 1, 2, 3, 4] rfl
  have hKm : va_K D xcl (xm_T K2) s := hK.sub [6, 7, 8, 9, 10, 11] rfl
  have in1 : vp_in (nI (i + 1)) L := vp_in_nI (by omega) (by omega)
  have in2 : vp_in (nI (i + 2)) L := vp_in_nI (by omega) (by omega)
  have hW : xL_S s D ((xc_W A K n (xmk V) (xmk TV) AG (xzk TO OP) (xbk OP NX) TK ++ xo_W ob kO f) ++ xm_W A2 K2 th n V TV TO AG OP NX TK) H locs := hW
  refine lv_aload_n hx hb dL_law_212 rfl (lv_at hl 1 rfl) ?_
  refine lv_aload_n hx hb dL_law_213 rfl (lv_at hl 0 rfl) ?_
  refine lv_iload hx hb dL_law_214 (lv_at hl 4 rfl) ?_
  refine lv_iconst (v := 1) hx hb dL_law_216 (by decide) ?_
  refine lv_iadd hx hb dL_law_217 ?_
  refine xa_top (y := nI (i + 1)) (nI_add i 1) ?_
  refine va_sld hx hb hX hbl hbA hW.2.2 in1 dL_law_218 ?_
  refine xa_top (y := x) e1 ?_
  refine xl_L (ws := xc_W A K n (xmk V) (xmk TV) AG (xzk TO OP) (xbk OP NX) TK ++ xo_W ob kO f) (ws' := xc_W A K n (xmk V) (xmk TV) AG (xzk TO OP) (xbk OP NX) TK ++ xo_W ob kO f) (wr := xm_W A2 K2 th n V TV TO AG OP NX TK) (vx_runSW (As := [.ref (A 0), .int x]) (rest := []) ⟨hx, hb, hml, hown, ht⟩ (h_drop_bad l D A K n (xmk V) (xmk TV) AG (xzk TO OP) (xbk OP NX) TK hn x hbad ob kO f H.size s.heap.size sa hl0) (vx_cwSW 2 ht (xg_SH kml_RL_54 kst_yL_drop kin_RL kco_yL_drop) rfl rfl rfl (by decide +kernel) ⟨Nat.le_of_ble_eq_true rfl, Nat.le_of_ble_eq_true rfl⟩) (xk_preMX (xP_l hW.1) hKh (xD_l hW.2.1) hXS (xl_kept hW)) rfl rfl hl.1 rfl (lv_room (Nat.le_of_ble_eq_true rfl)) dL_law_219 ⟨by show 14 + T + 1 ≤ 601024; omega, by show 4900 + 6 * T + 6 ≤ 7293000; omega⟩) rfl hW (fun v9 H locs e9 hW => ?_)
  subst e9
  refine W.widen (k := 14 + (T + 1)) (n := 4900 + 6 * (T + 1)) (by omega) (by omega) ?_
  refine lv_istore (lv' := [(5, .int 1), (0, .ref b), (1, .ref (A 0)), (2, .ref (A2 0)), (3, .ref ob), (4, .int (nI i))]) hx hb dL_law_222 hl (by decide) rfl (fun ls hl => ?_)
  refine lv_aload_n hx hb dL_law_224 rfl (lv_at hl 3 rfl) ?_
  refine lv_aload_n hx hb dL_law_225 rfl (lv_at hl 1 rfl) ?_
  refine lv_iload hx hb dL_law_226 (lv_at hl 5 rfl) ?_
  refine lv_iconst (v := 1) hx hb dL_law_228 (by decide) ?_
  refine lv_iadd hx hb dL_law_229 ?_
  refine xa_top (y := nI (i + 1)) (nI_add i 1) ?_
  refine va_sld hx hb hX hbl hbA hW.2.2 in1 dL_law_230 ?_
  refine xa_top (y := x) e1 ?_
  refine xl_R (ws := xm_W A2 K2 th n V TV TO AG OP NX TK) (ws' := xm_W A2 K2 1 n V TV TO AG OP NX TK) (wr := xc_W A K n (xmk V) (xmk TV) AG (xzk TO OP) (xbk OP NX) TK ++ xo_W ob kO f) (va_runV (As := [.int x]) (rest := []) ⟨hx, hb, hml, hown, ht⟩ (m_drop_bad l D A2 K2 th n V TV TO AG OP NX TK hn x hbad H.size) (cwV 1 ht (xg_V kml_RL_57 kim_yX1_drop ksl_yX1_drop kin_RX1 kco_yX1_drop) rfl rfl rfl (by decide +kernel) ⟨Nat.le_of_ble_eq_true rfl, Nat.le_of_ble_eq_true rfl⟩) (xk_preMV (xP_r hW.1) hKm (xD_r hW.2.1) rfl rfl) rfl rfl hl.1 rfl (lv_room (Nat.le_of_ble_eq_true rfl)) dL_law_231 ⟨by show 14 + (T + 1) + 0 ≤ 601024; omega, by show 4900 + 6 * (T + 1) + 0 ≤ 7293000; omega⟩) rfl hW (fun v9 H locs e9 hW => ?_)
  subst e9
  refine W.widen (k := 14 + (T + 1)) (n := 4900 + 6 * (T + 1)) (by omega) (by omega) ?_
  refine lv_aload_n hx hb dL_law_234 rfl (lv_at hl 3 rfl) ?_
  refine xr_V (n := 0) (As := []) (rest := []) ⟨hx, hb, hml, hown, ht⟩ (m_thrown l D A2 K2 1 n V TV TO AG OP NX TK) (xg_V kml_RL_47 kim_yX1_thrown ksl_yX1_thrown kin_RX1 kco_yX1_thrown) ⟨rfl, rfl⟩ (by decide +kernel) ⟨Nat.le_of_ble_eq_true rfl, Nat.le_of_ble_eq_true rfl⟩ (xk_preV (xP_r hW.1) hKm rfl rfl) rfl hl.1 rfl (Nat.le_of_ble_eq_true rfl) dL_law_235 ⟨by show 14 + (T + 1) ≤ 601024; omega, by show 4900 + 6 * (T + 1) ≤ 7293000; omega⟩ (fun r8 e8 => ?_)
  subst e8
  refine lv_iload hx hb dL_law_238 (lv_at hl 0 rfl) ?_
  refine lv_icmp_eq (tgt := 245) hx hb dL_law_240 (by decide) (fun _ => ?_) (fun h => by first | exact absurd h (by decide) | exact absurd (by decide) h)
  refine lv_goto (tgt := 459) hx hb dL_law_245 (by decide) ?_
  have hW : xL_S s D (xL_W A K n V TV TO AG OP NX TK ob kO f A2 K2 1) H locs := by exact hW
  exact kk _ _ _ _ _ _ _ _ _ _ _ ls (hI.more) hW (lv_sub hl [1, 2, 3, 4, 5] rfl)

set_option maxHeartbeats 4000000 in
set_option maxRecDepth 100000 in
/-- drop, not in use -/
theorem l_drop_no (C : xL_C p l s m meth c D b L xs K kO K2 sa) (hT : T ≤ 600) (hi : i + 2 < L) (hL : L ≤ 1537) (hI : xI n V TV TO AG OP NX TK T) (hW : xL_S s D (xL_W A K n V TV TO AG OP NX TK ob kO f A2 K2 th) H locs) (hl : lv_has ls 7 [(0, .ref b), (1, .ref (A 0)), (2, .ref (A2 0)), (3, .ref ob), (4, .int (nI i))]) (kk : xL_K p l e s m below meth c D b A K A2 K2 ob kO n T i) (j k : Nat) (hj : j < n) (hk : k < 16) (e1 : xs (nI (i + 1)).toNatClampNeg = nI (96 + 16 * j + k)) (hs : V (16 * j + k) = false) : W p l e room_1 s m #[Value.ref b] below meth c H locs (14 + T) (4900 + 6 * T) (lw_Z below #[Value.ref b] s) (F0 m 212 ls []) := by
  obtain ⟨⟨hx, hb, hr, hml, hown, hts, hX, hbl, hlocks, hgv⟩, hK, hXS, hl0, ht⟩ := C
  have hbA : ¬ (fun q : Nat => s.heap.size ≤ q) b := Nat.not_le.mpr hbl
  have hn : n ≤ 128 := hI.2.1
  have hKh : va_K D xcl (xc_T K ++ [(kO, .long)]) s := hK.sub [0, 1, 2, 3, 4, 5] rfl
  have hKc : va_K D xcl (xc_T K) s := hK.sub [0, 1, 2, 3, 4] rfl
  have hKm : va_K D xcl (xm_T K2) s := hK.sub [6, 7, 8, 9, 10, 11] rfl
  have in1 : vp_in (nI (i + 1)) L := vp_in_nI (by omega) (by omega)
  have in2 : vp_in (nI (i + 2)) L := vp_in_nI (by omega) (by omega)
  have hW : xL_S s D ((xc_W A K n (xmk V) (xmk TV) AG (xzk TO OP) (xbk OP NX) TK ++ xo_W ob kO f) ++ xm_W A2 K2 th n V TV TO AG OP NX TK) H locs := hW
  refine lv_aload_n hx hb dL_law_212 rfl (lv_at hl 1 rfl) ?_
  refine lv_aload_n hx hb dL_law_213 rfl (lv_at hl 0 rfl) ?_
  refine lv_iload hx hb dL_law_214 (lv_at hl 4 rfl) ?_
  refine lv_iconst (v := 1) hx hb dL_law_216 (by decide) ?_
  refine lv_iadd hx hb dL_law_217 ?_
  refine xa_top (y := nI (i + 1)) (nI_add i 1) ?_
  refine va_sld hx hb hX hbl hbA hW.2.2 in1 dL_law_218 ?_
  refine xa_top (y := nI (96 + 16 * j + k)) e1 ?_
  refine xl_L (ws := xc_W A K n (xmk V) (xmk TV) AG (xzk TO OP) (xbk OP NX) TK ++ xo_W ob kO f) (ws' := xc_W A K n (xmk V) (xmk TV) AG (xzk TO OP) (xbk OP NX) TK ++ xo_W ob kO f) (wr := xm_W A2 K2 th n V TV TO AG OP NX TK) (vx_runSW (As := [.ref (A 0), .int (nI (96 + 16 * j + k))]) (rest := []) ⟨hx, hb, hml, hown, ht⟩ (h_drop_no l D A K n (xmk V) (xmk TV) AG (xzk TO OP) (xbk OP NX) TK hn (fun j => xmk_lt V j) (fun j => xmk_lt TV j) j k hj hk ((xmk_bit' V j k hk).trans hs) ob kO f H.size s.heap.size sa hl0) (vx_cwSW 2 ht (xg_SH kml_RL_54 kst_yL_drop kin_RL kco_yL_drop) rfl rfl rfl (by decide +kernel) ⟨Nat.le_of_ble_eq_true rfl, Nat.le_of_ble_eq_true rfl⟩) (xk_preMX (xP_l hW.1) hKh (xD_l hW.2.1) hXS (xl_kept hW)) rfl rfl hl.1 rfl (lv_room (Nat.le_of_ble_eq_true rfl)) dL_law_219 ⟨by show 14 + T + 1 ≤ 601024; omega, by show 4900 + 6 * T + 6 ≤ 7293000; omega⟩) rfl hW (fun v9 H locs e9 hW => ?_)
  subst e9
  refine W.widen (k := 14 + (T + 1)) (n := 4900 + 6 * (T + 1)) (by omega) (by omega) ?_
  refine lv_istore (lv' := [(5, .int 2), (0, .ref b), (1, .ref (A 0)), (2, .ref (A2 0)), (3, .ref ob), (4, .int (nI i))]) hx hb dL_law_222 hl (by decide) rfl (fun ls hl => ?_)
  refine lv_aload_n hx hb dL_law_224 rfl (lv_at hl 3 rfl) ?_
  refine lv_aload_n hx hb dL_law_225 rfl (lv_at hl 1 rfl) ?_
  refine lv_iload hx hb dL_law_226 (lv_at hl 5 rfl) ?_
  refine lv_iconst (v := 1) hx hb dL_law_228 (by decide) ?_
  refine lv_iadd hx hb dL_law_229 ?_
  refine xa_top (y := nI (i + 1)) (nI_add i 1) ?_
  refine va_sld hx hb hX hbl hbA hW.2.2 in1 dL_law_230 ?_
  refine xa_top (y := nI (96 + 16 * j + k)) e1 ?_
  refine xl_R (ws := xm_W A2 K2 th n V TV TO AG OP NX TK) (ws' := xm_W A2 K2 2 n V TV TO AG OP NX TK) (wr := xc_W A K n (xmk V) (xmk TV) AG (xzk TO OP) (xbk OP NX) TK ++ xo_W ob kO f) (va_runV (As := [.int (nI (96 + 16 * j + k))]) (rest := []) ⟨hx, hb, hml, hown, ht⟩ (m_drop_no l D A2 K2 th n V TV TO AG OP NX TK hn j k hj hk hs H.size) (cwV 1 ht (xg_V kml_RL_57 kim_yX1_drop ksl_yX1_drop kin_RX1 kco_yX1_drop) rfl rfl rfl (by decide +kernel) ⟨Nat.le_of_ble_eq_true rfl, Nat.le_of_ble_eq_true rfl⟩) (xk_preMV (xP_r hW.1) hKm (xD_r hW.2.1) rfl rfl) rfl rfl hl.1 rfl (lv_room (Nat.le_of_ble_eq_true rfl)) dL_law_231 ⟨by show 14 + (T + 1) + 0 ≤ 601024; omega, by show 4900 + 6 * (T + 1) + 0 ≤ 7293000; omega⟩) rfl hW (fun v9 H locs e9 hW => ?_)
  subst e9
  refine W.widen (k := 14 + (T + 1)) (n := 4900 + 6 * (T + 1)) (by omega) (by omega) ?_
  refine lv_aload_n hx hb dL_law_234 rfl (lv_at hl 3 rfl) ?_
  refine xr_V (n := 0) (As := []) (rest := []) ⟨hx, hb, hml, hown, ht⟩ (m_thrown l D A2 K2 2 n V TV TO AG OP NX TK) (xg_V kml_RL_47 kim_yX1_thrown ksl_yX1_thrown kin_RX1 kco_yX1_thrown) ⟨rfl, rfl⟩ (by decide +kernel) ⟨Nat.le_of_ble_eq_true rfl, Nat.le_of_ble_eq_true rfl⟩ (xk_preV (xP_r hW.1) hKm rfl rfl) rfl hl.1 rfl (Nat.le_of_ble_eq_true rfl) dL_law_235 ⟨by show 14 + (T + 1) ≤ 601024; omega, by show 4900 + 6 * (T + 1) ≤ 7293000; omega⟩ (fun r8 e8 => ?_)
  subst e8
  refine lv_iload hx hb dL_law_238 (lv_at hl 0 rfl) ?_
  refine lv_icmp_eq (tgt := 245) hx hb dL_law_240 (by decide) (fun _ => ?_) (fun h => by first | exact absurd h (by decide) | exact absurd (by decide) h)
  refine lv_goto (tgt := 459) hx hb dL_law_245 (by decide) ?_
  have hW : xL_S s D (xL_W A K n V TV TO AG OP NX TK ob kO f A2 K2 2) H locs := by exact hW
  exact kk _ _ _ _ _ _ _ _ _ _ _ ls (hI.more) hW (lv_sub hl [1, 2, 3, 4, 5] rfl)

set_option maxHeartbeats 4000000 in
set_option maxRecDepth 100000 in
/-- isUsed -/
theorem l_isUsed_ok (C : xL_C p l s m meth c D b L xs K kO K2 sa) (hT : T ≤ 600) (hi : i + 2 < L) (hL : L ≤ 1537) (hI : xI n V TV TO AG OP NX TK T) (hW : xL_S s D (xL_W A K n V TV TO AG OP NX TK ob kO f A2 K2 th) H locs) (hl : lv_has ls 7 [(0, .ref b), (1, .ref (A 0)), (2, .ref (A2 0)), (3, .ref ob), (4, .int (nI i))]) (kk : xL_K p l e s m below meth c D b A K A2 K2 ob kO n T i) (j k : Nat) (hj : j < n) (hk : k < 16) (e1 : xs (nI (i + 1)).toNatClampNeg = nI (96 + 16 * j + k)) : W p l e room_1 s m #[Value.ref b] below meth c H locs (14 + T) (4900 + 6 * T) (lw_Z below #[Value.ref b] s) (F0 m 248 ls []) := by
  obtain ⟨⟨hx, hb, hr, hml, hown, hts, hX, hbl, hlocks, hgv⟩, hK, hXS, hl0, ht⟩ := C
  have hbA : ¬ (fun q : Nat => s.heap.size ≤ q) b := Nat.not_le.mpr hbl
  have hn : n ≤ 128 := hI.2.1
  have hKh : va_K D xcl (xc_T K ++ [(kO, .long)]) s := hK.sub [0, 1, 2, 3, 4, 5] rfl
  have hKc : va_K D xcl (xc_T K) s := hK.sub [0, 1, 2, 3, 4] rfl
  have hKm : va_K D xcl (xm_T K2) s := hK.sub [6, 7, 8, 9, 10, 11] rfl
  have in1 : vp_in (nI (i + 1)) L := vp_in_nI (by omega) (by omega)
  have in2 : vp_in (nI (i + 2)) L := vp_in_nI (by omega) (by omega)
  have hW : xL_S s D ((xc_W A K n (xmk V) (xmk TV) AG (xzk TO OP) (xbk OP NX) TK ++ xo_W ob kO f) ++ xm_W A2 K2 th n V TV TO AG OP NX TK) H locs := hW
  refine lv_aload_n hx hb dL_law_248 rfl (lv_at hl 1 rfl) ?_
  refine lv_aload_n hx hb dL_law_249 rfl (lv_at hl 0 rfl) ?_
  refine lv_iload hx hb dL_law_250 (lv_at hl 4 rfl) ?_
  refine lv_iconst (v := 1) hx hb dL_law_252 (by decide) ?_
  refine lv_iadd hx hb dL_law_253 ?_
  refine xa_top (y := nI (i + 1)) (nI_add i 1) ?_
  refine va_sld hx hb hX hbl hbA hW.2.2 in1 dL_law_254 ?_
  refine xa_top (y := nI (96 + 16 * j + k)) e1 ?_
  refine lv_aload_n hx hb dL_law_255 rfl (lv_at hl 3 rfl) ?_
  refine xl_L (ws := xc_W A K n (xmk V) (xmk TV) AG (xzk TO OP) (xbk OP NX) TK ++ xo_W ob kO f) (ws' := xc_W A K n (xmk V) (xmk TV) AG (xzk TO OP) (xbk OP NX) TK ++ xo_W ob kO (vp_updL f 0 (if (xmk V j).testBit k then 1 else 0))) (wr := xm_W A2 K2 th n V TV TO AG OP NX TK) (vx_runSW (As := [.ref (A 0), .int (nI (96 + 16 * j + k)), .ref ob]) (rest := []) ⟨hx, hb, hml, hown, ht⟩ (h_isUsed_ok l D A K n (xmk V) (xmk TV) AG (xzk TO OP) (xbk OP NX) TK hn (fun j => xmk_lt V j) (fun j => xmk_lt TV j) j k hj hk ob kO f H.size) (vx_cwSW 3 ht (xg_SH kml_RL_58 kst_yL_isUsed kin_RL kco_yL_isUsed) rfl rfl rfl (by decide +kernel) ⟨Nat.le_of_ble_eq_true rfl, Nat.le_of_ble_eq_true rfl⟩) (xk_preM (xP_l hW.1) hKh (xD_l hW.2.1)) rfl rfl hl.1 rfl (lv_room (Nat.le_of_ble_eq_true rfl)) dL_law_256 ⟨by show 14 + T + 0 ≤ 601024; omega, by show 4900 + 6 * T + 0 ≤ 7293000; omega⟩) rfl hW (fun v9 H locs e9 hW => ?_)
  subst e9
  refine W.widen (k := 14 + (T + 1)) (n := 4900 + 6 * (T + 1)) (by omega) (by omega) ?_
  refine lv_istore (lv' := [(5, .int 0), (0, .ref b), (1, .ref (A 0)), (2, .ref (A2 0)), (3, .ref ob), (4, .int (nI i))]) hx hb dL_law_259 hl (by decide) rfl (fun ls hl => ?_)
  refine lv_aload_n hx hb dL_law_261 rfl (lv_at hl 3 rfl) ?_
  refine lv_aload_n hx hb dL_law_262 rfl (lv_at hl 1 rfl) ?_
  refine lv_iload hx hb dL_law_263 (lv_at hl 5 rfl) ?_
  refine lv_iconst (v := 1) hx hb dL_law_265 (by decide) ?_
  refine lv_iadd hx hb dL_law_266 ?_
  refine xa_top (y := nI (i + 1)) (nI_add i 1) ?_
  refine va_sld hx hb hX hbl hbA hW.2.2 in1 dL_law_267 ?_
  refine xa_top (y := nI (96 + 16 * j + k)) e1 ?_
  refine xl_R (ws := xm_W A2 K2 th n V TV TO AG OP NX TK) (ws' := xm_W A2 K2 0 n V TV TO AG OP NX TK) (wr := xc_W A K n (xmk V) (xmk TV) AG (xzk TO OP) (xbk OP NX) TK ++ xo_W ob kO (vp_updL f 0 (if (xmk V j).testBit k then 1 else 0))) (va_runV (As := [.int (nI (96 + 16 * j + k))]) (rest := []) ⟨hx, hb, hml, hown, ht⟩ (m_isUsed_ok l D A2 K2 th n V TV TO AG OP NX TK hn j k hj hk H.size) (cwV 1 ht (xg_V kml_RL_60 kim_yX1_isUsed ksl_yX1_isUsed kin_RX1 kco_yX1_isUsed) rfl rfl rfl (by decide +kernel) ⟨Nat.le_of_ble_eq_true rfl, Nat.le_of_ble_eq_true rfl⟩) (xk_preMV (xP_r hW.1) hKm (xD_r hW.2.1) rfl rfl) rfl rfl hl.1 rfl (lv_room (Nat.le_of_ble_eq_true rfl)) dL_law_268 ⟨by show 14 + (T + 1) + 0 ≤ 601024; omega, by show 4900 + 6 * (T + 1) + 0 ≤ 7293000; omega⟩) rfl hW (fun v9 H locs e9 hW => ?_)
  subst e9
  refine W.widen (k := 14 + (T + 1)) (n := 4900 + 6 * (T + 1)) (by omega) (by omega) ?_
  refine lv_istore (lv' := [(6, .int (xb (V (16 * j + k)))), (5, .int 0), (0, .ref b), (1, .ref (A 0)), (2, .ref (A2 0)), (3, .ref ob), (4, .int (nI i))]) hx hb dL_law_271 hl (by decide) rfl (fun ls hl => ?_)
  refine lv_aload_n hx hb dL_law_273 rfl (lv_at hl 4 rfl) ?_
  refine xr_V (n := 0) (As := []) (rest := []) ⟨hx, hb, hml, hown, ht⟩ (m_thrown l D A2 K2 0 n V TV TO AG OP NX TK) (xg_V kml_RL_47 kim_yX1_thrown ksl_yX1_thrown kin_RX1 kco_yX1_thrown) ⟨rfl, rfl⟩ (by decide +kernel) ⟨Nat.le_of_ble_eq_true rfl, Nat.le_of_ble_eq_true rfl⟩ (xk_preV (xP_r hW.1) hKm rfl rfl) rfl hl.1 rfl (Nat.le_of_ble_eq_true rfl) dL_law_274 ⟨by show 14 + (T + 1) ≤ 601024; omega, by show 4900 + 6 * (T + 1) ≤ 7293000; omega⟩ (fun r8 e8 => ?_)
  subst e8
  refine lv_iload hx hb dL_law_277 (lv_at hl 1 rfl) ?_
  refine lv_icmp_eq (tgt := 284) hx hb dL_law_279 (by decide) (fun _ => ?_) (fun h => by first | exact absurd h (by decide) | exact absurd (by decide) h)
  refine lv_iload hx hb dL_law_284 (lv_at hl 1 rfl) ?_
  refine lv_if_ne (tgt := 308) hx hb dL_law_286 (by decide) (fun h => by first | exact absurd h (by decide) | exact absurd (by decide) h) (fun _ => ?_)
  refine lv_aload_n hx hb dL_law_289 rfl (lv_at hl 5 rfl) ?_
  refine lv_iconst (v := 0) hx hb dL_law_290 (by decide) ?_
  refine va_lald hx hb hKh (xP_l hW.1) 6 5 rfl rfl (i := 0) (vp_in_nI (n := 0) (by decide) (by decide)) dL_law_291 ?_
  refine lv_iload hx hb dL_law_292 (lv_at hl 0 rfl) ?_
  refine lv_if_eq (tgt := 301) hx hb dL_law_294 (by decide) (fun h2 => ?_) (fun h2 => ?_)
  · rw [xb_0] at h2
    refine lv_lconst (v := 0) hx hb dL_law_301 rfl ?_
    refine W.lcmp hx hb dL_law_302 ?_
    refine lv_if_eq (tgt := 308) hx hb dL_law_303 (by decide) (fun _ => ?_) (fun h => absurd (by rw [xl_f0, xmk_bit' V j k hk, h2]; exact xl_cmp _) h)
    refine lv_goto (tgt := 459) hx hb dL_law_308 (by decide) ?_
    have hW : xL_S s D (xL_W A K n V TV TO AG OP NX TK ob kO (vp_updL f 0 (if (xmk V j).testBit k then 1 else 0)) A2 K2 0) H locs := by exact hW
    exact kk _ _ _ _ _ _ _ _ _ _ _ ls (hI.more) hW (lv_sub hl [2, 3, 4, 5, 6] rfl)
  · rw [xb_n0] at h2
    refine lv_lconst (v := 1) hx hb dL_law_297 rfl ?_
    refine lv_goto (tgt := 302) hx hb dL_law_298 (by decide) ?_
    refine W.lcmp hx hb dL_law_302 ?_
    refine lv_if_eq (tgt := 308) hx hb dL_law_303 (by decide) (fun _ => ?_) (fun h => absurd (by rw [xl_f0, xmk_bit' V j k hk, h2]; exact xl_cmp _) h)
    refine lv_goto (tgt := 459) hx hb dL_law_308 (by decide) ?_
    have hW : xL_S s D (xL_W A K n V TV TO AG OP NX TK ob kO (vp_updL f 0 (if (xmk V j).testBit k then 1 else 0)) A2 K2 0) H locs := by exact hW
    exact kk _ _ _ _ _ _ _ _ _ _ _ ls (hI.more) hW (lv_sub hl [2, 3, 4, 5, 6] rfl)

set_option maxHeartbeats 4000000 in
set_option maxRecDepth 100000 in
/-- isUsed, no such block -/
theorem l_isUsed_bad (C : xL_C p l s m meth c D b L xs K kO K2 sa) (hT : T ≤ 600) (hi : i + 2 < L) (hL : L ≤ 1537) (hI : xI n V TV TO AG OP NX TK T) (hW : xL_S s D (xL_W A K n V TV TO AG OP NX TK ob kO f A2 K2 th) H locs) (hl : lv_has ls 7 [(0, .ref b), (1, .ref (A 0)), (2, .ref (A2 0)), (3, .ref ob), (4, .int (nI i))]) (kk : xL_K p l e s m below meth c D b A K A2 K2 ob kO n T i) (x : Int32) (e1 : xs (nI (i + 1)).toNatClampNeg = x) (hbad : ¬ ∃ j k : Nat, j < n ∧ k < 16 ∧ x = nI (96 + 16 * j + k)) : W p l e room_1 s m #[Value.ref b] below meth c H locs (14 + T) (4900 + 6 * T) (lw_Z below #[Value.ref b] s) (F0 m 248 ls []) := by
  obtain ⟨⟨hx, hb, hr, hml, hown, hts, hX, hbl, hlocks, hgv⟩, hK, hXS, hl0, ht⟩ := C
  have hbA : ¬ (fun q : Nat => s.heap.size ≤ q) b := Nat.not_le.mpr hbl
  have hn : n ≤ 128 := hI.2.1
  have hKh : va_K D xcl (xc_T K ++ [(kO, .long)]) s := hK.sub [0, 1, 2, 3, 4, 5] rfl
  have hKc : va_K D xcl (xc_T K) s := hK.sub [0, 1, 2, 3, 4] rfl
  have hKm : va_K D xcl (xm_T K2) s := hK.sub [6, 7, 8, 9, 10, 11] rfl
  have in1 : vp_in (nI (i + 1)) L := vp_in_nI (by omega) (by omega)
  have in2 : vp_in (nI (i + 2)) L := vp_in_nI (by omega) (by omega)
  have hW : xL_S s D ((xc_W A K n (xmk V) (xmk TV) AG (xzk TO OP) (xbk OP NX) TK ++ xo_W ob kO f) ++ xm_W A2 K2 th n V TV TO AG OP NX TK) H locs := hW
  refine lv_aload_n hx hb dL_law_248 rfl (lv_at hl 1 rfl) ?_
  refine lv_aload_n hx hb dL_law_249 rfl (lv_at hl 0 rfl) ?_
  refine lv_iload hx hb dL_law_250 (lv_at hl 4 rfl) ?_
  refine lv_iconst (v := 1) hx hb dL_law_252 (by decide) ?_
  refine lv_iadd hx hb dL_law_253 ?_
  refine xa_top (y := nI (i + 1)) (nI_add i 1) ?_
  refine va_sld hx hb hX hbl hbA hW.2.2 in1 dL_law_254 ?_
  refine xa_top (y := x) e1 ?_
  refine lv_aload_n hx hb dL_law_255 rfl (lv_at hl 3 rfl) ?_
  refine xl_L (ws := xc_W A K n (xmk V) (xmk TV) AG (xzk TO OP) (xbk OP NX) TK ++ xo_W ob kO f) (ws' := xc_W A K n (xmk V) (xmk TV) AG (xzk TO OP) (xbk OP NX) TK ++ xo_W ob kO f) (wr := xm_W A2 K2 th n V TV TO AG OP NX TK) (vx_runSW (As := [.ref (A 0), .int x, .ref ob]) (rest := []) ⟨hx, hb, hml, hown, ht⟩ (h_isUsed_bad l D A K n (xmk V) (xmk TV) AG (xzk TO OP) (xbk OP NX) TK hn x hbad ob kO f H.size s.heap.size sa hl0) (vx_cwSW 3 ht (xg_SH kml_RL_58 kst_yL_isUsed kin_RL kco_yL_isUsed) rfl rfl rfl (by decide +kernel) ⟨Nat.le_of_ble_eq_true rfl, Nat.le_of_ble_eq_true rfl⟩) (xk_preMX (xP_l hW.1) hKh (xD_l hW.2.1) hXS (xl_kept hW)) rfl rfl hl.1 rfl (lv_room (Nat.le_of_ble_eq_true rfl)) dL_law_256 ⟨by show 14 + T + 1 ≤ 601024; omega, by show 4900 + 6 * T + 6 ≤ 7293000; omega⟩) rfl hW (fun v9 H locs e9 hW => ?_)
  subst e9
  refine W.widen (k := 14 + (T + 1)) (n := 4900 + 6 * (T + 1)) (by omega) (by omega) ?_
  refine lv_istore (lv' := [(5, .int 1), (0, .ref b), (1, .ref (A 0)), (2, .ref (A2 0)), (3, .ref ob), (4, .int (nI i))]) hx hb dL_law_259 hl (by decide) rfl (fun ls hl => ?_)
  refine lv_aload_n hx hb dL_law_261 rfl (lv_at hl 3 rfl) ?_
  refine lv_aload_n hx hb dL_law_262 rfl (lv_at hl 1 rfl) ?_
  refine lv_iload hx hb dL_law_263 (lv_at hl 5 rfl) ?_
  refine lv_iconst (v := 1) hx hb dL_law_265 (by decide) ?_
  refine lv_iadd hx hb dL_law_266 ?_
  refine xa_top (y := nI (i + 1)) (nI_add i 1) ?_
  refine va_sld hx hb hX hbl hbA hW.2.2 in1 dL_law_267 ?_
  refine xa_top (y := x) e1 ?_
  refine xl_R (ws := xm_W A2 K2 th n V TV TO AG OP NX TK) (ws' := xm_W A2 K2 1 n V TV TO AG OP NX TK) (wr := xc_W A K n (xmk V) (xmk TV) AG (xzk TO OP) (xbk OP NX) TK ++ xo_W ob kO f) (va_runV (As := [.int x]) (rest := []) ⟨hx, hb, hml, hown, ht⟩ (m_isUsed_bad l D A2 K2 th n V TV TO AG OP NX TK hn x hbad H.size) (cwV 1 ht (xg_V kml_RL_60 kim_yX1_isUsed ksl_yX1_isUsed kin_RX1 kco_yX1_isUsed) rfl rfl rfl (by decide +kernel) ⟨Nat.le_of_ble_eq_true rfl, Nat.le_of_ble_eq_true rfl⟩) (xk_preMV (xP_r hW.1) hKm (xD_r hW.2.1) rfl rfl) rfl rfl hl.1 rfl (lv_room (Nat.le_of_ble_eq_true rfl)) dL_law_268 ⟨by show 14 + (T + 1) + 0 ≤ 601024; omega, by show 4900 + 6 * (T + 1) + 0 ≤ 7293000; omega⟩) rfl hW (fun v9 H locs e9 hW => ?_)
  obtain ⟨r9, e9⟩ := e9
  subst e9
  refine W.widen (k := 14 + (T + 1)) (n := 4900 + 6 * (T + 1)) (by omega) (by omega) ?_
  refine lv_istore (lv' := [(6, .int r9), (5, .int 1), (0, .ref b), (1, .ref (A 0)), (2, .ref (A2 0)), (3, .ref ob), (4, .int (nI i))]) hx hb dL_law_271 hl (by decide) rfl (fun ls hl => ?_)
  refine lv_aload_n hx hb dL_law_273 rfl (lv_at hl 4 rfl) ?_
  refine xr_V (n := 0) (As := []) (rest := []) ⟨hx, hb, hml, hown, ht⟩ (m_thrown l D A2 K2 1 n V TV TO AG OP NX TK) (xg_V kml_RL_47 kim_yX1_thrown ksl_yX1_thrown kin_RX1 kco_yX1_thrown) ⟨rfl, rfl⟩ (by decide +kernel) ⟨Nat.le_of_ble_eq_true rfl, Nat.le_of_ble_eq_true rfl⟩ (xk_preV (xP_r hW.1) hKm rfl rfl) rfl hl.1 rfl (Nat.le_of_ble_eq_true rfl) dL_law_274 ⟨by show 14 + (T + 1) ≤ 601024; omega, by show 4900 + 6 * (T + 1) ≤ 7293000; omega⟩ (fun r8 e8 => ?_)
  subst e8
  refine lv_iload hx hb dL_law_277 (lv_at hl 1 rfl) ?_
  refine lv_icmp_eq (tgt := 284) hx hb dL_law_279 (by decide) (fun _ => ?_) (fun h => by first | exact absurd h (by decide) | exact absurd (by decide) h)
  refine lv_iload hx hb dL_law_284 (lv_at hl 1 rfl) ?_
  refine lv_if_ne (tgt := 308) hx hb dL_law_286 (by decide) (fun _ => ?_) (fun h => by first | exact absurd h (by decide) | exact absurd (by decide) h)
  refine lv_goto (tgt := 459) hx hb dL_law_308 (by decide) ?_
  have hW : xL_S s D (xL_W A K n V TV TO AG OP NX TK ob kO f A2 K2 1) H locs := by exact hW
  exact kk _ _ _ _ _ _ _ _ _ _ _ ls (hI.more) hW (lv_sub hl [2, 3, 4, 5, 6] rfl)

set_option maxHeartbeats 4000000 in
set_option maxRecDepth 100000 in
/-- take within its segment -/
theorem l_take_stay (C : xL_C p l s m meth c D b L xs K kO K2 sa) (hT : T ≤ 600) (hi : i + 2 < L) (hL : L ≤ 1537) (hI : xI n V TV TO AG OP NX TK T) (hW : xL_S s D (xL_W A K n V TV TO AG OP NX TK ob kO f A2 K2 th) H locs) (hl : lv_has ls 7 [(0, .ref b), (1, .ref (A 0)), (2, .ref (A2 0)), (3, .ref ob), (4, .int (nI i))]) (kk : xL_K p l e s m below meth c D b A K A2 K2 ob kO n T i) (q j k : Nat) (hq : q < 6) (e1 : xs (nI (i + 1)).toNatClampNeg = nI q) (hO : OP q = j) (hN : NX q = k) (hj : j < n) (hk : k < 15) : W p l e room_1 s m #[Value.ref b] below meth c H locs (14 + T) (4900 + 6 * T) (lw_Z below #[Value.ref b] s) (F0 m 100 ls []) := by
  obtain ⟨⟨hx, hb, hr, hml, hown, hts, hX, hbl, hlocks, hgv⟩, hK, hXS, hl0, ht⟩ := C
  have hbA : ¬ (fun q : Nat => s.heap.size ≤ q) b := Nat.not_le.mpr hbl
  have hn : n ≤ 128 := hI.2.1
  have hKh : va_K D xcl (xc_T K ++ [(kO, .long)]) s := hK.sub [0, 1, 2, 3, 4, 5] rfl
  have hKc : va_K D xcl (xc_T K) s := hK.sub [0, 1, 2, 3, 4] rfl
  have hKm : va_K D xcl (xm_T K2) s := hK.sub [6, 7, 8, 9, 10, 11] rfl
  have in1 : vp_in (nI (i + 1)) L := vp_in_nI (by omega) (by omega)
  have in2 : vp_in (nI (i + 2)) L := vp_in_nI (by omega) (by omega)
  have hW : xL_S s D ((xc_W A K n (xmk V) (xmk TV) AG (xzk TO OP) (xbk OP NX) TK ++ xo_W ob kO f) ++ xm_W A2 K2 th n V TV TO AG OP NX TK) H locs := hW
  refine lv_aload_n hx hb dL_law_100 rfl (lv_at hl 1 rfl) ?_
  refine lv_aload_n hx hb dL_law_101 rfl (lv_at hl 0 rfl) ?_
  refine lv_iload hx hb dL_law_102 (lv_at hl 4 rfl) ?_
  refine lv_iconst (v := 1) hx hb dL_law_104 (by decide) ?_
  refine lv_iadd hx hb dL_law_105 ?_
  refine xa_top (y := nI (i + 1)) (nI_add i 1) ?_
  refine va_sld hx hb hX hbl hbA hW.2.2 in1 dL_law_106 ?_
  refine xa_top (y := nI q) e1 ?_
  refine lv_aload_n hx hb dL_law_107 rfl (lv_at hl 3 rfl) ?_
  refine xl_L (ws := xc_W A K n (xmk V) (xmk TV) AG (xzk TO OP) (xbk OP NX) TK ++ xo_W ob kO f) (ws' := xc_W A K n (va_up (xmk V) j (xmk V j ||| 2 ^ k)) (xmk TV) (va_up AG j (TK + 1)) (va_up (xzk TO OP) j true) (va_up (xbk OP NX) q (96 + 16 * j + (k + 1))) (TK + 1) ++ xo_W ob kO (vp_updL f 0 ((nI (96 + 16 * j + k)).toInt64))) (wr := xm_W A2 K2 th n V TV TO AG OP NX TK) (vx_runSW (As := [.ref (A 0), .int (nI q), .ref ob]) (rest := []) ⟨hx, hb, hml, hown, ht⟩ (h_take_stay l D A K n (xmk V) (xmk TV) AG (xzk TO OP) (xbk OP NX) TK hn (fun j => xmk_lt V j) (fun j => xmk_lt TV j) q j k hq (by rw [(hI.blk q hq).1, hO, hN]) hj hk ob kO f H.size) (vx_cwSW 3 ht (xg_SH kml_RL_43 kst_yL_take kin_RL kco_yL_take) rfl rfl rfl (by decide +kernel) ⟨Nat.le_of_ble_eq_true rfl, Nat.le_of_ble_eq_true rfl⟩) (xk_preM (xP_l hW.1) hKh (xD_l hW.2.1)) rfl rfl hl.1 rfl (lv_room (Nat.le_of_ble_eq_true rfl)) dL_law_108 ⟨by show 14 + T + 0 ≤ 601024; omega, by show 4900 + 6 * T + 0 ≤ 7293000; omega⟩) rfl hW (fun v9 H locs e9 hW => ?_)
  subst e9
  refine W.widen (k := 14 + (T + 1)) (n := 4900 + 6 * (T + 1)) (by omega) (by omega) ?_
  refine lv_istore (lv' := [(5, .int 0), (0, .ref b), (1, .ref (A 0)), (2, .ref (A2 0)), (3, .ref ob), (4, .int (nI i))]) hx hb dL_law_111 hl (by decide) rfl (fun ls hl => ?_)
  refine lv_aload_n hx hb dL_law_113 rfl (lv_at hl 3 rfl) ?_
  refine lv_aload_n hx hb dL_law_114 rfl (lv_at hl 1 rfl) ?_
  refine lv_iload hx hb dL_law_115 (lv_at hl 5 rfl) ?_
  refine lv_iconst (v := 1) hx hb dL_law_117 (by decide) ?_
  refine lv_iadd hx hb dL_law_118 ?_
  refine xa_top (y := nI (i + 1)) (nI_add i 1) ?_
  refine va_sld hx hb hX hbl hbA hW.2.2 in1 dL_law_119 ?_
  refine xa_top (y := nI q) e1 ?_
  refine xl_R (ws := xm_W A2 K2 th n V TV TO AG OP NX TK) (ws' := xm_W A2 K2 0 n (va_up V (16 * j + k) true) TV (va_up TO j true) (va_up AG j (TK + 1)) OP (va_up NX q (k + 1)) (TK + 1)) (wr := xc_W A K n (va_up (xmk V) j (xmk V j ||| 2 ^ k)) (xmk TV) (va_up AG j (TK + 1)) (va_up (xzk TO OP) j true) (va_up (xbk OP NX) q (96 + 16 * j + (k + 1))) (TK + 1) ++ xo_W ob kO (vp_updL f 0 ((nI (96 + 16 * j + k)).toInt64))) (va_runV (As := [.int (nI q)]) (rest := []) ⟨hx, hb, hml, hown, ht⟩ (m_take_stay l D A2 K2 th n V TV TO AG OP NX TK hn hI.op q j k hq hO hN hj hk H.size) (cwV 1 ht (xg_V kml_RL_46 kim_yX1_take ksl_yX1_take kin_RX1 kco_yX1_take) rfl rfl rfl (by decide +kernel) ⟨Nat.le_of_ble_eq_true rfl, Nat.le_of_ble_eq_true rfl⟩) (xk_preMV (xP_r hW.1) hKm (xD_r hW.2.1) rfl rfl) rfl rfl hl.1 rfl (lv_room (Nat.le_of_ble_eq_true rfl)) dL_law_120 ⟨by show 14 + (T + 1) + 0 ≤ 601024; omega, by show 4900 + 6 * (T + 1) + 0 ≤ 7293000; omega⟩) rfl hW (fun v9 H locs e9 hW => ?_)
  subst e9
  refine W.widen (k := 14 + (T + 1)) (n := 4900 + 6 * (T + 1)) (by omega) (by omega) ?_
  refine lv_istore (lv' := [(6, .int (nI (96 + 16 * j + k))), (5, .int 0), (0, .ref b), (1, .ref (A 0)), (2, .ref (A2 0)), (3, .ref ob), (4, .int (nI i))]) hx hb dL_law_123 hl (by decide) rfl (fun ls hl => ?_)
  refine lv_aload_n hx hb dL_law_125 rfl (lv_at hl 4 rfl) ?_
  refine xr_V (n := 0) (As := []) (rest := []) ⟨hx, hb, hml, hown, ht⟩ (m_thrown l D A2 K2 0 n (va_up V (16 * j + k) true) TV (va_up TO j true) (va_up AG j (TK + 1)) OP (va_up NX q (k + 1)) (TK + 1)) (xg_V kml_RL_47 kim_yX1_thrown ksl_yX1_thrown kin_RX1 kco_yX1_thrown) ⟨rfl, rfl⟩ (by decide +kernel) ⟨Nat.le_of_ble_eq_true rfl, Nat.le_of_ble_eq_true rfl⟩ (xk_preV (xP_r hW.1) hKm rfl rfl) rfl hl.1 rfl (Nat.le_of_ble_eq_true rfl) dL_law_126 ⟨by show 14 + (T + 1) ≤ 601024; omega, by show 4900 + 6 * (T + 1) ≤ 7293000; omega⟩ (fun r8 e8 => ?_)
  subst e8
  refine lv_iload hx hb dL_law_129 (lv_at hl 1 rfl) ?_
  refine lv_icmp_eq (tgt := 136) hx hb dL_law_131 (by decide) (fun _ => ?_) (fun h => by first | exact absurd h (by decide) | exact absurd (by decide) h)
  refine lv_iload hx hb dL_law_136 (lv_at hl 1 rfl) ?_
  refine lv_if_ne (tgt := 153) hx hb dL_law_138 (by decide) (fun h => by first | exact absurd h (by decide) | exact absurd (by decide) h) (fun _ => ?_)
  refine lv_aload_n hx hb dL_law_141 rfl (lv_at hl 5 rfl) ?_
  refine lv_iconst (v := 0) hx hb dL_law_142 (by decide) ?_
  refine va_lald hx hb hKh (xP_l hW.1) 6 5 rfl rfl (i := 0) (vp_in_nI (n := 0) (by decide) (by decide)) dL_law_143 ?_
  refine lv_iload hx hb dL_law_144 (lv_at hl 0 rfl) ?_
  refine lv_i2l hx hb dL_law_146 rfl ?_
  refine W.lcmp hx hb dL_law_147 ?_
  refine lv_if_eq (tgt := 153) hx hb dL_law_148 (by decide) (fun _ => ?_) (fun h => absurd (by rw [xl_f0]; exact xl_cmp _) h)
  refine lv_goto (tgt := 459) hx hb dL_law_153 (by decide) ?_
  have hW : xL_S s D (xL_W A K n (va_up V (16 * j + k) true) TV (va_up TO j true) (va_up AG j (TK + 1)) OP (va_up NX q (k + 1)) (TK + 1) ob kO (vp_updL f 0 ((nI (96 + 16 * j + k)).toInt64)) A2 K2 0) H locs := by rw [xmk_set V j k (by omega), xzk_stay TO OP j, xbk_stay OP NX q j k hq hO] at hW; exact hW
  exact kk _ _ _ _ _ _ _ _ _ _ _ ls (hI.stay hj hk) hW (lv_sub hl [2, 3, 4, 5, 6] rfl)

set_option maxHeartbeats 4000000 in
set_option maxRecDepth 100000 in
/-- take, another segment opened -/
theorem l_take_open (C : xL_C p l s m meth c D b L xs K kO K2 sa) (hT : T ≤ 600) (hi : i + 2 < L) (hL : L ≤ 1537) (hI : xI n V TV TO AG OP NX TK T) (hW : xL_S s D (xL_W A K n V TV TO AG OP NX TK ob kO f A2 K2 th) H locs) (hl : lv_has ls 7 [(0, .ref b), (1, .ref (A 0)), (2, .ref (A2 0)), (3, .ref ob), (4, .int (nI i))]) (kk : xL_K p l e s m below meth c D b A K A2 K2 ob kO n T i) (q j k : Nat) (hq : q < 6) (e1 : xs (nI (i + 1)).toNatClampNeg = nI q) (hO : OP q = j) (hN : NX q = k) (hj : j < n) (hk : k = 15) (o : Nat) (ho : o < n) (ho1 : xmfr V TV TO OP o = true) (ho2 : ∀ i, i < o → xmfr V TV TO OP i = false) : W p l e room_1 s m #[Value.ref b] below meth c H locs (14 + T) (4900 + 6 * T) (lw_Z below #[Value.ref b] s) (F0 m 100 ls []) := by
  obtain ⟨⟨hx, hb, hr, hml, hown, hts, hX, hbl, hlocks, hgv⟩, hK, hXS, hl0, ht⟩ := C
  have hbA : ¬ (fun q : Nat => s.heap.size ≤ q) b := Nat.not_le.mpr hbl
  have hn : n ≤ 128 := hI.2.1
  have hKh : va_K D xcl (xc_T K ++ [(kO, .long)]) s := hK.sub [0, 1, 2, 3, 4, 5] rfl
  have hKc : va_K D xcl (xc_T K) s := hK.sub [0, 1, 2, 3, 4] rfl
  have hKm : va_K D xcl (xm_T K2) s := hK.sub [6, 7, 8, 9, 10, 11] rfl
  have in1 : vp_in (nI (i + 1)) L := vp_in_nI (by omega) (by omega)
  have in2 : vp_in (nI (i + 2)) L := vp_in_nI (by omega) (by omega)
  have hW : xL_S s D ((xc_W A K n (xmk V) (xmk TV) AG (xzk TO OP) (xbk OP NX) TK ++ xo_W ob kO f) ++ xm_W A2 K2 th n V TV TO AG OP NX TK) H locs := hW
  refine lv_aload_n hx hb dL_law_100 rfl (lv_at hl 1 rfl) ?_
  refine lv_aload_n hx hb dL_law_101 rfl (lv_at hl 0 rfl) ?_
  refine lv_iload hx hb dL_law_102 (lv_at hl 4 rfl) ?_
  refine lv_iconst (v := 1) hx hb dL_law_104 (by decide) ?_
  refine lv_iadd hx hb dL_law_105 ?_
  refine xa_top (y := nI (i + 1)) (nI_add i 1) ?_
  refine va_sld hx hb hX hbl hbA hW.2.2 in1 dL_law_106 ?_
  refine xa_top (y := nI q) e1 ?_
  refine lv_aload_n hx hb dL_law_107 rfl (lv_at hl 3 rfl) ?_
  refine xl_L (ws := xc_W A K n (xmk V) (xmk TV) AG (xzk TO OP) (xbk OP NX) TK ++ xo_W ob kO f) (ws' := xc_W A K n (va_up (xmk V) j (xmk V j ||| 2 ^ k)) (xmk TV) (va_up AG j (TK + 1)) (va_up (xzk TO OP) o true) (va_up (xbk OP NX) q (96 + 16 * o + 0)) (TK + 1) ++ xo_W ob kO (vp_updL f 0 ((nI (96 + 16 * j + k)).toInt64))) (wr := xm_W A2 K2 th n V TV TO AG OP NX TK) (vx_runSW (As := [.ref (A 0), .int (nI q), .ref ob]) (rest := []) ⟨hx, hb, hml, hown, ht⟩ (h_take_open l D A K n (xmk V) (xmk TV) AG (xzk TO OP) (xbk OP NX) TK hn (fun j => xmk_lt V j) (fun j => xmk_lt TV j) q j k hq (by rw [(hI.blk q hq).1, hO, hN]) hj hk o ho ((xfr_t V TV TO OP o).trans ho1) (fun r hr => (xfr_t V TV TO OP r).trans (ho2 r hr)) ob kO f H.size) (vx_cwSW 3 ht (xg_SH kml_RL_43 kst_yL_take kin_RL kco_yL_take) rfl rfl rfl (by decide +kernel) ⟨Nat.le_of_ble_eq_true rfl, Nat.le_of_ble_eq_true rfl⟩) (xk_preM (xP_l hW.1) hKh (xD_l hW.2.1)) rfl rfl hl.1 rfl (lv_room (Nat.le_of_ble_eq_true rfl)) dL_law_108 ⟨by show 14 + T + 0 ≤ 601024; omega, by show 4900 + 6 * T + 0 ≤ 7293000; omega⟩) rfl hW (fun v9 H locs e9 hW => ?_)
  subst e9
  refine W.widen (k := 14 + (T + 1)) (n := 4900 + 6 * (T + 1)) (by omega) (by omega) ?_
  refine lv_istore (lv' := [(5, .int 0), (0, .ref b), (1, .ref (A 0)), (2, .ref (A2 0)), (3, .ref ob), (4, .int (nI i))]) hx hb dL_law_111 hl (by decide) rfl (fun ls hl => ?_)
  refine lv_aload_n hx hb dL_law_113 rfl (lv_at hl 3 rfl) ?_
  refine lv_aload_n hx hb dL_law_114 rfl (lv_at hl 1 rfl) ?_
  refine lv_iload hx hb dL_law_115 (lv_at hl 5 rfl) ?_
  refine lv_iconst (v := 1) hx hb dL_law_117 (by decide) ?_
  refine lv_iadd hx hb dL_law_118 ?_
  refine xa_top (y := nI (i + 1)) (nI_add i 1) ?_
  refine va_sld hx hb hX hbl hbA hW.2.2 in1 dL_law_119 ?_
  refine xa_top (y := nI q) e1 ?_
  refine xl_R (ws := xm_W A2 K2 th n V TV TO AG OP NX TK) (ws' := xm_W A2 K2 0 n (va_up V (16 * j + k) true) TV (va_up (va_up TO j true) o true) (va_up AG j (TK + 1)) (va_up OP q o) (va_up (va_up NX q (k + 1)) q 0) (TK + 1)) (wr := xc_W A K n (va_up (xmk V) j (xmk V j ||| 2 ^ k)) (xmk TV) (va_up AG j (TK + 1)) (va_up (xzk TO OP) o true) (va_up (xbk OP NX) q (96 + 16 * o + 0)) (TK + 1) ++ xo_W ob kO (vp_updL f 0 ((nI (96 + 16 * j + k)).toInt64))) (va_runV (As := [.int (nI q)]) (rest := []) ⟨hx, hb, hml, hown, ht⟩ (m_take_open l D A2 K2 th n V TV TO AG OP NX TK hn hI.op q j k hq hO hN hj hk o ho ho1 ho2 H.size) (cwV 1 ht (xg_V kml_RL_46 kim_yX1_take ksl_yX1_take kin_RX1 kco_yX1_take) rfl rfl rfl (by decide +kernel) ⟨Nat.le_of_ble_eq_true rfl, Nat.le_of_ble_eq_true rfl⟩) (xk_preMV (xP_r hW.1) hKm (xD_r hW.2.1) rfl rfl) rfl rfl hl.1 rfl (lv_room (Nat.le_of_ble_eq_true rfl)) dL_law_120 ⟨by show 14 + (T + 1) + 0 ≤ 601024; omega, by show 4900 + 6 * (T + 1) + 0 ≤ 7293000; omega⟩) rfl hW (fun v9 H locs e9 hW => ?_)
  subst e9
  refine W.widen (k := 14 + (T + 1)) (n := 4900 + 6 * (T + 1)) (by omega) (by omega) ?_
  refine lv_istore (lv' := [(6, .int (nI (96 + 16 * j + k))), (5, .int 0), (0, .ref b), (1, .ref (A 0)), (2, .ref (A2 0)), (3, .ref ob), (4, .int (nI i))]) hx hb dL_law_123 hl (by decide) rfl (fun ls hl => ?_)
  refine lv_aload_n hx hb dL_law_125 rfl (lv_at hl 4 rfl) ?_
  refine xr_V (n := 0) (As := []) (rest := []) ⟨hx, hb, hml, hown, ht⟩ (m_thrown l D A2 K2 0 n (va_up V (16 * j + k) true) TV (va_up (va_up TO j true) o true) (va_up AG j (TK + 1)) (va_up OP q o) (va_up (va_up NX q (k + 1)) q 0) (TK + 1)) (xg_V kml_RL_47 kim_yX1_thrown ksl_yX1_thrown kin_RX1 kco_yX1_thrown) ⟨rfl, rfl⟩ (by decide +kernel) ⟨Nat.le_of_ble_eq_true rfl, Nat.le_of_ble_eq_true rfl⟩ (xk_preV (xP_r hW.1) hKm rfl rfl) rfl hl.1 rfl (Nat.le_of_ble_eq_true rfl) dL_law_126 ⟨by show 14 + (T + 1) ≤ 601024; omega, by show 4900 + 6 * (T + 1) ≤ 7293000; omega⟩ (fun r8 e8 => ?_)
  subst e8
  refine lv_iload hx hb dL_law_129 (lv_at hl 1 rfl) ?_
  refine lv_icmp_eq (tgt := 136) hx hb dL_law_131 (by decide) (fun _ => ?_) (fun h => by first | exact absurd h (by decide) | exact absurd (by decide) h)
  refine lv_iload hx hb dL_law_136 (lv_at hl 1 rfl) ?_
  refine lv_if_ne (tgt := 153) hx hb dL_law_138 (by decide) (fun h => by first | exact absurd h (by decide) | exact absurd (by decide) h) (fun _ => ?_)
  refine lv_aload_n hx hb dL_law_141 rfl (lv_at hl 5 rfl) ?_
  refine lv_iconst (v := 0) hx hb dL_law_142 (by decide) ?_
  refine va_lald hx hb hKh (xP_l hW.1) 6 5 rfl rfl (i := 0) (vp_in_nI (n := 0) (by decide) (by decide)) dL_law_143 ?_
  refine lv_iload hx hb dL_law_144 (lv_at hl 0 rfl) ?_
  refine lv_i2l hx hb dL_law_146 rfl ?_
  refine W.lcmp hx hb dL_law_147 ?_
  refine lv_if_eq (tgt := 153) hx hb dL_law_148 (by decide) (fun _ => ?_) (fun h => absurd (by rw [xl_f0]; exact xl_cmp _) h)
  refine lv_goto (tgt := 459) hx hb dL_law_153 (by decide) ?_
  have hW : xL_S s D (xL_W A K n (va_up V (16 * j + k) true) TV (va_up (va_up TO j true) o true) (va_up AG j (TK + 1)) (va_up OP q o) (va_up (va_up NX q (k + 1)) q 0) (TK + 1) ob kO (vp_updL f 0 ((nI (96 + 16 * j + k)).toInt64)) A2 K2 0) H locs := by rw [xmk_set V j k (by omega), xzk_open TO OP q j o hq hO, xbk_open OP NX q k o hq] at hW; exact hW
  exact kk _ _ _ _ _ _ _ _ _ _ _ ls (hI.fresh hj (by omega) ho) hW (lv_sub hl [2, 3, 4, 5, 6] rfl)

set_option maxHeartbeats 4000000 in
set_option maxRecDepth 100000 in
/-- take, none to open -/
theorem l_take_full (C : xL_C p l s m meth c D b L xs K kO K2 sa) (hT : T ≤ 600) (hi : i + 2 < L) (hL : L ≤ 1537) (hI : xI n V TV TO AG OP NX TK T) (hW : xL_S s D (xL_W A K n V TV TO AG OP NX TK ob kO f A2 K2 th) H locs) (hl : lv_has ls 7 [(0, .ref b), (1, .ref (A 0)), (2, .ref (A2 0)), (3, .ref ob), (4, .int (nI i))]) (kk : xL_K p l e s m below meth c D b A K A2 K2 ob kO n T i) (q j k : Nat) (hq : q < 6) (e1 : xs (nI (i + 1)).toNatClampNeg = nI q) (hO : OP q = j) (hN : NX q = k) (hj : j < n) (hk : k = 15) (hf : ∀ r, r < n → xmfr V TV TO OP r = false) : W p l e room_1 s m #[Value.ref b] below meth c H locs (14 + T) (4900 + 6 * T) (lw_Z below #[Value.ref b] s) (F0 m 100 ls []) := by
  obtain ⟨⟨hx, hb, hr, hml, hown, hts, hX, hbl, hlocks, hgv⟩, hK, hXS, hl0, ht⟩ := C
  have hbA : ¬ (fun q : Nat => s.heap.size ≤ q) b := Nat.not_le.mpr hbl
  have hn : n ≤ 128 := hI.2.1
  have hKh : va_K D xcl (xc_T K ++ [(kO, .long)]) s := hK.sub [0, 1, 2, 3, 4, 5] rfl
  have hKc : va_K D xcl (xc_T K) s := hK.sub [0, 1, 2, 3, 4] rfl
  have hKm : va_K D xcl (xm_T K2) s := hK.sub [6, 7, 8, 9, 10, 11] rfl
  have in1 : vp_in (nI (i + 1)) L := vp_in_nI (by omega) (by omega)
  have in2 : vp_in (nI (i + 2)) L := vp_in_nI (by omega) (by omega)
  have hW : xL_S s D ((xc_W A K n (xmk V) (xmk TV) AG (xzk TO OP) (xbk OP NX) TK ++ xo_W ob kO f) ++ xm_W A2 K2 th n V TV TO AG OP NX TK) H locs := hW
  refine lv_aload_n hx hb dL_law_100 rfl (lv_at hl 1 rfl) ?_
  refine lv_aload_n hx hb dL_law_101 rfl (lv_at hl 0 rfl) ?_
  refine lv_iload hx hb dL_law_102 (lv_at hl 4 rfl) ?_
  refine lv_iconst (v := 1) hx hb dL_law_104 (by decide) ?_
  refine lv_iadd hx hb dL_law_105 ?_
  refine xa_top (y := nI (i + 1)) (nI_add i 1) ?_
  refine va_sld hx hb hX hbl hbA hW.2.2 in1 dL_law_106 ?_
  refine xa_top (y := nI q) e1 ?_
  refine lv_aload_n hx hb dL_law_107 rfl (lv_at hl 3 rfl) ?_
  refine xl_L (ws := xc_W A K n (xmk V) (xmk TV) AG (xzk TO OP) (xbk OP NX) TK ++ xo_W ob kO f) (ws' := xc_W A K n (xmk V) (xmk TV) AG (xzk TO OP) (xbk OP NX) TK ++ xo_W ob kO f) (wr := xm_W A2 K2 th n V TV TO AG OP NX TK) (vx_runSW (As := [.ref (A 0), .int (nI q), .ref ob]) (rest := []) ⟨hx, hb, hml, hown, ht⟩ (h_take_full l D A K n (xmk V) (xmk TV) AG (xzk TO OP) (xbk OP NX) TK hn (fun j => xmk_lt V j) (fun j => xmk_lt TV j) q j k hq (by rw [(hI.blk q hq).1, hO, hN]) hj hk (fun r hr => (xfr_t V TV TO OP r).trans (hf r hr)) ob kO f H.size s.heap.size sa hl0) (vx_cwSW 3 ht (xg_SH kml_RL_43 kst_yL_take kin_RL kco_yL_take) rfl rfl rfl (by decide +kernel) ⟨Nat.le_of_ble_eq_true rfl, Nat.le_of_ble_eq_true rfl⟩) (xk_preMX (xP_l hW.1) hKh (xD_l hW.2.1) hXS (xl_kept hW)) rfl rfl hl.1 rfl (lv_room (Nat.le_of_ble_eq_true rfl)) dL_law_108 ⟨by show 14 + T + 1 ≤ 601024; omega, by show 4900 + 6 * T + 6 ≤ 7293000; omega⟩) rfl hW (fun v9 H locs e9 hW => ?_)
  subst e9
  refine W.widen (k := 14 + (T + 1)) (n := 4900 + 6 * (T + 1)) (by omega) (by omega) ?_
  refine lv_istore (lv' := [(5, .int 2), (0, .ref b), (1, .ref (A 0)), (2, .ref (A2 0)), (3, .ref ob), (4, .int (nI i))]) hx hb dL_law_111 hl (by decide) rfl (fun ls hl => ?_)
  refine lv_aload_n hx hb dL_law_113 rfl (lv_at hl 3 rfl) ?_
  refine lv_aload_n hx hb dL_law_114 rfl (lv_at hl 1 rfl) ?_
  refine lv_iload hx hb dL_law_115 (lv_at hl 5 rfl) ?_
  refine lv_iconst (v := 1) hx hb dL_law_117 (by decide) ?_
  refine lv_iadd hx hb dL_law_118 ?_
  refine xa_top (y := nI (i + 1)) (nI_add i 1) ?_
  refine va_sld hx hb hX hbl hbA hW.2.2 in1 dL_law_119 ?_
  refine xa_top (y := nI q) e1 ?_
  refine xl_R (ws := xm_W A2 K2 th n V TV TO AG OP NX TK) (ws' := xm_W A2 K2 2 n V TV TO AG OP NX TK) (wr := xc_W A K n (xmk V) (xmk TV) AG (xzk TO OP) (xbk OP NX) TK ++ xo_W ob kO f) (va_runV (As := [.int (nI q)]) (rest := []) ⟨hx, hb, hml, hown, ht⟩ (m_take_full l D A2 K2 th n V TV TO AG OP NX TK hn hI.op q j k hq hO hN hk hf H.size) (cwV 1 ht (xg_V kml_RL_46 kim_yX1_take ksl_yX1_take kin_RX1 kco_yX1_take) rfl rfl rfl (by decide +kernel) ⟨Nat.le_of_ble_eq_true rfl, Nat.le_of_ble_eq_true rfl⟩) (xk_preMV (xP_r hW.1) hKm (xD_r hW.2.1) rfl rfl) rfl rfl hl.1 rfl (lv_room (Nat.le_of_ble_eq_true rfl)) dL_law_120 ⟨by show 14 + (T + 1) + 0 ≤ 601024; omega, by show 4900 + 6 * (T + 1) + 0 ≤ 7293000; omega⟩) rfl hW (fun v9 H locs e9 hW => ?_)
  obtain ⟨r9, e9⟩ := e9
  subst e9
  refine W.widen (k := 14 + (T + 1)) (n := 4900 + 6 * (T + 1)) (by omega) (by omega) ?_
  refine lv_istore (lv' := [(6, .int r9), (5, .int 2), (0, .ref b), (1, .ref (A 0)), (2, .ref (A2 0)), (3, .ref ob), (4, .int (nI i))]) hx hb dL_law_123 hl (by decide) rfl (fun ls hl => ?_)
  refine lv_aload_n hx hb dL_law_125 rfl (lv_at hl 4 rfl) ?_
  refine xr_V (n := 0) (As := []) (rest := []) ⟨hx, hb, hml, hown, ht⟩ (m_thrown l D A2 K2 2 n V TV TO AG OP NX TK) (xg_V kml_RL_47 kim_yX1_thrown ksl_yX1_thrown kin_RX1 kco_yX1_thrown) ⟨rfl, rfl⟩ (by decide +kernel) ⟨Nat.le_of_ble_eq_true rfl, Nat.le_of_ble_eq_true rfl⟩ (xk_preV (xP_r hW.1) hKm rfl rfl) rfl hl.1 rfl (Nat.le_of_ble_eq_true rfl) dL_law_126 ⟨by show 14 + (T + 1) ≤ 601024; omega, by show 4900 + 6 * (T + 1) ≤ 7293000; omega⟩ (fun r8 e8 => ?_)
  subst e8
  refine lv_iload hx hb dL_law_129 (lv_at hl 1 rfl) ?_
  refine lv_icmp_eq (tgt := 136) hx hb dL_law_131 (by decide) (fun _ => ?_) (fun h => by first | exact absurd h (by decide) | exact absurd (by decide) h)
  refine lv_iload hx hb dL_law_136 (lv_at hl 1 rfl) ?_
  refine lv_if_ne (tgt := 153) hx hb dL_law_138 (by decide) (fun _ => ?_) (fun h => by first | exact absurd h (by decide) | exact absurd (by decide) h)
  refine lv_goto (tgt := 459) hx hb dL_law_153 (by decide) ?_
  have hW : xL_S s D (xL_W A K n V TV TO AG OP NX TK ob kO f A2 K2 2) H locs := by exact hW
  exact kk _ _ _ _ _ _ _ _ _ _ _ ls (hI.more) hW (lv_sub hl [2, 3, 4, 5, 6] rfl)

set_option maxHeartbeats 4000000 in
set_option maxRecDepth 100000 in
/-- take, no such log -/
theorem l_take_bad (C : xL_C p l s m meth c D b L xs K kO K2 sa) (hT : T ≤ 600) (hi : i + 2 < L) (hL : L ≤ 1537) (hI : xI n V TV TO AG OP NX TK T) (hW : xL_S s D (xL_W A K n V TV TO AG OP NX TK ob kO f A2 K2 th) H locs) (hl : lv_has ls 7 [(0, .ref b), (1, .ref (A 0)), (2, .ref (A2 0)), (3, .ref ob), (4, .int (nI i))]) (kk : xL_K p l e s m below meth c D b A K A2 K2 ob kO n T i) (x : Int32) (e1 : xs (nI (i + 1)).toNatClampNeg = x) (hbad : ¬ ∃ j : Nat, j < 6 ∧ x = nI j) : W p l e room_1 s m #[Value.ref b] below meth c H locs (14 + T) (4900 + 6 * T) (lw_Z below #[Value.ref b] s) (F0 m 100 ls []) := by
  obtain ⟨⟨hx, hb, hr, hml, hown, hts, hX, hbl, hlocks, hgv⟩, hK, hXS, hl0, ht⟩ := C
  have hbA : ¬ (fun q : Nat => s.heap.size ≤ q) b := Nat.not_le.mpr hbl
  have hn : n ≤ 128 := hI.2.1
  have hKh : va_K D xcl (xc_T K ++ [(kO, .long)]) s := hK.sub [0, 1, 2, 3, 4, 5] rfl
  have hKc : va_K D xcl (xc_T K) s := hK.sub [0, 1, 2, 3, 4] rfl
  have hKm : va_K D xcl (xm_T K2) s := hK.sub [6, 7, 8, 9, 10, 11] rfl
  have in1 : vp_in (nI (i + 1)) L := vp_in_nI (by omega) (by omega)
  have in2 : vp_in (nI (i + 2)) L := vp_in_nI (by omega) (by omega)
  have hW : xL_S s D ((xc_W A K n (xmk V) (xmk TV) AG (xzk TO OP) (xbk OP NX) TK ++ xo_W ob kO f) ++ xm_W A2 K2 th n V TV TO AG OP NX TK) H locs := hW
  refine lv_aload_n hx hb dL_law_100 rfl (lv_at hl 1 rfl) ?_
  refine lv_aload_n hx hb dL_law_101 rfl (lv_at hl 0 rfl) ?_
  refine lv_iload hx hb dL_law_102 (lv_at hl 4 rfl) ?_
  refine lv_iconst (v := 1) hx hb dL_law_104 (by decide) ?_
  refine lv_iadd hx hb dL_law_105 ?_
  refine xa_top (y := nI (i + 1)) (nI_add i 1) ?_
  refine va_sld hx hb hX hbl hbA hW.2.2 in1 dL_law_106 ?_
  refine xa_top (y := x) e1 ?_
  refine lv_aload_n hx hb dL_law_107 rfl (lv_at hl 3 rfl) ?_
  refine xl_L (ws := xc_W A K n (xmk V) (xmk TV) AG (xzk TO OP) (xbk OP NX) TK ++ xo_W ob kO f) (ws' := xc_W A K n (xmk V) (xmk TV) AG (xzk TO OP) (xbk OP NX) TK ++ xo_W ob kO f) (wr := xm_W A2 K2 th n V TV TO AG OP NX TK) (vx_runSW (As := [.ref (A 0), .int x, .ref ob]) (rest := []) ⟨hx, hb, hml, hown, ht⟩ (h_take_bad l D A K n (xmk V) (xmk TV) AG (xzk TO OP) (xbk OP NX) TK x hbad ob kO f H.size s.heap.size sa hl0) (vx_cwSW 3 ht (xg_SH kml_RL_43 kst_yL_take kin_RL kco_yL_take) rfl rfl rfl (by decide +kernel) ⟨Nat.le_of_ble_eq_true rfl, Nat.le_of_ble_eq_true rfl⟩) (xk_preMX (xP_l hW.1) hKh (xD_l hW.2.1) hXS (xl_kept hW)) rfl rfl hl.1 rfl (lv_room (Nat.le_of_ble_eq_true rfl)) dL_law_108 ⟨by show 14 + T + 1 ≤ 601024; omega, by show 4900 + 6 * T + 6 ≤ 7293000; omega⟩) rfl hW (fun v9 H locs e9 hW => ?_)
  subst e9
  refine W.widen (k := 14 + (T + 1)) (n := 4900 + 6 * (T + 1)) (by omega) (by omega) ?_
  refine lv_istore (lv' := [(5, .int 1), (0, .ref b), (1, .ref (A 0)), (2, .ref (A2 0)), (3, .ref ob), (4, .int (nI i))]) hx hb dL_law_111 hl (by decide) rfl (fun ls hl => ?_)
  refine lv_aload_n hx hb dL_law_113 rfl (lv_at hl 3 rfl) ?_
  refine lv_aload_n hx hb dL_law_114 rfl (lv_at hl 1 rfl) ?_
  refine lv_iload hx hb dL_law_115 (lv_at hl 5 rfl) ?_
  refine lv_iconst (v := 1) hx hb dL_law_117 (by decide) ?_
  refine lv_iadd hx hb dL_law_118 ?_
  refine xa_top (y := nI (i + 1)) (nI_add i 1) ?_
  refine va_sld hx hb hX hbl hbA hW.2.2 in1 dL_law_119 ?_
  refine xa_top (y := x) e1 ?_
  refine xl_R (ws := xm_W A2 K2 th n V TV TO AG OP NX TK) (ws' := xm_W A2 K2 1 n V TV TO AG OP NX TK) (wr := xc_W A K n (xmk V) (xmk TV) AG (xzk TO OP) (xbk OP NX) TK ++ xo_W ob kO f) (va_runV (As := [.int x]) (rest := []) ⟨hx, hb, hml, hown, ht⟩ (m_take_bad l D A2 K2 th n V TV TO AG OP NX TK x hbad H.size) (cwV 1 ht (xg_V kml_RL_46 kim_yX1_take ksl_yX1_take kin_RX1 kco_yX1_take) rfl rfl rfl (by decide +kernel) ⟨Nat.le_of_ble_eq_true rfl, Nat.le_of_ble_eq_true rfl⟩) (xk_preMV (xP_r hW.1) hKm (xD_r hW.2.1) rfl rfl) rfl rfl hl.1 rfl (lv_room (Nat.le_of_ble_eq_true rfl)) dL_law_120 ⟨by show 14 + (T + 1) + 0 ≤ 601024; omega, by show 4900 + 6 * (T + 1) + 0 ≤ 7293000; omega⟩) rfl hW (fun v9 H locs e9 hW => ?_)
  obtain ⟨r9, e9⟩ := e9
  subst e9
  refine W.widen (k := 14 + (T + 1)) (n := 4900 + 6 * (T + 1)) (by omega) (by omega) ?_
  refine lv_istore (lv' := [(6, .int r9), (5, .int 1), (0, .ref b), (1, .ref (A 0)), (2, .ref (A2 0)), (3, .ref ob), (4, .int (nI i))]) hx hb dL_law_123 hl (by decide) rfl (fun ls hl => ?_)
  refine lv_aload_n hx hb dL_law_125 rfl (lv_at hl 4 rfl) ?_
  refine xr_V (n := 0) (As := []) (rest := []) ⟨hx, hb, hml, hown, ht⟩ (m_thrown l D A2 K2 1 n V TV TO AG OP NX TK) (xg_V kml_RL_47 kim_yX1_thrown ksl_yX1_thrown kin_RX1 kco_yX1_thrown) ⟨rfl, rfl⟩ (by decide +kernel) ⟨Nat.le_of_ble_eq_true rfl, Nat.le_of_ble_eq_true rfl⟩ (xk_preV (xP_r hW.1) hKm rfl rfl) rfl hl.1 rfl (Nat.le_of_ble_eq_true rfl) dL_law_126 ⟨by show 14 + (T + 1) ≤ 601024; omega, by show 4900 + 6 * (T + 1) ≤ 7293000; omega⟩ (fun r8 e8 => ?_)
  subst e8
  refine lv_iload hx hb dL_law_129 (lv_at hl 1 rfl) ?_
  refine lv_icmp_eq (tgt := 136) hx hb dL_law_131 (by decide) (fun _ => ?_) (fun h => by first | exact absurd h (by decide) | exact absurd (by decide) h)
  refine lv_iload hx hb dL_law_136 (lv_at hl 1 rfl) ?_
  refine lv_if_ne (tgt := 153) hx hb dL_law_138 (by decide) (fun _ => ?_) (fun h => by first | exact absurd h (by decide) | exact absurd (by decide) h)
  refine lv_goto (tgt := 459) hx hb dL_law_153 (by decide) ?_
  have hW : xL_S s D (xL_W A K n V TV TO AG OP NX TK ob kO f A2 K2 1) H locs := by exact hW
  exact kk _ _ _ _ _ _ _ _ _ _ _ ls (hI.more) hW (lv_sub hl [2, 3, 4, 5, 6] rfl)

set_option maxHeartbeats 4000000 in
set_option maxRecDepth 100000 in
/-- look -/
theorem l_look_ok (C : xL_C p l s m meth c D b L xs K kO K2 sa) (hT : T ≤ 600) (hi : i + 2 < L) (hL : L ≤ 1537) (hI : xI n V TV TO AG OP NX TK T) (hW : xL_S s D (xL_W A K n V TV TO AG OP NX TK ob kO f A2 K2 th) H locs) (hl : lv_has ls 7 [(0, .ref b), (1, .ref (A 0)), (2, .ref (A2 0)), (3, .ref ob), (4, .int (nI i))]) (kk : xL_K p l e s m below meth c D b A K A2 K2 ob kO n T i) (j v : Nat) (hj : j < n) (hv : v < 4) (e1 : xs (nI (i + 1)).toNatClampNeg = nI j) (e2 : xs (nI (i + 2)).toNatClampNeg = nI v) : W p l e room_1 s m #[Value.ref b] below meth c H locs (14 + T) (4900 + 6 * T) (lw_Z below #[Value.ref b] s) (F0 m 391 ls []) := by
  obtain ⟨⟨hx, hb, hr, hml, hown, hts, hX, hbl, hlocks, hgv⟩, hK, hXS, hl0, ht⟩ := C
  have hbA : ¬ (fun q : Nat => s.heap.size ≤ q) b := Nat.not_le.mpr hbl
  have hn : n ≤ 128 := hI.2.1
  have hKh : va_K D xcl (xc_T K ++ [(kO, .long)]) s := hK.sub [0, 1, 2, 3, 4, 5] rfl
  have hKc : va_K D xcl (xc_T K) s := hK.sub [0, 1, 2, 3, 4] rfl
  have hKm : va_K D xcl (xm_T K2) s := hK.sub [6, 7, 8, 9, 10, 11] rfl
  have in1 : vp_in (nI (i + 1)) L := vp_in_nI (by omega) (by omega)
  have in2 : vp_in (nI (i + 2)) L := vp_in_nI (by omega) (by omega)
  have hW : xL_S s D ((xc_W A K n (xmk V) (xmk TV) AG (xzk TO OP) (xbk OP NX) TK ++ xo_W ob kO f) ++ xm_W A2 K2 th n V TV TO AG OP NX TK) H locs := hW
  refine lv_aload_n hx hb dL_law_391 rfl (lv_at hl 1 rfl) ?_
  refine lv_aload_n hx hb dL_law_392 rfl (lv_at hl 0 rfl) ?_
  refine lv_iload hx hb dL_law_393 (lv_at hl 4 rfl) ?_
  refine lv_iconst (v := 1) hx hb dL_law_395 (by decide) ?_
  refine lv_iadd hx hb dL_law_396 ?_
  refine xa_top (y := nI (i + 1)) (nI_add i 1) ?_
  refine va_sld hx hb hX hbl hbA hW.2.2 in1 dL_law_397 ?_
  refine xa_top (y := nI j) e1 ?_
  refine lv_aload_n hx hb dL_law_398 rfl (lv_at hl 0 rfl) ?_
  refine lv_iload hx hb dL_law_399 (lv_at hl 4 rfl) ?_
  refine lv_iconst (v := 2) hx hb dL_law_401 (by decide) ?_
  refine lv_iadd hx hb dL_law_402 ?_
  refine xa_top (y := nI (i + 2)) (nI_add i 2) ?_
  refine va_sld hx hb hX hbl hbA hW.2.2 in2 dL_law_403 ?_
  refine xa_top (y := nI v) e2 ?_
  refine lv_aload_n hx hb dL_law_404 rfl (lv_at hl 3 rfl) ?_
  refine xl_L (ws := xc_W A K n (xmk V) (xmk TV) AG (xzk TO OP) (xbk OP NX) TK ++ xo_W ob kO f) (ws' := xc_W A K n (xmk V) (xmk TV) AG (xzk TO OP) (xbk OP NX) TK ++ xo_W ob kO (vp_updL f 0 ((xlk (xmk V) (xmk TV) AG (xzk TO OP) j v).toInt64))) (wr := xm_W A2 K2 th n V TV TO AG OP NX TK) (vx_runSW (As := [.ref (A 0), .int (nI j), .int (nI v), .ref ob]) (rest := []) ⟨hx, hb, hml, hown, ht⟩ (h_look_ok l D A K n (xmk V) (xmk TV) AG (xzk TO OP) (xbk OP NX) TK hn j v hj hv ob kO f H.size) (vx_cwSW 4 ht (xg_SH kml_RL_78 kst_yL_look kin_RL kco_yL_look) rfl rfl rfl (by decide +kernel) ⟨Nat.le_of_ble_eq_true rfl, Nat.le_of_ble_eq_true rfl⟩) (xk_preM (xP_l hW.1) hKh (xD_l hW.2.1)) rfl rfl hl.1 rfl (lv_room (Nat.le_of_ble_eq_true rfl)) dL_law_405 ⟨by show 14 + T + 0 ≤ 601024; omega, by show 4900 + 6 * T + 0 ≤ 7293000; omega⟩) rfl hW (fun v9 H locs e9 hW => ?_)
  subst e9
  refine W.widen (k := 14 + (T + 1)) (n := 4900 + 6 * (T + 1)) (by omega) (by omega) ?_
  refine lv_istore (lv' := [(5, .int 0), (0, .ref b), (1, .ref (A 0)), (2, .ref (A2 0)), (3, .ref ob), (4, .int (nI i))]) hx hb dL_law_408 hl (by decide) rfl (fun ls hl => ?_)
  refine lv_aload_n hx hb dL_law_410 rfl (lv_at hl 3 rfl) ?_
  refine lv_aload_n hx hb dL_law_411 rfl (lv_at hl 1 rfl) ?_
  refine lv_iload hx hb dL_law_412 (lv_at hl 5 rfl) ?_
  refine lv_iconst (v := 1) hx hb dL_law_414 (by decide) ?_
  refine lv_iadd hx hb dL_law_415 ?_
  refine xa_top (y := nI (i + 1)) (nI_add i 1) ?_
  refine va_sld hx hb hX hbl hbA hW.2.2 in1 dL_law_416 ?_
  refine xa_top (y := nI j) e1 ?_
  refine lv_aload_n hx hb dL_law_417 rfl (lv_at hl 1 rfl) ?_
  refine lv_iload hx hb dL_law_418 (lv_at hl 5 rfl) ?_
  refine lv_iconst (v := 2) hx hb dL_law_420 (by decide) ?_
  refine lv_iadd hx hb dL_law_421 ?_
  refine xa_top (y := nI (i + 2)) (nI_add i 2) ?_
  refine va_sld hx hb hX hbl hbA hW.2.2 in2 dL_law_422 ?_
  refine xa_top (y := nI v) e2 ?_
  refine xl_R (ws := xm_W A2 K2 th n V TV TO AG OP NX TK) (ws' := xm_W A2 K2 0 n V TV TO AG OP NX TK) (wr := xc_W A K n (xmk V) (xmk TV) AG (xzk TO OP) (xbk OP NX) TK ++ xo_W ob kO (vp_updL f 0 ((xlk (xmk V) (xmk TV) AG (xzk TO OP) j v).toInt64))) (va_runV (As := [.int (nI j), .int (nI v)]) (rest := []) ⟨hx, hb, hml, hown, ht⟩ (m_look_ok l D A2 K2 th n V TV TO AG OP NX TK hn hI.op j v hj hv H.size) (cwV 2 ht (xg_V kml_RL_81 kim_yX1_look ksl_yX1_look kin_RX1 kco_yX1_look) rfl rfl rfl (by decide +kernel) ⟨Nat.le_of_ble_eq_true rfl, Nat.le_of_ble_eq_true rfl⟩) (xk_preMV (xP_r hW.1) hKm (xD_r hW.2.1) rfl rfl) rfl rfl hl.1 rfl (lv_room (Nat.le_of_ble_eq_true rfl)) dL_law_423 ⟨by show 14 + (T + 1) + 0 ≤ 601024; omega, by show 4900 + 6 * (T + 1) + 0 ≤ 7293000; omega⟩) rfl hW (fun v9 H locs e9 hW => ?_)
  subst e9
  refine W.widen (k := 14 + (T + 1)) (n := 4900 + 6 * (T + 1)) (by omega) (by omega) ?_
  refine lv_istore (lv' := [(6, .int (xml V TV TO AG OP j v)), (5, .int 0), (0, .ref b), (1, .ref (A 0)), (2, .ref (A2 0)), (3, .ref ob), (4, .int (nI i))]) hx hb dL_law_426 hl (by decide) rfl (fun ls hl => ?_)
  refine lv_aload_n hx hb dL_law_428 rfl (lv_at hl 4 rfl) ?_
  refine xr_V (n := 0) (As := []) (rest := []) ⟨hx, hb, hml, hown, ht⟩ (m_thrown l D A2 K2 0 n V TV TO AG OP NX TK) (xg_V kml_RL_47 kim_yX1_thrown ksl_yX1_thrown kin_RX1 kco_yX1_thrown) ⟨rfl, rfl⟩ (by decide +kernel) ⟨Nat.le_of_ble_eq_true rfl, Nat.le_of_ble_eq_true rfl⟩ (xk_preV (xP_r hW.1) hKm rfl rfl) rfl hl.1 rfl (Nat.le_of_ble_eq_true rfl) dL_law_429 ⟨by show 14 + (T + 1) ≤ 601024; omega, by show 4900 + 6 * (T + 1) ≤ 7293000; omega⟩ (fun r8 e8 => ?_)
  subst e8
  refine lv_iload hx hb dL_law_432 (lv_at hl 1 rfl) ?_
  refine lv_icmp_eq (tgt := 439) hx hb dL_law_434 (by decide) (fun _ => ?_) (fun h => by first | exact absurd h (by decide) | exact absurd (by decide) h)
  refine lv_iload hx hb dL_law_439 (lv_at hl 1 rfl) ?_
  refine lv_if_ne (tgt := 456) hx hb dL_law_441 (by decide) (fun h => by first | exact absurd h (by decide) | exact absurd (by decide) h) (fun _ => ?_)
  refine lv_aload_n hx hb dL_law_444 rfl (lv_at hl 5 rfl) ?_
  refine lv_iconst (v := 0) hx hb dL_law_445 (by decide) ?_
  refine va_lald hx hb hKh (xP_l hW.1) 6 5 rfl rfl (i := 0) (vp_in_nI (n := 0) (by decide) (by decide)) dL_law_446 ?_
  refine lv_iload hx hb dL_law_447 (lv_at hl 0 rfl) ?_
  refine lv_i2l hx hb dL_law_449 rfl ?_
  refine W.lcmp hx hb dL_law_450 ?_
  refine lv_if_eq (tgt := 456) hx hb dL_law_451 (by decide) (fun _ => ?_) (fun h => absurd (by rw [xl_f0, xlk_tie]; exact xl_cmp _) h)
  refine lv_goto (tgt := 459) hx hb dL_law_456 (by decide) ?_
  have hW : xL_S s D (xL_W A K n V TV TO AG OP NX TK ob kO (vp_updL f 0 ((xlk (xmk V) (xmk TV) AG (xzk TO OP) j v).toInt64)) A2 K2 0) H locs := by exact hW
  exact kk _ _ _ _ _ _ _ _ _ _ _ ls (hI.more) hW (lv_sub hl [2, 3, 4, 5, 6] rfl)

set_option maxHeartbeats 4000000 in
set_option maxRecDepth 100000 in
/-- look, no such segment -/
theorem l_look_badS (C : xL_C p l s m meth c D b L xs K kO K2 sa) (hT : T ≤ 600) (hi : i + 2 < L) (hL : L ≤ 1537) (hI : xI n V TV TO AG OP NX TK T) (hW : xL_S s D (xL_W A K n V TV TO AG OP NX TK ob kO f A2 K2 th) H locs) (hl : lv_has ls 7 [(0, .ref b), (1, .ref (A 0)), (2, .ref (A2 0)), (3, .ref ob), (4, .int (nI i))]) (kk : xL_K p l e s m below meth c D b A K A2 K2 ob kO n T i) (x : Int32) (e1 : xs (nI (i + 1)).toNatClampNeg = x) (y : Int32) (e2 : xs (nI (i + 2)).toNatClampNeg = y) (hbad : ¬ ∃ j : Nat, j < n ∧ x = nI j) : W p l e room_1 s m #[Value.ref b] below meth c H locs (14 + T) (4900 + 6 * T) (lw_Z below #[Value.ref b] s) (F0 m 391 ls []) := by
  obtain ⟨⟨hx, hb, hr, hml, hown, hts, hX, hbl, hlocks, hgv⟩, hK, hXS, hl0, ht⟩ := C
  have hbA : ¬ (fun q : Nat => s.heap.size ≤ q) b := Nat.not_le.mpr hbl
  have hn : n ≤ 128 := hI.2.1
  have hKh : va_K D xcl (xc_T K ++ [(kO, .long)]) s := hK.sub [0, 1, 2, 3, 4, 5] rfl
  have hKc : va_K D xcl (xc_T K) s := hK.sub [0, 1, 2, 3, 4] rfl
  have hKm : va_K D xcl (xm_T K2) s := hK.sub [6, 7, 8, 9, 10, 11] rfl
  have in1 : vp_in (nI (i + 1)) L := vp_in_nI (by omega) (by omega)
  have in2 : vp_in (nI (i + 2)) L := vp_in_nI (by omega) (by omega)
  have hW : xL_S s D ((xc_W A K n (xmk V) (xmk TV) AG (xzk TO OP) (xbk OP NX) TK ++ xo_W ob kO f) ++ xm_W A2 K2 th n V TV TO AG OP NX TK) H locs := hW
  refine lv_aload_n hx hb dL_law_391 rfl (lv_at hl 1 rfl) ?_
  refine lv_aload_n hx hb dL_law_392 rfl (lv_at hl 0 rfl) ?_
  refine lv_iload hx hb dL_law_393 (lv_at hl 4 rfl) ?_
  refine lv_iconst (v := 1) hx hb dL_law_395 (by decide) ?_
  refine lv_iadd hx hb dL_law_396 ?_
  refine xa_top (y := nI (i + 1)) (nI_add i 1) ?_
  refine va_sld hx hb hX hbl hbA hW.2.2 in1 dL_law_397 ?_
  refine xa_top (y := x) e1 ?_
  refine lv_aload_n hx hb dL_law_398 rfl (lv_at hl 0 rfl) ?_
  refine lv_iload hx hb dL_law_399 (lv_at hl 4 rfl) ?_
  refine lv_iconst (v := 2) hx hb dL_law_401 (by decide) ?_
  refine lv_iadd hx hb dL_law_402 ?_
  refine xa_top (y := nI (i + 2)) (nI_add i 2) ?_
  refine va_sld hx hb hX hbl hbA hW.2.2 in2 dL_law_403 ?_
  refine xa_top (y := y) e2 ?_
  refine lv_aload_n hx hb dL_law_404 rfl (lv_at hl 3 rfl) ?_
  refine xl_L (ws := xc_W A K n (xmk V) (xmk TV) AG (xzk TO OP) (xbk OP NX) TK ++ xo_W ob kO f) (ws' := xc_W A K n (xmk V) (xmk TV) AG (xzk TO OP) (xbk OP NX) TK ++ xo_W ob kO f) (wr := xm_W A2 K2 th n V TV TO AG OP NX TK) (vx_runSW (As := [.ref (A 0), .int x, .int y, .ref ob]) (rest := []) ⟨hx, hb, hml, hown, ht⟩ (h_look_badS l D A K n (xmk V) (xmk TV) AG (xzk TO OP) (xbk OP NX) TK hn x y hbad ob kO f H.size s.heap.size sa hl0) (vx_cwSW 4 ht (xg_SH kml_RL_78 kst_yL_look kin_RL kco_yL_look) rfl rfl rfl (by decide +kernel) ⟨Nat.le_of_ble_eq_true rfl, Nat.le_of_ble_eq_true rfl⟩) (xk_preMX (xP_l hW.1) hKh (xD_l hW.2.1) hXS (xl_kept hW)) rfl rfl hl.1 rfl (lv_room (Nat.le_of_ble_eq_true rfl)) dL_law_405 ⟨by show 14 + T + 1 ≤ 601024; omega, by show 4900 + 6 * T + 6 ≤ 7293000; omega⟩) rfl hW (fun v9 H locs e9 hW => ?_)
  subst e9
  refine W.widen (k := 14 + (T + 1)) (n := 4900 + 6 * (T + 1)) (by omega) (by omega) ?_
  refine lv_istore (lv' := [(5, .int 1), (0, .ref b), (1, .ref (A 0)), (2, .ref (A2 0)), (3, .ref ob), (4, .int (nI i))]) hx hb dL_law_408 hl (by decide) rfl (fun ls hl => ?_)
  refine lv_aload_n hx hb dL_law_410 rfl (lv_at hl 3 rfl) ?_
  refine lv_aload_n hx hb dL_law_411 rfl (lv_at hl 1 rfl) ?_
  refine lv_iload hx hb dL_law_412 (lv_at hl 5 rfl) ?_
  refine lv_iconst (v := 1) hx hb dL_law_414 (by decide) ?_
  refine lv_iadd hx hb dL_law_415 ?_
  refine xa_top (y := nI (i + 1)) (nI_add i 1) ?_
  refine va_sld hx hb hX hbl hbA hW.2.2 in1 dL_law_416 ?_
  refine xa_top (y := x) e1 ?_
  refine lv_aload_n hx hb dL_law_417 rfl (lv_at hl 1 rfl) ?_
  refine lv_iload hx hb dL_law_418 (lv_at hl 5 rfl) ?_
  refine lv_iconst (v := 2) hx hb dL_law_420 (by decide) ?_
  refine lv_iadd hx hb dL_law_421 ?_
  refine xa_top (y := nI (i + 2)) (nI_add i 2) ?_
  refine va_sld hx hb hX hbl hbA hW.2.2 in2 dL_law_422 ?_
  refine xa_top (y := y) e2 ?_
  refine xl_R (ws := xm_W A2 K2 th n V TV TO AG OP NX TK) (ws' := xm_W A2 K2 1 n V TV TO AG OP NX TK) (wr := xc_W A K n (xmk V) (xmk TV) AG (xzk TO OP) (xbk OP NX) TK ++ xo_W ob kO f) (va_runV (As := [.int x, .int y]) (rest := []) ⟨hx, hb, hml, hown, ht⟩ (m_look_bad l D A2 K2 th n V TV TO AG OP NX TK hn x y (fun h => hbad h.1) H.size) (cwV 2 ht (xg_V kml_RL_81 kim_yX1_look ksl_yX1_look kin_RX1 kco_yX1_look) rfl rfl rfl (by decide +kernel) ⟨Nat.le_of_ble_eq_true rfl, Nat.le_of_ble_eq_true rfl⟩) (xk_preMV (xP_r hW.1) hKm (xD_r hW.2.1) rfl rfl) rfl rfl hl.1 rfl (lv_room (Nat.le_of_ble_eq_true rfl)) dL_law_423 ⟨by show 14 + (T + 1) + 0 ≤ 601024; omega, by show 4900 + 6 * (T + 1) + 0 ≤ 7293000; omega⟩) rfl hW (fun v9 H locs e9 hW => ?_)
  obtain ⟨r9, e9⟩ := e9
  subst e9
  refine W.widen (k := 14 + (T + 1)) (n := 4900 + 6 * (T + 1)) (by omega) (by omega) ?_
  refine lv_istore (lv' := [(6, .int r9), (5, .int 1), (0, .ref b), (1, .ref (A 0)), (2, .ref (A2 0)), (3, .ref ob), (4, .int (nI i))]) hx hb dL_law_426 hl (by decide) rfl (fun ls hl => ?_)
  refine lv_aload_n hx hb dL_law_428 rfl (lv_at hl 4 rfl) ?_
  refine xr_V (n := 0) (As := []) (rest := []) ⟨hx, hb, hml, hown, ht⟩ (m_thrown l D A2 K2 1 n V TV TO AG OP NX TK) (xg_V kml_RL_47 kim_yX1_thrown ksl_yX1_thrown kin_RX1 kco_yX1_thrown) ⟨rfl, rfl⟩ (by decide +kernel) ⟨Nat.le_of_ble_eq_true rfl, Nat.le_of_ble_eq_true rfl⟩ (xk_preV (xP_r hW.1) hKm rfl rfl) rfl hl.1 rfl (Nat.le_of_ble_eq_true rfl) dL_law_429 ⟨by show 14 + (T + 1) ≤ 601024; omega, by show 4900 + 6 * (T + 1) ≤ 7293000; omega⟩ (fun r8 e8 => ?_)
  subst e8
  refine lv_iload hx hb dL_law_432 (lv_at hl 1 rfl) ?_
  refine lv_icmp_eq (tgt := 439) hx hb dL_law_434 (by decide) (fun _ => ?_) (fun h => by first | exact absurd h (by decide) | exact absurd (by decide) h)
  refine lv_iload hx hb dL_law_439 (lv_at hl 1 rfl) ?_
  refine lv_if_ne (tgt := 456) hx hb dL_law_441 (by decide) (fun _ => ?_) (fun h => by first | exact absurd h (by decide) | exact absurd (by decide) h)
  refine lv_goto (tgt := 459) hx hb dL_law_456 (by decide) ?_
  have hW : xL_S s D (xL_W A K n V TV TO AG OP NX TK ob kO f A2 K2 1) H locs := by exact hW
  exact kk _ _ _ _ _ _ _ _ _ _ _ ls (hI.more) hW (lv_sub hl [2, 3, 4, 5, 6] rfl)

set_option maxHeartbeats 4000000 in
set_option maxRecDepth 100000 in
/-- look, no such thing -/
theorem l_look_badW (C : xL_C p l s m meth c D b L xs K kO K2 sa) (hT : T ≤ 600) (hi : i + 2 < L) (hL : L ≤ 1537) (hI : xI n V TV TO AG OP NX TK T) (hW : xL_S s D (xL_W A K n V TV TO AG OP NX TK ob kO f A2 K2 th) H locs) (hl : lv_has ls 7 [(0, .ref b), (1, .ref (A 0)), (2, .ref (A2 0)), (3, .ref ob), (4, .int (nI i))]) (kk : xL_K p l e s m below meth c D b A K A2 K2 ob kO n T i) (j : Nat) (hj : j < n) (e1 : xs (nI (i + 1)).toNatClampNeg = nI j) (y : Int32) (e2 : xs (nI (i + 2)).toNatClampNeg = y) (hbad : ¬ ∃ v : Nat, v < 4 ∧ y = nI v) : W p l e room_1 s m #[Value.ref b] below meth c H locs (14 + T) (4900 + 6 * T) (lw_Z below #[Value.ref b] s) (F0 m 391 ls []) := by
  obtain ⟨⟨hx, hb, hr, hml, hown, hts, hX, hbl, hlocks, hgv⟩, hK, hXS, hl0, ht⟩ := C
  have hbA : ¬ (fun q : Nat => s.heap.size ≤ q) b := Nat.not_le.mpr hbl
  have hn : n ≤ 128 := hI.2.1
  have hKh : va_K D xcl (xc_T K ++ [(kO, .long)]) s := hK.sub [0, 1, 2, 3, 4, 5] rfl
  have hKc : va_K D xcl (xc_T K) s := hK.sub [0, 1, 2, 3, 4] rfl
  have hKm : va_K D xcl (xm_T K2) s := hK.sub [6, 7, 8, 9, 10, 11] rfl
  have in1 : vp_in (nI (i + 1)) L := vp_in_nI (by omega) (by omega)
  have in2 : vp_in (nI (i + 2)) L := vp_in_nI (by omega) (by omega)
  have hW : xL_S s D ((xc_W A K n (xmk V) (xmk TV) AG (xzk TO OP) (xbk OP NX) TK ++ xo_W ob kO f) ++ xm_W A2 K2 th n V TV TO AG OP NX TK) H locs := hW
  refine lv_aload_n hx hb dL_law_391 rfl (lv_at hl 1 rfl) ?_
  refine lv_aload_n hx hb dL_law_392 rfl (lv_at hl 0 rfl) ?_
  refine lv_iload hx hb dL_law_393 (lv_at hl 4 rfl) ?_
  refine lv_iconst (v := 1) hx hb dL_law_395 (by decide) ?_
  refine lv_iadd hx hb dL_law_396 ?_
  refine xa_top (y := nI (i + 1)) (nI_add i 1) ?_
  refine va_sld hx hb hX hbl hbA hW.2.2 in1 dL_law_397 ?_
  refine xa_top (y := nI j) e1 ?_
  refine lv_aload_n hx hb dL_law_398 rfl (lv_at hl 0 rfl) ?_
  refine lv_iload hx hb dL_law_399 (lv_at hl 4 rfl) ?_
  refine lv_iconst (v := 2) hx hb dL_law_401 (by decide) ?_
  refine lv_iadd hx hb dL_law_402 ?_
  refine xa_top (y := nI (i + 2)) (nI_add i 2) ?_
  refine va_sld hx hb hX hbl hbA hW.2.2 in2 dL_law_403 ?_
  refine xa_top (y := y) e2 ?_
  refine lv_aload_n hx hb dL_law_404 rfl (lv_at hl 3 rfl) ?_
  refine xl_L (ws := xc_W A K n (xmk V) (xmk TV) AG (xzk TO OP) (xbk OP NX) TK ++ xo_W ob kO f) (ws' := xc_W A K n (xmk V) (xmk TV) AG (xzk TO OP) (xbk OP NX) TK ++ xo_W ob kO f) (wr := xm_W A2 K2 th n V TV TO AG OP NX TK) (vx_runSW (As := [.ref (A 0), .int (nI j), .int y, .ref ob]) (rest := []) ⟨hx, hb, hml, hown, ht⟩ (h_look_badW l D A K n (xmk V) (xmk TV) AG (xzk TO OP) (xbk OP NX) TK hn j hj y hbad ob kO f H.size s.heap.size sa hl0) (vx_cwSW 4 ht (xg_SH kml_RL_78 kst_yL_look kin_RL kco_yL_look) rfl rfl rfl (by decide +kernel) ⟨Nat.le_of_ble_eq_true rfl, Nat.le_of_ble_eq_true rfl⟩) (xk_preMX (xP_l hW.1) hKh (xD_l hW.2.1) hXS (xl_kept hW)) rfl rfl hl.1 rfl (lv_room (Nat.le_of_ble_eq_true rfl)) dL_law_405 ⟨by show 14 + T + 1 ≤ 601024; omega, by show 4900 + 6 * T + 6 ≤ 7293000; omega⟩) rfl hW (fun v9 H locs e9 hW => ?_)
  subst e9
  refine W.widen (k := 14 + (T + 1)) (n := 4900 + 6 * (T + 1)) (by omega) (by omega) ?_
  refine lv_istore (lv' := [(5, .int 1), (0, .ref b), (1, .ref (A 0)), (2, .ref (A2 0)), (3, .ref ob), (4, .int (nI i))]) hx hb dL_law_408 hl (by decide) rfl (fun ls hl => ?_)
  refine lv_aload_n hx hb dL_law_410 rfl (lv_at hl 3 rfl) ?_
  refine lv_aload_n hx hb dL_law_411 rfl (lv_at hl 1 rfl) ?_
  refine lv_iload hx hb dL_law_412 (lv_at hl 5 rfl) ?_
  refine lv_iconst (v := 1) hx hb dL_law_414 (by decide) ?_
  refine lv_iadd hx hb dL_law_415 ?_
  refine xa_top (y := nI (i + 1)) (nI_add i 1) ?_
  refine va_sld hx hb hX hbl hbA hW.2.2 in1 dL_law_416 ?_
  refine xa_top (y := nI j) e1 ?_
  refine lv_aload_n hx hb dL_law_417 rfl (lv_at hl 1 rfl) ?_
  refine lv_iload hx hb dL_law_418 (lv_at hl 5 rfl) ?_
  refine lv_iconst (v := 2) hx hb dL_law_420 (by decide) ?_
  refine lv_iadd hx hb dL_law_421 ?_
  refine xa_top (y := nI (i + 2)) (nI_add i 2) ?_
  refine va_sld hx hb hX hbl hbA hW.2.2 in2 dL_law_422 ?_
  refine xa_top (y := y) e2 ?_
  refine xl_R (ws := xm_W A2 K2 th n V TV TO AG OP NX TK) (ws' := xm_W A2 K2 1 n V TV TO AG OP NX TK) (wr := xc_W A K n (xmk V) (xmk TV) AG (xzk TO OP) (xbk OP NX) TK ++ xo_W ob kO f) (va_runV (As := [.int (nI j), .int y]) (rest := []) ⟨hx, hb, hml, hown, ht⟩ (m_look_bad l D A2 K2 th n V TV TO AG OP NX TK hn (nI j) y (fun h => hbad h.2) H.size) (cwV 2 ht (xg_V kml_RL_81 kim_yX1_look ksl_yX1_look kin_RX1 kco_yX1_look) rfl rfl rfl (by decide +kernel) ⟨Nat.le_of_ble_eq_true rfl, Nat.le_of_ble_eq_true rfl⟩) (xk_preMV (xP_r hW.1) hKm (xD_r hW.2.1) rfl rfl) rfl rfl hl.1 rfl (lv_room (Nat.le_of_ble_eq_true rfl)) dL_law_423 ⟨by show 14 + (T + 1) + 0 ≤ 601024; omega, by show 4900 + 6 * (T + 1) + 0 ≤ 7293000; omega⟩) rfl hW (fun v9 H locs e9 hW => ?_)
  obtain ⟨r9, e9⟩ := e9
  subst e9
  refine W.widen (k := 14 + (T + 1)) (n := 4900 + 6 * (T + 1)) (by omega) (by omega) ?_
  refine lv_istore (lv' := [(6, .int r9), (5, .int 1), (0, .ref b), (1, .ref (A 0)), (2, .ref (A2 0)), (3, .ref ob), (4, .int (nI i))]) hx hb dL_law_426 hl (by decide) rfl (fun ls hl => ?_)
  refine lv_aload_n hx hb dL_law_428 rfl (lv_at hl 4 rfl) ?_
  refine xr_V (n := 0) (As := []) (rest := []) ⟨hx, hb, hml, hown, ht⟩ (m_thrown l D A2 K2 1 n V TV TO AG OP NX TK) (xg_V kml_RL_47 kim_yX1_thrown ksl_yX1_thrown kin_RX1 kco_yX1_thrown) ⟨rfl, rfl⟩ (by decide +kernel) ⟨Nat.le_of_ble_eq_true rfl, Nat.le_of_ble_eq_true rfl⟩ (xk_preV (xP_r hW.1) hKm rfl rfl) rfl hl.1 rfl (Nat.le_of_ble_eq_true rfl) dL_law_429 ⟨by show 14 + (T + 1) ≤ 601024; omega, by show 4900 + 6 * (T + 1) ≤ 7293000; omega⟩ (fun r8 e8 => ?_)
  subst e8
  refine lv_iload hx hb dL_law_432 (lv_at hl 1 rfl) ?_
  refine lv_icmp_eq (tgt := 439) hx hb dL_law_434 (by decide) (fun _ => ?_) (fun h => by first | exact absurd h (by decide) | exact absurd (by decide) h)
  refine lv_iload hx hb dL_law_439 (lv_at hl 1 rfl) ?_
  refine lv_if_ne (tgt := 456) hx hb dL_law_441 (by decide) (fun _ => ?_) (fun h => by first | exact absurd h (by decide) | exact absurd (by decide) h)
  refine lv_goto (tgt := 459) hx hb dL_law_456 (by decide) ?_
  have hW : xL_S s D (xL_W A K n V TV TO AG OP NX TK ob kO f A2 K2 1) H locs := by exact hW
  exact kk _ _ _ _ _ _ _ _ _ _ _ ls (hI.more) hW (lv_sub hl [2, 3, 4, 5, 6] rfl)

set_option maxHeartbeats 4000000 in
set_option maxRecDepth 100000 in
/-- free -/
theorem l_free (C : xL_C p l s m meth c D b L xs K kO K2 sa) (hT : T ≤ 600) (hi : i + 2 < L) (hL : L ≤ 1537) (hI : xI n V TV TO AG OP NX TK T) (hW : xL_S s D (xL_W A K n V TV TO AG OP NX TK ob kO f A2 K2 th) H locs) (hl : lv_has ls 7 [(0, .ref b), (1, .ref (A 0)), (2, .ref (A2 0)), (3, .ref ob), (4, .int (nI i))]) (kk : xL_K p l e s m below meth c D b A K A2 K2 ob kO n T i) : W p l e room_1 s m #[Value.ref b] below meth c H locs (14 + T) (4900 + 6 * T) (lw_Z below #[Value.ref b] s) (F0 m 324 ls []) := by
  obtain ⟨⟨hx, hb, hr, hml, hown, hts, hX, hbl, hlocks, hgv⟩, hK, hXS, hl0, ht⟩ := C
  have hbA : ¬ (fun q : Nat => s.heap.size ≤ q) b := Nat.not_le.mpr hbl
  have hn : n ≤ 128 := hI.2.1
  have hKh : va_K D xcl (xc_T K ++ [(kO, .long)]) s := hK.sub [0, 1, 2, 3, 4, 5] rfl
  have hKc : va_K D xcl (xc_T K) s := hK.sub [0, 1, 2, 3, 4] rfl
  have hKm : va_K D xcl (xm_T K2) s := hK.sub [6, 7, 8, 9, 10, 11] rfl
  have in1 : vp_in (nI (i + 1)) L := vp_in_nI (by omega) (by omega)
  have in2 : vp_in (nI (i + 2)) L := vp_in_nI (by omega) (by omega)
  have hW : xL_S s D ((xc_W A K n (xmk V) (xmk TV) AG (xzk TO OP) (xbk OP NX) TK ++ xo_W ob kO f) ++ xm_W A2 K2 th n V TV TO AG OP NX TK) H locs := hW
  refine lv_aload_n hx hb dL_law_324 rfl (lv_at hl 1 rfl) ?_
  refine xr_V (n := 0) (As := []) (rest := []) ⟨hx, hb, hml, hown, ht⟩ (c_free l D A K n (xmk V) (xmk TV) AG (xzk TO OP) (xbk OP NX) TK hn (fun j => xmk_lt V j) (fun j => xmk_lt TV j)) (xg_V kml_RL_65 kim_yX0_free ksl_yX0_free kin_RX0 kco_yX0_free) ⟨rfl, rfl⟩ (by decide +kernel) ⟨Nat.le_of_ble_eq_true rfl, Nat.le_of_ble_eq_true rfl⟩ (xk_preV (xP_l (xP_l hW.1)) hKc rfl rfl) rfl hl.1 rfl (Nat.le_of_ble_eq_true rfl) dL_law_325 ⟨by show 14 + T ≤ 601024; omega, by show 4900 + 6 * T ≤ 7293000; omega⟩ (fun r8 e8 => ?_)
  subst e8
  refine lv_aload_n hx hb dL_law_328 rfl (lv_at hl 2 rfl) ?_
  refine xl_R (ws := xm_W A2 K2 th n V TV TO AG OP NX TK) (ws' := xm_W A2 K2 0 n V TV TO AG OP NX TK) (wr := xc_W A K n (xmk V) (xmk TV) AG (xzk TO OP) (xbk OP NX) TK ++ xo_W ob kO f) (va_runV (As := []) (rest := [.int (nI (xcnt (fun j => (xfr (xmk V) (xmk TV) (xzk TO OP) j).toNat) n))]) ⟨hx, hb, hml, hown, ht⟩ (m_free l D A2 K2 th n V TV TO AG OP NX TK hn hI.op H.size) (cwV 0 ht (xg_V kml_RL_68 kim_yX1_free ksl_yX1_free kin_RX1 kco_yX1_free) rfl rfl rfl (by decide +kernel) ⟨Nat.le_of_ble_eq_true rfl, Nat.le_of_ble_eq_true rfl⟩) (xk_preMV (xP_r hW.1) hKm (xD_r hW.2.1) rfl rfl) rfl rfl hl.1 rfl (lv_room (Nat.le_of_ble_eq_true rfl)) dL_law_329 ⟨by show 14 + T + 0 ≤ 601024; omega, by show 4900 + 6 * T + 0 ≤ 7293000; omega⟩) rfl hW (fun v9 H locs e9 hW => ?_)
  subst e9
  refine W.widen (k := 14 + (T + 1)) (n := 4900 + 6 * (T + 1)) (by omega) (by omega) ?_
  refine lv_icmp_eq (tgt := 459) hx hb dL_law_332 (by decide) (fun _ => ?_) (fun h => absurd (by rw [xcnt_fr]) h)
  have hW : xL_S s D (xL_W A K n V TV TO AG OP NX TK ob kO f A2 K2 0) H locs := by exact hW
  exact kk _ _ _ _ _ _ _ _ _ _ _ ls (hI.more) hW (lv_sub hl [0, 1, 2, 3, 4] rfl)

set_option maxHeartbeats 4000000 in
set_option maxRecDepth 100000 in
/-- used -/
theorem l_used (C : xL_C p l s m meth c D b L xs K kO K2 sa) (hT : T ≤ 600) (hi : i + 2 < L) (hL : L ≤ 1537) (hI : xI n V TV TO AG OP NX TK T) (hW : xL_S s D (xL_W A K n V TV TO AG OP NX TK ob kO f A2 K2 th) H locs) (hl : lv_has ls 7 [(0, .ref b), (1, .ref (A 0)), (2, .ref (A2 0)), (3, .ref ob), (4, .int (nI i))]) (kk : xL_K p l e s m below meth c D b A K A2 K2 ob kO n T i) : W p l e room_1 s m #[Value.ref b] below meth c H locs (14 + T) (4900 + 6 * T) (lw_Z below #[Value.ref b] s) (F0 m 337 ls []) := by
  obtain ⟨⟨hx, hb, hr, hml, hown, hts, hX, hbl, hlocks, hgv⟩, hK, hXS, hl0, ht⟩ := C
  have hbA : ¬ (fun q : Nat => s.heap.size ≤ q) b := Nat.not_le.mpr hbl
  have hn : n ≤ 128 := hI.2.1
  have hKh : va_K D xcl (xc_T K ++ [(kO, .long)]) s := hK.sub [0, 1, 2, 3, 4, 5] rfl
  have hKc : va_K D xcl (xc_T K) s := hK.sub [0, 1, 2, 3, 4] rfl
  have hKm : va_K D xcl (xm_T K2) s := hK.sub [6, 7, 8, 9, 10, 11] rfl
  have in1 : vp_in (nI (i + 1)) L := vp_in_nI (by omega) (by omega)
  have in2 : vp_in (nI (i + 2)) L := vp_in_nI (by omega) (by omega)
  have hW : xL_S s D ((xc_W A K n (xmk V) (xmk TV) AG (xzk TO OP) (xbk OP NX) TK ++ xo_W ob kO f) ++ xm_W A2 K2 th n V TV TO AG OP NX TK) H locs := hW
  refine lv_aload_n hx hb dL_law_337 rfl (lv_at hl 1 rfl) ?_
  refine xr_V (n := 0) (As := []) (rest := []) ⟨hx, hb, hml, hown, ht⟩ (c_used l D A K n (xmk V) (xmk TV) AG (xzk TO OP) (xbk OP NX) TK hn (fun j => xmk_lt V j) (fun j => xmk_lt TV j)) (xg_V kml_RL_69 kim_yX0_used ksl_yX0_used kin_RX0 kco_yX0_used) ⟨rfl, rfl⟩ (by decide +kernel) ⟨Nat.le_of_ble_eq_true rfl, Nat.le_of_ble_eq_true rfl⟩ (xk_preV (xP_l (xP_l hW.1)) hKc rfl rfl) rfl hl.1 rfl (Nat.le_of_ble_eq_true rfl) dL_law_338 ⟨by show 14 + T ≤ 601024; omega, by show 4900 + 6 * T ≤ 7293000; omega⟩ (fun r8 e8 => ?_)
  subst e8
  refine lv_aload_n hx hb dL_law_341 rfl (lv_at hl 2 rfl) ?_
  refine xl_R (ws := xm_W A2 K2 th n V TV TO AG OP NX TK) (ws' := xm_W A2 K2 0 n V TV TO AG OP NX TK) (wr := xc_W A K n (xmk V) (xmk TV) AG (xzk TO OP) (xbk OP NX) TK ++ xo_W ob kO f) (va_runV (As := []) (rest := [.int (nI (xcnt (fun j => xpc (xmk V j)) n))]) ⟨hx, hb, hml, hown, ht⟩ (m_used l D A2 K2 th n V TV TO AG OP NX TK hn hI.op H.size) (cwV 0 ht (xg_V kml_RL_72 kim_yX1_used ksl_yX1_used kin_RX1 kco_yX1_used) rfl rfl rfl (by decide +kernel) ⟨Nat.le_of_ble_eq_true rfl, Nat.le_of_ble_eq_true rfl⟩) (xk_preMV (xP_r hW.1) hKm (xD_r hW.2.1) rfl rfl) rfl rfl hl.1 rfl (lv_room (Nat.le_of_ble_eq_true rfl)) dL_law_342 ⟨by show 14 + T + 0 ≤ 601024; omega, by show 4900 + 6 * T + 0 ≤ 7293000; omega⟩) rfl hW (fun v9 H locs e9 hW => ?_)
  subst e9
  refine W.widen (k := 14 + (T + 1)) (n := 4900 + 6 * (T + 1)) (by omega) (by omega) ?_
  refine lv_icmp_eq (tgt := 459) hx hb dL_law_345 (by decide) (fun _ => ?_) (fun h => absurd (by rw [xcnt_mu]) h)
  have hW : xL_S s D (xL_W A K n V TV TO AG OP NX TK ob kO f A2 K2 0) H locs := by exact hW
  exact kk _ _ _ _ _ _ _ _ _ _ _ ls (hI.more) hW (lv_sub hl [0, 1, 2, 3, 4] rfl)

set_option maxHeartbeats 4000000 in
set_option maxRecDepth 100000 in
/-- checkpoint -/
theorem l_checkpoint (C : xL_C p l s m meth c D b L xs K kO K2 sa) (hT : T ≤ 600) (hi : i + 2 < L) (hL : L ≤ 1537) (hI : xI n V TV TO AG OP NX TK T) (hW : xL_S s D (xL_W A K n V TV TO AG OP NX TK ob kO f A2 K2 th) H locs) (hl : lv_has ls 7 [(0, .ref b), (1, .ref (A 0)), (2, .ref (A2 0)), (3, .ref ob), (4, .int (nI i))]) (kk : xL_K p l e s m below meth c D b A K A2 K2 ob kO n T i) : W p l e room_1 s m #[Value.ref b] below meth c H locs (14 + T) (4900 + 6 * T) (lw_Z below #[Value.ref b] s) (F0 m 311 ls []) := by
  obtain ⟨⟨hx, hb, hr, hml, hown, hts, hX, hbl, hlocks, hgv⟩, hK, hXS, hl0, ht⟩ := C
  have hbA : ¬ (fun q : Nat => s.heap.size ≤ q) b := Nat.not_le.mpr hbl
  have hn : n ≤ 128 := hI.2.1
  have hKh : va_K D xcl (xc_T K ++ [(kO, .long)]) s := hK.sub [0, 1, 2, 3, 4, 5] rfl
  have hKc : va_K D xcl (xc_T K) s := hK.sub [0, 1, 2, 3, 4] rfl
  have hKm : va_K D xcl (xm_T K2) s := hK.sub [6, 7, 8, 9, 10, 11] rfl
  have in1 : vp_in (nI (i + 1)) L := vp_in_nI (by omega) (by omega)
  have in2 : vp_in (nI (i + 2)) L := vp_in_nI (by omega) (by omega)
  have hW : xL_S s D ((xc_W A K n (xmk V) (xmk TV) AG (xzk TO OP) (xbk OP NX) TK ++ xo_W ob kO f) ++ xm_W A2 K2 th n V TV TO AG OP NX TK) H locs := hW
  refine lv_aload_n hx hb dL_law_311 rfl (lv_at hl 1 rfl) ?_
  refine xl_LL (ws := xc_W A K n (xmk V) (xmk TV) AG (xzk TO OP) (xbk OP NX) TK) (ws' := xc_W A K n (xmk V) (xmk V) AG (xop OP 6) (xbk OP NX) TK) (w2 := xo_W ob kO f) (wr := xm_W A2 K2 th n V TV TO AG OP NX TK) (va_runV (As := []) (rest := []) ⟨hx, hb, hml, hown, ht⟩ (c_checkpoint l D A K n (xmk V) (xmk TV) AG (xzk TO OP) (xbk OP NX) TK OP NX hn (fun j => xmk_lt V j) hI.blk hI.far H.size) (cwV 0 ht (xg_V kml_RL_61 kim_yX0_checkpoint ksl_yX0_checkpoint kin_RX0 kco_yX0_checkpoint) rfl rfl rfl (by decide +kernel) ⟨Nat.le_of_ble_eq_true rfl, Nat.le_of_ble_eq_true rfl⟩) (xk_preMV (xP_l (xP_l hW.1)) hKc (xD_l (xD_l hW.2.1)) rfl rfl) rfl rfl hl.1 rfl (lv_room (Nat.le_of_ble_eq_true rfl)) dL_law_312 ⟨by show 14 + T + 0 ≤ 601024; omega, by show 4900 + 6 * T + 0 ≤ 7293000; omega⟩) rfl hW (fun v9 H locs e9 hW => ?_)
  subst e9
  refine W.widen (k := 14 + (T + 1)) (n := 4900 + 6 * (T + 1)) (by omega) (by omega) ?_
  refine lv_aload_n hx hb dL_law_315 rfl (lv_at hl 2 rfl) ?_
  refine xl_R (ws := xm_W A2 K2 th n V TV TO AG OP NX TK) (ws' := xm_W A2 K2 0 n V V (fun _ => false) AG OP NX TK) (wr := xc_W A K n (xmk V) (xmk V) AG (xop OP 6) (xbk OP NX) TK ++ xo_W ob kO f) (va_runV (As := []) (rest := [.int (nI (xcnt (fun j => (xfr (xmk V) (xmk V) (xop OP 6) j).toNat) n))]) ⟨hx, hb, hml, hown, ht⟩ (m_checkpoint l D A2 K2 th n V TV TO AG OP NX TK hn hI.op hI.farV hI.farT H.size) (cwV 0 ht (xg_V kml_RL_64 kim_yX1_checkpoint ksl_yX1_checkpoint kin_RX1 kco_yX1_checkpoint) rfl rfl rfl (by decide +kernel) ⟨Nat.le_of_ble_eq_true rfl, Nat.le_of_ble_eq_true rfl⟩) (xk_preMV (xP_r hW.1) hKm (xD_r hW.2.1) rfl rfl) rfl rfl hl.1 rfl (lv_room (Nat.le_of_ble_eq_true rfl)) dL_law_316 ⟨by show 14 + (T + 1) + 0 ≤ 601024; omega, by show 4900 + 6 * (T + 1) + 0 ≤ 7293000; omega⟩) rfl hW (fun v9 H locs e9 hW => ?_)
  subst e9
  refine W.widen (k := 14 + (T + 1)) (n := 4900 + 6 * (T + 1)) (by omega) (by omega) ?_
  refine lv_icmp_eq (tgt := 459) hx hb dL_law_319 (by decide) (fun _ => ?_) (fun h => absurd (by rw [xzk_op, xcnt_fr]) h)
  have hW : xL_S s D (xL_W A K n V V (fun _ => false) AG OP NX TK ob kO f A2 K2 0) H locs := by rw [xzk_op] at hW; exact hW
  exact kk _ _ _ _ _ _ _ _ _ _ _ ls (hI.check) hW (lv_sub hl [0, 1, 2, 3, 4] rfl)

set_option maxHeartbeats 4000000 in
set_option maxRecDepth 100000 in
/-- victim -/
theorem l_victim (C : xL_C p l s m meth c D b L xs K kO K2 sa) (hT : T ≤ 600) (hi : i + 2 < L) (hL : L ≤ 1537) (hI : xI n V TV TO AG OP NX TK T) (hW : xL_S s D (xL_W A K n V TV TO AG OP NX TK ob kO f A2 K2 th) H locs) (hl : lv_has ls 7 [(0, .ref b), (1, .ref (A 0)), (2, .ref (A2 0)), (3, .ref ob), (4, .int (nI i))]) (kk : xL_K p l e s m below meth c D b A K A2 K2 ob kO n T i) : W p l e room_1 s m #[Value.ref b] below meth c H locs (14 + T) (4900 + 6 * T) (lw_Z below #[Value.ref b] s) (F0 m 350 ls []) := by
  obtain ⟨⟨hx, hb, hr, hml, hown, hts, hX, hbl, hlocks, hgv⟩, hK, hXS, hl0, ht⟩ := C
  have hbA : ¬ (fun q : Nat => s.heap.size ≤ q) b := Nat.not_le.mpr hbl
  have hn : n ≤ 128 := hI.2.1
  have hKh : va_K D xcl (xc_T K ++ [(kO, .long)]) s := hK.sub [0, 1, 2, 3, 4, 5] rfl
  have hKc : va_K D xcl (xc_T K) s := hK.sub [0, 1, 2, 3, 4] rfl
  have hKm : va_K D xcl (xm_T K2) s := hK.sub [6, 7, 8, 9, 10, 11] rfl
  have in1 : vp_in (nI (i + 1)) L := vp_in_nI (by omega) (by omega)
  have in2 : vp_in (nI (i + 2)) L := vp_in_nI (by omega) (by omega)
  have hW : xL_S s D ((xc_W A K n (xmk V) (xmk TV) AG (xzk TO OP) (xbk OP NX) TK ++ xo_W ob kO f) ++ xm_W A2 K2 th n V TV TO AG OP NX TK) H locs := hW
  refine lv_aload_n hx hb dL_law_350 rfl (lv_at hl 1 rfl) ?_
  refine lv_aload_n hx hb dL_law_351 rfl (lv_at hl 0 rfl) ?_
  refine lv_iload hx hb dL_law_352 (lv_at hl 4 rfl) ?_
  refine lv_iconst (v := 1) hx hb dL_law_354 (by decide) ?_
  refine lv_iadd hx hb dL_law_355 ?_
  have hTK : TK ≤ 100000 := by have := hI.2.2.2.2.2.2; omega
  have hAG := hI.2.2.2.2.2.1
  refine xa_top (y := nI (i + 1)) (nI_add i 1) ?_
  refine va_sld hx hb hX hbl hbA hW.2.2 in1 dL_law_356 ?_
  refine xa_top (y := xs (nI (i + 1)).toNatClampNeg) rfl ?_
  refine lv_if_eq (tgt := 364) hx hb dL_law_357 (by decide) (fun h1 => ?_) (fun h1 => ?_)
  · refine lv_iconst (v := 0) hx hb dL_law_364 (by decide) ?_
    refine xa_top (y := xb false) rfl ?_
    refine xr_V (n := 1) (As := [.int (xb false)]) (rest := []) ⟨hx, hb, hml, hown, ht⟩ (c_victim l D A K n (xmk V) (xmk TV) AG (xzk TO OP) (xbk OP NX) TK hn (fun j => xmk_lt V j) hAG hTK false) (xg_V kml_RL_73 kim_yX0_victim ksl_yX0_victim kin_RX0 kco_yX0_victim) ⟨rfl, rfl⟩ (by decide +kernel) ⟨Nat.le_of_ble_eq_true rfl, Nat.le_of_ble_eq_true rfl⟩ (xk_preV (xP_l (xP_l hW.1)) hKc rfl rfl) rfl hl.1 rfl (Nat.le_of_ble_eq_true rfl) dL_law_365 ⟨by show 14 + T ≤ 601024; omega, by show 4900 + 6 * T ≤ 7293000; omega⟩ (fun r8 e8 => ?_)
    subst e8
    refine lv_aload_n hx hb dL_law_368 rfl (lv_at hl 2 rfl) ?_
    refine lv_aload_n hx hb dL_law_369 rfl (lv_at hl 0 rfl) ?_
    refine lv_iload hx hb dL_law_370 (lv_at hl 4 rfl) ?_
    refine lv_iconst (v := 1) hx hb dL_law_372 (by decide) ?_
    refine lv_iadd hx hb dL_law_373 ?_
    refine xa_top (y := nI (i + 1)) (nI_add i 1) ?_
    refine va_sld hx hb hX hbl hbA hW.2.2 in1 dL_law_374 ?_
    refine xa_top (y := xs (nI (i + 1)).toNatClampNeg) rfl ?_
    refine lv_if_eq (tgt := 382) hx hb dL_law_375 (by decide) (fun _ => ?_) (fun h => absurd h1 h)
    refine lv_iconst (v := 0) hx hb dL_law_382 (by decide) ?_
    refine xa_top (y := xb false) rfl ?_
    refine xl_R (ws := xm_W A2 K2 th n V TV TO AG OP NX TK) (ws' := xm_W A2 K2 0 n V TV TO AG OP NX TK) (wr := xc_W A K n (xmk V) (xmk TV) AG (xzk TO OP) (xbk OP NX) TK ++ xo_W ob kO f) (va_runV (As := [.int (xb false)]) (rest := [.int (xvR (xvic (xcand (xmk V) (xzk TO OP)) (xwo false (xmk V) AG TK) n))]) ⟨hx, hb, hml, hown, ht⟩ (m_victim l D A2 K2 th n V TV TO AG OP NX TK hn hI.op hAG hTK false H.size) (cwV 1 ht (xg_V kml_RL_77 kim_yX1_victim ksl_yX1_victim kin_RX1 kco_yX1_victim) rfl rfl rfl (by decide +kernel) ⟨Nat.le_of_ble_eq_true rfl, Nat.le_of_ble_eq_true rfl⟩) (xk_preMV (xP_r hW.1) hKm (xD_r hW.2.1) rfl rfl) rfl rfl hl.1 rfl (lv_room (Nat.le_of_ble_eq_true rfl)) dL_law_383 ⟨by show 14 + T + 0 ≤ 601024; omega, by show 4900 + 6 * T + 0 ≤ 7293000; omega⟩) rfl hW (fun v9 H locs e9 hW => ?_)
    subst e9
    refine W.widen (k := 14 + (T + 1)) (n := 4900 + 6 * (T + 1)) (by omega) (by omega) ?_
    refine lv_icmp_eq (tgt := 459) hx hb dL_law_386 (by decide) (fun _ => ?_) (fun h => absurd (by rw [xvic_tie]) h)
    have hW : xL_S s D (xL_W A K n V TV TO AG OP NX TK ob kO f A2 K2 0) H locs := by exact hW
    exact kk _ _ _ _ _ _ _ _ _ _ _ ls (hI.more) hW (lv_sub hl [0, 1, 2, 3, 4] rfl)
  · refine lv_iconst (v := 1) hx hb dL_law_360 (by decide) ?_
    refine lv_goto (tgt := 365) hx hb dL_law_361 (by decide) ?_
    refine xa_top (y := xb true) rfl ?_
    refine xr_V (n := 1) (As := [.int (xb true)]) (rest := []) ⟨hx, hb, hml, hown, ht⟩ (c_victim l D A K n (xmk V) (xmk TV) AG (xzk TO OP) (xbk OP NX) TK hn (fun j => xmk_lt V j) hAG hTK true) (xg_V kml_RL_73 kim_yX0_victim ksl_yX0_victim kin_RX0 kco_yX0_victim) ⟨rfl, rfl⟩ (by decide +kernel) ⟨Nat.le_of_ble_eq_true rfl, Nat.le_of_ble_eq_true rfl⟩ (xk_preV (xP_l (xP_l hW.1)) hKc rfl rfl) rfl hl.1 rfl (Nat.le_of_ble_eq_true rfl) dL_law_365 ⟨by show 14 + T ≤ 601024; omega, by show 4900 + 6 * T ≤ 7293000; omega⟩ (fun r8 e8 => ?_)
    subst e8
    refine lv_aload_n hx hb dL_law_368 rfl (lv_at hl 2 rfl) ?_
    refine lv_aload_n hx hb dL_law_369 rfl (lv_at hl 0 rfl) ?_
    refine lv_iload hx hb dL_law_370 (lv_at hl 4 rfl) ?_
    refine lv_iconst (v := 1) hx hb dL_law_372 (by decide) ?_
    refine lv_iadd hx hb dL_law_373 ?_
    refine xa_top (y := nI (i + 1)) (nI_add i 1) ?_
    refine va_sld hx hb hX hbl hbA hW.2.2 in1 dL_law_374 ?_
    refine xa_top (y := xs (nI (i + 1)).toNatClampNeg) rfl ?_
    refine lv_if_eq (tgt := 382) hx hb dL_law_375 (by decide) (fun h => absurd h h1) (fun _ => ?_)
    refine lv_iconst (v := 1) hx hb dL_law_378 (by decide) ?_
    refine lv_goto (tgt := 383) hx hb dL_law_379 (by decide) ?_
    refine xa_top (y := xb true) rfl ?_
    refine xl_R (ws := xm_W A2 K2 th n V TV TO AG OP NX TK) (ws' := xm_W A2 K2 0 n V TV TO AG OP NX TK) (wr := xc_W A K n (xmk V) (xmk TV) AG (xzk TO OP) (xbk OP NX) TK ++ xo_W ob kO f) (va_runV (As := [.int (xb true)]) (rest := [.int (xvR (xvic (xcand (xmk V) (xzk TO OP)) (xwo true (xmk V) AG TK) n))]) ⟨hx, hb, hml, hown, ht⟩ (m_victim l D A2 K2 th n V TV TO AG OP NX TK hn hI.op hAG hTK true H.size) (cwV 1 ht (xg_V kml_RL_77 kim_yX1_victim ksl_yX1_victim kin_RX1 kco_yX1_victim) rfl rfl rfl (by decide +kernel) ⟨Nat.le_of_ble_eq_true rfl, Nat.le_of_ble_eq_true rfl⟩) (xk_preMV (xP_r hW.1) hKm (xD_r hW.2.1) rfl rfl) rfl rfl hl.1 rfl (lv_room (Nat.le_of_ble_eq_true rfl)) dL_law_383 ⟨by show 14 + T + 0 ≤ 601024; omega, by show 4900 + 6 * T + 0 ≤ 7293000; omega⟩) rfl hW (fun v9 H locs e9 hW => ?_)
    subst e9
    refine W.widen (k := 14 + (T + 1)) (n := 4900 + 6 * (T + 1)) (by omega) (by omega) ?_
    refine lv_icmp_eq (tgt := 459) hx hb dL_law_386 (by decide) (fun _ => ?_) (fun h => absurd (by rw [xvic_tie]) h)
    have hW : xL_S s D (xL_W A K n V TV TO AG OP NX TK ob kO f A2 K2 0) H locs := by exact hW
    exact kk _ _ _ _ _ _ _ _ _ _ _ ls (hI.more) hW (lv_sub hl [0, 1, 2, 3, 4] rfl)
end LAW
end
section
/-! THE LAW'S LOOP -/
theorem xleast (P : Nat → Bool) : ∀ n, (∀ j, j < n → P j = false) ∨ ∃ o, o < n ∧ P o = true ∧ ∀ i, i < o → P i = false := by
  intro n
  induction n with
  | zero => exact Or.inl (fun j h => absurd h (by omega))
  | succ n ih =>
    rcases ih with h | ⟨o, h1, h2, h3⟩
    · cases e : P n with
      | false => exact Or.inl (fun j hj => (Nat.lt_or_ge j n).elim (h j) (fun z => (show n = j by omega) ▸ e))
      | true => exact Or.inr ⟨n, by omega, e, h⟩
    · exact Or.inr ⟨o, by omega, h2, h3⟩
section LAW2
variable {p : Program} {l : Launch} {e : Env} {s : State} {m : MethodId} {below : List Frame} {meth : Method} {c : Code} {D : va_G} {b L : Nat} {xs : Nat → Int32} {A A2 : Nat → Nat} {K K2 : Nat → ClassId} {ob : Nat} {kO : ClassId} {sa : Nat → Nat}
variable {n : Nat} {V TV TO : Nat → Bool} {AG OP NX : Nat → Nat} {TK T th i : Nat} {f : Nat → Int64} {H : Heap} {locs : List Loc} {ls : Array Slot}
theorem l_take (C : xL_C p l s m meth c D b L xs K kO K2 sa) (hT : T ≤ 600) (hi : i + 2 < L) (hL : L ≤ 1537) (hI : xI n V TV TO AG OP NX TK T) (hW : xL_S s D (xL_W A K n V TV TO AG OP NX TK ob kO f A2 K2 th) H locs) (hl : lv_has ls 7 [(0, .ref b), (1, .ref (A 0)), (2, .ref (A2 0)), (3, .ref ob), (4, .int (nI i))]) (kk : xL_K p l e s m below meth c D b A K A2 K2 ob kO n T i) : W p l e room_1 s m #[Value.ref b] below meth c H locs (14 + T) (4900 + 6 * T) (lw_Z below #[Value.ref b] s) (F0 m 100 ls []) := by
  rcases xp_ix (xs (nI (i + 1)).toNatClampNeg) (n := 6) (by decide) with ⟨q, hq, e1⟩ | ⟨-, hbad⟩
  · have hr := hI.2.2.1 q hq
    rcases Nat.lt_or_ge (NX q) 15 with hk | hk
    · exact l_take_stay C hT hi hL hI hW hl kk q _ _ hq e1 rfl rfl hr.1 hk
    · rcases xleast (fun j => xmfr V TV TO OP j) n with hf | ⟨o, ho, ho1, ho2⟩
      · exact l_take_full C hT hi hL hI hW hl kk q _ _ hq e1 rfl rfl hr.1 (by omega) hf
      · exact l_take_open C hT hi hL hI hW hl kk q _ _ hq e1 rfl rfl hr.1 (by omega) o ho ho1 ho2
  · exact l_take_bad C hT hi hL hI hW hl kk _ rfl hbad
theorem l_next (C : xL_C p l s m meth c D b L xs K kO K2 sa) (hT : T ≤ 600) (hi : i + 2 < L) (hL : L ≤ 1537) (hI : xI n V TV TO AG OP NX TK T) (hW : xL_S s D (xL_W A K n V TV TO AG OP NX TK ob kO f A2 K2 th) H locs) (hl : lv_has ls 7 [(0, .ref b), (1, .ref (A 0)), (2, .ref (A2 0)), (3, .ref ob), (4, .int (nI i))]) (kk : xL_K p l e s m below meth c D b A K A2 K2 ob kO n T i) : W p l e room_1 s m #[Value.ref b] below meth c H locs (14 + T) (4900 + 6 * T) (lw_Z below #[Value.ref b] s) (F0 m 156 ls []) := by
  rcases xp_ix (xs (nI (i + 1)).toNatClampNeg) (n := 6) (by decide) with ⟨q, hq, e1⟩ | ⟨-, hbad⟩
  · exact l_next_ok C hT hi hL hI hW hl kk q hq e1
  · exact l_next_bad C hT hi hL hI hW hl kk _ rfl hbad
theorem l_drop (C : xL_C p l s m meth c D b L xs K kO K2 sa) (hT : T ≤ 600) (hi : i + 2 < L) (hL : L ≤ 1537) (hI : xI n V TV TO AG OP NX TK T) (hW : xL_S s D (xL_W A K n V TV TO AG OP NX TK ob kO f A2 K2 th) H locs) (hl : lv_has ls 7 [(0, .ref b), (1, .ref (A 0)), (2, .ref (A2 0)), (3, .ref ob), (4, .int (nI i))]) (kk : xL_K p l e s m below meth c D b A K A2 K2 ob kO n T i) : W p l e room_1 s m #[Value.ref b] below meth c H locs (14 + T) (4900 + 6 * T) (lw_Z below #[Value.ref b] s) (F0 m 212 ls []) := by
  rcases xp_blk (xs (nI (i + 1)).toNatClampNeg) hI.2.1 with ⟨j, k, hj, hk, e1⟩ | ⟨-, hbad⟩
  · cases hs : V (16 * j + k) with
    | true => exact l_drop_ok C hT hi hL hI hW hl kk j k hj hk e1 hs
    | false => exact l_drop_no C hT hi hL hI hW hl kk j k hj hk e1 hs
  · exact l_drop_bad C hT hi hL hI hW hl kk _ rfl hbad
theorem l_isUsed (C : xL_C p l s m meth c D b L xs K kO K2 sa) (hT : T ≤ 600) (hi : i + 2 < L) (hL : L ≤ 1537) (hI : xI n V TV TO AG OP NX TK T) (hW : xL_S s D (xL_W A K n V TV TO AG OP NX TK ob kO f A2 K2 th) H locs) (hl : lv_has ls 7 [(0, .ref b), (1, .ref (A 0)), (2, .ref (A2 0)), (3, .ref ob), (4, .int (nI i))]) (kk : xL_K p l e s m below meth c D b A K A2 K2 ob kO n T i) : W p l e room_1 s m #[Value.ref b] below meth c H locs (14 + T) (4900 + 6 * T) (lw_Z below #[Value.ref b] s) (F0 m 248 ls []) := by
  rcases xp_blk (xs (nI (i + 1)).toNatClampNeg) hI.2.1 with ⟨j, k, hj, hk, e1⟩ | ⟨-, hbad⟩
  · exact l_isUsed_ok C hT hi hL hI hW hl kk j k hj hk e1
  · exact l_isUsed_bad C hT hi hL hI hW hl kk _ rfl hbad
theorem l_look (C : xL_C p l s m meth c D b L xs K kO K2 sa) (hT : T ≤ 600) (hi : i + 2 < L) (hL : L ≤ 1537) (hI : xI n V TV TO AG OP NX TK T) (hW : xL_S s D (xL_W A K n V TV TO AG OP NX TK ob kO f A2 K2 th) H locs) (hl : lv_has ls 7 [(0, .ref b), (1, .ref (A 0)), (2, .ref (A2 0)), (3, .ref ob), (4, .int (nI i))]) (kk : xL_K p l e s m below meth c D b A K A2 K2 ob kO n T i) : W p l e room_1 s m #[Value.ref b] below meth c H locs (14 + T) (4900 + 6 * T) (lw_Z below #[Value.ref b] s) (F0 m 391 ls []) := by
  have hn := hI.2.1
  rcases xp_ix (xs (nI (i + 1)).toNatClampNeg) (n := n) (by omega) with ⟨j, hj, e1⟩ | ⟨-, hbad⟩
  · rcases xp_ix (xs (nI (i + 2)).toNatClampNeg) (n := 4) (by decide) with ⟨v, hv, e2⟩ | ⟨-, hbad⟩
    · exact l_look_ok C hT hi hL hI hW hl kk j v hj hv e1 e2
    · exact l_look_badW C hT hi hL hI hW hl kk j hj e1 _ rfl hbad
  · exact l_look_badS C hT hi hL hI hW hl kk _ rfl _ rfl hbad
end LAW2
set_option maxHeartbeats 4000000 in
set_option maxRecDepth 100000 in
theorem law_loop {p : Program} {l : Launch} {e : Env} {s : State} {m : MethodId} {below : List Frame} {meth : Method} {c : Code} {D : va_G} {b L : Nat} {xs : Nat → Int32} {A A2 : Nat → Nat} {K K2 : Nat → ClassId} {ob : Nat} {kO : ClassId} {sa : Nat → Nat} {n : Nat} (hL : L ≤ 1537) (C : xL_C p l s m meth c D b L xs K kO K2 sa) :
    ∀ (g T : Nat), 3 * T ≤ L → L < 3 * (T + g) → ∀ (V TV TO : Nat → Bool) (AG OP NX : Nat → Nat) (TK th : Nat) (f : Nat → Int64) (H : Heap) (locs : List Loc) (ls : Array Slot), xI n V TV TO AG OP NX TK T → xL_S s D (xL_W A K n V TV TO AG OP NX TK ob kO f A2 K2 th) H locs → lv_has ls 7 [(0, .ref b), (1, .ref (A 0)), (2, .ref (A2 0)), (3, .ref ob), (4, .int (nI (1 + 3 * T)))] →
      W p l e room_1 s m #[Value.ref b] below meth c H locs (14 + T) (4900 + 6 * T) (lw_Z below #[Value.ref b] s) (F0 m 33 ls []) := by
  obtain ⟨⟨hx, hb, hr, hml, hown, hts, hX, hbl, hlocks, hgv⟩, hK, hXS, hl0, ht⟩ := id C
  have hbA : ¬ (fun q : Nat => s.heap.size ≤ q) b := Nat.not_le.mpr hbl
  intro g
  induction g with
  | zero => intro T h1 h2; exact absurd h2 (by omega)
  | succ g ih =>
    intro T hT hg V TV TO AG OP NX TK th f H locs ls hI hW hl
    refine lv_iload hx hb dL_law_33 (lv_at hl 4 rfl) ?_
    refine lv_aload_n hx hb dL_law_35 rfl (lv_at hl 0 rfl) ?_
    refine va_slen hx hb hX hbl hbA hW.2.2 dL_law_36 ?_
    refine lv_iconst (v := 3) hx hb dL_law_37 (by decide) ?_
    refine lv_isub hx hb dL_law_38 ?_
    refine lv_icmp_gt (tgt := 465) hx hb dL_law_39 (by decide) (fun h1 => ?_) (fun h1 => ?_)
    · refine lv_iconst (v := 1) hx hb dL_law_465 (by decide) ?_
      refine va_forget (fun q hq => hW.2.2.2.2 q hq) ?_
      refine W.widen (k := 601024) (n := 7293000) (by omega) (by omega) ?_
      exact lw_ret hx hb hr hlocks dL_law_466
    · have hi3 : 1 + 3 * T + 3 ≤ L := xl_last hL (by omega) h1
      refine lv_aload_n hx hb dL_law_42 rfl (lv_at hl 0 rfl) ?_
      refine lv_iload hx hb dL_law_43 (lv_at hl 4 rfl) ?_
      refine va_sld hx hb hX hbl hbA hW.2.2 (vp_in_nI (by omega) (by omega)) dL_law_45 ?_
      refine lv_bipush (v := 15) hx hb dL_law_46 (by decide) ?_
      refine lv_iand hx hb dL_law_48 ?_
      have kk : xL_K p l e s m below meth c D b A K A2 K2 ob kO n T (1 + 3 * T) := by
        intro V TV TO AG OP NX TK th f H locs ls hI hW hl
        refine lv_iinc (v := nI (1 + 3 * (T + 1))) (lv' := [(4, .int (nI (1 + 3 * (T + 1)))), (0, .ref b), (1, .ref (A 0)), (2, .ref (A2 0)), (3, .ref ob)]) hx hb dL_law_459 hl (k := 4) rfl (nI_add (1 + 3 * T) 3) (by decide) rfl (fun ls hl => ?_)
        refine lv_goto (tgt := 33) hx hb dL_law_462 (by decide) ?_
        exact ih (T + 1) (by omega) (by omega) V TV TO AG OP NX TK th f H locs ls hI hW (lv_sub hl [1, 2, 3, 4, 0] rfl)
      refine lv_topi (fun y ey => ?_)
      rcases xp_ix y (n := 9) (by decide) with ⟨j, hj, ej⟩ | ⟨hout, -⟩
      · subst ej
        rcases (show j = 0 ∨ j = 1 ∨ j = 2 ∨ j = 3 ∨ j = 4 ∨ j = 5 ∨ j = 6 ∨ j = 7 ∨ j = 8 by omega) with rfl | rfl | rfl | rfl | rfl | rfl | rfl | rfl | rfl
        · refine lv_tableIn (tgt := 100) (off := 51) hx hb dL_law_49 (by decide) (by decide) rfl (by decide) ?_
          exact l_take C (by omega) (by omega) hL hI hW hl kk
        · refine lv_tableIn (tgt := 156) (off := 107) hx hb dL_law_49 (by decide) (by decide) rfl (by decide) ?_
          exact l_next C (by omega) (by omega) hL hI hW hl kk
        · refine lv_tableIn (tgt := 212) (off := 163) hx hb dL_law_49 (by decide) (by decide) rfl (by decide) ?_
          exact l_drop C (by omega) (by omega) hL hI hW hl kk
        · refine lv_tableIn (tgt := 248) (off := 199) hx hb dL_law_49 (by decide) (by decide) rfl (by decide) ?_
          exact l_isUsed C (by omega) (by omega) hL hI hW hl kk
        · refine lv_tableIn (tgt := 311) (off := 262) hx hb dL_law_49 (by decide) (by decide) rfl (by decide) ?_
          exact l_checkpoint C (by omega) (by omega) hL hI hW hl kk
        · refine lv_tableIn (tgt := 324) (off := 275) hx hb dL_law_49 (by decide) (by decide) rfl (by decide) ?_
          exact l_free C (by omega) (by omega) hL hI hW hl kk
        · refine lv_tableIn (tgt := 337) (off := 288) hx hb dL_law_49 (by decide) (by decide) rfl (by decide) ?_
          exact l_used C (by omega) (by omega) hL hI hW hl kk
        · refine lv_tableIn (tgt := 350) (off := 301) hx hb dL_law_49 (by decide) (by decide) rfl (by decide) ?_
          exact l_victim C (by omega) (by omega) hL hI hW hl kk
        · refine lv_tableIn (tgt := 391) (off := 342) hx hb dL_law_49 (by decide) (by decide) rfl (by decide) ?_
          exact l_look C (by omega) (by omega) hL hI hW hl kk
      · refine lv_tableOut (tgt := 459) hx hb dL_law_49 (xl_out hout) (by decide) ?_
        refine W.widen (k := 14 + (T + 1)) (n := 4900 + 6 * (T + 1)) (by omega) (by omega) ?_
        exact kk _ _ _ _ _ _ _ _ _ _ _ ls hI.more hW hl
end
section
/-! THE LAW FROM ITS ENTRY -/
theorem xg_I {y : MethodName} {b : ByteArray} {n : Nat} {r : Option FieldType} (h5 : .code y b n r ∈ xT) : GoodIn xT (xw y b n r) := fun w hw => (List.mem_cons.mp hw).elim (fun e => by rw [e]; exact xT_good _ h5) (fun h => xT_good w h)
theorem xS_start {s : State} {b : Nat} (hts : ∀ w ∈ lw_tbl, w.before #[Value.ref b] s = true) (hgv : (Jvm.Cond.and given_1 narrow_1).before #[Value.ref b] s = true) : ∃ sa : Nat → Nat, xS s.heap.size sa s := by
  have hg := flat_of_before _ hgv
  have hstr : ∀ (k : Nat) (tx : String), Cond.stringRef RX0 k tx ∈ lw_tbl → Cond.exactly (.string RX0 k) "java/lang/String" ∈ flatC (Jvm.Cond.and given_1 narrow_1) → ∃ a : Nat, vk_R RX0 k tx a s := by
    intro k tx h1 h2
    obtain ⟨a, c, cA, kA, q1, -⟩ := Cond.exactly_spec (args := #[Value.ref b]) (first := s) (o := none) (s := s) (idx := []) (t := .string RX0 k) (cls := "java/lang/String") (hg _ h2)
    exact ⟨a, vk_R.of (hts _ h1) q1⟩
  obtain ⟨a0, h0⟩ := hstr 43 "no such log" (by decide +kernel) (by decide +kernel)
  obtain ⟨a1, h1⟩ := hstr 53 "no free segment to open" (by decide +kernel) (by decide +kernel)
  obtain ⟨a2, h2⟩ := hstr 67 "no such block" (by decide +kernel) (by decide +kernel)
  obtain ⟨a3, h3⟩ := hstr 72 "the block is not in use" (by decide +kernel) (by decide +kernel)
  obtain ⟨a4, h4⟩ := hstr 96 "no such segment" (by decide +kernel) (by decide +kernel)
  obtain ⟨a5, h5⟩ := hstr 98 "no such thing to look at" (by decide +kernel) (by decide +kernel)
  refine ⟨xA6 a0 a1 a2 a3 a4 a5, ?_, ?_, ?_, h0, h1, h2, h3, h4, h5, va_Nc.of (hg (Cond.castable xIS xIA).not (by decide +kernel))⟩
  · exact vx_Zqof (hts (Cond.laysStatic Bundle.tN "UNASSIGNED_STACK" Bundle.steD) (by decide +kernel)) (hts (Cond.initialized Bundle.tN) (by decide +kernel)) (hg (Cond.isRef (.static Bundle.tN "UNASSIGNED_STACK" Bundle.steD)) (by decide +kernel)) (fun a ha => Nat.not_le.mpr ha)
  · exact vx_Zqof (hts (Cond.laysStatic Bundle.tN "SUPPRESSED_SENTINEL" Bundle.listD) (by decide +kernel)) (hts (Cond.initialized Bundle.tN) (by decide +kernel)) (hg (Cond.isRef (.static Bundle.tN "SUPPRESSED_SENTINEL" Bundle.listD)) (by decide +kernel)) (fun a ha => Nat.not_le.mpr ha)
  · exact fun w hw => va_Nw.of (xN_tab w hw) (hts w (xN_in w hw))
section XLI
variable {p : Program} {l : Launch} {e : Env} {R : Room} {s : State} {m : MethodId} {args : Array Value} {below : List Frame} {meth : Method} {c : Code} {H : Heap} {locs : List Loc} {cells slots mc ms : Nat} {Q : State → Prop}
variable {D : va_G} {ws wr : va_W} {rest st0 : List Value} {pc : Nat} {ls : Array Slot} {a : Array Value}
/-- behind a constructor: its object's cells are there -/
theorem xl_I {o : Nat} {tyf : (Nat → ClassId) → List (ClassId × FieldType)} {wf : (Nat → Nat) → (Nat → ClassId) → va_W} (hr : va_Run p l e R s m args below meth c H locs cells slots mc ms (F0 m pc ls st0) rest (xk_C D ws o tyf wf a) (va_A ws H.size)) (hW : xL_S s D (wr ++ ws) H locs)
    (kk : ∀ (A : Nat → Nat) (K : Nat → ClassId) (H1 : Heap) (locs1 : List Loc), A 0 = o → va_K D xcl (tyf K) s → xL_S s D (wr ++ wf A K) H1 locs1 → W p l e R s m args below meth c H1 locs1 (cells + mc) (slots + ms) Q (F0 m (pc + 3) ls rest)) : W p l e R s m args below meth c H locs cells slots Q (F0 m pc ls st0) := by
  intro T hT X
  obtain ⟨v, st₀, t, T', L, h0, X', hL, e1, e2, ⟨hv, ⟨A, K, hA, hP, hK, hD⟩, hz, hk⟩, st⟩ := hr T hT X
  cases hv
  rw [h0] at hz hk hD
  rw [← e1] at hP hz hk
  have hF := xD_A (xD_r hW.2.1) hW.2.2 (fun _ h => h)
  have hKs : va_K D xcl (tyf K) s := va_K.moved (Vm.Alike.symm (by rw [← e2]; exact X'.warmed.alike)) hK
  have hDD : va_D (fun q : Nat => s.heap.size ≤ q) (wr ++ wf A K) := by
    refine va_D.app (xD_l hW.2.1) (hD.weaken (fun k q _ h => hF _ h)) ?_
    intro i j x y hx hy hxy
    have hlt := (xP_l hW.1 i x hx).lt
    have hy2 := hD.2 j y hy
    rw [← hxy] at hy2
    rcases hy2 with ⟨k, e3, h3⟩ | h3
    · have g1 : (wr ++ ws)[i]? = some x := by rw [List.getElem?_append_left (List.getElem?_eq_some_iff.mp hx).1]; exact hx
      have g2 : (wr ++ ws)[wr.length + k]? = some (x.1, e3) := by rw [List.getElem?_append_right (by omega), Nat.add_sub_cancel_left]; exact h3
      have := hW.2.1.1 i (wr.length + k) _ _ g1 g2 rfl
      have := (List.getElem?_eq_some_iff.mp hx).1
      omega
    · omega
  obtain ⟨t2, a1, b1⟩ := kk A K T'.heap (locs ++ L) hA hKs ⟨(xP_keepL hW.2.1 (xP_l hW.1) hk).app hP, hDD,
    ⟨Nat.le_trans hW.2.2.1 hz, fun q h1 h2 => by rw [hk q (Nat.lt_of_lt_of_le h1 hW.2.2.1) (fun z => h2 (hF q z))]; exact hW.2.2.2.1 q h1 h2, fun q hq => by
      rcases List.mem_append.mp hq with h | h
      · exact hW.2.2.2.2 q h
      · exact hF _ (hL q h)⟩⟩ T' rfl X'
  exact ⟨t2, st t2 a1, b1⟩
theorem xl_preX {b L : Nat} {xs : Nat → Int32} {As : List Value} (hX : va_X b L xs s s.heap) (hbl : b < s.heap.size) (hW : xL_S s D ws H locs) : PreS s H (va_Pc As (fun U => va_X b L xs U U.heap)) As :=
  ⟨fun a U g mk q => ⟨q.1, va_X.moved (u := U) (U := U.calling g mk a) (Vm.Alike.refl U.vm) q.2⟩, fun U hU hU2 => ⟨rfl, by show va_X b L xs U U.heap; rw [hU]; exact va_X.moved hU2.alike (hX.kept (hW.2.2.2.1 b hbl (Nat.not_le.mpr hbl)))⟩⟩
end XLI
set_option maxHeartbeats 4000000 in
set_option maxRecDepth 100000 in
/-- the law, from its entry -/
theorem whole_start {p : Program} {e : Env} {s : State} {m : MethodId} {below : List Frame} {meth : Method} {c : Code} (l : Launch) (hl0 : l.stackTraces = false) {b L : Nat} {xs : Nat → Int32} (hL : L ≤ 1537) (C0 : lw_At p s m meth c b L xs) : W p l e room_1 s m #[Value.ref b] below meth c s.heap [] 0 0 (lw_Z below #[Value.ref b] s) (entryFrame m ([Value.ref b] : List Value).toArray 7) := by
  obtain ⟨hx, hb, hr, hml, hown, hts, hX, hbl, hlocks, hgv⟩ := id C0
  have ht : ∀ w ∈ xT, w.before #[Value.ref b] s = true := fun w h => hts w (List.mem_filter.mp h).1
  obtain ⟨sa, hXS⟩ := xS_start hts hgv
  have hA : ∀ q : Nat, s.heap.size ≤ q → (fun q : Nat => s.heap.size ≤ q) q := fun _ h => h
  obtain ⟨c0, iS0, hKn0⟩ := u_known (C := RX0) (T := TX0) (N := 7) (n := 7) ht xin_X0 (hts (.instantiable RX0 7) (by decide +kernel))
  obtain ⟨c1, iS1, hKn1⟩ := u_known (C := RX1) (T := TX1) (N := 9) (n := 9) ht xin_X1 (hts (.instantiable RX1 9) (by decide +kernel))
  obtain ⟨D, hKcl⟩ : ∃ D : va_G, ∀ (k : Nat) (q : vw_C), xcl[k]? = some q → u_Kn s q.1 q.2.1 q.2.2 (D.1 k) (D.2 k) := by
    refine ⟨(fun k => if k = 0 then c0 else c1, fun k => if k = 0 then iS0 else iS1), ?_⟩
    intro k q hq
    match k, hq with
    | 0, hq => cases hq; exact hKn0
    | 1, hq => cases hq; exact hKn1
    | k + 2, hq => simp [xcl] at hq
  have hS : va_S (fun q : Nat => s.heap.size ≤ q) s.heap s.heap [] := va_S.rf
  have hK : va_K D xcl [] s := ⟨hKcl, fun k q h => by simp at h⟩
  have hP : va_P D xcl [] s.heap := fun k q h => by simp at h
  have hD : va_D (fun q : Nat => s.heap.size ≤ q) [] := ⟨fun i j p q h => by simp at h, fun k q h => by simp at h⟩
  obtain ⟨n, hseg⟩ := xseg_ex (if 0 < L then xs 0 else 0)
  have hn := xseg_n hseg
  have hl := lv_entry ([.ref b]) (n := 7) (Nat.le_of_ble_eq_true rfl)
  rw [lg_entry_eq]
  generalize (lg_sl ([.ref b]) ++ List.replicate (7 - (lg_sl ([.ref b])).length) Slot.unset).toArray = ls at hl ⊢
  have hl : lv_has ls 7 [(0, .ref b)] := hl
  refine va_new (ci := 0) (fs := [.int 0, .null, .null, .null, .null, .null, .int 0]) (C := RX0) (T := TX0) (N := 7) hx hb ht xin_X0 tyX0 tyX0_ok hown (ht _ kcl_RL_8) (hts (.instantiable RX0 7) (by decide +kernel)) (ht _ kin_RX0) hK hP hD hS hA rfl (fun j hj => by rcases (show j = 0 ∨ j = 1 ∨ j = 2 ∨ j = 3 ∨ j = 4 ∨ j = 5 ∨ j = 6 by omega) with rfl | rfl | rfl | rfl | rfl | rfl | rfl <;> rfl) (Nat.le_of_ble_eq_true rfl) (Nat.le_of_ble_eq_true rfl) dL_law_0 (fun q0 H hP hD hS => ?_)
  have hW : xL_S s D ([] ++ [(q0, .inr (0, [.int 0, .null, .null, .null, .null, .null, .int 0]))]) H _ := ⟨hP, hD, hS⟩
  refine lv_dup hx hb dL_law_3 rfl ?_
  refine lv_aload_n hx hb dL_law_4 rfl (lv_at hl 0 rfl) ?_
  refine lv_iconst (v := 0) hx hb dL_law_5 (by decide) ?_
  refine xr_S (n := 2) (As := [.ref b, .int 0]) (rest := [.ref q0, .ref q0]) ⟨hx, hb, hml, hown, ht⟩ (h_cell l b L xs (by omega)) (xg_S kml_RL_32 kst_yL_cell kin_RL kco_yL_cell) ⟨rfl, rfl⟩ (by decide +kernel) ⟨Nat.le_of_ble_eq_true rfl, Nat.le_of_ble_eq_true rfl⟩ (xl_preX hX hbl hW) rfl hl.1 rfl (Nat.le_of_ble_eq_true rfl) dL_law_6 ⟨Nat.le_of_ble_eq_true rfl, Nat.le_of_ble_eq_true rfl⟩ (fun r8 e8 => ?_)
  subst e8
  refine xl_I (o := q0) (ws := [(q0, .inr (0, [.int 0, .null, .null, .null, .null, .null, .int 0]))]) (wr := []) (va_runI (As := [.int (if 0 < L then xs 0 else 0)]) (rest := [.ref q0]) ⟨hx, hb, hml, hown, ht⟩ (c_init l D q0 (if 0 < L then xs 0 else 0) n hseg H.size) (cwI 1 ht (xg_I kco_yX0_init) rfl rfl rfl (ht _ kin_RX0) (ht _ kml_RL_38) (ht _ kim_yX0_init) rfl (by decide +kernel) ⟨Nat.le_of_ble_eq_true rfl, Nat.le_of_ble_eq_true rfl⟩) (xk_preM (xP_r hW.1) hK (xD_r hW.2.1)) rfl rfl hl.1 rfl (lv_room (Nat.le_of_ble_eq_true rfl)) dL_law_9 ⟨Nat.le_of_ble_eq_true rfl, Nat.le_of_ble_eq_true rfl⟩) hW (fun A K H locs0 hA0 hK0 hW9 => ?_)
  subst hA0
  have hW : xL_S s D (xc_W A K n (fun _ => 0) (fun _ => 0) (fun _ => 0) (xZ0 6) (xB0 6) 0) H _ := hW9
  have hP := hW.1
  have hD := hW.2.1
  have hS := hW.2.2
  refine lv_astore_n (lv' := [(1, .ref (A 0)), (0, .ref b)]) hx hb dL_law_12 rfl hl (by decide) rfl (fun ls hl => ?_)
  refine va_new (ci := 1) (fs := [.int 0, .int 0, .null, .null, .null, .null, .null, .null, .int 0]) (C := RX1) (T := TX1) (N := 9) hx hb ht xin_X1 tyX1 tyX1_ok hown (ht _ kcl_RL_40) (hts (.instantiable RX1 9) (by decide +kernel)) (ht _ kin_RX1) hK hP hD hS hA rfl (fun j hj => by rcases (show j = 0 ∨ j = 1 ∨ j = 2 ∨ j = 3 ∨ j = 4 ∨ j = 5 ∨ j = 6 ∨ j = 7 ∨ j = 8 by omega) with rfl | rfl | rfl | rfl | rfl | rfl | rfl | rfl | rfl <;> rfl) (Nat.le_of_ble_eq_true rfl) (Nat.le_of_ble_eq_true rfl) dL_law_13 (fun q1 H hP hD hS => ?_)
  have hW : xL_S s D (xc_W A K n (fun _ => 0) (fun _ => 0) (fun _ => 0) (xZ0 6) (xB0 6) 0 ++ [(q1, .inr (1, [.int 0, .int 0, .null, .null, .null, .null, .null, .null, .int 0]))]) H _ := ⟨hP, hD, hS⟩
  refine lv_dup hx hb dL_law_16 rfl ?_
  refine lv_aload_n hx hb dL_law_17 rfl (lv_at hl 1 rfl) ?_
  refine lv_iconst (v := 0) hx hb dL_law_18 (by decide) ?_
  refine xr_S (n := 2) (As := [.ref b, .int 0]) (rest := [.ref q1, .ref q1]) ⟨hx, hb, hml, hown, ht⟩ (h_cell l b L xs (by omega)) (xg_S kml_RL_32 kst_yL_cell kin_RL kco_yL_cell) ⟨rfl, rfl⟩ (by decide +kernel) ⟨Nat.le_of_ble_eq_true rfl, Nat.le_of_ble_eq_true rfl⟩ (xl_preX hX hbl hW) rfl hl.1 rfl (Nat.le_of_ble_eq_true rfl) dL_law_19 ⟨Nat.le_of_ble_eq_true rfl, Nat.le_of_ble_eq_true rfl⟩ (fun r8 e8 => ?_)
  subst e8
  refine xl_I (o := q1) (ws := [(q1, .inr (1, [.int 0, .int 0, .null, .null, .null, .null, .null, .null, .int 0]))]) (wr := xc_W A K n (fun _ => 0) (fun _ => 0) (fun _ => 0) (xZ0 6) (xB0 6) 0) (va_runI (As := [.int (if 0 < L then xs 0 else 0)]) (rest := [.ref q1]) ⟨hx, hb, hml, hown, ht⟩ (m_init l D q1 (if 0 < L then xs 0 else 0) n hseg H.size) (cwI 1 ht (xg_I kco_yX1_init) rfl rfl rfl (ht _ kin_RX1) (ht _ kml_RL_42) (ht _ kim_yX1_init) rfl (by decide +kernel) ⟨Nat.le_of_ble_eq_true rfl, Nat.le_of_ble_eq_true rfl⟩) (xk_preM (xP_r hW.1) hK (xD_r hW.2.1)) rfl rfl hl.1 rfl (lv_room (Nat.le_of_ble_eq_true rfl)) dL_law_22 ⟨Nat.le_of_ble_eq_true rfl, Nat.le_of_ble_eq_true rfl⟩) hW (fun A2 K2 H locs1 hA1 hK1 hW9 => ?_)
  subst hA1
  have hW : xL_S s D (xc_W A K n (fun _ => 0) (fun _ => 0) (fun _ => 0) (xZ0 6) (xB0 6) 0 ++ xm_W A2 K2 0 n (fun _ => false) (fun _ => false) (fun _ => false) (fun _ => 0) (xO0 6) (fun _ => 0) 0) H _ := hW9
  have hP := hW.1
  have hD := hW.2.1
  have hS := hW.2.2
  refine lv_astore_n (lv' := [(2, .ref (A2 0)), (1, .ref (A 0)), (0, .ref b)]) hx hb dL_law_25 rfl hl (by decide) rfl (fun ls hl => ?_)
  refine lv_iconst (v := 1) hx hb dL_law_26 (by decide) ?_
  refine va_newa (atype := .long) (N' := 1) (ty := .long) (a0 := (1, .inr (.inl (fun _ => 0)))) hx hb (ht _ kar_long) rfl hK hP hD hS hA (fun cA => rfl) (by decide) (by decide) (by decide) (Nat.le_of_ble_eq_true rfl) (Nat.le_of_ble_eq_true rfl) dL_law_27 (fun ob kO H hK2 hP hD hS => ?_)
  refine lv_astore_n (lv' := [(3, .ref ob), (2, .ref (A2 0)), (1, .ref (A 0)), (0, .ref b)]) hx hb dL_law_29 rfl hl (by decide) rfl (fun ls hl => ?_)
  refine lv_iconst (v := 1) hx hb dL_law_30 (by decide) ?_
  refine lv_istore (lv' := [(4, .int 1), (3, .ref ob), (2, .ref (A2 0)), (1, .ref (A 0)), (0, .ref b)]) hx hb dL_law_31 hl (by decide) rfl (fun ls hl => ?_)
  refine W.widen (k := 14 + 0) (n := 4900 + 6 * 0) (Nat.le_of_ble_eq_true rfl) (Nat.le_of_ble_eq_true rfl) ?_
  have hW : xL_S s D ((xc_W A K n (fun _ => 0) (fun _ => 0) (fun _ => 0) (xZ0 6) (xB0 6) 0 ++ xo_W ob kO (fun _ => 0)) ++ xm_W A2 K2 0 n (fun _ => false) (fun _ => false) (fun _ => false) (fun _ => 0) (xO0 6) (fun _ => 0) 0) H _ := ⟨va_P.swap hP, va_D.swap hD, hS⟩
  have hW : xL_S s D (xL_W A K n (fun _ => false) (fun _ => false) (fun _ => false) (fun _ => 0) (xO0 6) (fun _ => 0) 0 ob kO (fun _ => 0) A2 K2 0) H locs1 := by rw [xZ0_tie, xB0_tie] at hW; unfold xL_W; rw [← xmk_none]; exact hW
  have hKK : va_K D xcl (xL_T K kO K2) s := (hK0.app hK2).app hK1
  exact law_loop hL ⟨C0, hKK, hXS, hl0, ht⟩ (L + 1) 0 (by omega) (by omega) _ _ _ _ _ _ _ _ _ _ _ ls (xI_0 hn) hW (lv_sub hl [4, 3, 2, 1, 0] rfl)
end
section
/-! THE CLAIM OUT OF ONE WALK OF THE LAW -/
set_option maxHeartbeats 4000000 in
theorem lw_walk (l : Launch) (hl0 : l.stackTraces = false) (b : Addr) (xs : List Int32) : MetFree l x (headSpec (Jvm.Cond.code x code maxLocals ret :: tables_1) room_1) (lw_P b xs) (fun _ _ _ _ _ => True) lw_Q := by
  refine MetFree.of_bodyS (code := code) (maxLocals := maxLocals) (ret := ret) (by decide) ?_ ?_
  · intro args s m h hn
    obtain ⟨meth, c, h1, h2, h3, h4, h5, h6, -, -⟩ := Cond.code_spec hn (atoms_spec (ws := Jvm.Cond.code x code maxLocals ret :: tables_1) h _ List.mem_cons_self)
    exact ⟨meth, c, h1, h2, h3, h4, h5, h6⟩
  · intro p e s m args below meth c s₁ B hml0 hP _
    obtain ⟨rfl, hx, hbd, hgv⟩ := hP
    obtain ⟨scr, harrAt, hlist, hof, hsmall⟩ := hx
    obtain ⟨hcb, hkn, -, -⟩ := State.arrayAt?_spec harrAt
    have hown : s.vm.findClass RL = some m.cls := findClass_of_methodNamed B.named
    have hts0 : ∀ c ∈ (Jvm.Cond.code x code maxLocals ret :: tables_1), c.before #[Value.ref b] s = true := atoms_spec (ws := Jvm.Cond.code x code maxLocals ret :: tables_1) B.pre
    have hts : ∀ w ∈ lw_tbl, w.before #[Value.ref b] s = true := k2_hts_sels lw_privs (fun w hw => hts0 w (List.mem_cons_of_mem _ hw)) lw_privs_ok
    have hml : c.maxLocals = 7 := B.maxLocals_eq (hts0 _ List.mem_cons_self)
    have X₀ : Stand p l e room_1 s m #[Value.ref b] below meth c s₁ [] 0 0 := Stand.of_body B
    have hh0 : s₁.heap = s.heap := by rw [B.state]; rfl
    have hsz : scr.slots.size = xs.length := by rw [← Array.length_toList, hlist, List.length_map]
    have hval : ∀ j : Nat, j < xs.length → scr.slots[j]? = some (.int (xs.getD j 0)) := fun j hj => by
      rw [← Array.getElem?_toList, hlist]
      simp [hj]
    have hbl : b < s.heap.size := (Array.getElem?_eq_some_iff.mp hcb).1
    have hX : va_X b xs.length (fun j => xs.getD j 0) s s.heap := ⟨scr, hcb, hof, hkn, hsz, hval⟩
    have K : W p l e room_1 s m #[Value.ref b] below meth c s₁.heap [] 0 0 (lw_Z below #[Value.ref b] s) (entryFrame m ([Value.ref b] : List Value).toArray 7) := by
      rw [hh0]
      exact whole_start l hl0 hbd ⟨B.exec, B.bytes, B.returns, hml, hown, hts, hX, hbl, B.notSynchronized, hgv⟩
    obtain ⟨t, a1, o, b1, b2, b3⟩ := K s₁ rfl X₀
    exact ⟨t, o, a1, b1, b2, b3⟩
theorem lw_pre_spec {args : Array Value} {s : State} (h : (Jvm.Cond.and given_1 narrow_1).before args s = true) (hr : rest_1_c.before args s = true) : ∃ (b : Addr) (xs : List Int32), lw_P b xs args s := by
  have hs := flat_of_before _ h
  have hq := flat_of_before _ hr
  have hc : (Cond.count 1).before args s = true := hs _ (by decide +kernel)
  have harr : (Cond.arrayOf (.arg 0) .int).before args s = true := hs _ (by decide +kernel)
  have hle : (Cond.le (.length (.arg 0)) (.int 1537)).before args s = true := hs _ (by decide +kernel)
  have hlen : (Cond.isInt (.length (.arg 0))).before args s = true := hq _ (by decide +kernel)
  have hall : (Cond.all (.arg 0) (.isInt (.elem (.arg 0) (.index 0)))).before args s = true := hq _ (by decide +kernel)
  obtain ⟨b, xs, hb, hx⟩ := State.ints_of_pre rfl harr hlen hall
  have hsm : xs.length < 2 ^ 31 := hx.choose_spec.2.2.2
  have hev : (Term.length (.arg 0)).eval args s none [] s = some (.int xs.length.toInt32) := hx.length_eval hb
  have hv := Cond.le_ints hev (show (Term.int 1537).eval args s none [] s = some (.int 1537) from rfl)
  have hd : xs.length.toInt32 ≤ 1537 := by
    simpa [Cond.before, Cond.holds, hv] using hle
  have hN : xs.length ≤ 1537 := (Int32.ofNat_le_ofNat hsm (by decide)).mp (show Int32.ofNat xs.length ≤ Int32.ofNat 1537 from hd)
  exact ⟨b, xs, Cond.one_arg hc (show args[0]? = some (.ref b) from hb), hx, hN, h⟩
theorem lw_comes (l : Launch) (hl0 : l.stackTraces = false) : Comes l x (Jvm.Cond.code x code maxLocals ret :: tables_1) room_1 (fun tb e args s => Calls_1 tb e args s ∧ rest_1 tb e args s ∧ Pre_1 tb e args s)
    (fun _ _ args s o t => lw_Q args s o t) := by
  intro p e ha hc hk s m args below hf hfit hheap happ hpre
  obtain ⟨b, xs, hP⟩ := lw_pre_spec hpre.2.2 hpre.2.1
  obtain ⟨k, o, h1, h2, h3, hQ⟩ := lw_walk l hl0 b xs p e ha hc hk s m args below hf ((Spec.applies_iff_loose hf).mp happ).1 hP trivial
  exact ⟨k, o, h1, h2, h3, hQ⟩
theorem lw_frame {s t : State} {o : Outcome} {args : Array Value} (h : Framed s o t [] 601024 7293000) :
    Framed s o t (fieldLocs frame_1_writes args s ++ arrayLocs frame_1_arrays args s ++ staticLocs frame_1_statics s) 601024 7293000 := h
theorem lw_limb (L : Cond) (hL : ∀ (args : Array Value) (s t : State), L.after args s (.returned (some (.int 1))) t = true) :
    ArmFor flags0 classFile x code maxLocals ret World_1 tables_1 room_1 Calls_1 rest_1 Pre_1
      (fun tb e a s o t => postC L tb e a s o t ∧ Framed s o t (fieldLocs frame_1_writes a s ++ arrayLocs frame_1_arrays a s ++ staticLocs frame_1_statics s) 601024 7293000) := by
  intro l hfl _ _ p e ha hc hk s m args below hf hfit hheap happ hpre
  have hl0 : l.stackTraces = false := by show (!l.flags.contains Jvm.noTraceFlag) = false; rw [hfl]; decide +kernel
  obtain ⟨k, o, h1, h2, h3, rfl, hF⟩ := lw_comes l hl0 p e ha hc hk s m args below hf hfit hheap happ hpre
  exact ⟨k, _, h1, h2, h3, hL args s _, lw_frame hF⟩
theorem i_vc : Claimed_1_1 ∧ Claimed_1_2 := ⟨lw_limb limb_1_1 (fun args s t => by simp [limb_1_1, Cond.after, Cond.holds, Cond.value]), lw_limb limb_1_2 (fun args s t => Cond.after_iff.mpr (by
  first | (rw [show limb_1_2 = Cond.eq .result (.int 1) from rfl, Cond.eq_ints (x := 1) (y := 1) rfl rfl]; simp; done) | (simp [limb_1_2, Cond.value, Term.eval]; done)))⟩
end
