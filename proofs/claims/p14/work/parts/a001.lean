/-! from 01.names -/
/-! ===== BEGIN words of one list among another's, by their places ===== -/
/-! ===== END ===== -/

/-! ===== BEGIN exceptions that leave a method, and their catching by the caller (launches without stack traces) ===== -/
section VXA
/-- where a method has thrown q: the class by its name, the cell, what was written, the world -/
def vx_T (XC : String → State → State → Prop) (st : State) (q : Addr) (t : State) (mc ms : Nat) (free : Addr → Prop) : Prop :=
  ∃ (E : String) (ce : Cell) (L : List Loc), XC E st t ∧ t.heap[q]? = some ce ∧ ce.vm = .none ∧ st.vm.findClass E = some ce.cls ∧ st.WarmedH t.vm ∧ st.sameButNew ({ t with vm := st.vm } : State) L mc ms ∧ ∀ z ∈ L, free z.base
def vx_Q (Qc : Array Value → State → Outcome → State → Prop) (XC : String → State → State → Prop) (mc ms : Nat) (free : Addr → Prop) : Array Value → State → Outcome → State → Prop := fun a st o t =>
  (Qc a st o t ∧ ∃ L, FrameEnd st o t L mc ms ∧ ∀ q ∈ L, free q.base) ∨ ∃ q, o = .threw q ∧ vx_T XC st q t mc ms free
/-- a callee that returns or throws -/
def vx_Met (l : Launch) (y : MethodName) (ws : List Cond) (rm : Room) (Pc : Array Value → State → Prop) (Qc : Array Value → State → Outcome → State → Prop) (XC : String → State → State → Prop) (mc ms : Nat) (free : Addr → Prop) : Prop :=
  MetFree l y (headSpec ws rm) Pc (fun _ _ _ _ _ => True) (vx_Q Qc XC mc ms free)
def vx_Post (XC : String → State → State → Prop) (mc ms : Nat) (free : Addr → Prop) : Pt → Array Value → Addr → Pt → Prop := fun A a q B =>
  ∃ (g : JFrame) (mk : MethodId) (t : State) (L : List Loc) (E : String) (ce : Cell), B.U.heap = t.heap ∧ B.U.vm = t.vm ∧ XC E (A.U.calling g mk a) t ∧ t.heap[q]? = some ce ∧ ce.vm = .none ∧ A.U.vm.findClass E = some ce.cls ∧ B.locs = A.locs ++ L ∧ (∀ z ∈ L, free z.base) ∧ B.cells = A.cells + mc ∧ B.slots = A.slots + ms
def vx_Back (l : Launch) (R : Room) (p : Program) (e : Env) (below : List Frame) (s : State) (sargs : Array Value) (y : MethodName) (len W9 : Nat)
    (Pre : Pt → Array Value → Prop) (Post : Pt → Array Value → Option Value → Pt → Prop) (PostX : Pt → Array Value → Addr → Pt → Prop) : Prop :=
  ∀ (m : MethodId) (meth : Method) (c : Code) (A : Pt) (g : JFrame) (ig : Instr) (mk : MethodId) (a : Array Value),
    Stand p l e R s m sargs below meth c A.U A.locs A.cells A.slots → g.method = m → g.locals.size = c.maxLocals → decode c.code g.pc = .ok (ig, len) →
    2 * g.monitorRoom + (g.stack.map fun v => v.category).sum ≤ W9 → A.U.methodNamed? y = some mk → Pre A a →
    (∃ (v : Option Value) (B : Pt), Stand p l e R s m sargs below meth c B.U B.locs B.cells B.slots ∧ Post A a v B ∧
      Steps p.tables e below (doInvoke e (A.U.setTop g) [] mk a).1 (B.U.setTop { g with pc := g.pc + len, stack := v.toList ++ g.stack })) ∨
    (∃ (q : Addr) (B : Pt), Stand p l e R s m sargs below meth c B.U B.locs B.cells B.slots ∧ PostX A a q B ∧
      Steps p.tables e below (doInvoke e (A.U.setTop g) [] mk a).1 ((B.U.setTop g).pushFrame (.throwing q)))
section Payer
variable {l : Launch} {R : Room} {p : Program} {e : Env} {below : List Frame} {s : State} {sargs : Array Value} {y : MethodName} {len W9 : Nat}
theorem vx_back {ws : List Cond} {rm : Room} {Pc : Array Value → State → Prop} {Qc : Array Value → State → Outcome → State → Prop} {XC : String → State → State → Prop} {mc ms : Nat} {free : Addr → Prop} {bytes : ByteArray} {maxL : Nat} {ret : Option FieldType}
    (hM : vx_Met l y ws rm Pc Qc XC mc ms free) (hblind : FrameBlind Pc) (hrc : rm.cells = mc) (hrs : rm.slots = ms)
    (hframes : rm.frames + 1 ≤ R.frames) (hlocals : W9 + (maxL + 11) + rm.locals ≤ R.locals)
    (hws : ∀ w ∈ ws, ∀ a₉ U, s.WarmedH U.vm → w.before a₉ U = true) (hcode : Cond.code y bytes maxL ret ∈ ws) (hinit : ∀ a₉ U, s.WarmedH U.vm → (Cond.initialized y.cls).before a₉ U = true) :
    vx_Back l R p e below s sargs y len W9 (PreOf R mc ms Pc) (PostOf Qc mc ms free) (vx_Post XC mc ms free) := by
  intro m meth c A g ig mk a X hg hsize hdg hW hn hp
  have h1 : (headSpec ws rm).pre.before a A.U = true := atoms_intro fun w hw => hws w hw _ _ X.warmed
  have h2 : (Cond.code y bytes maxL ret).before a A.U = true := hws _ hcode _ _ X.warmed
  have h3 : (Cond.initialized y.cls).before a A.U = true := hinit _ _ X.warmed
  have h4 : A.cells + (headSpec ws rm).room.cells ≤ R.cells := by rw [show (headSpec ws rm).room.cells = mc from hrc]; exact hp.1
  have h5 : A.slots + (headSpec ws rm).room.slots ≤ R.slots := by rw [show (headSpec ws rm).room.slots = ms from hrs]; exact hp.2.1
  have hPc : Pc a (A.U.calling g mk a) := hblind _ _ _ _ hp.2.2
  obtain ⟨U, Ls, c0, s0⟩ := A
  dsimp only [Pt.U, Pt.locs, Pt.cells, Pt.slots] at h1 h2 h3 h4 h5 X hn hPc ⊢
  obtain ⟨methY, cY, hmY, hcY, -, hlY, -, -, -, -⟩ := Cond.code_spec hn h2
  obtain ⟨kY, hkY, -⟩ := className_of_methodNamed hn
  have hinitY : kY.init = .initialized := Cond.initialized_spec (findClass_of_methodNamed hn) hkY h3
  have h : At U g.method c below := by rw [hg]; exact X.here
  have hlocals9 : W9 + (maxL + 11) + (headSpec ws rm).room.locals ≤ R.locals := hlocals
  have happ : (headSpec ws rm).appliesLoose y e.platform (U.calling g mk a) = true :=
    Spec.appliesLoose_calling (g := g) h hdg hn hkY hinitY
      (X.room_calling (g := g) (R' := (headSpec ws rm).room) hsize hmY hcY hframes (by rw [hlY]; omega) h4 h5) h1
  obtain ⟨mid, hmid⟩ := h.above
  have hfr : (U.setTop g).frames = (.java g :: mid) ++ below := by rw [State.frames_setTop' g h.top, hmid]; rfl
  obtain ⟨o, s₂, hsteps, -, hend, hq⟩ := Steps.callFree hM p X.admits X.cas X.clock (acts := []) hfr happ hPc trivial
  have hq₉ : vx_Q Qc XC mc ms free a (U.calling g mk a) o s₂ := hq
  rw [State.frames_setTop' g h.top] at hend
  obtain ⟨g₀, hg0⟩ := Option.isSome_iff_exists.mp h.top
  obtain ⟨r, hr⟩ := State.topJava?_eq_some.mp hg0
  have hr₉ : (({ U with heap := s₂.heap, slotsUsed := s₂.slotsUsed } : State).setVm s₂.vm).frames = .java g₀ :: r := hr
  rcases hq₉ with ⟨hqc, L, hfe, hL⟩ | ⟨q, rfl, E, ce, L, hx, hce, hcv, hcl, hW₂, hsm, hL⟩
  · obtain ⟨⟨v, rfl⟩, hW₂, e2, q2, q3, q4, q5, q6⟩ := id hfe
    have e3 : s₂ = ({ (U.calling g mk a).setFrames s₂.frames with heap := s₂.heap, slotsUsed := s₂.slotsUsed } : State).setVm s₂.vm := by
      have : s₂ = ({ s₂ with vm := (U.calling g mk a).vm } : State).setVm s₂.vm := rfl
      rw [e2] at this
      exact this
    obtain ⟨c₂, i₂, len₂, hc₂, hd₂, hf₂⟩ := hend
    have hW₉ : U.WarmedH s₂.vm := hW₂
    have hcc : c₂ = c := by
      have h1 : s₂.code? g.method = U.code? g.method := by
        rw [State.code?_eq, State.code?_eq, hW₉.alike.method?]
      exact Option.some.inj (hc₂.symm.trans (h1.trans h.code))
    subst hcc
    have hlen : len₂ = len := by rw [hdg] at hd₂; cases hd₂; rfl
    subst hlen
    have hs₂ : s₂ = (({ U with heap := s₂.heap, slotsUsed := s₂.slotsUsed } : State).setVm s₂.vm).setTop { g with pc := g.pc + len₂, stack := v.toList ++ g.stack } := by
      refine e3.trans ?_
      rw [hf₂, State.calling_eq h.top, State.setFrames_setFrames, State.setTop_of_frames _ hr₉, hr]
      rfl
    have hsame : U.sameButNew ({ U with heap := s₂.heap, slotsUsed := s₂.slotsUsed } : State) L mc ms := by
      refine ⟨?_, q2, q3, q4, q5, q6⟩
      obtain ⟨t, ht, -⟩ := State.frames_cons hr
      show ({ U with heap := s₂.heap, slotsUsed := s₂.slotsUsed } : State) = { U.setFrames U.frames with heap := s₂.heap, slotsUsed := s₂.slotsUsed }
      rw [State.setFrames_self ht]
    subst hg
    refine Or.inl ⟨v, ⟨(({ U with heap := s₂.heap, slotsUsed := s₂.slotsUsed } : State).setVm s₂.vm), Ls ++ L, c0 + mc, s0 + ms⟩,
      ⟨X.admits, X.cas, X.clock, X.frames, X.room, X.hears, X.method, X.code, (X.here.setHeapUsed s₂.heap s₂.slotsUsed).setVm hW₉.alike, X.tail, State.WarmedH.trans X.warmed hW₉, X.limits, X.bytes, X.same.trans (hsame.setVm s.vm)⟩,
      ⟨g, mk, s₂, L, rfl, rfl, hqc, rfl, hL, rfl, rfl⟩, ?_⟩
    show Steps p.tables e below _ ((({ U with heap := s₂.heap, slotsUsed := s₂.slotsUsed } : State).setVm s₂.vm).setTop { g with pc := g.pc + len₂, stack := v.toList ++ g.stack })
    rw [← hs₂]
    exact hsteps
  · obtain ⟨e2, q2, q3, q4, q5, q6⟩ := id hsm
    have e3 : s₂ = ({ (U.calling g mk a).setFrames s₂.frames with heap := s₂.heap, slotsUsed := s₂.slotsUsed } : State).setVm s₂.vm := by
      have : s₂ = ({ s₂ with vm := (U.calling g mk a).vm } : State).setVm s₂.vm := rfl
      rw [e2] at this
      exact this
    have hf₂ : s₂.frames = .throwing q :: .java g :: U.frames.tail := hend
    have hW₉ : U.WarmedH s₂.vm := hW₂
    have hs₂ : s₂ = ((({ U with heap := s₂.heap, slotsUsed := s₂.slotsUsed } : State).setVm s₂.vm).setTop g).pushFrame (.throwing q) := by
      refine e3.trans ?_
      rw [hf₂, State.calling_eq h.top, State.setFrames_setFrames, State.pushFrame, State.frames_setTop _ hr₉, State.setTop_of_frames _ hr₉, State.setFrames_setFrames, hr]
      rfl
    have hsame : U.sameButNew ({ U with heap := s₂.heap, slotsUsed := s₂.slotsUsed } : State) L mc ms := by
      refine ⟨?_, q2, q3, q4, q5, q6⟩
      obtain ⟨t, ht, -⟩ := State.frames_cons hr
      show ({ U with heap := s₂.heap, slotsUsed := s₂.slotsUsed } : State) = { U.setFrames U.frames with heap := s₂.heap, slotsUsed := s₂.slotsUsed }
      rw [State.setFrames_self ht]
    subst hg
    refine Or.inr ⟨q, ⟨(({ U with heap := s₂.heap, slotsUsed := s₂.slotsUsed } : State).setVm s₂.vm), Ls ++ L, c0 + mc, s0 + ms⟩,
      ⟨X.admits, X.cas, X.clock, X.frames, X.room, X.hears, X.method, X.code, (X.here.setHeapUsed s₂.heap s₂.slotsUsed).setVm hW₉.alike, X.tail, State.WarmedH.trans X.warmed hW₉, X.limits, X.bytes, X.same.trans (hsame.setVm s.vm)⟩,
      ⟨g, mk, s₂, L, E, ce, rfl, rfl, hx, hce, hcv, hcl, rfl, hL, rfl, rfl⟩, ?_⟩
    show Steps p.tables e below _ (((({ U with heap := s₂.heap, slotsUsed := s₂.slotsUsed } : State).setVm s₂.vm).setTop g).pushFrame (.throwing q))
    rw [← hs₂]
    exact hsteps
end Payer
section Calls
variable {p : Program} {l : Launch} {e : Env} {R : Room} {s : State} {m : MethodId} {args : Array Value} {below : List Frame} {meth : Method} {c : Code} {T : State} {locs : List Loc} {cells slots : Nat}
theorem vx_callV (X : Stand p l e R s m args below meth c T locs cells slots) (hexec : p.tables.exec = Jvm.exec) {own C : String} {index : Nat} {y : MethodName} {bytes : ByteArray} {maxL : Nat} {ret : Option FieldType}
    (hown : s.vm.findClass own = some m.cls) (hlink : (Cond.methodLink own index y).before args s = true) (hinst : (Cond.instanceMethod y).before args s = true) (hsel : (Cond.selects C y y).before args s = true)
    (hcode : (Cond.code y bytes maxL ret).before args s = true) (hy : y.cls ≠ "java/lang/invoke/MethodHandle" ∧ y.cls ≠ "java/lang/invoke/VarHandle")
    {W9 : Nat} {Pre : Pt → Array Value → Prop} {Post : Pt → Array Value → Option Value → Pt → Prop} {PostX : Pt → Array Value → Addr → Pt → Prop} (hK : vx_Back l R p e below s args y 3 W9 Pre Post PostX)
    {b : Addr} {cellB : Cell} (hcell : T.heap[b]? = some cellB) (hobj : cellB.vm.isStatics = false) (hcls : s.vm.findClass C = some cellB.cls)
    {g : JFrame} (hg : g.method = m) (hsize : g.locals.size = c.maxLocals) {argsL rest : List Value} (hlen : ∀ sig, parseMethodDescriptor y.desc = some sig → argsL.length = sig.parameters.length)
    (hstack : g.stack = argsL.reverse ++ .ref b :: rest) (hW : 2 * g.monitorRoom + (rest.map fun v => v.category).sum ≤ W9) (hdg : decode c.code g.pc = .ok (.invokevirtual index, 3))
    (hpre : ∀ vm₁, s.WarmedH vm₁ → Pre ⟨T.setVm vm₁, locs, cells, slots⟩ (Value.ref b :: argsL).toArray) :
    (∃ (v : Option Value) (vm₁ : Vm) (B : Pt), s.WarmedH vm₁ ∧ Stand p l e R s m args below meth c B.U B.locs B.cells B.slots ∧ Post ⟨T.setVm vm₁, locs, cells, slots⟩ (Value.ref b :: argsL).toArray v B ∧
      ∀ target, Steps p.tables e below (B.U.setTop { g with pc := g.pc + 3, stack := v.toList ++ rest }) target → Steps p.tables e below (T.setTop g) target) ∨
    (∃ (q : Addr) (vm₁ : Vm) (B : Pt), s.WarmedH vm₁ ∧ Stand p l e R s m args below meth c B.U B.locs B.cells B.slots ∧ PostX ⟨T.setVm vm₁, locs, cells, slots⟩ (Value.ref b :: argsL).toArray q B ∧
      Steps p.tables e below (T.setTop g) ((B.U.setTop { g with stack := rest }).pushFrame (.throwing q))) := by
  obtain ⟨mk, methM, hnamed, hmethM, hstM, habM⟩ := Cond.instanceMethod_spec hinst
  obtain ⟨methM₉, cM, hmethM', -, -, -, -, -, -, hsigM⟩ := Cond.code_spec hnamed hcode
  cases hmethM.symm.trans hmethM'
  obtain ⟨c2, r2, m2, q1, q2, q3, q4, kP, hkP, hkPi⟩ := Cond.selects_spec hsel
  cases hcls.symm.trans q1
  cases (State.methodFound?_of_named hnamed hy).symm.trans q2
  cases hnamed.symm.trans q3
  have hselP : selectMethod e.platform s.vm cellB.cls mk = .method mk := by rw [Launch.admits_selectMethod X.admits]; exact q4
  obtain ⟨vm₁, X₁, hstep₁⟩ := X.invokevirtual hexec hown hlink hnamed hmethM hstM hkP hkPi hy (a := b) (cell := cellB) hcell
    (fun z h => by rw [h] at hobj; cases hobj) hselP hmethM habM hkP hkPi (g := g) hg (argsL := argsL) (rest := rest) (hlen _ hsigM) hstack hdg
  rcases hK m meth c ⟨T.setVm vm₁, locs, cells, slots⟩ { g with stack := rest } (.invokevirtual index) mk (Value.ref b :: argsL).toArray X₁ hg hsize hdg hW (X₁.named hnamed) (hpre vm₁ X₁.warmed) with ⟨v, B, X₉, hpost, hsteps⟩ | ⟨q, B, X₉, hpost, hsteps⟩
  · exact Or.inl ⟨v, vm₁, B, X₁.warmed, X₉, hpost, fun target h => hstep₁ _ fun acts => by rw [doInvoke_state]; exact hsteps.trans h⟩
  · exact Or.inr ⟨q, vm₁, B, X₁.warmed, X₉, hpost, hstep₁ _ fun acts => by rw [doInvoke_state]; exact hsteps⟩
end Calls
theorem vx_cls {s : State} {T : State} {vm₁ : Vm} {E : String} {k : ClassId} (hW : s.WarmedH vm₁) (h : (T.setVm vm₁).vm.findClass E = some k) : s.vm.findClass E = some k := by
  have h1 : vm₁.findClass E = some k := h
  rw [hW.alike.findClass] at h1
  exact h1
/-- the method's frame g, with q thrown over it -/
def vx_W (p : Program) (l : Launch) (e : Env) (R : Room) (s : State) (m : MethodId) (args : Array Value) (below : List Frame) (meth : Method) (c : Code) (H : Heap) (locs : List Loc) (cells slots : Nat) (Q : State → Prop) (g : JFrame) (q : Addr) : Prop :=
  ∀ T : State, T.heap = H → Stand p l e R s m args below meth c T locs cells slots → ∃ t, Steps p.tables e below ((T.setTop g).pushFrame (.throwing q)) t ∧ Q t
def vx_Run (p : Program) (l : Launch) (e : Env) (R : Room) (s : State) (m : MethodId) (args : Array Value) (below : List Frame) (meth : Method) (c : Code) (H : Heap) (locs : List Loc) (cells slots mc ms : Nat) (g : JFrame) (rest : List Value) (Qa : State → Outcome → State → Prop) (XC : String → State → State → Prop) (free : Addr → Prop) : Prop :=
  ∀ T : State, T.heap = H → Stand p l e R s m args below meth c T locs cells slots →
    (∃ (v : Option Value) (st₀ t T₉ : State) (L : List Loc), st₀.heap = H ∧ Stand p l e R s m args below meth c T₉ (locs ++ L) (cells + mc) (slots + ms) ∧ (∀ q ∈ L, free q.base) ∧ T₉.heap = t.heap ∧ T₉.vm = t.vm ∧ Qa st₀ (.returned v) t ∧
      Goes p e below T g T₉ { g with pc := g.pc + 3, stack := v.toList ++ rest }) ∨
    (∃ (q : Addr) (st₀ t T₉ : State) (L : List Loc) (E : String) (ce : Cell), st₀.heap = H ∧ Stand p l e R s m args below meth c T₉ (locs ++ L) (cells + mc) (slots + ms) ∧ (∀ z ∈ L, free z.base) ∧ T₉.heap = t.heap ∧ T₉.vm = t.vm ∧ XC E st₀ t ∧ t.heap[q]? = some ce ∧ ce.vm = .none ∧ s.vm.findClass E = some ce.cls ∧
      Steps p.tables e below (T.setTop g) ((T₉.setTop { g with stack := rest }).pushFrame (.throwing q)))
section Runs
variable {p : Program} {l : Launch} {e : Env} {R : Room} {s : State} {m : MethodId} {args : Array Value} {below : List Frame} {meth : Method} {c : Code} {H : Heap} {locs : List Loc} {cells slots : Nat}
variable {y : MethodName} {bytes cc : ByteArray} {maxL nL mc ms n index : Nat} {ret : Option FieldType} {ws : List Cond} {rm : Room} {Pc : Array Value → State → Prop} {Qc : Array Value → State → Outcome → State → Prop} {XC : String → State → State → Prop} {free : Addr → Prop} {Ts : List Cond} {own C : String} {b : Addr} {As rest : List Value} {g : JFrame}
theorem vx_callBack (cb : CallB R s args own index y bytes maxL ret ws rm mc ms n) (hM : vx_Met l y ws rm Pc Qc XC mc ms free) (hbl : FrameBlind Pc) : vx_Back l R p e below s args y 3 8 (PreOf R mc ms Pc) (PostOf Qc mc ms free) (vx_Post XC mc ms free) := by
  obtain ⟨hrc, hrs, hfr, hlo, hws, hcw, -, hini, -⟩ := cb
  exact vx_back (bytes := bytes) (maxL := maxL) (ret := ret) hM hbl hrc hrs hfr hlo hws hcw (fun a₉ U hW => word_at hW (Or.inl (by first | rfl | simp [Cond.onTables, Cond.keeps, Cond.steady])) hini)
theorem vx_runV (S : CallFix p m c cc nL s args Ts own) (hM : vx_Met l y ws rm Pc Qc XC mc ms free) (cw : CallW R s args own C index y bytes maxL ret ws rm mc ms n) (hp : PreV s H C b Pc As)
    (hg : g.method = m) (hn : As.length = n) (hsize : g.locals.size = nL) (hstack : g.stack = As.reverse ++ .ref b :: rest) (hW : 2 * g.monitorRoom + (rest.map fun v => v.category).sum ≤ 8) (hdg : decode cc g.pc = .ok (.invokevirtual index, 3)) (hf : cells + mc ≤ R.cells ∧ slots + ms ≤ R.slots) :
    vx_Run p l e R s m args below meth c H locs cells slots mc ms g rest (Qc (Value.ref b :: As).toArray) XC free := by
  have hK : vx_Back l R p e below s args y 3 8 (PreOf R mc ms Pc) (PostOf Qc mc ms free) (vx_Post XC mc ms free) := vx_callBack cw.1 hM hp.1
  obtain ⟨⟨-, -, -, -, -, -, hcode, -, hy, hlen, hl⟩, hin, hse⟩ := cw
  obtain ⟨hx, hb, hml, ho, -⟩ := S
  obtain ⟨-, ⟨cellB, hcB, hoB, hclB⟩, hPc⟩ := hp
  intro T hT X
  rcases vx_callV X hx (C := C) (bytes := bytes) (maxL := maxL) (ret := ret) ho hl hin hse hcode hy hK (by rw [hT]; exact hcB) hoB hclB hg (hsize.trans hml.symm) (argsL := As) (rest := rest) (fun sig h => hn.trans (hlen sig h)) hstack hW (by rw [hb]; exact hdg)
    (fun vm₁ hW₁ => ⟨hf.1, hf.2, hPc (T.setVm vm₁) hT hW₁⟩) with ⟨v, vm₁, ⟨U₉, l2, c2, s2⟩, hW₁, X₉, ⟨g₉, mk, t, L, e1, e2, hq, h1, hL, h2, h3⟩, st⟩ | ⟨q, vm₁, ⟨U₉, l2, c2, s2⟩, hW₁, X₉, ⟨g₉, mk, t, L, E, ce, e1, e2, hq, hce, hcv, hcl, h1, hL, h2, h3⟩, st⟩
  · dsimp only [Pt.U, Pt.locs, Pt.cells, Pt.slots] at X₉ e1 e2 h1 h2 h3 st
    subst h1; subst h2; subst h3
    exact Or.inl ⟨v, (T.setVm vm₁).calling g₉ mk (Value.ref b :: As).toArray, t, U₉, L, hT, X₉, hL, e1, e2, hq, st⟩
  · dsimp only [Pt.U, Pt.locs, Pt.cells, Pt.slots] at X₉ e1 e2 h1 h2 h3 st hcl
    subst h1; subst h2; subst h3
    exact Or.inr ⟨q, (T.setVm vm₁).calling g₉ mk (Value.ref b :: As).toArray, t, U₉, L, E, ce, hT, X₉, hL, e1, e2, hq, hce, hcv, vx_cls hW₁ hcl, st⟩
end Runs
section Rows
variable {p : Program} {l : Launch} {e : Env} {R : Room} {s : State} {m : MethodId} {args : Array Value} {below : List Frame} {meth : Method} {c : Code} {H : Heap} {locs : List Loc} {cells slots : Nat} {Q : State → Prop}
variable {mc ms : Nat} {free : Addr → Prop} {A0 A1 : Nat → Prop} {H0 : Heap} {a : Array Value} {pc : Nat} {ls : Array Slot} {st0 rest : List Value}
end Rows
section Ends
variable {p : Program} {l : Launch} {e : Env} {R : Room} {s : State} {m : MethodId} {args : Array Value} {below : List Frame} {meth : Method} {c : Code} {H : Heap} {locs : List Loc} {cells slots : Nat} {Q : State → Prop}
variable {mc ms : Nat} {free : Addr → Prop} {A0 A1 : Nat → Prop} {H0 : Heap} {a : Array Value} {ls : Array Slot} {st0 rest : List Value}
variable {Qc : Array Value → State → Outcome → State → Prop} {XC : String → State → State → Prop}
/-- what a body that may throw owes at its end -/
def vx_MQ (below : List Frame) (Qc : Array Value → State → Outcome → State → Prop) (XC : String → State → State → Prop) (a : Array Value) (s : State) (mc ms : Nat) (free : Addr → Prop) : State → Prop := fun t =>
  ∃ o, t.status = .running ∧ Ended t below o ∧ vx_Q Qc XC mc ms free a s o t
theorem vx_out {pc : Nat} {E : String} {ce : Cell} {q : Addr} {mc ms : Nat} (hout : ∀ x ∈ c.exceptionTable.toList, covers x pc = false) (hlocks : meth.locks = false) (hcell : H[q]? = some ce) (hv : ce.vm = .none) (hcl : s.vm.findClass E = some ce.cls)
    (hx : ∀ t : State, t.heap = H → s.vm.Alike t.vm → XC E s t) (hf : ∀ z ∈ locs, free z.base) (hc : cells ≤ mc) (hs : slots ≤ ms) :
    vx_W p l e R s m args below meth c H locs cells slots (vx_MQ below Qc XC args s mc ms free) (F0 m pc ls rest) q := by
  intro T hT X
  obtain ⟨st1, hrun, hend, hW, hsm⟩ := X.leaveThrown q (g := F0 m pc ls rest) rfl rfl rfl hout hlocks
  have hcell9 : (T.setFrames (.throwing q :: below)).heap[q]? = some ce := by
    show T.heap[q]? = some ce
    rw [hT]; exact hcell
  exact ⟨_, st1, .threw q, hrun, hend, Or.inr ⟨q, rfl, E, ce, locs, hx _ hT hW.alike, hcell9, hv, hcl, hW, hsm.mono hc hs, hf⟩⟩
theorem vx_frame {U : State} {k n : Nat} (h : s.sameButNew ({ U with vm := s.vm } : State) locs k n) : s.heap.size ≤ U.heap.size ∧ ∀ q : Nat, q < s.heap.size → (∀ z ∈ locs, z.base ≠ q) → U.heap[q]? = s.heap[q]? := by
  obtain ⟨-, h2, -, -, -, h6⟩ := h
  refine ⟨h2, fun q hq hz => ?_⟩
  obtain ⟨c9, e1, e2, e3, e4⟩ := h6 q _ (Array.getElem?_eq_getElem hq)
  have hs : c9.slots = (s.heap[q]).slots := Array.ext_getElem? fun i => e4 i fun hm => hz _ hm rfl
  have h9 : c9 = s.heap[q] := by
    rw [hs] at e2
    exact e2
  have e5 : U.heap[q]? = some c9 := e1
  rw [e5, h9, Array.getElem?_eq_getElem hq]
/-- the words of a throw but the four that speak of the heap -/
def vx_no (w : Cond) : Bool := decide (w ≠ .isRef (.static Bundle.tN "UNASSIGNED_STACK" Bundle.steD)) && decide (w ≠ .isRef (.static Bundle.tN "SUPPRESSED_SENTINEL" Bundle.listD)) && decide (w ≠ .laysStatic Bundle.tN "UNASSIGNED_STACK" Bundle.steD) && decide (w ≠ .laysStatic Bundle.tN "SUPPRESSED_SENTINEL" Bundle.listD)
def vx_at0 (own : String) (ic : Nat) (X : String) (names : List String) : List Cond := (Bundle.ownAtoms0 own ic X names).filter vx_no
/-- a word that the tables alone decide, or a good one -/
def vx_ot (w : Cond) : Bool := w.onTables || goodWord w
theorem vx_ot_at {args a₉ : Array Value} {s U : State} {w : Cond} (hW : s.WarmedH U.vm) (hvm : s.vm = U.vm) (hg : vx_ot w = true) (h : w.before args s = true) : w.before a₉ U = true := by
  simp only [vx_ot, Bool.or_eq_true] at hg
  rcases hg with hg | hg
  · exact va_tabs hg hvm h
  · exact word_at hW (good_of_word hg) h
theorem vx_own {args : Array Value} {s : State} {L : List Cond} (h1 : ∀ w ∈ L.filter vx_no, w.before args s = true)
    (hU : (Cond.isRef (.static Bundle.tN "UNASSIGNED_STACK" Bundle.steD)).before args s = true) (hN : (Cond.isRef (.static Bundle.tN "SUPPRESSED_SENTINEL" Bundle.listD)).before args s = true)
    (lU : (Cond.laysStatic Bundle.tN "UNASSIGNED_STACK" Bundle.steD).before args s = true) (lN : (Cond.laysStatic Bundle.tN "SUPPRESSED_SENTINEL" Bundle.listD).before args s = true) : ∀ w ∈ L, w.before args s = true := by
  intro w hw
  by_cases e1 : w = .isRef (.static Bundle.tN "UNASSIGNED_STACK" Bundle.steD)
  · rw [e1]; exact hU
  · by_cases e2 : w = .isRef (.static Bundle.tN "SUPPRESSED_SENTINEL" Bundle.listD)
    · rw [e2]; exact hN
    · by_cases e3 : w = .laysStatic Bundle.tN "UNASSIGNED_STACK" Bundle.steD
      · rw [e3]; exact lU
      · by_cases e4 : w = .laysStatic Bundle.tN "SUPPRESSED_SENTINEL" Bundle.listD
        · rw [e4]; exact lN
        · exact h1 w (List.mem_filter.mpr ⟨hw, by unfold vx_no; rw [decide_eq_true e1, decide_eq_true e2, decide_eq_true e3, decide_eq_true e4]; rfl⟩)
/-- where a static field lies, its class's statics cell in H -/
def vx_L (C n d : String) (A : Nat → Prop) (U : State) (H : Heap) : Prop := ∃ (c : ClassId) (k : Class) (i : Nat) (f : Field) (a : Nat) (cell : Cell), U.vm.findClass C = some c ∧ U.fieldFound? C n d = some (c, k, i, f) ∧ f.isStatic = true ∧ k.statics = some a ∧ H[a]? = some cell ∧ cell.vm.isStatics = true ∧ cell.cls = c ∧ f.slot < cell.slots.size ∧ k.staticTypes[f.slot]? = some f.type ∧ ¬ A a
theorem vx_L.moved {C n d : String} {A : Nat → Prop} {u U : State} {H : Heap} (hvm : u.vm.Alike U.vm) (h : vx_L C n d A u H) : vx_L C n d A U H := by
  obtain ⟨c, k, i, f, a, cell, h1, h2, h3, h4, h5, h6, h7, h8, h9, h10⟩ := h
  obtain ⟨k₉, hi₉, he⟩ := State.fieldFound?_setVm hvm h2
  exact ⟨c, k₉, i, f, a, cell, by rw [hvm.findClass]; exact h1, hi₉, h3, by rw [he]; exact h4, h5, h6, h7, h8, by rw [he]; exact h9, h10⟩
theorem vx_L.kept {C n d : String} {A : Nat → Prop} {U : State} {H H1 : Heap} (h : vx_L C n d A U H) (hq : ∀ a : Nat, a < H.size → ¬ A a → H1[a]? = H[a]?) : vx_L C n d A U H1 := by
  obtain ⟨c, k, i, f, a, cell, h1, h2, h3, h4, h5, h6, h7, h8, h9, h10⟩ := h
  exact ⟨c, k, i, f, a, cell, h1, h2, h3, h4, by rw [hq a (Array.getElem?_eq_some_iff.mp h5).1 h10]; exact h5, h6, h7, h8, h9, h10⟩
theorem vx_L.narrow {C n d : String} {A B : Nat → Prop} {U : State} {H : Heap} (h : vx_L C n d A U H) (hAB : ∀ q, B q → A q) : vx_L C n d B U H := by
  obtain ⟨c, k, i, f, a, cell, h1, h2, h3, h4, h5, h6, h7, h8, h9, h10⟩ := h
  exact ⟨c, k, i, f, a, cell, h1, h2, h3, h4, h5, h6, h7, h8, h9, fun z => h10 (hAB _ z)⟩
theorem vx_L.word {C n d : String} {A : Nat → Prop} {s : State} {args : Array Value} (h : vx_L C n d A s s.heap) : (Cond.laysStatic C n d).before args s = true := by
  obtain ⟨c, k, i, f, a, cell, h1, h2, h3, h4, h5, h6, h7, h8, h9, -⟩ := h
  show (Cond.laysStatic C n d).holds args s none s [] = true
  exact Cond.laysStatic_of h1 h2 h3 h4 h5 h6 h7 h8 h9
/-- .. and what it holds: null or some reference -/
def vx_Zq (C n d : String) (A : Nat → Prop) (U : State) (H : Heap) : Prop := va_Zq C n d A U H ∧ vx_L C n d A U H
theorem vx_Zq.moved {C n d : String} {A : Nat → Prop} {u U : State} {H : Heap} (hvm : u.vm.Alike U.vm) (h : vx_Zq C n d A u H) : vx_Zq C n d A U H := ⟨va_Zq.moved hvm h.1, vx_L.moved hvm h.2⟩
theorem vx_Zq.kept {C n d : String} {A : Nat → Prop} {U : State} {H H1 : Heap} (h : vx_Zq C n d A U H) (hq : ∀ a : Nat, a < H.size → ¬ A a → H1[a]? = H[a]?) : vx_Zq C n d A U H1 := ⟨va_Zq.kept h.1 hq, vx_L.kept h.2 hq⟩
theorem vx_Zq.narrow {C n d : String} {A B : Nat → Prop} {U : State} {H : Heap} (h : vx_Zq C n d A U H) (hAB : ∀ q, B q → A q) : vx_Zq C n d B U H := ⟨va_Zq.narrow h.1 hAB, vx_L.narrow h.2 hAB⟩
theorem vx_Zqof {args : Array Value} {s : State} {C n d : String} {A : Nat → Prop} (hl : (Cond.laysStatic C n d).before args s = true) (hini : (Cond.initialized C).before args s = true) (h : (Cond.isRef (.static C n d)).before args s = true) (hA : ∀ a : Nat, a < s.heap.size → ¬ A a) : vx_Zq C n d A s s.heap := by
  refine ⟨va_Zqof hl hini h hA, ?_⟩
  obtain ⟨c, k, i, f, a, cell, h1, h2, h3, h4, h5, h6, h7, h8, h9⟩ := Cond.laysStatic_spec hl
  exact ⟨c, k, i, f, a, cell, h1, h2, h3, h4, h5, h6, h7, h8, h9, hA a (Array.getElem?_eq_some_iff.mp h5).1⟩
theorem vx_isRef {C n d : String} {v : Value} {A : Nat → Prop} {s : State} {args : Array Value} (h : va_Z C n d v A s s.heap) (hv : v.isRef = true) : (Cond.isRef (.static C n d)).before args s = true := by
  obtain ⟨cf, kf, fi, f, a, cell, h1, h2, h3, h4, h5, h6, h7, -⟩ := h
  have he : (Term.static C n d).eval args s none [] s = some v := by
    simp [Term.eval, State.fieldNamed?, h1, h2, h4, h5, h6, h7]
  simp only [Cond.before, Cond.holds, Cond.value, he]
  cases v <;> simp_all [Value.isRef]
theorem vx_isRefq {C n d : String} {A : Nat → Prop} {s : State} {args : Array Value} (h : va_Zq C n d A s s.heap) : (Cond.isRef (.static C n d)).before args s = true := by
  rcases h with h | ⟨t, h⟩
  · exact vx_isRef h rfl
  · exact vx_isRef h rfl
/-- the same frame, seen from here: as if the method were called anew in this heap -/
theorem vx_rebase {T : State} (X : Stand p l e R s m args below meth c T locs cells slots) {R' : Room} (hf : R'.frames ≤ R.frames) (hl : R'.locals ≤ R.locals) (hc : cells + R'.cells ≤ R.cells) (hs : slots + R'.slots ≤ R.slots) :
    Stand p l e R' ((T.setVm s.vm).setFrames (.invoking m args :: below)) m args below meth c T [] 0 0 := by
  have htop : (T.setVm s.vm).topJava?.isSome := X.here.top
  have hF : ((T.setVm s.vm).setFrames (.invoking m args :: below)).frames = .invoking m args :: below := State.frames_setFrames _ (State.cur_lt_of_top htop)
  obtain ⟨g₀, hg0⟩ := Option.isSome_iff_exists.mp htop
  obtain ⟨r, hr⟩ := State.topJava?_eq_some.mp hg0
  have hl9 : e.platform.stackLimits (T.setVm s.vm).me = e.platform.stackLimits s.me := X.limits
  have hb9 : (T.setVm s.vm).me.stackBytes = s.me.stackBytes := X.bytes
  refine ⟨X.admits, X.cas, X.clock, hF, ?_, X.hears, X.method, X.code, X.here, X.tail, X.warmed, ?_, ?_, ?_⟩
  · have h := X.room
    have hU : ((T.setVm s.vm).setFrames (.invoking m args :: below)).localsInUse = s.localsInUse := by
      rw [State.localsInUse_invoking hF (meth := meth) (c := c) X.method X.code, State.localsInUse_invoking X.frames X.method X.code]
    simp only [State.hasRoom, Bool.and_eq_true, decide_eq_true_eq] at h ⊢
    obtain ⟨⟨⟨⟨h1, h2, h3, h4, h5, h6⟩, h7⟩, h8⟩, h9⟩ := h
    rw [X.frames, List.length_cons] at h2 h3
    have q1 := X.heapSize
    have q2 := X.used
    simp only [hF, hU, List.length_cons, State.stackLimits_setFrames, State.stackBytes_setFrames, hl9, hb9]
    refine ⟨⟨⟨⟨by omega, by omega, by omega, by omega, by omega, h6⟩, ?_⟩, ?_⟩, X.book⟩
    · show T.heap.size + R'.cells ≤ e.platform.maxCells
      omega
    · show T.slotsUsed + R'.slots ≤ e.platform.maxSlots
      omega
  · rw [State.stackLimits_setFrames]; rfl
  · rw [State.stackBytes_setFrames]; rfl
  · refine ⟨?_, Nat.le_refl _, Nat.le_refl _, ?_, ?_, fun a c9 h9 => ⟨c9, h9, rfl, rfl, fun _ _ => rfl⟩⟩
    · obtain ⟨t, ht, -⟩ := State.frames_cons hr
      show T.setVm s.vm = { ((T.setVm s.vm).setFrames (.invoking m args :: below)).setFrames (T.setVm s.vm).frames with heap := T.heap, slotsUsed := T.slotsUsed }
      rw [State.setFrames_setFrames, State.setFrames_self ht]
      rfl
    · show T.slotsUsed = T.slotsUsed + ((T.heap.toList.drop T.heap.size).map (·.slots.size)).sum
      rw [List.drop_eq_nil_of_le (Nat.le_of_eq Array.length_toList)]
      rfl
    · show ((T.heap.toList.drop T.heap.size).map (·.slots.size)).sum ≤ 0
      rw [List.drop_eq_nil_of_le (Nat.le_of_eq Array.length_toList)]
      exact Nat.le_refl _
/-- 'throw new E()': new; dup; invokespecial; athrow -/
theorem vx_throw0 {cc : ByteArray} {pc : Nat} (hexec : p.tables.exec = Jvm.exec) (hb : c.code = cc) (hl : l.stackTraces = false) {own cls : String} {names : List String} {ik ic mc ms : Nat} {A : Nat → Prop}
    (hown : s.vm.findClass own = some m.cls) (hcls : Bundle.fit cls = true) (hnames : ∀ n ∈ names, Bundle.fit n = true)
    (hk : (Cond.classLink own ik cls).before args s = true) (hini : (Cond.initialized cls).before args s = true) (hat : ∀ w ∈ vx_at0 own ic cls names, w.before args s = true)
    (hgood : ∀ w ∈ Cond.classLink own ik cls :: Cond.initialized cls :: vx_at0 own ic cls names, vx_ot w = true)
    (hU : vx_Zq Bundle.tN "UNASSIGNED_STACK" Bundle.steD A s s.heap) (hN : vx_Zq Bundle.tN "SUPPRESSED_SENTINEL" Bundle.listD A s s.heap) (hS : va_S A s.heap H locs) (hsize : ls.size = c.maxLocals)
    (d0 : decode cc pc = .ok (.new ik, 3)) (d3 : decode cc (pc + 3) = .ok (.dup, 1)) (d4 : decode cc (pc + 4) = .ok (.invokespecial ic, 3)) (d7 : decode cc (pc + 7) = .ok (.athrow, 1))
    (hout : ∀ x ∈ c.exceptionTable.toList, covers x (pc + 7) = false)
    (hRframes : names.length + 3 < R.frames) (hRlocals : (rest.map fun v => v.category).sum + (13 * (names.length + 1) + 42) ≤ R.locals) (hRcells : cells + 1 ≤ R.cells) (hRslots : slots + 6 ≤ R.slots) (hlocks : meth.locks = false)
    (hx : ∀ t : State, s.vm.Alike t.vm → H.size ≤ t.heap.size → (∀ q : Nat, q < H.size → t.heap[q]? = H[q]?) → XC cls s t)
    (hf : ∀ z ∈ locs, free z.base) (hc : cells + 1 ≤ mc) (hs : slots + 6 ≤ ms) :
    W p l e R s m args below meth c H locs cells slots (vx_MQ below Qc XC args s mc ms free) (F0 m pc ls rest) := by
  intro T hT X
  have htr : e.platform.stackTraces = false := (show e.platform.stackTraces = l.stackTraces by rw [X.admits.platform]).trans hl
  have Y := vx_rebase X (R' := { frames := R.frames, locals := R.locals, cells := 1, slots := 6 }) (Nat.le_refl _) (Nat.le_refl _) hRcells hRslots
  obtain ⟨s₉, hA⟩ : ∃ z, z = (T.setVm s.vm).setFrames (.invoking m args :: below) := ⟨_, rfl⟩
  rw [← hA] at Y
  have hvm : s₉.vm = s.vm := by rw [hA]; rfl
  have hhp : s₉.heap = H := by rw [hA]; exact hT
  have hW0 : s.WarmedH s₉.vm := by rw [hvm]; exact State.WarmedH.refl s
  have hat₉ : ∀ w ∈ vx_at0 own ic cls names, w.before args s₉ = true := fun w hw => vx_ot_at hW0 hvm.symm (hgood w (List.mem_cons_of_mem _ (List.mem_cons_of_mem _ hw))) (hat w hw)
  have hk₉ : (Cond.classLink own ik cls).before args s₉ = true := vx_ot_at hW0 hvm.symm (hgood _ List.mem_cons_self) hk
  have hini₉ : (Cond.initialized cls).before args s₉ = true := vx_ot_at hW0 hvm.symm (hgood _ (List.mem_cons_of_mem _ List.mem_cons_self)) hini
  have hU₉ : vx_Zq Bundle.tN "UNASSIGNED_STACK" Bundle.steD A s₉ s₉.heap := by rw [hhp]; exact vx_Zq.moved hW0.alike (hU.kept hS.2.1)
  have hN₉ : vx_Zq Bundle.tN "SUPPRESSED_SENTINEL" Bundle.listD A s₉ s₉.heap := by rw [hhp]; exact vx_Zq.moved hW0.alike (hN.kept hS.2.1)
  have h : ∀ w ∈ Bundle.ownAtoms0 own ic cls names, w.before args s₉ = true := vx_own hat₉ (vx_isRefq hU₉.1) (vx_isRefq hN₉.1) hU₉.2.word hN₉.2.word
  have hown₉ : s₉.vm.findClass own = some m.cls := by rw [hvm]; exact hown
  have hins : (Cond.instantiable cls 6).before args s₉ = true := h _ (by simp [Bundle.ownAtoms0])
  obtain ⟨vm₁, cX, kX, hfX, hkX, -, -, X₁, st1⟩ := Y.newCold hexec (own := own) (C := cls) (index := ik) (n := 6) hown₉ hk₉ hins hini₉
    (g := F0 m pc ls rest) rfl (by rw [hb]; exact d0) (Nat.le_refl _) (Nat.le_refl _)
  generalize hT1 : (T.setVm vm₁).pushCell { cls := cX, slots := kX.instanceTypes.map defaultValue, vm := .none } = T1 at X₁ st1
  have hcat : (Value.ref T.heap.size).category = 1 := rfl
  have hcellA : T1.heap[T.heap.size]? = some (freshCell cX kX) := by rw [← hT1]; exact State.heap_pushCell_size _ _
  have d3₉ : decode c.code (pc + 3) = .ok (.dup, 1) := by rw [hb]; exact d3
  obtain ⟨U, hsteps, hrun, hend, hW, hsame, ce, hce, hO⟩ := X₁.ctorThrow0 hexec htr (own := own) (cls := cls) (names := names) (ic := ic) hown₉ hcls hnames h (fun x hx => nomatch hx) hfX hkX hcellA (by rw [hhp, hT]; exact Nat.le_refl _)
    (g := { method := m, pc := pc + 4, locals := ls, stack := .ref T.heap.size :: .ref T.heap.size :: rest, locked := none }) rfl hsize rfl rfl (rest := rest) rfl
    (by rw [hb]; exact d4) (by rw [hb]; exact d7) hout hRframes (by simp only [List.map_cons, List.sum_cons, hcat]; omega) hlocks
  obtain ⟨f1, f2⟩ := vx_frame hsame
  rw [hhp] at f1 f2
  have hWs : s.WarmedH U.vm := State.WarmedH.trans hW0 hW
  have hcl : s.vm.findClass cls = some ce.cls := by
    have h9 := hO.cls
    rw [hvm] at h9
    exact h9
  have hall : s.sameButNew ({ U with vm := s.vm } : State) locs mc ms := by
    subst hA
    obtain ⟨e1, e2⟩ := hsame
    rw [State.setFrames_setFrames] at e1
    have h2 : (T.setVm s.vm).sameButNew ({ U with vm := s.vm } : State) [] (0 + 1) (0 + 6) := ⟨e1, e2⟩
    have h3 := X.same.trans h2
    rw [List.append_nil] at h3
    exact h3.mono hc hs
  refine ⟨U, ?_, .threw T.heap.size, hrun, hend, Or.inr ⟨T.heap.size, rfl, cls, ce, locs, hx U hWs.alike f1 (fun q hq => f2 q hq (fun z hz => nomatch hz)), hce, hO.vm, hcl, hWs, hall, hf⟩⟩
  refine st1 _ ?_
  show Steps p.tables e below (T1.setTop { method := m, pc := pc + 3, locals := ls, stack := .ref T.heap.size :: rest, locked := none }) _
  jvm_step X₁.here [X₁.here.top, hexec, d3₉, Value.category]
  exact hsteps
end Ends
section Bodies
variable {l : Launch}
theorem vx_ofW {y : MethodName} {ws ws₉ : List Cond} {rm : Room} {Pc : Array Value → State → Prop} {Qc : Array Value → State → Outcome → State → Prop} {XC : String → State → State → Prop} {mc ms : Nat} {free : Addr → Prop} {cc : ByteArray} {maxL : Nat} {ret : Option FieldType}
    (hy : plainName y.cls = true) (hw : ws = Cond.code y cc maxL ret :: ws₉)
    (body : ∀ p e s m args below meth c s₁, BodyLoose p l y (headSpec ws rm) cc maxL ret e s m args below meth c s₁ → c.maxLocals = maxL → (∀ x ∈ c.exceptionTable.toList, False) → Pc args s →
      W p l e (headSpec ws rm).room s m args below meth c s.heap [] 0 0 (vx_MQ below Qc XC args s mc ms free) (entryFrame m args maxL)) : vx_Met l y ws rm Pc Qc XC mc ms free := by
  refine MetFree.of_bodyS (code := cc) (maxLocals := maxL) (ret := ret) hy ?_ ?_
  · intro args s m h hn
    obtain ⟨meth, c, h1, h2, h3, h4, h5, h6, -, -⟩ := Cond.code_spec hn (atoms_spec (ws := ws) h _ (by rw [hw]; exact List.mem_cons_self))
    exact ⟨meth, c, h1, h2, h3, h4, h5, h6⟩
  · intro p e s m args below meth c s₁ B hml hP _
    have hh0 : s₁.heap = s.heap := by rw [B.state]; rfl
    have ht : ∀ x ∈ c.exceptionTable.toList, False := by
      obtain ⟨meth9, c9, h1, h2, -, -, -, -, h7, -⟩ := Cond.code_spec B.named (atoms_spec (ws := ws) B.pre _ (by rw [hw]; exact List.mem_cons_self))
      cases Option.some.inj (h1.symm.trans B.method)
      cases Option.some.inj (h2.symm.trans (Stand.of_body B).code)
      intro x hx
      rw [Array.isEmpty_iff.mp h7] at hx
      cases hx
    obtain ⟨t, a1, o, b1, b2, b3⟩ := body p e s m args below meth c s₁ B hml ht hP s₁ hh0 (Stand.of_body B)
    exact ⟨t, o, a1, b1, b2, b3⟩
/-- the table of a body with handlers -/
theorem vx_table {p : Program} {x y : MethodName} {S : Spec} {cc bytes : ByteArray} {maxL maxL₉ : Nat} {ret ret₉ : Option FieldType} {e : Env} {s s₁ : State} {m : MethodId} {args : Array Value} {below : List Frame} {meth : Method} {c : Code} {hh : List (Nat × Nat × Nat × Nat)}
    (B : BodyLoose p l y S cc maxL ret e s m args below meth c s₁) (h : (Cond.codeWith y bytes maxL₉ ret₉ hh).before args s = true) : c.exceptionTable.toList = tableOf hh := by
  obtain ⟨m9, meth9, c9, hn9, h1, h2, -, -, h6, -⟩ := Cond.codeWith_spec h
  cases Option.some.inj (hn9.symm.trans B.named)
  cases Option.some.inj (h1.symm.trans B.method)
  cases Option.some.inj (h2.symm.trans (Stand.of_body B).code)
  rw [← h6, table_eq]
end Bodies
end VXA
/-! ===== END ===== -/
/-! ===== BEGIN a static call of a method with an exception table ===== -/
section VXS
variable {p : Program} {l : Launch} {e : Env} {R : Room} {s : State} {m : MethodId} {args : Array Value} {below : List Frame} {meth : Method} {c : Code} {T : State} {H : Heap} {locs : List Loc} {cells slots : Nat}
abbrev vx_CSW (R : Room) (s : State) (args : Array Value) (own : String) (index : Nat) (y : MethodName) (bytes : ByteArray) (maxL : Nat) (ret : Option FieldType) (hh : List (Nat × Nat × Nat × Nat)) (ws : List Cond) (rm : Room) (mc ms n : Nat) : Prop :=
  (rm.cells = mc ∧ rm.slots = ms ∧ rm.frames + 1 ≤ R.frames ∧ 8 + (maxL + 11) + rm.locals ≤ R.locals ∧ (∀ w ∈ ws, ∀ (a₉ : Array Value) (U : State), s.WarmedH U.vm → w.before a₉ U = true) ∧ Cond.codeWith y bytes maxL ret hh ∈ ws) ∧
  (Cond.codeWith y bytes maxL ret hh).before args s = true ∧ (Cond.initialized y.cls).before args s = true ∧ (y.cls ≠ "java/lang/invoke/MethodHandle" ∧ y.cls ≠ "java/lang/invoke/VarHandle") ∧
  (∀ sig, parseMethodDescriptor y.desc = some sig → n = sig.parameters.length) ∧ (Cond.methodLink own index y).before args s = true ∧ (Cond.static y).before args s = true
theorem vx_callSW (X : Stand p l e R s m args below meth c T locs cells slots) (hexec : p.tables.exec = Jvm.exec) {own : String} {index : Nat} {y : MethodName} {bytes : ByteArray} {maxL : Nat} {ret : Option FieldType} {hh : List (Nat × Nat × Nat × Nat)}
    (hown : s.vm.findClass own = some m.cls) (hlink : (Cond.methodLink own index y).before args s = true) (hstat : (Cond.static y).before args s = true) (hinit : (Cond.initialized y.cls).before args s = true)
    (hcode : (Cond.codeWith y bytes maxL ret hh).before args s = true) (hy : y.cls ≠ "java/lang/invoke/MethodHandle" ∧ y.cls ≠ "java/lang/invoke/VarHandle")
    {W9 : Nat} {Pre : Pt → Array Value → Prop} {Post : Pt → Array Value → Option Value → Pt → Prop} (hK : Back l R p e below s args y 3 W9 Pre Post)
    {g : JFrame} (hg : g.method = m) (hsize : g.locals.size = c.maxLocals) {argsL rest : List Value} (hlen : ∀ sig, parseMethodDescriptor y.desc = some sig → argsL.length = sig.parameters.length)
    (hstack : g.stack = argsL.reverse ++ rest) (hW : 2 * g.monitorRoom + (rest.map fun v => v.category).sum ≤ W9) (hdg : decode c.code g.pc = .ok (.invokestatic index, 3))
    (hpre : ∀ vm₁, s.WarmedH vm₁ → Pre ⟨T.setVm vm₁, locs, cells, slots⟩ argsL.toArray) :
    ∃ (v : Option Value) (vm₁ : Vm) (B : Pt), s.WarmedH vm₁ ∧ Stand p l e R s m args below meth c B.U B.locs B.cells B.slots ∧ Post ⟨T.setVm vm₁, locs, cells, slots⟩ argsL.toArray v B ∧
      ∀ target, Steps p.tables e below (B.U.setTop { g with pc := g.pc + 3, stack := v.toList ++ rest }) target → Steps p.tables e below (T.setTop g) target := by
  obtain ⟨mk, methM, cM, hnamed, hmethM, -, -, -, -, -, -, hsigM⟩ := Cond.codeWith_spec hcode
  have hstatic : methM.isStatic = true := Cond.static_spec hnamed hmethM hstat
  obtain ⟨kP, hkP, -⟩ := className_of_methodNamed hnamed
  have hinitP : kP.init = .initialized := Cond.initialized_spec (findClass_of_methodNamed hnamed) hkP hinit
  obtain ⟨vm₁, X₁, hstep₁⟩ := X.invokestatic hexec hown hlink hnamed hmethM hstatic hkP hinitP hy (g := g) hg (argsL := argsL) (rest := rest) (hlen _ hsigM) hstack hdg
  obtain ⟨v, B, X₉, hpost, hsteps⟩ := hK m meth c ⟨T.setVm vm₁, locs, cells, slots⟩ { g with stack := rest } (.invokestatic index) mk argsL.toArray X₁ hg hsize hdg hW (X₁.named hnamed) (hpre vm₁ X₁.warmed)
  exact ⟨v, vm₁, B, X₁.warmed, X₉, hpost, fun target h => hstep₁ _ fun acts => by rw [doInvoke_state]; exact hsteps.trans h⟩
theorem vx_runSW {y : MethodName} {bytes cc : ByteArray} {maxL nL mc ms n index : Nat} {ret : Option FieldType} {hh : List (Nat × Nat × Nat × Nat)} {ws : List Cond} {rm : Room} {Pc : Array Value → State → Prop} {Qc : Array Value → State → Outcome → State → Prop} {free : Addr → Prop} {Ts : List Cond} {own : String} {As rest : List Value} {g : JFrame}
    (S : CallFix p m c cc nL s args Ts own) (hM : Met l y ws rm Pc Qc mc ms free) (cw : vx_CSW R s args own index y bytes maxL ret hh ws rm mc ms n) (hp : PreS s H Pc As)
    (hg : g.method = m) (hn : As.length = n) (hsize : g.locals.size = nL) (hstack : g.stack = As.reverse ++ rest) (hW : 2 * g.monitorRoom + (rest.map fun v => v.category).sum ≤ 8) (hdg : decode cc g.pc = .ok (.invokestatic index, 3)) (hf : cells + mc ≤ R.cells ∧ slots + ms ≤ R.slots) :
    va_Run p l e R s m args below meth c H locs cells slots mc ms g rest (Qc As.toArray) (free) := by
  obtain ⟨⟨hrc, hrs, hfr, hlo, hws, hcw⟩, hcode, hini, hy, hlen, hl, hstt⟩ := cw
  have hK : Back l R p e below s args y 3 8 (PreOf R mc ms Pc) (PostOf Qc mc ms free) := va_backW (hh := hh) (bytes := bytes) (maxL := maxL) (ret := ret) hM hp.1 hrc hrs hfr hlo hws hcw (fun a₉ U hW => word_at hW (Or.inl (by first | rfl | simp [Cond.onTables, Cond.keeps, Cond.steady])) hini)
  obtain ⟨hx, hb, hml, ho, -⟩ := S
  intro T hT X
  obtain ⟨v, vm₁, ⟨U₉, l2, c2, s2⟩, hW₁, X₉, ⟨g₉, mk, t, L, e1, e2, hq, h1, hL, h2, h3⟩, st⟩ := vx_callSW X hx (hh := hh) (bytes := bytes) (maxL := maxL) (ret := ret) ho hl hstt hini hcode hy hK hg (hsize.trans hml.symm) (argsL := As) (rest := rest) (fun sig h => hn.trans (hlen sig h)) hstack hW (by rw [hb]; exact hdg)
    (fun vm₁ hW₁ => ⟨hf.1, hf.2, hp.2 (T.setVm vm₁) hT hW₁⟩)
  dsimp only [Pt.U, Pt.locs, Pt.cells, Pt.slots] at X₉ e1 e2 h1 h2 h3 st
  subst h1; subst h2; subst h3
  exact ⟨v, (T.setVm vm₁).calling g₉ mk As.toArray, t, U₉, L, hT, X₉, hL, e1, e2, hq, st⟩
end VXS
/-! ===== END ===== -/
/-! ===== BEGIN methods with a table of their own: called by a name, returning or throwing ===== -/
section VXH
section
variable {l : Launch} {R : Room} {p : Program} {e : Env} {below : List Frame} {s : State} {sargs : Array Value} {y : MethodName} {len W9 : Nat}
end
variable {p : Program} {l : Launch} {e : Env} {R : Room} {s : State} {m : MethodId} {args : Array Value} {below : List Frame} {meth : Method} {c : Code} {T : State} {H : Heap} {locs : List Loc} {cells slots : Nat}
section
variable {y : MethodName} {bytes cc : ByteArray} {maxL nL mc ms n index : Nat} {ret : Option FieldType} {ws : List Cond} {rm : Room} {Pc : Array Value → State → Prop} {Qc : Array Value → State → Outcome → State → Prop} {XC : String → State → State → Prop} {free : Addr → Prop} {Ts : List Cond} {own C : String} {b : Addr} {As rest : List Value} {g : JFrame}
end
end VXH
/-! ===== END ===== -/

def RX0 : String := "CollectorHouse$Ages"
def TX0 : u_T := fun k => match k with
  | 0 => ("CollectorHouse$Collector", "store", "LCollectorHouse$Store;", true)
  | 1 => ("CollectorHouse$Collector", "walk", "LCollectorHouse$Walk;", true)
  | 2 => ("CollectorHouse$Ages", "young", "I", false)
  | 3 => ("CollectorHouse$Ages", "old", "I", false)
  | 4 => ("CollectorHouse$Ages", "lastAge", "I", false)
  | 5 => ("CollectorHouse$Ages", "card", "I", false)
  | 6 => ("CollectorHouse$Ages", "oldTop", "I", false)
  | 7 => ("CollectorHouse$Ages", "start", "I", false)
  | 8 => ("CollectorHouse$Ages", "top", "I", false)
  | _ => ("CollectorHouse$Ages", "dirty", "[I", true)
def tyX0 : Nat → FieldType := fun k => match k with
  | 0 => .object "CollectorHouse$Store"
  | 1 => .object "CollectorHouse$Walk"
  | 2 => .int
  | 3 => .int
  | 4 => .int
  | 5 => .int
  | 6 => .int
  | 7 => .int
  | 8 => .int
  | _ => .array .int
theorem nmX0 : ∀ a, a < 10 → ∀ b, b < 10 → a ≠ b → (TX0 a).2.1 ≠ (TX0 b).2.1 := by decide +kernel
theorem tyX0_ok : ∀ k, k < 10 → parseFieldDescriptor (TX0 k).2.2.1 = some (tyX0 k) := by decide +kernel
abbrev cX0_init : ByteArray := prog_2_method_1_code
def yX0_init : MethodName := ⟨RX0, "<init>", "(LCollectorHouse$Store;LCollectorHouse$Walk;)V"⟩
abbrev cX0_open : ByteArray := prog_2_method_2_code
def yX0_open : MethodName := ⟨RX0, "open", "([I)V"⟩
abbrev cX0_total : ByteArray := prog_2_method_3_code
def yX0_total : MethodName := ⟨RX0, "total", "()I"⟩
abbrev cX0_findRoom : ByteArray := prog_2_method_4_code
def yX0_findRoom : MethodName := ⟨RX0, "findRoom", "(I)I"⟩
abbrev cX0_findOldRoom : ByteArray := prog_2_method_5_code
def yX0_findOldRoom : MethodName := ⟨RX0, "findOldRoom", "(I)I"⟩
abbrev cX0_hasYoungRoom : ByteArray := prog_2_method_6_code
def yX0_hasYoungRoom : MethodName := ⟨RX0, "hasYoungRoom", "(I)Z"⟩
abbrev cX0_noteMade : ByteArray := prog_2_method_7_code
def yX0_noteMade : MethodName := ⟨RX0, "noteMade", "(LCollectorHouse$Thing;)V"⟩
abbrev cX0_cleanAll : ByteArray := prog_2_method_8_code
def yX0_cleanAll : MethodName := ⟨RX0, "cleanAll", "()I"⟩
abbrev cX0_cleanOld : ByteArray := prog_2_method_9_code
def yX0_cleanOld : MethodName := ⟨RX0, "cleanOld", "()I"⟩
abbrev cX0_cleanYoung : ByteArray := prog_2_method_10_code
def yX0_cleanYoung : MethodName := ⟨RX0, "cleanYoung", "()I"⟩
abbrev cX0_wordsGrowingOld : ByteArray := prog_2_method_11_code
def yX0_wordsGrowingOld : MethodName := ⟨RX0, "wordsGrowingOld", "()I"⟩
abbrev cX0_comeFromDirty : ByteArray := prog_2_method_12_code
def yX0_comeFromDirty : MethodName := ⟨RX0, "comeFromDirty", "()V"⟩
abbrev cX0_comeFromDirtyWords : ByteArray := prog_2_method_13_code
def yX0_comeFromDirtyWords : MethodName := ⟨RX0, "comeFromDirtyWords", "(LCollectorHouse$Thing;)V"⟩
abbrev cX0_moveKept : ByteArray := prog_2_method_14_code
def yX0_moveKept : MethodName := ⟨RX0, "moveKept", "()V"⟩
abbrev cX0_moveOlder : ByteArray := prog_2_method_15_code
def yX0_moveOlder : MethodName := ⟨RX0, "moveOlder", "(LCollectorHouse$Thing;)V"⟩
abbrev cX0_findDirty : ByteArray := prog_2_method_16_code
def yX0_findDirty : MethodName := ⟨RX0, "findDirty", "()V"⟩
abbrev cX0_isYoung : ByteArray := prog_2_method_17_code
def yX0_isYoung : MethodName := ⟨RX0, "isYoung", "(LCollectorHouse$Thing;)Z"⟩
abbrev cX0_cardOf : ByteArray := prog_2_method_18_code
def yX0_cardOf : MethodName := ⟨RX0, "cardOf", "(LCollectorHouse$Thing;I)I"⟩
abbrev cX0_noteReference : ByteArray := prog_2_method_19_code
def yX0_noteReference : MethodName := ⟨RX0, "noteReference", "(LCollectorHouse$Thing;ILCollectorHouse$Thing;)V"⟩
abbrev cX0_canHold : ByteArray := prog_2_method_20_code
def yX0_canHold : MethodName := ⟨RX0, "canHold", "(LCollectorHouse$Thing;)Z"⟩
abbrev cX0_specials : ByteArray := prog_2_method_21_code
def yX0_specials : MethodName := ⟨RX0, "specials", "()I"⟩
abbrev cX0_topPlace : ByteArray := prog_2_method_22_code
def yX0_topPlace : MethodName := ⟨RX0, "topPlace", "()I"⟩
abbrev cX0_oldTopOrRegion : ByteArray := prog_2_method_23_code
def yX0_oldTopOrRegion : MethodName := ⟨RX0, "oldTopOrRegion", "()I"⟩
def RX1 : String := "CollectorHouse$Collector"
abbrev cX1_init : ByteArray := prog_3_method_1_code
def yX1_init : MethodName := ⟨RX1, "<init>", "(LCollectorHouse$Store;LCollectorHouse$Walk;)V"⟩
abbrev cX1_noteChange : ByteArray := prog_3_method_7_code
def yX1_noteChange : MethodName := ⟨RX1, "noteChange", "(LCollectorHouse$Thing;LCollectorHouse$Thing;)V"⟩
abbrev cX1_noteFewer : ByteArray := prog_3_method_8_code
def yX1_noteFewer : MethodName := ⟨RX1, "noteFewer", "(LCollectorHouse$Thing;)V"⟩
abbrev cX1_noteReference : ByteArray := prog_3_method_9_code
def yX1_noteReference : MethodName := ⟨RX1, "noteReference", "(LCollectorHouse$Thing;ILCollectorHouse$Thing;)V"⟩
abbrev cX1_noteStrong : ByteArray := prog_3_method_10_code
def yX1_noteStrong : MethodName := ⟨RX1, "noteStrong", "(LCollectorHouse$Thing;)V"⟩
abbrev cX1_canHold : ByteArray := prog_3_method_11_code
def yX1_canHold : MethodName := ⟨RX1, "canHold", "(LCollectorHouse$Thing;)Z"⟩
abbrev cX1_countOf : ByteArray := prog_3_method_12_code
def yX1_countOf : MethodName := ⟨RX1, "countOf", "(LCollectorHouse$Thing;)I"⟩
abbrev cX1_colourOf : ByteArray := prog_3_method_13_code
def yX1_colourOf : MethodName := ⟨RX1, "colourOf", "(LCollectorHouse$Thing;)I"⟩
abbrev cX1_specials : ByteArray := prog_3_method_14_code
def yX1_specials : MethodName := ⟨RX1, "specials", "()I"⟩
abbrev cX1_topPlace : ByteArray := prog_3_method_15_code
def yX1_topPlace : MethodName := ⟨RX1, "topPlace", "()I"⟩
abbrev cX1_isMarking : ByteArray := prog_3_method_16_code
def yX1_isMarking : MethodName := ⟨RX1, "isMarking", "()Z"⟩
abbrev cX1_oldTopOrRegion : ByteArray := prog_3_method_17_code
def yX1_oldTopOrRegion : MethodName := ⟨RX1, "oldTopOrRegion", "()I"⟩
abbrev cX1_removeUnreached : ByteArray := prog_3_method_18_code
def yX1_removeUnreached : MethodName := ⟨RX1, "removeUnreached", "()I"⟩
abbrev cX1_slideDown : ByteArray := prog_3_method_19_code
def yX1_slideDown : MethodName := ⟨RX1, "slideDown", "(I)I"⟩
def RX2 : String := "CollectorHouse$Counts"
def TX2 : u_T := fun k => match k with
  | 0 => ("CollectorHouse$Sweep", "room", "I", false)
  | 1 => ("CollectorHouse$Sweep", "form", "I", false)
  | 2 => ("CollectorHouse$Sweep", "lastEnd", "I", false)
  | 3 => ("CollectorHouse$Collector", "store", "LCollectorHouse$Store;", true)
  | 4 => ("CollectorHouse$Collector", "walk", "LCollectorHouse$Walk;", true)
  | 5 => ("CollectorHouse$Counts", "going", "[LCollectorHouse$Thing;", true)
  | 6 => ("CollectorHouse$Counts", "nextWord", "[I", true)
  | _ => ("CollectorHouse$Counts", "depth", "I", false)
def tyX2 : Nat → FieldType := fun k => match k with
  | 0 => .int
  | 1 => .int
  | 2 => .int
  | 3 => .object "CollectorHouse$Store"
  | 4 => .object "CollectorHouse$Walk"
  | 5 => .array (.object "CollectorHouse$Thing")
  | 6 => .array .int
  | _ => .int
theorem nmX2 : ∀ a, a < 8 → ∀ b, b < 8 → a ≠ b → (TX2 a).2.1 ≠ (TX2 b).2.1 := by decide +kernel
theorem tyX2_ok : ∀ k, k < 8 → parseFieldDescriptor (TX2 k).2.2.1 = some (tyX2 k) := by decide +kernel
abbrev cX2_init : ByteArray := prog_4_method_1_code
def yX2_init : MethodName := ⟨RX2, "<init>", "(LCollectorHouse$Store;LCollectorHouse$Walk;)V"⟩
abbrev cX2_countOf : ByteArray := prog_4_method_2_code
def yX2_countOf : MethodName := ⟨RX2, "countOf", "(LCollectorHouse$Thing;)I"⟩
abbrev cX2_noteFewer : ByteArray := prog_4_method_3_code
def yX2_noteFewer : MethodName := ⟨RX2, "noteFewer", "(LCollectorHouse$Thing;)V"⟩
abbrev cX2_dropWord : ByteArray := prog_4_method_4_code
def yX2_dropWord : MethodName := ⟨RX2, "dropWord", "(LCollectorHouse$Thing;I)V"⟩
abbrev cX2_fallIfUncounted : ByteArray := prog_4_method_5_code
def yX2_fallIfUncounted : MethodName := ⟨RX2, "fallIfUncounted", "(LCollectorHouse$Thing;)V"⟩
def RX3 : String := "CollectorHouse$Halves"
def TX3 : u_T := fun k => match k with
  | 0 => ("CollectorHouse$Collector", "store", "LCollectorHouse$Store;", true)
  | 1 => ("CollectorHouse$Collector", "walk", "LCollectorHouse$Walk;", true)
  | 2 => ("CollectorHouse$Halves", "room", "I", false)
  | 3 => ("CollectorHouse$Halves", "start", "I", false)
  | _ => ("CollectorHouse$Halves", "top", "I", false)
def tyX3 : Nat → FieldType := fun k => match k with
  | 0 => .object "CollectorHouse$Store"
  | 1 => .object "CollectorHouse$Walk"
  | 2 => .int
  | 3 => .int
  | _ => .int
theorem nmX3 : ∀ a, a < 5 → ∀ b, b < 5 → a ≠ b → (TX3 a).2.1 ≠ (TX3 b).2.1 := by decide +kernel
theorem tyX3_ok : ∀ k, k < 5 → parseFieldDescriptor (TX3 k).2.2.1 = some (tyX3 k) := by decide +kernel
abbrev cX3_init : ByteArray := prog_5_method_1_code
def yX3_init : MethodName := ⟨RX3, "<init>", "(LCollectorHouse$Store;LCollectorHouse$Walk;)V"⟩
abbrev cX3_open : ByteArray := prog_5_method_2_code
def yX3_open : MethodName := ⟨RX3, "open", "([I)V"⟩
abbrev cX3_total : ByteArray := prog_5_method_3_code
def yX3_total : MethodName := ⟨RX3, "total", "()I"⟩
abbrev cX3_findRoom : ByteArray := prog_5_method_4_code
def yX3_findRoom : MethodName := ⟨RX3, "findRoom", "(I)I"⟩
abbrev cX3_hasRoom : ByteArray := prog_5_method_5_code
def yX3_hasRoom : MethodName := ⟨RX3, "hasRoom", "(I)Z"⟩
abbrev cX3_noteMade : ByteArray := prog_5_method_6_code
def yX3_noteMade : MethodName := ⟨RX3, "noteMade", "(LCollectorHouse$Thing;)V"⟩
abbrev cX3_cleanAll : ByteArray := prog_5_method_7_code
def yX3_cleanAll : MethodName := ⟨RX3, "cleanAll", "()I"⟩
abbrev cX3_canHold : ByteArray := prog_5_method_8_code
def yX3_canHold : MethodName := ⟨RX3, "canHold", "(LCollectorHouse$Thing;)Z"⟩
abbrev cX3_topPlace : ByteArray := prog_5_method_9_code
def yX3_topPlace : MethodName := ⟨RX3, "topPlace", "()I"⟩
def RX4 : String := "CollectorHouse$Regions"
def TX4 : u_T := fun k => match k with
  | 0 => ("CollectorHouse$Collector", "store", "LCollectorHouse$Store;", true)
  | 1 => ("CollectorHouse$Collector", "walk", "LCollectorHouse$Walk;", true)
  | 2 => ("CollectorHouse$Regions", "size", "I", false)
  | 3 => ("CollectorHouse$Regions", "regions", "I", false)
  | 4 => ("CollectorHouse$Regions", "share", "I", false)
  | 5 => ("CollectorHouse$Regions", "present", "I", false)
  | 6 => ("CollectorHouse$Regions", "target", "I", false)
  | 7 => ("CollectorHouse$Regions", "tops", "[I", true)
  | _ => ("CollectorHouse$Regions", "leaving", "[I", true)
def tyX4 : Nat → FieldType := fun k => match k with
  | 0 => .object "CollectorHouse$Store"
  | 1 => .object "CollectorHouse$Walk"
  | 2 => .int
  | 3 => .int
  | 4 => .int
  | 5 => .int
  | 6 => .int
  | 7 => .array .int
  | _ => .array .int
theorem nmX4 : ∀ a, a < 9 → ∀ b, b < 9 → a ≠ b → (TX4 a).2.1 ≠ (TX4 b).2.1 := by decide +kernel
theorem tyX4_ok : ∀ k, k < 9 → parseFieldDescriptor (TX4 k).2.2.1 = some (tyX4 k) := by decide +kernel
abbrev cX4_init : ByteArray := prog_6_method_1_code
def yX4_init : MethodName := ⟨RX4, "<init>", "(LCollectorHouse$Store;LCollectorHouse$Walk;)V"⟩
abbrev cX4_open : ByteArray := prog_6_method_2_code
def yX4_open : MethodName := ⟨RX4, "open", "([I)V"⟩
abbrev cX4_total : ByteArray := prog_6_method_3_code
def yX4_total : MethodName := ⟨RX4, "total", "()I"⟩
abbrev cX4_findRoom : ByteArray := prog_6_method_4_code
def yX4_findRoom : MethodName := ⟨RX4, "findRoom", "(I)I"⟩
abbrev cX4_fits : ByteArray := prog_6_method_5_code
def yX4_fits : MethodName := ⟨RX4, "fits", "(II)Z"⟩
abbrev cX4_topOf : ByteArray := prog_6_method_6_code
def yX4_topOf : MethodName := ⟨RX4, "topOf", "(I)I"⟩
abbrev cX4_raiseTop : ByteArray := prog_6_method_7_code
def yX4_raiseTop : MethodName := ⟨RX4, "raiseTop", "(II)V"⟩
abbrev cX4_orElse : ByteArray := prog_6_method_8_code
def yX4_orElse : MethodName := ⟨RX4, "orElse", "(II)I"⟩
abbrev cX4_leastEmpty : ByteArray := prog_6_method_9_code
def yX4_leastEmpty : MethodName := ⟨RX4, "leastEmpty", "()I"⟩
abbrev cX4_noteMade : ByteArray := prog_6_method_10_code
def yX4_noteMade : MethodName := ⟨RX4, "noteMade", "(LCollectorHouse$Thing;)V"⟩
abbrev cX4_cleanAll : ByteArray := prog_6_method_11_code
def yX4_cleanAll : MethodName := ⟨RX4, "cleanAll", "()I"⟩
abbrev cX4_regionOf : ByteArray := prog_6_method_12_code
def yX4_regionOf : MethodName := ⟨RX4, "regionOf", "(LCollectorHouse$Thing;)I"⟩
abbrev cX4_sumKept : ByteArray := prog_6_method_13_code
def yX4_sumKept : MethodName := ⟨RX4, "sumKept", "()V"⟩
abbrev cX4_emptyWhereNothingIsLeft : ByteArray := prog_6_method_14_code
def yX4_emptyWhereNothingIsLeft : MethodName := ⟨RX4, "emptyWhereNothingIsLeft", "()V"⟩
abbrev cX4_chooseLeaving : ByteArray := prog_6_method_15_code
def yX4_chooseLeaving : MethodName := ⟨RX4, "chooseLeaving", "()V"⟩
abbrev cX4_fewestLeaving : ByteArray := prog_6_method_16_code
def yX4_fewestLeaving : MethodName := ⟨RX4, "fewestLeaving", "()I"⟩
abbrev cX4_moveAll : ByteArray := prog_6_method_17_code
def yX4_moveAll : MethodName := ⟨RX4, "moveAll", "(I)Z"⟩
abbrev cX4_moveOut : ByteArray := prog_6_method_18_code
def yX4_moveOut : MethodName := ⟨RX4, "moveOut", "(LCollectorHouse$Thing;)Z"⟩
abbrev cX4_specials : ByteArray := prog_6_method_19_code
def yX4_specials : MethodName := ⟨RX4, "specials", "()I"⟩
abbrev cX4_topPlace : ByteArray := prog_6_method_20_code
def yX4_topPlace : MethodName := ⟨RX4, "topPlace", "()I"⟩
abbrev cX4_oldTopOrRegion : ByteArray := prog_6_method_21_code
def yX4_oldTopOrRegion : MethodName := ⟨RX4, "oldTopOrRegion", "()I"⟩
def RX5 : String := "CollectorHouse$Slide"
def TX5 : u_T := fun k => match k with
  | 0 => ("CollectorHouse$Collector", "store", "LCollectorHouse$Store;", true)
  | 1 => ("CollectorHouse$Collector", "walk", "LCollectorHouse$Walk;", true)
  | 2 => ("CollectorHouse$Slide", "room", "I", false)
  | _ => ("CollectorHouse$Slide", "top", "I", false)
def tyX5 : Nat → FieldType := fun k => match k with
  | 0 => .object "CollectorHouse$Store"
  | 1 => .object "CollectorHouse$Walk"
  | 2 => .int
  | _ => .int
theorem nmX5 : ∀ a, a < 4 → ∀ b, b < 4 → a ≠ b → (TX5 a).2.1 ≠ (TX5 b).2.1 := by decide +kernel
theorem tyX5_ok : ∀ k, k < 4 → parseFieldDescriptor (TX5 k).2.2.1 = some (tyX5 k) := by decide +kernel
abbrev cX5_init : ByteArray := prog_7_method_1_code
def yX5_init : MethodName := ⟨RX5, "<init>", "(LCollectorHouse$Store;LCollectorHouse$Walk;)V"⟩
abbrev cX5_open : ByteArray := prog_7_method_2_code
def yX5_open : MethodName := ⟨RX5, "open", "([I)V"⟩
abbrev cX5_total : ByteArray := prog_7_method_3_code
def yX5_total : MethodName := ⟨RX5, "total", "()I"⟩
abbrev cX5_findRoom : ByteArray := prog_7_method_4_code
def yX5_findRoom : MethodName := ⟨RX5, "findRoom", "(I)I"⟩
abbrev cX5_noteMade : ByteArray := prog_7_method_5_code
def yX5_noteMade : MethodName := ⟨RX5, "noteMade", "(LCollectorHouse$Thing;)V"⟩
abbrev cX5_cleanAll : ByteArray := prog_7_method_6_code
def yX5_cleanAll : MethodName := ⟨RX5, "cleanAll", "()I"⟩
abbrev cX5_topPlace : ByteArray := prog_7_method_7_code
def yX5_topPlace : MethodName := ⟨RX5, "topPlace", "()I"⟩
def RX6 : String := "CollectorHouse$Steps"
def TX6 : u_T := fun k => match k with
  | 0 => ("CollectorHouse$Sweep", "room", "I", false)
  | 1 => ("CollectorHouse$Sweep", "form", "I", false)
  | 2 => ("CollectorHouse$Sweep", "lastEnd", "I", false)
  | 3 => ("CollectorHouse$Collector", "store", "LCollectorHouse$Store;", true)
  | 4 => ("CollectorHouse$Collector", "walk", "LCollectorHouse$Walk;", true)
  | 5 => ("CollectorHouse$Steps", "marks", "LCollectorHouse$Walk;", true)
  | 6 => ("CollectorHouse$Steps", "rate", "I", false)
  | 7 => ("CollectorHouse$Steps", "barrier", "I", false)
  | _ => ("CollectorHouse$Steps", "marking", "Z", false)
def tyX6 : Nat → FieldType := fun k => match k with
  | 0 => .int
  | 1 => .int
  | 2 => .int
  | 3 => .object "CollectorHouse$Store"
  | 4 => .object "CollectorHouse$Walk"
  | 5 => .object "CollectorHouse$Walk"
  | 6 => .int
  | 7 => .int
  | _ => .boolean
theorem nmX6 : ∀ a, a < 9 → ∀ b, b < 9 → a ≠ b → (TX6 a).2.1 ≠ (TX6 b).2.1 := by decide +kernel
theorem tyX6_ok : ∀ k, k < 9 → parseFieldDescriptor (TX6 k).2.2.1 = some (tyX6 k) := by decide +kernel
abbrev cX6_init : ByteArray := prog_8_method_1_code
def yX6_init : MethodName := ⟨RX6, "<init>", "(LCollectorHouse$Store;LCollectorHouse$Walk;)V"⟩
abbrev cX6_open : ByteArray := prog_8_method_2_code
def yX6_open : MethodName := ⟨RX6, "open", "([I)V"⟩
abbrev cX6_findRoom : ByteArray := prog_8_method_3_code
def yX6_findRoom : MethodName := ⟨RX6, "findRoom", "(I)I"⟩
abbrev cX6_noteMade : ByteArray := prog_8_method_4_code
def yX6_noteMade : MethodName := ⟨RX6, "noteMade", "(LCollectorHouse$Thing;)V"⟩
abbrev cX6_cleanAll : ByteArray := prog_8_method_5_code
def yX6_cleanAll : MethodName := ⟨RX6, "cleanAll", "()I"⟩
abbrev cX6_goOn : ByteArray := prog_8_method_6_code
def yX6_goOn : MethodName := ⟨RX6, "goOn", "(I)I"⟩
abbrev cX6_begin : ByteArray := prog_8_method_7_code
def yX6_begin : MethodName := ⟨RX6, "begin", "()V"⟩
abbrev cX6_newsCame : ByteArray := prog_8_method_8_code
def yX6_newsCame : MethodName := ⟨RX6, "newsCame", "()Z"⟩
abbrev cX6_finish : ByteArray := prog_8_method_9_code
def yX6_finish : MethodName := ⟨RX6, "finish", "()I"⟩
abbrev cX6_noteChange : ByteArray := prog_8_method_10_code
def yX6_noteChange : MethodName := ⟨RX6, "noteChange", "(LCollectorHouse$Thing;LCollectorHouse$Thing;)V"⟩
abbrev cX6_noteStrong : ByteArray := prog_8_method_11_code
def yX6_noteStrong : MethodName := ⟨RX6, "noteStrong", "(LCollectorHouse$Thing;)V"⟩
abbrev cX6_colourOf : ByteArray := prog_8_method_12_code
def yX6_colourOf : MethodName := ⟨RX6, "colourOf", "(LCollectorHouse$Thing;)I"⟩
abbrev cX6_specials : ByteArray := prog_8_method_13_code
def yX6_specials : MethodName := ⟨RX6, "specials", "()I"⟩
abbrev cX6_isMarking : ByteArray := prog_8_method_14_code
def yX6_isMarking : MethodName := ⟨RX6, "isMarking", "()Z"⟩
def RX7 : String := "CollectorHouse$Store"
def TX7 : u_T := fun k => match k with
  | 0 => ("CollectorHouse$Store", "things", "[LCollectorHouse$Thing;", true)
  | 1 => ("CollectorHouse$Store", "words", "[I", true)
  | 2 => ("CollectorHouse$Store", "roots", "[I", true)
  | 3 => ("CollectorHouse$Store", "weaks", "[I", true)
  | 4 => ("CollectorHouse$Store", "wishes", "[I", true)
  | 5 => ("CollectorHouse$Store", "wishCount", "I", false)
  | 6 => ("CollectorHouse$Store", "given", "I", false)
  | 7 => ("CollectorHouse$Store", "live", "I", false)
  | 8 => ("CollectorHouse$Store", "used", "I", false)
  | 9 => ("CollectorHouse$Store", "cleanings", "I", false)
  | 10 => ("CollectorHouse$Store", "moved", "I", false)
  | 11 => ("CollectorHouse$Store", "freed", "I", false)
  | _ => ("CollectorHouse$Store", "looked", "I", false)
def tyX7 : Nat → FieldType := fun k => match k with
  | 0 => .array (.object "CollectorHouse$Thing")
  | 1 => .array .int
  | 2 => .array .int
  | 3 => .array .int
  | 4 => .array .int
  | 5 => .int
  | 6 => .int
  | 7 => .int
  | 8 => .int
  | 9 => .int
  | 10 => .int
  | 11 => .int
  | _ => .int
theorem nmX7 : ∀ a, a < 13 → ∀ b, b < 13 → a ≠ b → (TX7 a).2.1 ≠ (TX7 b).2.1 := by decide +kernel
theorem tyX7_ok : ∀ k, k < 13 → parseFieldDescriptor (TX7 k).2.2.1 = some (tyX7 k) := by decide +kernel
abbrev cX7_init : ByteArray := prog_9_method_1_code
def yX7_init : MethodName := ⟨RX7, "<init>", "()V"⟩
abbrev cX7_forgetAll : ByteArray := prog_9_method_2_code
def yX7_forgetAll : MethodName := ⟨RX7, "forgetAll", "()V"⟩
abbrev cX7_thingAt : ByteArray := prog_9_method_3_code
def yX7_thingAt : MethodName := ⟨RX7, "thingAt", "(I)LCollectorHouse$Thing;"⟩
abbrev cX7_thingFrom : ByteArray := prog_9_method_4_code
def yX7_thingFrom : MethodName := ⟨RX7, "thingFrom", "(I)LCollectorHouse$Thing;"⟩
abbrev cX7_add : ByteArray := prog_9_method_5_code
def yX7_add : MethodName := ⟨RX7, "add", "(LCollectorHouse$Thing;)V"⟩
abbrev cX7_wordOf : ByteArray := prog_9_method_6_code
def yX7_wordOf : MethodName := ⟨RX7, "wordOf", "(LCollectorHouse$Thing;I)I"⟩
abbrev cX7_changeInt : ByteArray := prog_9_method_7_code
def yX7_changeInt : MethodName := ⟨RX7, "changeInt", "(LCollectorHouse$Thing;II)I"⟩
abbrev cX7_referenceOf : ByteArray := prog_9_method_8_code
def yX7_referenceOf : MethodName := ⟨RX7, "referenceOf", "(LCollectorHouse$Thing;I)LCollectorHouse$Thing;"⟩
abbrev cX7_changeReference : ByteArray := prog_9_method_9_code
def yX7_changeReference : MethodName := ⟨RX7, "changeReference", "(LCollectorHouse$Thing;ILCollectorHouse$Thing;)LCollectorHouse$Thing;"⟩
abbrev cX7_changeRoot : ByteArray := prog_9_method_10_code
def yX7_changeRoot : MethodName := ⟨RX7, "changeRoot", "(ILCollectorHouse$Thing;)LCollectorHouse$Thing;"⟩
abbrev cX7_changeCounts : ByteArray := prog_9_method_11_code
def yX7_changeCounts : MethodName := ⟨RX7, "changeCounts", "(LCollectorHouse$Thing;LCollectorHouse$Thing;)V"⟩
abbrev cX7_changeHolds : ByteArray := prog_9_method_12_code
def yX7_changeHolds : MethodName := ⟨RX7, "changeHolds", "(LCollectorHouse$Thing;I)V"⟩
abbrev cX7_grant : ByteArray := prog_9_method_13_code
def yX7_grant : MethodName := ⟨RX7, "grant", "(LCollectorHouse$Thing;)V"⟩
abbrev cX7_takeWish : ByteArray := prog_9_method_14_code
def yX7_takeWish : MethodName := ⟨RX7, "takeWish", "()LCollectorHouse$Thing;"⟩
abbrev cX7_clearWeak : ByteArray := prog_9_method_15_code
def yX7_clearWeak : MethodName := ⟨RX7, "clearWeak", "(LCollectorHouse$Thing;)V"⟩
abbrev cX7_remove : ByteArray := prog_9_method_16_code
def yX7_remove : MethodName := ⟨RX7, "remove", "(LCollectorHouse$Thing;)V"⟩
abbrev cX7_freeWords : ByteArray := prog_9_method_17_code
def yX7_freeWords : MethodName := ⟨RX7, "freeWords", "(II)V"⟩
abbrev cX7_move : ByteArray := prog_9_method_18_code
def yX7_move : MethodName := ⟨RX7, "move", "(LCollectorHouse$Thing;I)V"⟩
abbrev cX7_grantWishes : ByteArray := prog_9_method_19_code
def yX7_grantWishes : MethodName := ⟨RX7, "grantWishes", "(LCollectorHouse$Walk;)V"⟩
abbrev cX7_removeOthers : ByteArray := prog_9_method_20_code
def yX7_removeOthers : MethodName := ⟨RX7, "removeOthers", "(LCollectorHouse$Walk;)I"⟩
def RX8 : String := "CollectorHouse$Sweep"
def TX8 : u_T := fun k => match k with
  | 0 => ("CollectorHouse$Collector", "store", "LCollectorHouse$Store;", true)
  | 1 => ("CollectorHouse$Collector", "walk", "LCollectorHouse$Walk;", true)
  | 2 => ("CollectorHouse$Sweep", "room", "I", false)
  | 3 => ("CollectorHouse$Sweep", "form", "I", false)
  | _ => ("CollectorHouse$Sweep", "lastEnd", "I", false)
def tyX8 : Nat → FieldType := fun k => match k with
  | 0 => .object "CollectorHouse$Store"
  | 1 => .object "CollectorHouse$Walk"
  | 2 => .int
  | 3 => .int
  | _ => .int
theorem nmX8 : ∀ a, a < 5 → ∀ b, b < 5 → a ≠ b → (TX8 a).2.1 ≠ (TX8 b).2.1 := by decide +kernel
theorem tyX8_ok : ∀ k, k < 5 → parseFieldDescriptor (TX8 k).2.2.1 = some (tyX8 k) := by decide +kernel
abbrev cX8_init : ByteArray := prog_10_method_1_code
def yX8_init : MethodName := ⟨RX8, "<init>", "(LCollectorHouse$Store;LCollectorHouse$Walk;)V"⟩
abbrev cX8_open : ByteArray := prog_10_method_2_code
def yX8_open : MethodName := ⟨RX8, "open", "([I)V"⟩
abbrev cX8_total : ByteArray := prog_10_method_3_code
def yX8_total : MethodName := ⟨RX8, "total", "()I"⟩
abbrev cX8_findRoom : ByteArray := prog_10_method_4_code
def yX8_findRoom : MethodName := ⟨RX8, "findRoom", "(I)I"⟩
abbrev cX8_noteMade : ByteArray := prog_10_method_5_code
def yX8_noteMade : MethodName := ⟨RX8, "noteMade", "(LCollectorHouse$Thing;)V"⟩
abbrev cX8_cleanAll : ByteArray := prog_10_method_6_code
def yX8_cleanAll : MethodName := ⟨RX8, "cleanAll", "()I"⟩
abbrev cX8_blockPlace : ByteArray := prog_10_method_7_code
def yX8_blockPlace : MethodName := ⟨RX8, "blockPlace", "(I)I"⟩
abbrev cX8_freeFrom : ByteArray := prog_10_method_8_code
def yX8_freeFrom : MethodName := ⟨RX8, "freeFrom", "(I)I"⟩
abbrev cX8_freeEnd : ByteArray := prog_10_method_9_code
def yX8_freeEnd : MethodName := ⟨RX8, "freeEnd", "(I)I"⟩
abbrev cX8_fit : ByteArray := prog_10_method_10_code
def yX8_fit : MethodName := ⟨RX8, "fit", "(I)I"⟩
abbrev cX8_fitFirst : ByteArray := prog_10_method_11_code
def yX8_fitFirst : MethodName := ⟨RX8, "fitFirst", "(III)I"⟩
abbrev cX8_fitNext : ByteArray := prog_10_method_12_code
def yX8_fitNext : MethodName := ⟨RX8, "fitNext", "(I)I"⟩
abbrev cX8_fitByLength : ByteArray := prog_10_method_13_code
def yX8_fitByLength : MethodName := ⟨RX8, "fitByLength", "(IZ)I"⟩
def RX9 : String := "CollectorHouse$Thing"
def TX9 : u_T := fun k => match k with
  | 0 => ("CollectorHouse$Thing", "number", "I", true)
  | 1 => ("CollectorHouse$Thing", "kind", "I", true)
  | 2 => ("CollectorHouse$Thing", "size", "I", true)
  | 3 => ("CollectorHouse$Thing", "references", "J", true)
  | 4 => ("CollectorHouse$Thing", "place", "I", false)
  | 5 => ("CollectorHouse$Thing", "age", "I", false)
  | 6 => ("CollectorHouse$Thing", "count", "I", false)
  | 7 => ("CollectorHouse$Thing", "holds", "I", false)
  | _ => ("CollectorHouse$Thing", "wished", "Z", false)
def tyX9 : Nat → FieldType := fun k => match k with
  | 0 => .int
  | 1 => .int
  | 2 => .int
  | 3 => .long
  | 4 => .int
  | 5 => .int
  | 6 => .int
  | 7 => .int
  | _ => .boolean
theorem nmX9 : ∀ a, a < 9 → ∀ b, b < 9 → a ≠ b → (TX9 a).2.1 ≠ (TX9 b).2.1 := by decide +kernel
theorem tyX9_ok : ∀ k, k < 9 → parseFieldDescriptor (TX9 k).2.2.1 = some (tyX9 k) := by decide +kernel
abbrev cX9_init : ByteArray := prog_11_method_1_code
def yX9_init : MethodName := ⟨RX9, "<init>", "(IIIJI)V"⟩
abbrev cX9_hasWord : ByteArray := prog_11_method_2_code
def yX9_hasWord : MethodName := ⟨RX9, "hasWord", "(I)Z"⟩
abbrev cX9_isReference : ByteArray := prog_11_method_3_code
def yX9_isReference : MethodName := ⟨RX9, "isReference", "(I)Z"⟩
def RX10 : String := "CollectorHouse$Walk"
def TX10 : u_T := fun k => match k with
  | 0 => ("CollectorHouse$Walk", "store", "LCollectorHouse$Store;", true)
  | 1 => ("CollectorHouse$Walk", "queue", "[I", true)
  | 2 => ("CollectorHouse$Walk", "colours", "[I", true)
  | 3 => ("CollectorHouse$Walk", "head", "I", false)
  | 4 => ("CollectorHouse$Walk", "tail", "I", false)
  | _ => ("CollectorHouse$Walk", "floor", "I", false)
def tyX10 : Nat → FieldType := fun k => match k with
  | 0 => .object "CollectorHouse$Store"
  | 1 => .array .int
  | 2 => .array .int
  | 3 => .int
  | 4 => .int
  | _ => .int
theorem nmX10 : ∀ a, a < 6 → ∀ b, b < 6 → a ≠ b → (TX10 a).2.1 ≠ (TX10 b).2.1 := by decide +kernel
theorem tyX10_ok : ∀ k, k < 6 → parseFieldDescriptor (TX10 k).2.2.1 = some (tyX10 k) := by decide +kernel
abbrev cX10_init : ByteArray := prog_12_method_1_code
def yX10_init : MethodName := ⟨RX10, "<init>", "(LCollectorHouse$Store;)V"⟩
abbrev cX10_restart : ByteArray := prog_12_method_2_code
def yX10_restart : MethodName := ⟨RX10, "restart", "(I)V"⟩
abbrev cX10_reachAll : ByteArray := prog_12_method_3_code
def yX10_reachAll : MethodName := ⟨RX10, "reachAll", "()V"⟩
abbrev cX10_keeps : ByteArray := prog_12_method_4_code
def yX10_keeps : MethodName := ⟨RX10, "keeps", "(LCollectorHouse$Thing;)Z"⟩
abbrev cX10_colourOf : ByteArray := prog_12_method_5_code
def yX10_colourOf : MethodName := ⟨RX10, "colourOf", "(LCollectorHouse$Thing;)I"⟩
abbrev cX10_blacken : ByteArray := prog_12_method_6_code
def yX10_blacken : MethodName := ⟨RX10, "blacken", "(LCollectorHouse$Thing;)V"⟩
abbrev cX10_comes : ByteArray := prog_12_method_7_code
def yX10_comes : MethodName := ⟨RX10, "comes", "(LCollectorHouse$Thing;)V"⟩
abbrev cX10_comeFromRoots : ByteArray := prog_12_method_8_code
def yX10_comeFromRoots : MethodName := ⟨RX10, "comeFromRoots", "()V"⟩
abbrev cX10_isEmpty : ByteArray := prog_12_method_9_code
def yX10_isEmpty : MethodName := ⟨RX10, "isEmpty", "()Z"⟩
abbrev cX10_thingInQueue : ByteArray := prog_12_method_10_code
def yX10_thingInQueue : MethodName := ⟨RX10, "thingInQueue", "(I)LCollectorHouse$Thing;"⟩
abbrev cX10_spread : ByteArray := prog_12_method_11_code
def yX10_spread : MethodName := ⟨RX10, "spread", "(I)I"⟩
def RX11 : String := "CollectorHouse"
def TX11 : u_T := fun k => match k with
  | 0 => ("CollectorHouse", "tape", "[B", true)
  | 1 => ("CollectorHouse", "tapeLength", "I", false)
  | 2 => ("CollectorHouse", "tokenStart", "I", false)
  | 3 => ("CollectorHouse", "tokenEnd", "I", false)
  | 4 => ("CollectorHouse", "told", "[I", true)
  | 5 => ("CollectorHouse", "kindWords", "[I", true)
  | 6 => ("CollectorHouse", "kindReferences", "[I", true)
  | 7 => ("CollectorHouse", "kinds", "I", false)
  | 8 => ("CollectorHouse", "store", "LCollectorHouse$Store;", true)
  | 9 => ("CollectorHouse", "walk", "LCollectorHouse$Walk;", true)
  | 10 => ("CollectorHouse", "collectors", "[LCollectorHouse$Collector;", true)
  | _ => ("CollectorHouse", "present", "LCollectorHouse$Collector;", false)
def tyX11 : Nat → FieldType := fun k => match k with
  | 0 => .array .byte
  | 1 => .int
  | 2 => .int
  | 3 => .int
  | 4 => .array .int
  | 5 => .array .int
  | 6 => .array .int
  | 7 => .int
  | 8 => .object "CollectorHouse$Store"
  | 9 => .object "CollectorHouse$Walk"
  | 10 => .array (.object "CollectorHouse$Collector")
  | _ => .object "CollectorHouse$Collector"
theorem nmX11 : ∀ a, a < 12 → ∀ b, b < 12 → a ≠ b → (TX11 a).2.1 ≠ (TX11 b).2.1 := by decide +kernel
theorem tyX11_ok : ∀ k, k < 12 → parseFieldDescriptor (TX11 k).2.2.1 = some (tyX11 k) := by decide +kernel
abbrev cX11_init : ByteArray := prog_1_method_1_code
def yX11_init : MethodName := ⟨RX11, "<init>", "()V"⟩
abbrev cX11_feed : ByteArray := prog_1_method_2_code
def yX11_feed : MethodName := ⟨RX11, "feed", "(IIIII)I"⟩
abbrev cX11_end : ByteArray := prog_1_method_3_code
def yX11_end : MethodName := ⟨RX11, "end", "(I)I"⟩
abbrev cX11_kind : ByteArray := prog_1_method_4_code
def yX11_kind : MethodName := ⟨RX11, "kind", "(II)I"⟩
abbrev cX11_heap : ByteArray := prog_1_method_5_code
def yX11_heap : MethodName := ⟨RX11, "heap", "()I"⟩
abbrev cX11_make : ByteArray := prog_1_method_6_code
def yX11_make : MethodName := ⟨RX11, "make", "(II)I"⟩
abbrev cX11_row : ByteArray := prog_1_method_7_code
def yX11_row : MethodName := ⟨RX11, "row", "(ZII)I"⟩
abbrev cX11_put : ByteArray := prog_1_method_8_code
def yX11_put : MethodName := ⟨RX11, "put", "(III)I"⟩
abbrev cX11_link : ByteArray := prog_1_method_9_code
def yX11_link : MethodName := ⟨RX11, "link", "(III)I"⟩
abbrev cX11_get : ByteArray := prog_1_method_10_code
def yX11_get : MethodName := ⟨RX11, "get", "(II)I"⟩
abbrev cX11_root : ByteArray := prog_1_method_11_code
def yX11_root : MethodName := ⟨RX11, "root", "(II)I"⟩
abbrev cX11_weak : ByteArray := prog_1_method_12_code
def yX11_weak : MethodName := ⟨RX11, "weak", "(II)I"⟩
abbrev cX11_strong : ByteArray := prog_1_method_13_code
def yX11_strong : MethodName := ⟨RX11, "strong", "(II)I"⟩
abbrev cX11_hold : ByteArray := prog_1_method_14_code
def yX11_hold : MethodName := ⟨RX11, "hold", "(IZ)I"⟩
abbrev cX11_wish : ByteArray := prog_1_method_15_code
def yX11_wish : MethodName := ⟨RX11, "wish", "(I)I"⟩
abbrev cX11_granted : ByteArray := prog_1_method_16_code
def yX11_granted : MethodName := ⟨RX11, "granted", "(I)I"⟩
abbrev cX11_clean : ByteArray := prog_1_method_17_code
def yX11_clean : MethodName := ⟨RX11, "clean", "()I"⟩
abbrev cX11_step : ByteArray := prog_1_method_18_code
def yX11_step : MethodName := ⟨RX11, "step", "(I)I"⟩
abbrev cX11_about : ByteArray := prog_1_method_19_code
def yX11_about : MethodName := ⟨RX11, "about", "(II)I"⟩
abbrev cX11_block : ByteArray := prog_1_method_20_code
def yX11_block : MethodName := ⟨RX11, "block", "(II)I"⟩
abbrev cX11_count : ByteArray := prog_1_method_21_code
def yX11_count : MethodName := ⟨RX11, "count", "(I)I"⟩
abbrev cX11_addBytes : ByteArray := prog_1_method_22_code
def yX11_addBytes : MethodName := ⟨RX11, "addBytes", "(I)V"⟩
abbrev cX11_readPolicy : ByteArray := prog_1_method_23_code
def yX11_readPolicy : MethodName := ⟨RX11, "readPolicy", "()I"⟩
abbrev cX11_nextToken : ByteArray := prog_1_method_24_code
def yX11_nextToken : MethodName := ⟨RX11, "nextToken", "()Z"⟩
abbrev cX11_policyToken : ByteArray := prog_1_method_25_code
def yX11_policyToken : MethodName := ⟨RX11, "policyToken", "()I"⟩
abbrev cX11_partsOf : ByteArray := prog_1_method_26_code
def yX11_partsOf : MethodName := ⟨RX11, "partsOf", "(I)Ljava/lang/String;"⟩
abbrev cX11_partToken : ByteArray := prog_1_method_27_code
def yX11_partToken : MethodName := ⟨RX11, "partToken", "(C)I"⟩
abbrev cX11_formToken : ByteArray := prog_1_method_28_code
def yX11_formToken : MethodName := ⟨RX11, "formToken", "()I"⟩
abbrev cX11_barrierToken : ByteArray := prog_1_method_29_code
def yX11_barrierToken : MethodName := ⟨RX11, "barrierToken", "()I"⟩
abbrev cX11_tokenIs : ByteArray := prog_1_method_30_code
def yX11_tokenIs : MethodName := ⟨RX11, "tokenIs", "(Ljava/lang/String;)Z"⟩
abbrev cX11_numberToken : ByteArray := prog_1_method_31_code
def yX11_numberToken : MethodName := ⟨RX11, "numberToken", "(II)I"⟩
abbrev cX11_isSlot : ByteArray := prog_1_method_32_code
def yX11_isSlot : MethodName := ⟨RX11, "isSlot", "(I)Z"⟩
abbrev cX11_numberOf : ByteArray := prog_1_method_33_code
def yX11_numberOf : MethodName := ⟨RX11, "numberOf", "(LCollectorHouse$Thing;)I"⟩
abbrev cX11_needCollector : ByteArray := prog_1_method_34_code
def yX11_needCollector : MethodName := ⟨RX11, "needCollector", "()LCollectorHouse$Collector;"⟩
abbrev cX11_needReached : ByteArray := prog_1_method_35_code
def yX11_needReached : MethodName := ⟨RX11, "needReached", "(I)LCollectorHouse$Thing;"⟩
abbrev cX11_needReachedOrNothing : ByteArray := prog_1_method_36_code
def yX11_needReachedOrNothing : MethodName := ⟨RX11, "needReachedOrNothing", "(I)LCollectorHouse$Thing;"⟩
abbrev cX11_addObject : ByteArray := prog_1_method_37_code
def yX11_addObject : MethodName := ⟨RX11, "addObject", "(IIJI)I"⟩
abbrev cX11_changeRoot : ByteArray := prog_1_method_38_code
def yX11_changeRoot : MethodName := ⟨RX11, "changeRoot", "(LCollectorHouse$Collector;ILCollectorHouse$Thing;)LCollectorHouse$Thing;"⟩
def RX12 : String := "CollectorHouseModel"
def TX12 : u_T := fun k => match k with
  | 0 => ("CollectorHouseModel", "thrown", "I", false)
  | 1 => ("CollectorHouseModel", "tape", "[B", true)
  | 2 => ("CollectorHouseModel", "source", "[B", true)
  | 3 => ("CollectorHouseModel", "taped", "I", false)
  | 4 => ("CollectorHouseModel", "length", "I", false)
  | 5 => ("CollectorHouseModel", "kindWords", "[I", true)
  | 6 => ("CollectorHouseModel", "kindReferences", "[I", true)
  | 7 => ("CollectorHouseModel", "kinds", "I", false)
  | 8 => ("CollectorHouseModel", "isHeap", "Z", false)
  | 9 => ("CollectorHouseModel", "isPicture", "Z", false)
  | 10 => ("CollectorHouseModel", "policy", "I", false)
  | 11 => ("CollectorHouseModel", "room", "I", false)
  | 12 => ("CollectorHouseModel", "form", "I", false)
  | 13 => ("CollectorHouseModel", "young", "I", false)
  | 14 => ("CollectorHouseModel", "old", "I", false)
  | 15 => ("CollectorHouseModel", "age", "I", false)
  | 16 => ("CollectorHouseModel", "card", "I", false)
  | 17 => ("CollectorHouseModel", "rate", "I", false)
  | 18 => ("CollectorHouseModel", "size", "I", false)
  | 19 => ("CollectorHouseModel", "share", "I", false)
  | 20 => ("CollectorHouseModel", "newPolicy", "I", false)
  | 21 => ("CollectorHouseModel", "newRoom", "I", false)
  | 22 => ("CollectorHouseModel", "newForm", "I", false)
  | 23 => ("CollectorHouseModel", "newYoung", "I", false)
  | 24 => ("CollectorHouseModel", "newOld", "I", false)
  | 25 => ("CollectorHouseModel", "newAge", "I", false)
  | 26 => ("CollectorHouseModel", "newCard", "I", false)
  | 27 => ("CollectorHouseModel", "newRate", "I", false)
  | 28 => ("CollectorHouseModel", "newSize", "I", false)
  | 29 => ("CollectorHouseModel", "newShare", "I", false)
  | 30 => ("CollectorHouseModel", "newPicture", "Z", false)
  | 31 => ("CollectorHouseModel", "used", "[Z", true)
  | 32 => ("CollectorHouseModel", "number", "[I", true)
  | 33 => ("CollectorHouseModel", "kind", "[I", true)
  | 34 => ("CollectorHouseModel", "words", "[I", true)
  | 35 => ("CollectorHouseModel", "at", "[I", true)
  | 36 => ("CollectorHouseModel", "ages", "[I", true)
  | 37 => ("CollectorHouseModel", "count", "[I", true)
  | 38 => ("CollectorHouseModel", "colour", "[I", true)
  | 39 => ("CollectorHouseModel", "holds", "[I", true)
  | 40 => ("CollectorHouseModel", "word", "[I", true)
  | 41 => ("CollectorHouseModel", "wish", "[Z", true)
  | 42 => ("CollectorHouseModel", "kept", "[Z", true)
  | 43 => ("CollectorHouseModel", "owner", "[I", true)
  | 44 => ("CollectorHouseModel", "objects", "I", false)
  | 45 => ("CollectorHouseModel", "wordsThere", "I", false)
  | 46 => ("CollectorHouseModel", "numbers", "I", false)
  | 47 => ("CollectorHouseModel", "cleanings", "I", false)
  | 48 => ("CollectorHouseModel", "movedWords", "I", false)
  | 49 => ("CollectorHouseModel", "freedWords", "I", false)
  | 50 => ("CollectorHouseModel", "looked", "I", false)
  | 51 => ("CollectorHouseModel", "root", "[I", true)
  | 52 => ("CollectorHouseModel", "weak", "[I", true)
  | 53 => ("CollectorHouseModel", "wishes", "[I", true)
  | 54 => ("CollectorHouseModel", "grey", "[I", true)
  | 55 => ("CollectorHouseModel", "wishMany", "I", false)
  | 56 => ("CollectorHouseModel", "greyMany", "I", false)
  | 57 => ("CollectorHouseModel", "greyAt", "I", false)
  | 58 => ("CollectorHouseModel", "isMarking", "Z", false)
  | 59 => ("CollectorHouseModel", "top", "I", false)
  | 60 => ("CollectorHouseModel", "oldTop", "I", false)
  | 61 => ("CollectorHouseModel", "half", "I", false)
  | 62 => ("CollectorHouseModel", "lastEnd", "I", false)
  | 63 => ("CollectorHouseModel", "present", "I", false)
  | 64 => ("CollectorHouseModel", "regions", "I", false)
  | 65 => ("CollectorHouseModel", "regionTop", "[I", true)
  | 66 => ("CollectorHouseModel", "dirty", "[Z", true)
  | 67 => ("CollectorHouseModel", "readAt", "I", false)
  | 68 => ("CollectorHouseModel", "tokenAt", "I", false)
  | 69 => ("CollectorHouseModel", "tokenSize", "I", false)
  | 70 => ("CollectorHouseModel", "broken", "I", false)
  | 71 => ("CollectorHouseModel", "read", "I", false)
  | 72 => ("CollectorHouseModel", "stack", "[I", true)
  | 73 => ("CollectorHouseModel", "stacked", "I", false)
  | 74 => ("CollectorHouseModel", "came", "[I", true)
  | 75 => ("CollectorHouseModel", "cameMany", "I", false)
  | 76 => ("CollectorHouseModel", "cameAt", "I", false)
  | 77 => ("CollectorHouseModel", "to", "I", false)
  | 78 => ("CollectorHouseModel", "going", "[I", true)
  | 79 => ("CollectorHouseModel", "goingWord", "[I", true)
  | 80 => ("CollectorHouseModel", "goingMany", "I", false)
  | 81 => ("CollectorHouseModel", "keptWords", "[I", true)
  | 82 => ("CollectorHouseModel", "isHeld", "[Z", true)
  | 83 => ("CollectorHouseModel", "isDone", "[Z", true)
  | _ => ("CollectorHouseModel", "blockSize", "I", false)
def tyX12 : Nat → FieldType := fun k => match k with
  | 0 => .int
  | 1 => .array .byte
  | 2 => .array .byte
  | 3 => .int
  | 4 => .int
  | 5 => .array .int
  | 6 => .array .int
  | 7 => .int
  | 8 => .boolean
  | 9 => .boolean
  | 10 => .int
  | 11 => .int
  | 12 => .int
  | 13 => .int
  | 14 => .int
  | 15 => .int
  | 16 => .int
  | 17 => .int
  | 18 => .int
  | 19 => .int
  | 20 => .int
  | 21 => .int
  | 22 => .int
  | 23 => .int
  | 24 => .int
  | 25 => .int
  | 26 => .int
  | 27 => .int
  | 28 => .int
  | 29 => .int
  | 30 => .boolean
  | 31 => .array .boolean
  | 32 => .array .int
  | 33 => .array .int
  | 34 => .array .int
  | 35 => .array .int
  | 36 => .array .int
  | 37 => .array .int
  | 38 => .array .int
  | 39 => .array .int
  | 40 => .array .int
  | 41 => .array .boolean
  | 42 => .array .boolean
  | 43 => .array .int
  | 44 => .int
  | 45 => .int
  | 46 => .int
  | 47 => .int
  | 48 => .int
  | 49 => .int
  | 50 => .int
  | 51 => .array .int
  | 52 => .array .int
  | 53 => .array .int
  | 54 => .array .int
  | 55 => .int
  | 56 => .int
  | 57 => .int
  | 58 => .boolean
  | 59 => .int
  | 60 => .int
  | 61 => .int
  | 62 => .int
  | 63 => .int
  | 64 => .int
  | 65 => .array .int
  | 66 => .array .boolean
  | 67 => .int
  | 68 => .int
  | 69 => .int
  | 70 => .int
  | 71 => .int
  | 72 => .array .int
  | 73 => .int
  | 74 => .array .int
  | 75 => .int
  | 76 => .int
  | 77 => .int
  | 78 => .array .int
  | 79 => .array .int
  | 80 => .int
  | 81 => .array .int
  | 82 => .array .boolean
  | 83 => .array .boolean
  | _ => .int
theorem nmX12 : ∀ a, a < 85 → ∀ b, b < 85 → a ≠ b → (TX12 a).2.1 ≠ (TX12 b).2.1 := by decide +kernel
theorem tyX12_ok : ∀ k, k < 85 → parseFieldDescriptor (TX12 k).2.2.1 = some (tyX12 k) := by decide +kernel
abbrev cX12_thrown : ByteArray := prog_14_method_1_code
def yX12_thrown : MethodName := ⟨RX12, "thrown", "()I"⟩
abbrev cX12_fails : ByteArray := prog_14_method_2_code
def yX12_fails : MethodName := ⟨RX12, "fails", "(I)Z"⟩
abbrev cX12_init : ByteArray := prog_14_method_3_code
def yX12_init : MethodName := ⟨RX12, "<init>", "()V"⟩
abbrev cX12_feed : ByteArray := prog_14_method_4_code
def yX12_feed : MethodName := ⟨RX12, "feed", "(IIIII)I"⟩
abbrev cX12_four : ByteArray := prog_14_method_5_code
def yX12_four : MethodName := ⟨RX12, "four", "(I)V"⟩
abbrev cX12_end : ByteArray := prog_14_method_6_code
def yX12_end : MethodName := ⟨RX12, "end", "(I)I"⟩
abbrev cX12_kind : ByteArray := prog_14_method_7_code
def yX12_kind : MethodName := ⟨RX12, "kind", "(II)I"⟩
abbrev cX12_token : ByteArray := prog_14_method_8_code
def yX12_token : MethodName := ⟨RX12, "token", "()Z"⟩
abbrev cX12_wrong : ByteArray := prog_14_method_9_code
def yX12_wrong : MethodName := ⟨RX12, "wrong", "(I)Z"⟩
abbrev cX12_is : ByteArray := prog_14_method_10_code
def yX12_is : MethodName := ⟨RX12, "is", "(IIIIIII)Z"⟩
abbrev cX12_byteIs : ByteArray := prog_14_method_11_code
def yX12_byteIs : MethodName := ⟨RX12, "byteIs", "(II)Z"⟩
abbrev cX12_number : ByteArray := prog_14_method_12_code
def yX12_number : MethodName := ⟨RX12, "number", "(II)Z"⟩
abbrev cX12_form : ByteArray := prog_14_method_13_code
def yX12_form : MethodName := ⟨RX12, "form", "()Z"⟩
abbrev cX12_roomHere : ByteArray := prog_14_method_14_code
def yX12_roomHere : MethodName := ⟨RX12, "roomHere", "()Z"⟩
abbrev cX12_readPolicy : ByteArray := prog_14_method_15_code
def yX12_readPolicy : MethodName := ⟨RX12, "readPolicy", "()Z"⟩
abbrev cX12_heap : ByteArray := prog_14_method_16_code
def yX12_heap : MethodName := ⟨RX12, "heap", "()I"⟩
abbrev cX12_empty : ByteArray := prog_14_method_17_code
def yX12_empty : MethodName := ⟨RX12, "empty", "()V"⟩
abbrev cX12_sizeOf : ByteArray := prog_14_method_18_code
def yX12_sizeOf : MethodName := ⟨RX12, "sizeOf", "(I)I"⟩
abbrev cX12_isReference : ByteArray := prog_14_method_19_code
def yX12_isReference : MethodName := ⟨RX12, "isReference", "(II)Z"⟩
abbrev cX12_reference : ByteArray := prog_14_method_20_code
def yX12_reference : MethodName := ⟨RX12, "reference", "(II)I"⟩
abbrev cX12_isOld : ByteArray := prog_14_method_21_code
def yX12_isOld : MethodName := ⟨RX12, "isOld", "(I)Z"⟩
abbrev cX12_placeOf : ByteArray := prog_14_method_22_code
def yX12_placeOf : MethodName := ⟨RX12, "placeOf", "(I)I"⟩
abbrev cX12_keep : ByteArray := prog_14_method_23_code
def yX12_keep : MethodName := ⟨RX12, "keep", "(I)V"⟩
abbrev cX12_keepAll : ByteArray := prog_14_method_24_code
def yX12_keepAll : MethodName := ⟨RX12, "keepAll", "()V"⟩
abbrev cX12_keepNone : ByteArray := prog_14_method_25_code
def yX12_keepNone : MethodName := ⟨RX12, "keepNone", "()V"⟩
abbrev cX12_keepReached : ByteArray := prog_14_method_26_code
def yX12_keepReached : MethodName := ⟨RX12, "keepReached", "()V"⟩
abbrev cX12_reached : ByteArray := prog_14_method_27_code
def yX12_reached : MethodName := ⟨RX12, "reached", "(I)I"⟩
abbrev cX12_wisher : ByteArray := prog_14_method_28_code
def yX12_wisher : MethodName := ⟨RX12, "wisher", "(IZ)I"⟩
abbrev cX12_unweak : ByteArray := prog_14_method_29_code
def yX12_unweak : MethodName := ⟨RX12, "unweak", "(I)V"⟩
abbrev cX12_toWishes : ByteArray := prog_14_method_30_code
def yX12_toWishes : MethodName := ⟨RX12, "toWishes", "(I)V"⟩
abbrev cX12_grantAll : ByteArray := prog_14_method_31_code
def yX12_grantAll : MethodName := ⟨RX12, "grantAll", "()V"⟩
abbrev cX12_unweakRest : ByteArray := prog_14_method_32_code
def yX12_unweakRest : MethodName := ⟨RX12, "unweakRest", "()V"⟩
abbrev cX12_remove : ByteArray := prog_14_method_33_code
def yX12_remove : MethodName := ⟨RX12, "remove", "(I)V"⟩
abbrev cX12_removeRest : ByteArray := prog_14_method_34_code
def yX12_removeRest : MethodName := ⟨RX12, "removeRest", "()I"⟩
abbrev cX12_uncountKept : ByteArray := prog_14_method_35_code
def yX12_uncountKept : MethodName := ⟨RX12, "uncountKept", "(I)V"⟩
abbrev cX12_move : ByteArray := prog_14_method_36_code
def yX12_move : MethodName := ⟨RX12, "move", "(II)V"⟩
abbrev cX12_sweep : ByteArray := prog_14_method_37_code
def yX12_sweep : MethodName := ⟨RX12, "sweep", "()I"⟩
abbrev cX12_cleanSlide : ByteArray := prog_14_method_38_code
def yX12_cleanSlide : MethodName := ⟨RX12, "cleanSlide", "()I"⟩
abbrev cX12_slide : ByteArray := prog_14_method_39_code
def yX12_slide : MethodName := ⟨RX12, "slide", "(I)I"⟩
abbrev cX12_come : ByteArray := prog_14_method_40_code
def yX12_come : MethodName := ⟨RX12, "come", "(I)V"⟩
abbrev cX12_comeAll : ByteArray := prog_14_method_41_code
def yX12_comeAll : MethodName := ⟨RX12, "comeAll", "()V"⟩
abbrev cX12_comeWishers : ByteArray := prog_14_method_42_code
def yX12_comeWishers : MethodName := ⟨RX12, "comeWishers", "(Z)V"⟩
abbrev cX12_cleanHalves : ByteArray := prog_14_method_43_code
def yX12_cleanHalves : MethodName := ⟨RX12, "cleanHalves", "()I"⟩
abbrev cX12_cardOf : ByteArray := prog_14_method_44_code
def yX12_cardOf : MethodName := ⟨RX12, "cardOf", "(II)I"⟩
abbrev cX12_findDirty : ByteArray := prog_14_method_45_code
def yX12_findDirty : MethodName := ⟨RX12, "findDirty", "()V"⟩
abbrev cX12_major : ByteArray := prog_14_method_46_code
def yX12_major : MethodName := ⟨RX12, "major", "()I"⟩
abbrev cX12_isOldFull : ByteArray := prog_14_method_47_code
def yX12_isOldFull : MethodName := ⟨RX12, "isOldFull", "()Z"⟩
abbrev cX12_minor : ByteArray := prog_14_method_48_code
def yX12_minor : MethodName := ⟨RX12, "minor", "()I"⟩
abbrev cX12_comeDirty : ByteArray := prog_14_method_49_code
def yX12_comeDirty : MethodName := ⟨RX12, "comeDirty", "(I)V"⟩
abbrev cX12_more : ByteArray := prog_14_method_50_code
def yX12_more : MethodName := ⟨RX12, "more", "(I)V"⟩
abbrev cX12_less : ByteArray := prog_14_method_51_code
def yX12_less : MethodName := ⟨RX12, "less", "(I)V"⟩
abbrev cX12_fall : ByteArray := prog_14_method_52_code
def yX12_fall : MethodName := ⟨RX12, "fall", "(I)V"⟩
abbrev cX12_toGrey : ByteArray := prog_14_method_53_code
def yX12_toGrey : MethodName := ⟨RX12, "toGrey", "(I)V"⟩
abbrev cX12_greyRoots : ByteArray := prog_14_method_54_code
def yX12_greyRoots : MethodName := ⟨RX12, "greyRoots", "()V"⟩
abbrev cX12_beginMarking : ByteArray := prog_14_method_55_code
def yX12_beginMarking : MethodName := ⟨RX12, "beginMarking", "()V"⟩
abbrev cX12_steps : ByteArray := prog_14_method_56_code
def yX12_steps : MethodName := ⟨RX12, "steps", "(I)I"⟩
abbrev cX12_lookEmpty : ByteArray := prog_14_method_57_code
def yX12_lookEmpty : MethodName := ⟨RX12, "lookEmpty", "()I"⟩
abbrev cX12_finish : ByteArray := prog_14_method_58_code
def yX12_finish : MethodName := ⟨RX12, "finish", "()I"⟩
abbrev cX12_whole : ByteArray := prog_14_method_59_code
def yX12_whole : MethodName := ⟨RX12, "whole", "()I"⟩
abbrev cX12_changes : ByteArray := prog_14_method_60_code
def yX12_changes : MethodName := ⟨RX12, "changes", "(II)V"⟩
abbrev cX12_emptyRegions : ByteArray := prog_14_method_61_code
def yX12_emptyRegions : MethodName := ⟨RX12, "emptyRegions", "()I"⟩
abbrev cX12_leastEmpty : ByteArray := prog_14_method_62_code
def yX12_leastEmpty : MethodName := ⟨RX12, "leastEmpty", "()I"⟩
abbrev cX12_cleanRegions : ByteArray := prog_14_method_63_code
def yX12_cleanRegions : MethodName := ⟨RX12, "cleanRegions", "()I"⟩
abbrev cX12_sparse : ByteArray := prog_14_method_64_code
def yX12_sparse : MethodName := ⟨RX12, "sparse", "()I"⟩
abbrev cX12_blockFrom : ByteArray := prog_14_method_65_code
def yX12_blockFrom : MethodName := ⟨RX12, "blockFrom", "(II)I"⟩
abbrev cX12_firstFit : ByteArray := prog_14_method_66_code
def yX12_firstFit : MethodName := ⟨RX12, "firstFit", "(III)I"⟩
abbrev cX12_firstFitAhead : ByteArray := prog_14_method_67_code
def yX12_firstFitAhead : MethodName := ⟨RX12, "firstFitAhead", "(II)I"⟩
abbrev cX12_find : ByteArray := prog_14_method_68_code
def yX12_find : MethodName := ⟨RX12, "find", "(I)I"⟩
abbrev cX12_startOf : ByteArray := prog_14_method_69_code
def yX12_startOf : MethodName := ⟨RX12, "startOf", "(I)I"⟩
abbrev cX12_findInHalf : ByteArray := prog_14_method_70_code
def yX12_findInHalf : MethodName := ⟨RX12, "findInHalf", "(II)I"⟩
abbrev cX12_findByForm : ByteArray := prog_14_method_71_code
def yX12_findByForm : MethodName := ⟨RX12, "findByForm", "(I)I"⟩
abbrev cX12_freeWords : ByteArray := prog_14_method_72_code
def yX12_freeWords : MethodName := ⟨RX12, "freeWords", "()I"⟩
abbrev cX12_findInSteps : ByteArray := prog_14_method_73_code
def yX12_findInSteps : MethodName := ⟨RX12, "findInSteps", "(I)I"⟩
abbrev cX12_findInYoung : ByteArray := prog_14_method_74_code
def yX12_findInYoung : MethodName := ⟨RX12, "findInYoung", "(I)I"⟩
abbrev cX12_findInRegion : ByteArray := prog_14_method_75_code
def yX12_findInRegion : MethodName := ⟨RX12, "findInRegion", "(I)I"⟩
abbrev cX12_findInRegions : ByteArray := prog_14_method_76_code
def yX12_findInRegions : MethodName := ⟨RX12, "findInRegions", "(I)I"⟩
abbrev cX12_findRoom : ByteArray := prog_14_method_77_code
def yX12_findRoom : MethodName := ⟨RX12, "findRoom", "(I)I"⟩
abbrev cX12_fresh : ByteArray := prog_14_method_78_code
def yX12_fresh : MethodName := ⟨RX12, "fresh", "(III)I"⟩
abbrev cX12_setRoot : ByteArray := prog_14_method_79_code
def yX12_setRoot : MethodName := ⟨RX12, "setRoot", "(II)V"⟩
abbrev cX12_isNamed : ByteArray := prog_14_method_80_code
def yX12_isNamed : MethodName := ⟨RX12, "isNamed", "(I)Z"⟩
abbrev cX12_make : ByteArray := prog_14_method_81_code
def yX12_make : MethodName := ⟨RX12, "make", "(II)I"⟩
abbrev cX12_row : ByteArray := prog_14_method_82_code
def yX12_row : MethodName := ⟨RX12, "row", "(ZII)I"⟩
abbrev cX12_put : ByteArray := prog_14_method_83_code
def yX12_put : MethodName := ⟨RX12, "put", "(III)I"⟩
abbrev cX12_numberOf : ByteArray := prog_14_method_84_code
def yX12_numberOf : MethodName := ⟨RX12, "numberOf", "(I)I"⟩
abbrev cX12_link : ByteArray := prog_14_method_85_code
def yX12_link : MethodName := ⟨RX12, "link", "(III)I"⟩
abbrev cX12_get : ByteArray := prog_14_method_86_code
def yX12_get : MethodName := ⟨RX12, "get", "(II)I"⟩
abbrev cX12_root : ByteArray := prog_14_method_87_code
def yX12_root : MethodName := ⟨RX12, "root", "(II)I"⟩
abbrev cX12_weak : ByteArray := prog_14_method_88_code
def yX12_weak : MethodName := ⟨RX12, "weak", "(II)I"⟩
abbrev cX12_strong : ByteArray := prog_14_method_89_code
def yX12_strong : MethodName := ⟨RX12, "strong", "(II)I"⟩
abbrev cX12_hold : ByteArray := prog_14_method_90_code
def yX12_hold : MethodName := ⟨RX12, "hold", "(IZ)I"⟩
abbrev cX12_wish : ByteArray := prog_14_method_91_code
def yX12_wish : MethodName := ⟨RX12, "wish", "(I)I"⟩
abbrev cX12_granted : ByteArray := prog_14_method_92_code
def yX12_granted : MethodName := ⟨RX12, "granted", "(I)I"⟩
abbrev cX12_clean : ByteArray := prog_14_method_93_code
def yX12_clean : MethodName := ⟨RX12, "clean", "()I"⟩
abbrev cX12_step : ByteArray := prog_14_method_94_code
def yX12_step : MethodName := ⟨RX12, "step", "(I)I"⟩
abbrev cX12_about : ByteArray := prog_14_method_95_code
def yX12_about : MethodName := ⟨RX12, "about", "(II)I"⟩
abbrev cX12_block : ByteArray := prog_14_method_96_code
def yX12_block : MethodName := ⟨RX12, "block", "(II)I"⟩
abbrev cX12_dirtyCards : ByteArray := prog_14_method_97_code
def yX12_dirtyCards : MethodName := ⟨RX12, "dirtyCards", "()I"⟩
abbrev cX12_count : ByteArray := prog_14_method_98_code
def yX12_count : MethodName := ⟨RX12, "count", "(I)I"⟩
def RJx3273f : String := "java/lang/ClassCastException"
def TJx3273f : u_T := fun k => match k with
  | 0 => ("java/lang/Throwable", "cause", "Ljava/lang/Throwable;", false)
  | 1 => ("java/lang/Throwable", "stackTrace", "[Ljava/lang/StackTraceElement;", false)
  | 2 => ("java/lang/Throwable", "suppressedExceptions", "Ljava/util/List;", false)
  | 3 => ("java/lang/Throwable", "detailMessage", "Ljava/lang/String;", false)
  | 4 => ("java/lang/Throwable", "backtrace", "Ljava/lang/Object;", false)
  | _ => ("java/lang/Throwable", "depth", "I", false)
def RJ0 : String := "java/lang/String"
abbrev cJ0_length_8abf5 : ByteArray := prog_22_method_54_code
def yJ0_length_8abf5 : MethodName := ⟨RJ0, "length", "()I"⟩
abbrev cJ0_charAt_5068e : ByteArray := prog_22_method_56_code
def yJ0_charAt_5068e : MethodName := ⟨RJ0, "charAt", "(I)C"⟩
abbrev cJ0_coder_7d493 : ByteArray := prog_22_method_152_code
def yJ0_coder_7d493 : MethodName := ⟨RJ0, "coder", "()B"⟩
abbrev cJ0_isLatin1_aae02 : ByteArray := prog_22_method_154_code
def yJ0_isLatin1_aae02 : MethodName := ⟨RJ0, "isLatin1", "()Z"⟩
abbrev cJ0_checkIndex_df160 : ByteArray := prog_22_method_155_code
def yJ0_checkIndex_df160 : MethodName := ⟨RJ0, "checkIndex", "(II)V"⟩
def RJ1 : String := "java/lang/StringLatin1"
abbrev cJ1_charAt_3b067 : ByteArray := prog_23_method_2_code
def yJ1_charAt_3b067 : MethodName := ⟨RJ1, "charAt", "([BI)C"⟩
def RJ7 : String := "java/util/Arrays"
abbrev cJ7_fill_53178 : ByteArray := prog_28_method_103_code
def yJ7_fill_53178 : MethodName := ⟨RJ7, "fill", "([II)V"⟩
def RJ3 : String := "jdk/internal/util/Preconditions"
abbrev cJ3_checkIndex_8e157 : ByteArray := prog_30_method_11_code
def yJ3_checkIndex_8e157 : MethodName := ⟨RJ3, "checkIndex", "(IILjava/util/function/BiFunction;)I"⟩
abbrev vwCl : List vw_C := [(RJx3273f, TJx3273f, 6), (RX0, TX0, 10), (RX2, TX2, 8), (RX3, TX3, 5), (RX4, TX4, 9), (RX5, TX5, 4), (RX6, TX6, 9), (RX7, TX7, 13), (RX8, TX8, 5), (RX9, TX9, 9), (RX10, TX10, 6), (RX11, TX11, 12), (RX12, TX12, 85)]

