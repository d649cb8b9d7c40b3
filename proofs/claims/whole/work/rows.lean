section
/-! A METHOD THAT MAY END IN A THROW; a call of it; the throw of a new exception with a literal; its catch -/
section TX1
variable {l : Launch}
/-- what a method leaves, however it ends -/
def tx_E (st t : State) (L : List Loc) (k n : Nat) : Prop := st.WarmedH t.vm ∧ st.sameButNew ({ t with vm := st.vm } : State) L k n
def tx_Met (l : Launch) (y : MethodName) (ws : List Cond) (rm : Room) (Pc : Array Value → State → Prop) (Qc : Array Value → State → Outcome → State → Prop) (mc ms : Nat) (free : Addr → Prop) : Prop :=
  MetFree l y (headSpec ws rm) Pc (fun _ _ _ _ _ => True) (fun a st o t => Qc a st o t ∧ ∃ L, tx_E st t L mc ms ∧ ∀ q ∈ L, free q.base)
def tx_MQ (below : List Frame) (Qc : Array Value → State → Outcome → State → Prop) (a : Array Value) (s : State) (mc ms : Nat) (free : Addr → Prop) : State → Prop := fun t =>
  ∃ o, t.status = .running ∧ Ended t below o ∧ Qc a s o t ∧ ∃ L, tx_E s t L mc ms ∧ ∀ q ∈ L, free q.base
/-- a walk of the body gives the contract -/
theorem tx_ofW {y : MethodName} {ws ws' : List Cond} {rm : Room} {Pc : Array Value → State → Prop} {Qc : Array Value → State → Outcome → State → Prop} {mc ms : Nat} {free : Addr → Prop} {cc : ByteArray} {maxL : Nat} {ret : Option FieldType}
    (hy : plainName y.cls = true) (hw : ws = Cond.code y cc maxL ret :: ws')
    (body : ∀ p e s m args below meth c s₁, BodyLoose p l y (headSpec ws rm) cc maxL ret e s m args below meth c s₁ → c.maxLocals = maxL → (∀ z ∈ c.exceptionTable.toList, ∀ pc, covers z pc = false) → l.admits e → Pc args s →
      W p l e (headSpec ws rm).room s m args below meth c s.heap [] 0 0 (tx_MQ below Qc args s mc ms free) (entryFrame m args maxL)) : tx_Met l y ws rm Pc Qc mc ms free := by
  refine MetFree.of_bodyS (code := cc) (maxLocals := maxL) (ret := ret) hy ?_ ?_
  · intro args s m h hn
    obtain ⟨meth, c, h1, h2, h3, h4, h5, h6, -, -⟩ := Cond.code_spec hn (atoms_spec (ws := ws) h _ (by rw [hw]; exact List.mem_cons_self))
    exact ⟨meth, c, h1, h2, h3, h4, h5, h6⟩
  · intro p e s m args below meth c s₁ B hml hP _
    have hh0 : s₁.heap = s.heap := by rw [B.state]; rfl
    have X := Stand.of_body B
    obtain ⟨meth', c', g1, g2, -, -, -, -, hempty, -⟩ := Cond.code_spec B.named (atoms_spec (ws := ws) B.pre _ (by rw [hw]; exact List.mem_cons_self))
    have hcc : c' = c := by
      cases X.method.symm.trans g1
      exact Option.some.inj (g2.symm.trans X.code)
    subst hcc
    have h0 : c'.exceptionTable.toList = [] := List.eq_nil_of_length_eq_zero (by simpa [Array.isEmpty] using hempty)
    obtain ⟨t, a1, o, b1, b2, b3⟩ := body p e s m args below meth c' s₁ B hml (fun z hz => by rw [h0] at hz; cases hz) X.admits hP s₁ hh0 X
    exact ⟨t, o, a1, b1, b2, ⟨b3.1, b3.2⟩⟩
end TX1
section TX2
variable {p : Program} {l : Launch} {e : Env} {R : Room} {s : State} {m : MethodId} {args : Array Value} {below : List Frame} {meth : Method} {c : Code} {H : Heap} {locs : List Loc} {cells slots : Nat} {Q : State → Prop}
theorem tx_mono {Q' : State → Prop} {g : JFrame} (h : W p l e R s m args below meth c H locs cells slots Q g) (hq : ∀ t, Q t → Q' t) : W p l e R s m args below meth c H locs cells slots Q' g := by
  intro T hT X
  obtain ⟨t, a, b⟩ := h T hT X
  exact ⟨t, a, hq t b⟩
/-- a return of a method that might have thrown -/
theorem tx_ret {Qc : Array Value → State → Outcome → State → Prop} {mc ms : Nat} {free : Addr → Prop} {g : JFrame} (h : W p l e R s m args below meth c H locs cells slots (MQ below Qc args s mc ms free) g) : W p l e R s m args below meth c H locs cells slots (tx_MQ below Qc args s mc ms free) g :=
  tx_mono h (fun t ⟨o, h1, h2, h3, L, hF, hL⟩ => ⟨o, h1, h2, h3, L, ⟨hF.2.1, hF.2.2⟩, hL⟩)
/-- a Met of a method that never throws, where one that may throw is wanted -/
theorem tx_ofMet {y : MethodName} {ws : List Cond} {rm : Room} {Pc : Array Value → State → Prop} {Qc : Array Value → State → Outcome → State → Prop} {mc ms : Nat} {free : Addr → Prop} (h : Met l y ws rm Pc Qc mc ms free) : tx_Met l y ws rm Pc Qc mc ms free := by
  intro p e ha hc hk s m args below hf happ hP hK
  obtain ⟨n, o, h1, h2, h3, h4, L, hF, hL⟩ := h p e ha hc hk s m args below hf happ hP hK
  exact ⟨n, o, h1, h2, h3, h4, L, ⟨hF.2.1, hF.2.2⟩, hL⟩
/-- the machine with the note 'x is being thrown' over the frame g comes to a state with Q -/
def tx_WT (p : Program) (l : Launch) (e : Env) (R : Room) (s : State) (m : MethodId) (args : Array Value) (below : List Frame) (meth : Method) (c : Code) (H : Heap) (locs : List Loc) (cells slots : Nat) (Q : State → Prop) (g : JFrame) (x : Addr) : Prop :=
  ∀ T : State, T.heap = H → Stand p l e R s m args below meth c T locs cells slots → ∃ t, Steps p.tables e below ((T.setTop g).pushFrame (.throwing x)) t ∧ Q t
/-- no handler covers the place: the method ends so -/
theorem tx_leave {Qc : Array Value → State → Outcome → State → Prop} {free : Addr → Prop} {x : Addr} {g : JFrame} (hg : g.method = m) (hlocked : g.locked = none) (hentered : g.entered = []) (hlocks : meth.locks = false) (hout : ∀ z ∈ c.exceptionTable.toList, ∀ pc, covers z pc = false)
    (hq : ∀ t : State, t.heap = H → s.WarmedH t.vm → Qc args s (.threw x) t) (hf : ∀ q ∈ locs, free q.base) : tx_WT p l e R s m args below meth c H locs cells slots (tx_MQ below Qc args s cells slots free) g x := by
  intro T hT X
  obtain ⟨h1, h2, h3, h4, h5⟩ := X.leaveThrown x hg hlocked hentered (fun z hz => hout z hz g.pc) hlocks
  exact ⟨_, h1, _, h2, h3, hq _ hT h4, locs, ⟨h4, h5⟩, hf⟩
end TX2
end
section
/-! A CATCH, its class resolved already or not yet -/
section TX3
variable {e : Env} {s : State} {f : JFrame} {a : Addr}
theorem tx_go {E : CtlPost} {d : Bool} {acts : List Action} {Q : Handler → Pre} {x : ExceptionTableEntry} {t : List ExceptionTableEntry} {c : ClassId} {cell : Cell} {vm' : Vm} (hx : covers x f.pc = true) (h0 : x.catchType ≠ 0)
    (hg : (resolveClass f.method.cls x.catchType).Gives e.toSetting s.vm (.ok c) vm') (hsz : vm'.classes.size ≤ s.vm.classes.size) (hcell : s.heap[a]? = some cell) (hobj : ∀ k, cell.vm ≠ .statics k)
    (hk : ∃ k, vm'.classes[cell.cls]? = some k) (hc : ∃ k, vm'.classes[c]? = some k) :
    wp (findHandler.go f a (x :: t)) Q E e d acts s ↔ if vm'.assignable cell.cls c = true then Q (.found x.handlerPc) d acts (s.setVm vm') else wp (findHandler.go f a t) Q E e d acts (s.setVm vm') := by
  simp only [covers] at hx
  obtain ⟨ha, ht⟩ := hg.op (op := VmOp.resolveClass f.method.cls x.catchType) rfl
  cases hfit : vm'.assignable cell.cls c <;>
    simp [findHandler.go, hx, h0, ha, ht, hsz, hcell, hobj, hk, hc, hfit, VmOp.dirties, VmOp.acts]
/-- what the search gives, and the tables that it leaves -/
def tx_Finds (e : Env) (s : State) (f : JFrame) (a : Addr) (h : Handler) (vm' : Vm) : Prop :=
  ∀ (Q : Handler → Pre) (E : CtlPost) (d : Bool) (acts : List Action), wp (findHandler f a) Q E e d acts s ↔ Q h d acts (s.setVm vm')
theorem tx_stepCatch {r : List Frame} {pc : Nat} {vm' : Vm} (hfind : tx_Finds e s f a (.found pc) vm') :
    (stepThrowing e s a (.java f :: r)).Is ((s.setVm vm').setFrames (.java { f with pc := pc, stack := [.ref a] } :: r)) [] := by
  simp only [stepThrowing, searchFrame, vmDo]
  generalize hr : Sem.go _ e false [] s = res
  obtain ⟨as, rfl, ha⟩ := Sem.eq_ok_of hr (a := Handler.found pc) (s' := s.setVm vm') (acts' := []) (by simp [hfind _ _ _ _])
  exact ⟨rfl, ha⟩
theorem tx_caught {tb : Tables} {target : State} {g : JFrame} {c : Code} {below : List Frame} {vm' : Vm} (h : At s g.method c below) {pc : Nat} (hfind : tx_Finds e ((s.setTop g).pushFrame (.throwing a)) g a (.found pc) vm')
    (hrest : Steps tb e below ((s.setVm vm').setTop { g with pc := pc, stack := [.ref a] }) target) :
    Steps tb e below ((s.setTop g).pushFrame (.throwing a)) target := by
  obtain ⟨hgo, hw⟩ := h.throwing a
  refine Steps.head hgo hw ?_
  rw [stepThread_throwing (frames_entered h.top _), (tx_stepCatch (s := (s.setTop g).pushFrame (.throwing a)) hfind).1]
  obtain ⟨g₀, hg⟩ := Option.isSome_iff_exists.mp h.top
  obtain ⟨r, hr⟩ := State.topJava?_eq_some.mp hg
  have hr' : (s.setVm vm').frames = .java g₀ :: r := hr
  rw [State.setTop_of_frames _ hr'] at hrest
  rw [hr, State.pushFrame, State.setTop_of_frames _ hr, State.setFrames_setFrames]
  have e1 : ((s.setFrames (.throwing a :: (s.setFrames (.java g :: r)).frames)).setVm vm').setFrames (.java { g with pc := pc, stack := [.ref a] } :: r) = (s.setVm vm').setFrames (.java { g with pc := pc, stack := [.ref a] } :: r) := by
    rw [show (s.setFrames (.throwing a :: (s.setFrames (.java g :: r)).frames)).setVm vm' = (s.setVm vm').setFrames (.throwing a :: (s.setFrames (.java g :: r)).frames) from rfl, State.setFrames_setFrames]
  first
    | exact e1 ▸ hrest
    | (rw [e1]; exact hrest)
    | exact hrest
end TX3
section TX4
variable {p : Program} {l : Launch} {e : Env} {R : Room} {s : State} {m : MethodId} {args : Array Value} {below : List Frame} {meth : Method} {c : Code} {T : State} {locs : List Loc} {cells slots : Nat}
/-- a row's class, resolved from the point T with tables vm -/
theorem tx_link (hpl : e.platform.magicAccessors = ({} : Platform).magicAccessors) {vm : Vm} (hw : s.WarmedH vm) {own C : String} {ix : Nat} (hown : s.vm.findClass own = some m.cls) (hlink : (Cond.classLink own ix C).before args s = true) {cC : ClassId} (hC : s.vm.findClass C = some cC) :
    ∃ vm', s.WarmedH vm' ∧ (resolveClass m.cls ix).Gives e.toSetting vm (.ok cC) vm' ∧ vm'.classes.size ≤ vm.classes.size := by
  obtain ⟨c', hc', hcl⟩ := Cond.classLink_spec hown hlink e.platform hpl
  cases hC.symm.trans hc'
  obtain ⟨dk, _, _, kt, hd, _, _, _, _, hkt, _, hopen⟩ := hcl.here
  have hcl₀ := hw.classLinks hcl
  exact ⟨_, hw.noted hd hopen (State.rightAt_cls hcl), resolveClass_links e.toSetting hcl₀, Nat.le_of_eq (by rw [Vm.size_noted])⟩
theorem tx_catch1 (X : Stand p l e R s m args below meth c T locs cells slots) {own C : String} {ix hpc : Nat} {x : ExceptionTableEntry} {rest : List ExceptionTableEntry} {g : JFrame} (hg : g.method = m) (htab : c.exceptionTable.toList = x :: rest) (hcov : covers x g.pc = true) (hix : x.catchType = ix) (hne : ix ≠ 0) (hh : x.handlerPc = hpc)
    (hown : s.vm.findClass own = some m.cls) (hlink : (Cond.classLink own ix C).before args s = true) {a : Addr} {cell : Cell} (hcell : T.heap[a]? = some cell) (hobj : cell.vm.isStatics = false) (hcls : s.vm.findClass C = some cell.cls) (hself : s.vm.assignable cell.cls cell.cls = true) :
    ∃ vm', s.WarmedH vm' ∧ ∀ tg, Steps p.tables e below ((T.setVm vm').setTop { g with pc := hpc, stack := [.ref a] }) tg → Steps p.tables e below ((T.setTop g).pushFrame (.throwing a)) tg := by
  have hpl : e.platform.magicAccessors = ({} : Platform).magicAccessors := by rw [X.admits.platform]
  obtain ⟨vm', hW', hgv, hsz⟩ := tx_link (e := e) hpl X.warmed hown hlink hcls
  refine ⟨vm', hW', fun tg hrest => ?_⟩
  have h : At T g.method c below := by rw [hg]; exact X.here
  obtain ⟨k, hk⟩ := Vm.classAt_of_findClass hcls
  obtain ⟨k', hk', -⟩ := hW'.alike.2.2 _ _ hk
  refine tx_caught h (vm' := vm') (pc := hpc) ?_ hrest
  intro Q E d acts
  have hm : ((T.setTop g).pushFrame (.throwing a)).vm.method? g.method = some meth := by rw [throwing_vm, hg]; exact X.method'
  rw [Jvm.W.findHandler_eq hm X.code, htab]
  rw [tx_go (c := cell.cls) (cell := cell) (vm' := vm') hcov (by rw [hix]; exact hne) (by rw [hg, hix, throwing_vm]; exact hgv) (by rw [throwing_vm]; exact hsz) (by rw [throwing_heap]; exact hcell) (fun z h => by rw [h] at hobj; cases hobj) ⟨k', hk'⟩ ⟨k', hk'⟩]
  rw [if_pos (by rw [hW'.alike.assignable]; exact hself), hh]
theorem tx_catch2 (X : Stand p l e R s m args below meth c T locs cells slots) {own C C0 : String} {ix ix0 hpc : Nat} {x0 x : ExceptionTableEntry} {rest : List ExceptionTableEntry} {g : JFrame} (hg : g.method = m) (htab : c.exceptionTable.toList = x0 :: x :: rest) (hcov0 : covers x0 g.pc = true) (hix0 : x0.catchType = ix0) (hne0 : ix0 ≠ 0) (hcov : covers x g.pc = true) (hix : x.catchType = ix) (hne : ix ≠ 0) (hh : x.handlerPc = hpc)
    (hown : s.vm.findClass own = some m.cls) (hlink0 : (Cond.classLink own ix0 C0).before args s = true) (hlink : (Cond.classLink own ix C).before args s = true) {a : Addr} {cell : Cell} {c0 : ClassId} (hcell : T.heap[a]? = some cell) (hobj : cell.vm.isStatics = false) (hcls : s.vm.findClass C = some cell.cls) (hself : s.vm.assignable cell.cls cell.cls = true) (hcls0 : s.vm.findClass C0 = some c0) (hnot : s.vm.assignable cell.cls c0 = false) :
    ∃ vm', s.WarmedH vm' ∧ ∀ tg, Steps p.tables e below ((T.setVm vm').setTop { g with pc := hpc, stack := [.ref a] }) tg → Steps p.tables e below ((T.setTop g).pushFrame (.throwing a)) tg := by
  have hpl : e.platform.magicAccessors = ({} : Platform).magicAccessors := by rw [X.admits.platform]
  obtain ⟨vm0, hW0, hgv0, hsz0⟩ := tx_link (e := e) hpl X.warmed hown hlink0 hcls0
  obtain ⟨vm', hW', hgv, hsz⟩ := tx_link (e := e) hpl hW0 hown hlink hcls
  refine ⟨vm', hW', fun tg hrest => ?_⟩
  have h : At T g.method c below := by rw [hg]; exact X.here
  obtain ⟨k, hk⟩ := Vm.classAt_of_findClass hcls
  obtain ⟨k', hk', -⟩ := hW'.alike.2.2 _ _ hk
  obtain ⟨k1, hk1, -⟩ := hW0.alike.2.2 _ _ hk
  obtain ⟨j, hj⟩ := Vm.classAt_of_findClass hcls0
  obtain ⟨j1, hj1, -⟩ := hW0.alike.2.2 _ _ hj
  refine tx_caught h (vm' := vm') (pc := hpc) ?_ hrest
  intro Q E d acts
  have hm : ((T.setTop g).pushFrame (.throwing a)).vm.method? g.method = some meth := by rw [throwing_vm, hg]; exact X.method'
  rw [Jvm.W.findHandler_eq hm X.code, htab]
  rw [tx_go (c := c0) (cell := cell) (vm' := vm0) hcov0 (by rw [hix0]; exact hne0) (by rw [hg, hix0, throwing_vm]; exact hgv0) (by rw [throwing_vm]; exact hsz0) (by rw [throwing_heap]; exact hcell) (fun z h => by rw [h] at hobj; cases hobj) ⟨k1, hk1⟩ ⟨j1, hj1⟩]
  rw [if_neg (by rw [hW0.alike.assignable, hnot]; decide)]
  rw [tx_go (c := cell.cls) (cell := cell) (vm' := vm') hcov (by rw [hix]; exact hne) (by rw [hg, hix]; exact hgv) hsz (by
      have q : (((T.setTop g).pushFrame (.throwing a)).setVm vm0).heap = T.heap := throwing_heap T g a
      rw [q]; exact hcell) (fun z h => by rw [h] at hobj; cases hobj) ⟨k', hk'⟩ ⟨k', hk'⟩]
  rw [if_pos (by rw [hW'.alike.assignable]; exact hself), hh]
  exact Iff.rfl
end TX4
end
section
/-! A CALL OF A METHOD THAT MAY THROW; a throw of a new exception -/
section TX5
variable {p : Program} {l : Launch} {e : Env} {R : Room} {s : State} {m : MethodId} {args : Array Value} {below : List Frame} {meth : Method} {c : Code} {T : State} {locs : List Loc} {cells slots : Nat}
/-- where the caller stands behind the call: on, with the value; or with the note that x is thrown -/
def tx_on (p : Program) (e : Env) (below : List Frame) (S0 T' : State) (g : JFrame) (len : Nat) (o : Outcome) : Prop := match o with
  | .returned v => Steps p.tables e below S0 (T'.setTop { g with pc := g.pc + len, stack := v.toList ++ g.stack })
  | .threw x => Steps p.tables e below S0 ((T'.setTop g).pushFrame (.throwing x))
theorem tx_back (X : Stand p l e R s m args below meth c T locs cells slots) {y : MethodName} {ws : List Cond} {rm : Room} {Pc : Array Value → State → Prop} {Qc : Array Value → State → Outcome → State → Prop} {mc ms : Nat} {free : Addr → Prop} {bytes : ByteArray} {maxL : Nat} {ret : Option FieldType}
    (hM : tx_Met l y ws rm Pc Qc mc ms free) (hbl : FrameBlind Pc) (hrc : rm.cells = mc) (hrs : rm.slots = ms) (hframes : rm.frames + 1 ≤ R.frames) (hlocals : 8 + (maxL + 11) + rm.locals ≤ R.locals)
    (hws : ∀ w ∈ ws, ∀ (a' : Array Value) (U : State), s.WarmedH U.vm → w.before a' U = true) (hcode : Cond.code y bytes maxL ret ∈ ws) (hinit : ∀ (a' : Array Value) (U : State), s.WarmedH U.vm → (Cond.initialized y.cls).before a' U = true)
    (hf : cells + mc ≤ R.cells ∧ slots + ms ≤ R.slots) {g : JFrame} (hg : g.method = m) (hsize : g.locals.size = c.maxLocals) {ig : Instr} {len : Nat} (hdg : decode c.code g.pc = .ok (ig, len)) (hW : 2 * g.monitorRoom + (g.stack.map fun v => v.category).sum ≤ 8)
    {mk : MethodId} (hn : T.methodNamed? y = some mk) {a : Array Value} (hPc : Pc a T) :
    ∃ (o : Outcome) (t T' : State) (L : List Loc), Stand p l e R s m args below meth c T' (locs ++ L) (cells + mc) (slots + ms) ∧ (∀ q ∈ L, free q.base) ∧ T'.heap = t.heap ∧ T'.vm = t.vm ∧ Qc a (T.calling g mk a) o t ∧ tx_on p e below (doInvoke e (T.setTop g) [] mk a).1 T' g len o := by
  have h2 := hws _ hcode a T X.warmed
  obtain ⟨methY, cY, hmY, hcY, -, hlY, -, -, -, -⟩ := Cond.code_spec hn h2
  obtain ⟨kY, hkY, -⟩ := className_of_methodNamed hn
  have hinitY : kY.init = .initialized := Cond.initialized_spec (findClass_of_methodNamed hn) hkY (hinit a T X.warmed)
  have h : At T g.method c below := by rw [hg]; exact X.here
  have happ : (headSpec ws rm).appliesLoose y e.platform (T.calling g mk a) = true :=
    Spec.appliesLoose_calling (g := g) h hdg hn hkY hinitY
      (X.room_calling (g := g) (R' := (headSpec ws rm).room) hsize hmY hcY hframes (by rw [hlY]; show _ + rm.locals ≤ _; omega) (by rw [show (headSpec ws rm).room.cells = mc from hrc]; exact hf.1) (by rw [show (headSpec ws rm).room.slots = ms from hrs]; exact hf.2)) (atoms_intro fun w hw => hws w hw _ _ X.warmed)
  obtain ⟨mid, hmid⟩ := h.above
  have hfr : (T.setTop g).frames = (.java g :: mid) ++ below := by rw [State.frames_setTop' g h.top, hmid]; rfl
  obtain ⟨o, s₂, hsteps, -, hend, hq⟩ := Steps.callFree hM p X.admits X.cas X.clock (acts := []) hfr happ (hbl _ _ _ _ hPc) trivial
  have hq' : Qc a (T.calling g mk a) o s₂ ∧ ∃ L, tx_E (T.calling g mk a) s₂ L mc ms ∧ ∀ q ∈ L, free q.base := hq
  rw [State.frames_setTop' g h.top] at hend
  obtain ⟨hqc, L, ⟨hW₂, e2, q2, q3, q4, q5, q6⟩, hL⟩ := hq'
  have e3 : s₂ = ({ (T.calling g mk a).setFrames s₂.frames with heap := s₂.heap, slotsUsed := s₂.slotsUsed } : State).setVm s₂.vm := by
    have : s₂ = ({ s₂ with vm := (T.calling g mk a).vm } : State).setVm s₂.vm := rfl
    rw [e2] at this
    exact this
  have hW' : T.WarmedH s₂.vm := hW₂
  obtain ⟨g₀, hg0⟩ := Option.isSome_iff_exists.mp h.top
  obtain ⟨r, hr⟩ := State.topJava?_eq_some.mp hg0
  have hr' : (({ T with heap := s₂.heap, slotsUsed := s₂.slotsUsed } : State).setVm s₂.vm).frames = .java g₀ :: r := hr
  have hsame : T.sameButNew ({ T with heap := s₂.heap, slotsUsed := s₂.slotsUsed } : State) L mc ms := by
    refine ⟨?_, q2, q3, q4, q5, q6⟩
    obtain ⟨t, ht, -⟩ := State.frames_cons hr
    show ({ T with heap := s₂.heap, slotsUsed := s₂.slotsUsed } : State) = { T.setFrames T.frames with heap := s₂.heap, slotsUsed := s₂.slotsUsed }
    rw [State.setFrames_self ht]
  subst hg
  refine ⟨o, s₂, (({ T with heap := s₂.heap, slotsUsed := s₂.slotsUsed } : State).setVm s₂.vm), L,
    ⟨X.admits, X.cas, X.clock, X.frames, X.room, X.hears, X.method, X.code, (X.here.setHeapUsed s₂.heap s₂.slotsUsed).setVm hW'.alike, X.tail, State.WarmedH.trans X.warmed hW', X.limits, X.bytes, X.same.trans (hsame.setVm s.vm)⟩, hL, rfl, rfl, hqc, ?_⟩
  cases o with
  | returned v =>
    obtain ⟨c₂, i₂, len₂, hc₂, hd₂, hf₂⟩ := hend
    have hcc : c₂ = c := by
      have h1 : s₂.code? g.method = T.code? g.method := by
        rw [State.code?_eq, State.code?_eq, hW'.alike.method?]
      exact Option.some.inj (hc₂.symm.trans (h1.trans h.code))
    subst hcc
    have hlen : len₂ = len := by rw [hdg] at hd₂; cases hd₂; rfl
    subst hlen
    have hs₂ : s₂ = (({ T with heap := s₂.heap, slotsUsed := s₂.slotsUsed } : State).setVm s₂.vm).setTop { g with pc := g.pc + len₂, stack := v.toList ++ g.stack } := by
      refine e3.trans ?_
      rw [hf₂, State.calling_eq h.top, State.setFrames_setFrames, State.setTop_of_frames _ hr', hr]
      rfl
    show Steps p.tables e below _ ((({ T with heap := s₂.heap, slotsUsed := s₂.slotsUsed } : State).setVm s₂.vm).setTop { g with pc := g.pc + len₂, stack := v.toList ++ g.stack })
    rw [← hs₂]
    exact hsteps
  | threw x =>
    have hf₂ : s₂.frames = .throwing x :: .java g :: T.frames.tail := hend
    have hs₂ : s₂ = ((({ T with heap := s₂.heap, slotsUsed := s₂.slotsUsed } : State).setVm s₂.vm).setTop g).pushFrame (.throwing x) := by
      refine e3.trans ?_
      rw [hf₂, State.calling_eq h.top, State.setFrames_setFrames, State.pushFrame, State.frames_setTop _ hr', State.setTop_of_frames _ hr', State.setFrames_setFrames, hr]
      rfl
    show Steps p.tables e below _ (((({ T with heap := s₂.heap, slotsUsed := s₂.slotsUsed } : State).setVm s₂.vm).setTop g).pushFrame (.throwing x))
    rw [← hs₂]
    exact hsteps
end TX5
section TX6
variable {p : Program} {l : Launch} {e : Env} {R : Room} {s : State} {m : MethodId} {args : Array Value} {below : List Frame} {meth : Method} {c : Code} {H : Heap} {locs : List Loc} {cells slots : Nat} {Q : State → Prop}
def tx_Run (p : Program) (l : Launch) (e : Env) (R : Room) (s : State) (m : MethodId) (args : Array Value) (below : List Frame) (meth : Method) (c : Code) (H : Heap) (locs : List Loc) (cells slots mc ms : Nat) (g : JFrame) (rest : List Value) (Qa : State → Outcome → State → Prop) (free : Addr → Prop) : Prop :=
  ∀ T : State, T.heap = H → Stand p l e R s m args below meth c T locs cells slots → ∃ (o : Outcome) (st₀ t T' : State) (L : List Loc), st₀.heap = H ∧ Stand p l e R s m args below meth c T' (locs ++ L) (cells + mc) (slots + ms) ∧ (∀ q ∈ L, free q.base) ∧ T'.heap = t.heap ∧ T'.vm = t.vm ∧ Qa st₀ o t ∧ tx_on p e below (T.setTop g) T' { g with stack := rest } 3 o
variable {y : MethodName} {bytes cc : ByteArray} {maxL nL mc ms n index : Nat} {ret : Option FieldType} {ws : List Cond} {rm : Room} {Pc : Array Value → State → Prop} {Qc : Array Value → State → Outcome → State → Prop} {free : Addr → Prop} {Ts : List Cond} {own C : String} {b : Addr} {As rest : List Value} {g : JFrame}
theorem tx_on.head {S0 S1 T' : State} {len : Nat} {o : Outcome} (h : tx_on p e below S1 T' g len o) (hs : ∀ tg, Steps p.tables e below S1 tg → Steps p.tables e below S0 tg) : tx_on p e below S0 T' g len o := by
  cases o with
  | returned v => exact hs _ h
  | threw x => exact hs _ h
theorem tx_runV (S : CallFix p m c cc nL s args Ts own) (hM : tx_Met l y ws rm Pc Qc mc ms free) (cw : CallW R s args own C index y bytes maxL ret ws rm mc ms n) (hp : PreV s H C b Pc As)
    (hg : g.method = m) (hn : As.length = n) (hsize : g.locals.size = nL) (hstack : g.stack = As.reverse ++ .ref b :: rest) (hW : 2 * g.monitorRoom + (rest.map fun v => v.category).sum ≤ 8) (hdg : decode cc g.pc = .ok (.invokevirtual index, 3)) (hf : cells + mc ≤ R.cells ∧ slots + ms ≤ R.slots) :
    tx_Run p l e R s m args below meth c H locs cells slots mc ms g rest (Qc (Value.ref b :: As).toArray) (free) := by
  obtain ⟨⟨hrc, hrs, hfr, hlo, hws, hcw, hcode, hini, hy, hlen, hl⟩, hinst, hsel⟩ := cw
  obtain ⟨hx, hb, hml, ho, -⟩ := S
  obtain ⟨hbl, ⟨cellB, hcB, hoB, hclB⟩, hPc⟩ := hp
  intro T hT X
  obtain ⟨mk, methM, hnamed, hmethM, hstM, habM⟩ := Cond.instanceMethod_spec hinst
  obtain ⟨methM', cM, hmethM', -, -, -, -, -, -, hsigM⟩ := Cond.code_spec hnamed hcode
  cases hmethM.symm.trans hmethM'
  obtain ⟨c2, r2, m2, q1, q2, q3, q4, kP, hkP, hkPi⟩ := Cond.selects_spec hsel
  cases hclB.symm.trans q1
  cases (State.methodFound?_of_named hnamed hy).symm.trans q2
  cases hnamed.symm.trans q3
  have hselP : selectMethod e.platform s.vm cellB.cls mk = .method mk := by rw [Launch.admits_selectMethod X.admits]; exact q4
  obtain ⟨vm₁, X₁, hstep₁⟩ := X.invokevirtual hx ho hl hnamed hmethM hstM hkP hkPi hy (a := b) (cell := cellB) (by rw [hT]; exact hcB)
    (fun z h => by rw [h] at hoB; cases hoB) hselP hmethM habM hkP hkPi (g := g) hg (argsL := As) (rest := rest) (hn.trans (hlen _ hsigM)) hstack (by rw [hb]; exact hdg)
  obtain ⟨o, t, T', L, X', hL, e1, e2, hq, hon⟩ := tx_back (g := { g with stack := rest }) X₁ hM hbl hrc hrs hfr hlo hws hcw (fun a' U hW => word_at hW (Or.inl (by first | rfl | simp [Cond.onTables, Cond.keeps, Cond.steady])) hini) hf hg (hsize.trans hml.symm) (by rw [hb]; exact hdg) hW (X₁.named hnamed) (hPc (T.setVm vm₁) hT X₁.warmed)
  exact ⟨o, (T.setVm vm₁).calling { g with stack := rest } mk (Value.ref b :: As).toArray, t, T', L, hT, X', hL, e1, e2, hq, hon.head (fun tg h => hstep₁ _ fun acts => by rw [doInvoke_state]; exact h)⟩
/-- an exception of class X: what a catch asks of it -/
def tx_X (X : String) (x : Addr) (U : State) (H : Heap) : Prop := ∃ ce : Cell, H[x]? = some ce ∧ ce.vm.isStatics = false ∧ U.vm.findClass X = some ce.cls ∧ U.vm.assignable ce.cls ce.cls = true
theorem tx_X.moved {X : String} {x : Addr} {u U : State} {H : Heap} (hvm : u.vm.Alike U.vm) (h : tx_X X x u H) : tx_X X x U H := by
  obtain ⟨ce, h1, h2, h3, h4⟩ := h
  exact ⟨ce, h1, h2, by rw [hvm.findClass]; exact h3, by rw [hvm.assignable]; exact h4⟩
/-- an end with a value, or with an exception -/
def tx_Q (post : Option Value → Prop) (exc : String → Prop) (A : Nat → Prop) : Array Value → State → Outcome → State → Prop := fun _ st o t =>
  ((∃ v, o = .returned v ∧ post v) ∨ ∃ (x : Addr) (X : String), o = .threw x ∧ exc X ∧ tx_X X x t t.heap) ∧ va_F A st t
variable {pc : Nat} {ls : Array Slot} {st0 : List Value} {a : Array Value} {A0 A1 : Nat → Prop} {H0 : Heap}
theorem tx_call {post : Option Value → Prop} {exc : String → Prop} (hr : tx_Run p l e R s m args below meth c H locs cells slots mc ms (F0 m pc ls st0) rest (tx_Q post exc A1 a) free) (hS : va_S A0 H0 H locs) (hA : ∀ q, q < H.size → A1 q → A0 q) (hf : ∀ q, free q → A0 q)
    (kr : ∀ (v : Option Value) (H1 : Heap) (locs1 : List Loc), post v → H.size ≤ H1.size → (∀ q : Nat, q < H.size → ¬ A1 q → H1[q]? = H[q]?) → va_S A0 H0 H1 locs1 → W p l e R s m args below meth c H1 locs1 (cells + mc) (slots + ms) Q (F0 m (pc + 3) ls (v.toList ++ rest)))
    (kx : ∀ (x : Addr) (X : String) (H1 : Heap) (locs1 : List Loc), exc X → tx_X X x s H1 → H.size ≤ H1.size → (∀ q : Nat, q < H.size → ¬ A1 q → H1[q]? = H[q]?) → va_S A0 H0 H1 locs1 → tx_WT p l e R s m args below meth c H1 locs1 (cells + mc) (slots + ms) Q (F0 m pc ls rest) x) : W p l e R s m args below meth c H locs cells slots Q (F0 m pc ls st0) := by
  intro T hT X
  obtain ⟨o, st₀, t, T', L, h0, X', hL, e1, e2, ⟨ho, hz, hk⟩, hon⟩ := hr T hT X
  rw [h0] at hz hk
  have hz' : H.size ≤ T'.heap.size := by rw [e1]; exact hz
  have hk' : ∀ q : Nat, q < H.size → ¬ A1 q → T'.heap[q]? = H[q]? := fun q h1 h2 => by rw [e1]; exact hk q h1 h2
  have hS' : va_S A0 H0 T'.heap (locs ++ L) := ⟨Nat.le_trans hS.1 hz', fun q h1 h2 => by rw [hk' q (Nat.lt_of_lt_of_le h1 hS.1) (fun z => h2 (hA q (Nat.lt_of_lt_of_le h1 hS.1) z))]; exact hS.2.1 q h1 h2, fun q hq => by
      rcases List.mem_append.mp hq with h | h
      · exact hS.2.2 q h
      · exact hf _ (hL q h)⟩
  rcases ho with ⟨v, rfl, hp⟩ | ⟨x, E, rfl, hp, hx⟩
  · obtain ⟨t2, a1, b1⟩ := kr v T'.heap (locs ++ L) hp hz' hk' hS' T' rfl X'
    exact ⟨t2, Steps.trans hon a1, b1⟩
  · obtain ⟨t2, a1, b1⟩ := kx x E T'.heap (locs ++ L) hp (by rw [e1]; exact tx_X.moved (by rw [← e2]; exact X'.warmed.alike.symm) hx) hz' hk' hS' T' rfl X'
    exact ⟨t2, Steps.trans hon a1, b1⟩
end TX6
end
section
-- ===== PART A: goes FIRST, ahead of the names: the tables' words, and 'selects' of the private methods out of them =====
/-- a private method of a class that the tables say can be made, by its rows of tables_1 -/
def lw_okq (q : MethodName × Nat) : Prop := (q.1.cls ≠ "java/lang/invoke/MethodHandle" ∧ q.1.cls ≠ "java/lang/invoke/VarHandle") ∧ Cond.instantiable q.1.cls q.2 ∈ tables_1 ∧ Cond.privateMethod q.1 ∈ tables_1 ∧ Cond.instanceMethod q.1 ∈ tables_1
theorem lw_p0 : lw_okq (⟨"java/lang/Throwable", "fillInStackTrace", "(I)Ljava/lang/Throwable;"⟩, 6) := ⟨⟨by decide +kernel, by decide +kernel⟩, List.mem_of_getElem? (i := 363) (by decide +kernel), List.mem_of_getElem? (i := 361) (by decide +kernel), List.mem_of_getElem? (i := 362) (by decide +kernel)⟩
theorem lw_p1 : lw_okq (⟨"TreeMatcher$Parts", "addPart", "(II)I"⟩, 6) := ⟨⟨by decide +kernel, by decide +kernel⟩, List.mem_of_getElem? (i := 52) (by decide +kernel), List.mem_of_getElem? (i := 479) (by decide +kernel), List.mem_of_getElem? (i := 480) (by decide +kernel)⟩
theorem lw_p2 : lw_okq (⟨"TreeMatcher$Forest", "isFree", "(I)Z"⟩, 14) := ⟨⟨by decide +kernel, by decide +kernel⟩, List.mem_of_getElem? (i := 125) (by decide +kernel), List.mem_of_getElem? (i := 500) (by decide +kernel), List.mem_of_getElem? (i := 501) (by decide +kernel)⟩
theorem lw_p3 : lw_okq (⟨"TreeMatcher$Forest", "adopt", "(I)I"⟩, 14) := ⟨⟨by decide +kernel, by decide +kernel⟩, List.mem_of_getElem? (i := 125) (by decide +kernel), List.mem_of_getElem? (i := 511) (by decide +kernel), List.mem_of_getElem? (i := 512) (by decide +kernel)⟩
theorem lw_p4 : lw_okq (⟨"TreeMatcher$Vectors", "compose", "(III)J"⟩, 8) := ⟨⟨by decide +kernel, by decide +kernel⟩, List.mem_of_getElem? (i := 149) (by decide +kernel), List.mem_of_getElem? (i := 519) (by decide +kernel), List.mem_of_getElem? (i := 520) (by decide +kernel)⟩
theorem lw_p5 : lw_okq (⟨"TreeMatcher$Vectors", "entry", "(II)J"⟩, 8) := ⟨⟨by decide +kernel, by decide +kernel⟩, List.mem_of_getElem? (i := 149) (by decide +kernel), List.mem_of_getElem? (i := 540) (by decide +kernel), List.mem_of_getElem? (i := 541) (by decide +kernel)⟩
theorem lw_p6 : lw_okq (⟨"TreeMatcher$Vectors", "subtract", "(IJ)V"⟩, 8) := ⟨⟨by decide +kernel, by decide +kernel⟩, List.mem_of_getElem? (i := 149) (by decide +kernel), List.mem_of_getElem? (i := 556) (by decide +kernel), List.mem_of_getElem? (i := 557) (by decide +kernel)⟩
theorem lw_p7 : lw_okq (⟨"TreeMatcher$Vectors", "isFresh", "(II)Z"⟩, 8) := ⟨⟨by decide +kernel, by decide +kernel⟩, List.mem_of_getElem? (i := 149) (by decide +kernel), List.mem_of_getElem? (i := 560) (by decide +kernel), List.mem_of_getElem? (i := 561) (by decide +kernel)⟩
theorem lw_p8 : lw_okq (⟨"TreeMatcher$Vectors", "keep", "(II)I"⟩, 8) := ⟨⟨by decide +kernel, by decide +kernel⟩, List.mem_of_getElem? (i := 149) (by decide +kernel), List.mem_of_getElem? (i := 564) (by decide +kernel), List.mem_of_getElem? (i := 565) (by decide +kernel)⟩
theorem lw_p9 : lw_okq (⟨"TreeMatcher$Vectors", "fill", "([JI)V"⟩, 8) := ⟨⟨by decide +kernel, by decide +kernel⟩, List.mem_of_getElem? (i := 149) (by decide +kernel), List.mem_of_getElem? (i := 572) (by decide +kernel), List.mem_of_getElem? (i := 573) (by decide +kernel)⟩
theorem lw_p10 : lw_okq (⟨"TreeMatcher$Forest", "label", "(I)V"⟩, 14) := ⟨⟨by decide +kernel, by decide +kernel⟩, List.mem_of_getElem? (i := 125) (by decide +kernel), List.mem_of_getElem? (i := 615) (by decide +kernel), List.mem_of_getElem? (i := 616) (by decide +kernel)⟩
theorem lw_p11 : lw_okq (⟨"TreeMatcher$Forest", "fit", "(II)I"⟩, 14) := ⟨⟨by decide +kernel, by decide +kernel⟩, List.mem_of_getElem? (i := 125) (by decide +kernel), List.mem_of_getElem? (i := 624) (by decide +kernel), List.mem_of_getElem? (i := 625) (by decide +kernel)⟩
theorem lw_p12 : lw_okq (⟨"TreeMatcher", "checkLabel", "(II)V"⟩, 4) := ⟨⟨by decide +kernel, by decide +kernel⟩, List.mem_of_getElem? (i := 21) (by decide +kernel), List.mem_of_getElem? (i := 662) (by decide +kernel), List.mem_of_getElem? (i := 663) (by decide +kernel)⟩
theorem lw_p13 : lw_okq (⟨"TreeMatcher$Covering", "push", "(I)V"⟩, 7) := ⟨⟨by decide +kernel, by decide +kernel⟩, List.mem_of_getElem? (i := 235) (by decide +kernel), List.mem_of_getElem? (i := 709) (by decide +kernel), List.mem_of_getElem? (i := 710) (by decide +kernel)⟩
theorem lw_p14 : lw_okq (⟨"TreeMatcher$Covering", "pushKids", "(I)V"⟩, 7) := ⟨⟨by decide +kernel, by decide +kernel⟩, List.mem_of_getElem? (i := 235) (by decide +kernel), List.mem_of_getElem? (i := 713) (by decide +kernel), List.mem_of_getElem? (i := 714) (by decide +kernel)⟩
theorem lw_p15 : lw_okq (⟨"TreeMatcher$Tally", "putAbove", "(II)V"⟩, 4) := ⟨⟨by decide +kernel, by decide +kernel⟩, List.mem_of_getElem? (i := 263) (by decide +kernel), List.mem_of_getElem? (i := 775) (by decide +kernel), List.mem_of_getElem? (i := 776) (by decide +kernel)⟩
def lw_privs_1 : List (MethodName × Nat) := [(⟨"java/lang/Throwable", "fillInStackTrace", "(I)Ljava/lang/Throwable;"⟩, 6), (⟨"TreeMatcher$Parts", "addPart", "(II)I"⟩, 6), (⟨"TreeMatcher$Forest", "isFree", "(I)Z"⟩, 14), (⟨"TreeMatcher$Forest", "adopt", "(I)I"⟩, 14), (⟨"TreeMatcher$Vectors", "compose", "(III)J"⟩, 8), (⟨"TreeMatcher$Vectors", "entry", "(II)J"⟩, 8), (⟨"TreeMatcher$Vectors", "subtract", "(IJ)V"⟩, 8), (⟨"TreeMatcher$Vectors", "isFresh", "(II)Z"⟩, 8), (⟨"TreeMatcher$Vectors", "keep", "(II)I"⟩, 8), (⟨"TreeMatcher$Vectors", "fill", "([JI)V"⟩, 8), (⟨"TreeMatcher$Forest", "label", "(I)V"⟩, 14), (⟨"TreeMatcher$Forest", "fit", "(II)I"⟩, 14), (⟨"TreeMatcher", "checkLabel", "(II)V"⟩, 4), (⟨"TreeMatcher$Covering", "push", "(I)V"⟩, 7), (⟨"TreeMatcher$Covering", "pushKids", "(I)V"⟩, 7), (⟨"TreeMatcher$Tally", "putAbove", "(II)V"⟩, 4)]
theorem lw_r1 : ∀ q ∈ lw_privs_1, lw_okq q := List.forall_mem_cons.mpr ⟨lw_p0, List.forall_mem_cons.mpr ⟨lw_p1, List.forall_mem_cons.mpr ⟨lw_p2, List.forall_mem_cons.mpr ⟨lw_p3, List.forall_mem_cons.mpr ⟨lw_p4, List.forall_mem_cons.mpr ⟨lw_p5, List.forall_mem_cons.mpr ⟨lw_p6, List.forall_mem_cons.mpr ⟨lw_p7, List.forall_mem_cons.mpr ⟨lw_p8, List.forall_mem_cons.mpr ⟨lw_p9, List.forall_mem_cons.mpr ⟨lw_p10, List.forall_mem_cons.mpr ⟨lw_p11, List.forall_mem_cons.mpr ⟨lw_p12, List.forall_mem_cons.mpr ⟨lw_p13, List.forall_mem_cons.mpr ⟨lw_p14, List.forall_mem_cons.mpr ⟨lw_p15, fun _ h => absurd h List.not_mem_nil⟩⟩⟩⟩⟩⟩⟩⟩⟩⟩⟩⟩⟩⟩⟩⟩
theorem lw_p16 : lw_okq (⟨"TreeMatcherModel", "fail", "(I)I"⟩, 42) := ⟨⟨by decide +kernel, by decide +kernel⟩, List.mem_of_getElem? (i := 810) (by decide +kernel), List.mem_of_getElem? (i := 956) (by decide +kernel), List.mem_of_getElem? (i := 957) (by decide +kernel)⟩
theorem lw_p17 : lw_okq (⟨"TreeMatcherModel", "isPattern", "()Z"⟩, 42) := ⟨⟨by decide +kernel, by decide +kernel⟩, List.mem_of_getElem? (i := 810) (by decide +kernel), List.mem_of_getElem? (i := 968) (by decide +kernel), List.mem_of_getElem? (i := 969) (by decide +kernel)⟩
theorem lw_p18 : lw_okq (⟨"TreeMatcherModel", "isFree", "(I)Z"⟩, 42) := ⟨⟨by decide +kernel, by decide +kernel⟩, List.mem_of_getElem? (i := 810) (by decide +kernel), List.mem_of_getElem? (i := 976) (by decide +kernel), List.mem_of_getElem? (i := 977) (by decide +kernel)⟩
theorem lw_p19 : lw_okq (⟨"TreeMatcherModel", "isChain", "(I)Z"⟩, 42) := ⟨⟨by decide +kernel, by decide +kernel⟩, List.mem_of_getElem? (i := 810) (by decide +kernel), List.mem_of_getElem? (i := 980) (by decide +kernel), List.mem_of_getElem? (i := 981) (by decide +kernel)⟩
theorem lw_p20 : lw_okq (⟨"TreeMatcherModel", "fits", "(II)I"⟩, 42) := ⟨⟨by decide +kernel, by decide +kernel⟩, List.mem_of_getElem? (i := 810) (by decide +kernel), List.mem_of_getElem? (i := 984) (by decide +kernel), List.mem_of_getElem? (i := 985) (by decide +kernel)⟩
theorem lw_p21 : lw_okq (⟨"TreeMatcherModel", "lay", "(II)Z"⟩, 42) := ⟨⟨by decide +kernel, by decide +kernel⟩, List.mem_of_getElem? (i := 810) (by decide +kernel), List.mem_of_getElem? (i := 988) (by decide +kernel), List.mem_of_getElem? (i := 989) (by decide +kernel)⟩
theorem lw_p22 : lw_okq (⟨"TreeMatcherModel", "close", "([II[III)V"⟩, 42) := ⟨⟨by decide +kernel, by decide +kernel⟩, List.mem_of_getElem? (i := 810) (by decide +kernel), List.mem_of_getElem? (i := 992) (by decide +kernel), List.mem_of_getElem? (i := 993) (by decide +kernel)⟩
theorem lw_p23 : lw_okq (⟨"TreeMatcherModel", "findParts", "()V"⟩, 42) := ⟨⟨by decide +kernel, by decide +kernel⟩, List.mem_of_getElem? (i := 810) (by decide +kernel), List.mem_of_getElem? (i := 1018) (by decide +kernel), List.mem_of_getElem? (i := 1019) (by decide +kernel)⟩
theorem lw_p24 : lw_okq (⟨"TreeMatcherModel", "partAt", "(II)I"⟩, 42) := ⟨⟨by decide +kernel, by decide +kernel⟩, List.mem_of_getElem? (i := 810) (by decide +kernel), List.mem_of_getElem? (i := 1022) (by decide +kernel), List.mem_of_getElem? (i := 1023) (by decide +kernel)⟩
theorem lw_p25 : lw_okq (⟨"TreeMatcherModel", "sizeFrom", "(II)I"⟩, 42) := ⟨⟨by decide +kernel, by decide +kernel⟩, List.mem_of_getElem? (i := 810) (by decide +kernel), List.mem_of_getElem? (i := 1026) (by decide +kernel), List.mem_of_getElem? (i := 1027) (by decide +kernel)⟩
theorem lw_p26 : lw_okq (⟨"TreeMatcherModel", "make", "([III[III)V"⟩, 42) := ⟨⟨by decide +kernel, by decide +kernel⟩, List.mem_of_getElem? (i := 810) (by decide +kernel), List.mem_of_getElem? (i := 1030) (by decide +kernel), List.mem_of_getElem? (i := 1031) (by decide +kernel)⟩
theorem lw_p27 : lw_okq (⟨"TreeMatcherModel", "isNew", "()Z"⟩, 42) := ⟨⟨by decide +kernel, by decide +kernel⟩, List.mem_of_getElem? (i := 810) (by decide +kernel), List.mem_of_getElem? (i := 1034) (by decide +kernel), List.mem_of_getElem? (i := 1035) (by decide +kernel)⟩
def lw_privs_2 : List (MethodName × Nat) := [(⟨"TreeMatcherModel", "fail", "(I)I"⟩, 42), (⟨"TreeMatcherModel", "isPattern", "()Z"⟩, 42), (⟨"TreeMatcherModel", "isFree", "(I)Z"⟩, 42), (⟨"TreeMatcherModel", "isChain", "(I)Z"⟩, 42), (⟨"TreeMatcherModel", "fits", "(II)I"⟩, 42), (⟨"TreeMatcherModel", "lay", "(II)Z"⟩, 42), (⟨"TreeMatcherModel", "close", "([II[III)V"⟩, 42), (⟨"TreeMatcherModel", "findParts", "()V"⟩, 42), (⟨"TreeMatcherModel", "partAt", "(II)I"⟩, 42), (⟨"TreeMatcherModel", "sizeFrom", "(II)I"⟩, 42), (⟨"TreeMatcherModel", "make", "([III[III)V"⟩, 42), (⟨"TreeMatcherModel", "isNew", "()Z"⟩, 42)]
theorem lw_r2 : ∀ q ∈ lw_privs_2, lw_okq q := List.forall_mem_cons.mpr ⟨lw_p16, List.forall_mem_cons.mpr ⟨lw_p17, List.forall_mem_cons.mpr ⟨lw_p18, List.forall_mem_cons.mpr ⟨lw_p19, List.forall_mem_cons.mpr ⟨lw_p20, List.forall_mem_cons.mpr ⟨lw_p21, List.forall_mem_cons.mpr ⟨lw_p22, List.forall_mem_cons.mpr ⟨lw_p23, List.forall_mem_cons.mpr ⟨lw_p24, List.forall_mem_cons.mpr ⟨lw_p25, List.forall_mem_cons.mpr ⟨lw_p26, List.forall_mem_cons.mpr ⟨lw_p27, fun _ h => absurd h List.not_mem_nil⟩⟩⟩⟩⟩⟩⟩⟩⟩⟩⟩⟩
def lw_privs : List (MethodName × Nat) := lw_privs_1 ++ (lw_privs_2)
def lw_tbl : List Cond := k2_sels lw_privs ++ tables_1
theorem lw_privs_ok : ∀ q ∈ lw_privs, lw_okq q := by
  show ∀ q ∈ lw_privs_1 ++ (lw_privs_2), lw_okq q
  exact List.forall_mem_append.mpr ⟨lw_r1, lw_r2⟩

/-- the words that a callee takes over as they stand -/
def gw : List Cond := lw_tbl.filter goodWord
theorem gw_of {w : Cond} (h : w ∈ tables_1) (hg : goodWord w = true) : w ∈ gw := List.mem_filter.mpr ⟨List.mem_append_right _ h, hg⟩
theorem gw_sel {w : Cond} (h : w ∈ k2_sels lw_privs) (hg : goodWord w = true) : w ∈ gw := List.mem_filter.mpr ⟨List.mem_append_left _ h, hg⟩
theorem gw_in {w : Cond} (h : w ∈ gw) : w ∈ lw_tbl := (List.mem_filter.mp h).1
theorem gw_ok {w : Cond} (h : w ∈ gw) : (w.onTables && w.keeps) = true ∨ ∃ ty, w = .arrayClass ty := good_of_word (List.mem_filter.mp h).2
theorem gw_gi {w : Cond} (h : w ∈ gw) : GoodIn gw (w :: gw) := fun v hv => (List.mem_cons.mp hv).elim (fun e => by rw [e]; exact ⟨h, gw_ok h⟩) (fun h => ⟨h, gw_ok h⟩)
theorem gw_giV {w w1 w2 w3 w4 : Cond} (h : w ∈ gw) (h1 : w1 ∈ gw) (h2 : w2 ∈ gw) (h3 : w3 ∈ gw) (h4 : w4 ∈ gw) : GoodIn gw (([w1, w2, w3, w4] : List Cond) ++ (w :: gw)) := fun v hv => by
  rcases List.mem_append.mp hv with hv | hv
  · rcases List.mem_cons.mp hv with e | hv
    · rw [e]; exact ⟨h1, gw_ok h1⟩
    rcases List.mem_cons.mp hv with e | hv
    · rw [e]; exact ⟨h2, gw_ok h2⟩
    rcases List.mem_cons.mp hv with e | hv
    · rw [e]; exact ⟨h3, gw_ok h3⟩
    rcases List.mem_cons.mp hv with e | hv
    · rw [e]; exact ⟨h4, gw_ok h4⟩
    cases hv
  · exact gw_gi h v hv
theorem gw_giS {w w1 w2 w3 : Cond} (h : w ∈ gw) (h1 : w1 ∈ gw) (h2 : w2 ∈ gw) (h3 : w3 ∈ gw) : GoodIn gw (([w1, w2, w3] : List Cond) ++ (w :: gw)) := fun v hv => by
  rcases List.mem_append.mp hv with hv | hv
  · rcases List.mem_cons.mp hv with e | hv
    · rw [e]; exact ⟨h1, gw_ok h1⟩
    rcases List.mem_cons.mp hv with e | hv
    · rw [e]; exact ⟨h2, gw_ok h2⟩
    rcases List.mem_cons.mp hv with e | hv
    · rw [e]; exact ⟨h3, gw_ok h3⟩
    cases hv
  · exact gw_gi h v hv
end
section
/-! STATICS THAT HOLD REFERENCES; THE THROW OF A NEW EXCEPTION -/
section TX7
def tx_Zs (C n d : String) (A : Nat → Prop) (U : State) (H : Heap) : Prop := ∃ (c : ClassId) (k : Class) (i : Nat) (f : Field) (a : Nat) (cell : Cell) (v : Value), U.vm.findClass C = some c ∧ U.fieldFound? C n d = some (c, k, i, f) ∧ f.isStatic = true ∧ k.statics = some a ∧ H[a]? = some cell ∧ cell.vm.isStatics = true ∧ cell.cls = c ∧ f.slot < cell.slots.size ∧ k.staticTypes[f.slot]? = some f.type ∧ cell.slots[f.slot]? = some v ∧ v.isRef = true ∧ ¬ A a
theorem tx_Zs.moved {C n d : String} {A : Nat → Prop} {u U : State} {H : Heap} (hvm : u.vm.Alike U.vm) (h : tx_Zs C n d A u H) : tx_Zs C n d A U H := by
  obtain ⟨c, k, i, f, a, cell, v, h0, h1, h2, h3, h4, h5, h6, h7, h8, h9⟩ := h
  obtain ⟨k', hi', he⟩ := State.fieldFound?_setVm hvm h1
  exact ⟨c, k', i, f, a, cell, v, by rw [hvm.findClass]; exact h0, hi', h2, by rw [he]; exact h3, h4, h5, h6, h7, by rw [he]; exact h8, h9⟩
theorem tx_Zs.kept {C n d : String} {A : Nat → Prop} {U : State} {H H1 : Heap} (h : tx_Zs C n d A U H) (hq : ∀ a : Nat, a < H.size → ¬ A a → H1[a]? = H[a]?) : tx_Zs C n d A U H1 := by
  obtain ⟨c, k, i, f, a, cell, v, h0, h1, h2, h3, h4, h5, h6, h7, h8, h9, h10, h11⟩ := h
  exact ⟨c, k, i, f, a, cell, v, h0, h1, h2, h3, by rw [hq a (Array.getElem?_eq_some_iff.mp h4).1 h11]; exact h4, h5, h6, h7, h8, h9, h10, h11⟩
theorem tx_Zs.narrow {C n d : String} {A B : Nat → Prop} {U : State} {H : Heap} (h : tx_Zs C n d A U H) (hAB : ∀ q, B q → A q) : tx_Zs C n d B U H := by
  obtain ⟨c, k, i, f, a, cell, v, h0, h1, h2, h3, h4, h5, h6, h7, h8, h9, h10, h11⟩ := h
  exact ⟨c, k, i, f, a, cell, v, h0, h1, h2, h3, h4, h5, h6, h7, h8, h9, h10, fun z => h11 (hAB a z)⟩
theorem tx_Zs.of {args : Array Value} {s : State} {C n d : String} {A : Nat → Prop} (hl : (Cond.laysStatic C n d).before args s = true) (hr : (Cond.isRef (.static C n d)).before args s = true) (hA : ∀ a : Nat, a < s.heap.size → ¬ A a) : tx_Zs C n d A s s.heap := by
  obtain ⟨c, k, i, f, a, cell, hc, hi, hst, ha, hcell, hs, hcls, hlt, hty⟩ := Cond.laysStatic_spec hl
  cases hv : (Term.static C n d).eval args s none [] s with
  | none => simp [Cond.before, Cond.holds, Cond.value, hv] at hr
  | some w =>
    obtain ⟨-, a', cell', ha', hcell', -, hslot⟩ := Term.static_spec hi hv
    cases ha.symm.trans ha'
    cases hcell.symm.trans hcell'
    refine ⟨c, k, i, f, a, cell, w, hc, hi, hst, ha, hcell, hs, hcls, hlt, hty, hslot, ?_, hA a (Array.getElem?_eq_some_iff.mp hcell).1⟩
    simp only [Cond.before, Cond.holds, Cond.value, hv] at hr
    cases w <;> first | rfl | (simp at hr)
theorem tx_Zs.lays {C n d : String} {A : Nat → Prop} {s : State} (h : tx_Zs C n d A s s.heap) (args : Array Value) : (Cond.laysStatic C n d).before args s = true := by
  obtain ⟨c, k, i, f, a, cell, v, h0, h1, h2, h3, h4, h5, h6, h7, h8, h9, h10, h11⟩ := h
  exact Cond.laysStatic_of h0 h1 h2 h3 h4 h5 h6 h7 h8
theorem tx_Zs.ref {C n d : String} {A : Nat → Prop} {s : State} (h : tx_Zs C n d A s s.heap) (args : Array Value) : (Cond.isRef (.static C n d)).before args s = true := by
  obtain ⟨c, k, i, f, a, cell, v, h0, h1, h2, h3, h4, h5, h6, h7, h8, h9, h10, h11⟩ := h
  have hv := Term.static_eval (args := args) (first := s) (o := none) (idx := []) h1 h2 h3 h4 h5 h9
  simp only [Cond.before, Cond.holds, Cond.value, hv]
  cases v <;> first | rfl | (cases h10)
/-- an old cell of which no slot was freed stays -/
theorem tx_kept {s s' : State} {locs : List Loc} {k n : Nat} (h : s.sameButNew s' locs k n) {A : Nat → Prop} (hl : ∀ x ∈ locs, A x.base) : ∀ q : Nat, q < s.heap.size → ¬ A q → s'.heap[q]? = s.heap[q]? := by
  intro q hq hA
  have hc : s.heap[q]? = some s.heap[q] := Array.getElem?_eq_getElem hq
  obtain ⟨c', h1, h2, h3, h4⟩ := h.2.2.2.2.2 q _ hc
  have hs : c'.slots = (s.heap[q]).slots := by
    apply Array.ext_getElem?
    intro i
    exact h4 i (fun hm => hA (hl _ hm))
  rw [h1, hc]
  rw [h2, hs]
end TX7
section TX8
variable {p : Program} {l : Launch} {e : Env} {R : Room} {s : State} {m : MethodId} {args : Array Value} {below : List Frame} {meth : Method} {c : Code} {H : Heap} {locs : List Loc} {cells slots : Nat}
variable {cc : ByteArray} {pc : Nat} {ls : Array Slot} {rest : List Value} {A : Nat → Prop}
theorem tx_noTrace (ha : l.admits e) (hf : l.flags = flags0) : e.platform.stackTraces = false := by
  rw [ha.platform]
  show l.stackTraces = false
  unfold Launch.stackTraces
  rw [hf]
  decide +kernel
set_option maxHeartbeats 1000000 in
theorem tx_throwNew (hexec : p.tables.exec = Jvm.exec) (hb : c.code = cc) (hlf : l.flags = flags0) (hout : ∀ z ∈ c.exceptionTable.toList, ∀ pc, covers z pc = false) (hlocks : meth.locks = false) {own X : String} {names : List String} {ia ib ic : Nat} (hown : s.vm.findClass own = some m.cls)
    (hcl : (Cond.classLink own ia X).before args s = true) (hinst : (Cond.instantiable X 6).before args s = true) (hini : (Cond.initialized X).before args s = true) (hat : ∀ a ∈ Bundle.ownAtoms own ic X names, a.before args s = true) (hfit : Bundle.fit X = true) (hnames : ∀ n ∈ names, Bundle.fit n = true)
    {tx : String} {q : Nat} (hstr : vk_R own ib tx q s) (hloc : ∀ x ∈ locs, ∀ cell, s.heap[x.base]? = some cell → cell.vm.isStatics = false) (hls : ls.size = c.maxLocals) (hS : va_S A s.heap H locs)
    (hR : names.length + 3 < R.frames) (hRl : (rest.map fun v => v.category).sum + 13 * (names.length + 1) + 43 ≤ R.locals) (hcells : cells + 1 ≤ R.cells) (hslots : slots + 6 ≤ R.slots)
    (d0 : decode cc pc = .ok (.new ia, 3)) (d3 : decode cc (pc + 3) = .ok (.dup, 1)) (d4 : decode cc (pc + 3 + 1) = .ok (.ldc ib, 2)) (d6 : decode cc (pc + 3 + 1 + 2) = .ok (.invokespecial ic, 3)) (d9 : decode cc (pc + 3 + 1 + 2 + 3) = .ok (.athrow, 1))
    {post : Option Value → Prop} {exc : String → Prop} (hexc : exc X) :
    W p l e R s m args below meth c H locs cells slots (tx_MQ below (tx_Q post exc A) args s (cells + 1) (slots + 6) A) (F0 m pc ls rest) := by
  obtain ⟨cX, kX0, hcX, hkX0, -⟩ := Cond.instantiable_spec hinst
  refine W.newcK hexec hb hown hcl hinst hini rfl d0 hcells hslots hcX rfl fun H1 kC hkC e1 z1 o1 => ?_
  refine lv_dup hexec hb d3 rfl ?_
  refine va_ldcS hexec hb hown hstr d4 ?_
  intro T hT X0
  obtain ⟨U, st, h1, h2, h3, h4, ce, hce, hoc⟩ := X0.ctorThrowS hexec (tx_noTrace X0.admits hlf) (ic := ic) hown hfit hnames hat hloc hcX hkC (a := H.size) (by rw [hT]; exact e1) hS.1 (msg := .ref q) rfl
    (g := F0 m (pc + 3 + 1 + 2) ls (.ref q :: .ref H.size :: .ref H.size :: rest)) rfl hls rfl rfl (rest := rest) rfl (by rw [hb]; exact d6) (by rw [hb]; exact d9) (fun z hz => hout z hz _) hR (by
      have hm : (F0 m (pc + 3 + 1 + 2) ls (.ref q :: .ref H.size :: .ref H.size :: rest)).monitorRoom = 0 := rfl
      rw [hm]
      have hc1 : (Value.ref H.size).category = 1 := rfl
      simp only [List.map_cons, List.sum_cons, hc1]
      omega) hlocks
  refine ⟨U, st, .threw H.size, h1, h2, ⟨Or.inr ⟨H.size, X, rfl, hexc, ce, hce, ?_, ?_, ?_⟩, ?_, ?_⟩, locs, ⟨h3, h4⟩, hS.2.2⟩
  · rw [hoc.vm]; rfl
  · rw [h3.alike.findClass]; exact hoc.cls
  · rw [h3.alike.assignable]; exact hoc.self
  · exact h4.2.1
  · exact tx_kept h4 hS.2.2
end TX8
end
section
/-! WHAT HOLDS AT EVERY POINT BESIDE THE CELLS: links between nest mates, texts, two statics of Throwable -/
abbrev tx_n1 : Cond := .methodLinkNest "TreeMatcher$Grammar" 61 ⟨"TreeMatcher$Parts", "<init>", "()V"⟩ "TreeMatcher"
abbrev tx_n2 : Cond := .methodLinkNest "TreeMatcher$Grammar" 72 ⟨"TreeMatcher", "isWithin", "(II)Z"⟩ "TreeMatcher"
def tx_N (U : State) : Prop := va_Nw tx_n1 U ∧ va_Nw tx_n2 U
theorem tx_N.warm {s U : State} (hW : s.WarmedH U.vm) (h : tx_N s) : tx_N U := ⟨va_Nw.warmM hW h.1, va_Nw.warmM hW h.2⟩
theorem tx_N.same {u U : State} (hv : u.vm = U.vm) (h : tx_N u) : tx_N U := ⟨va_Nw.same rfl hv h.1, va_Nw.same rfl hv h.2⟩
def tx_Str (U : State) : Prop := (∃ q : Nat, vk_R "TreeMatcher" 47 "no number of an operator, or of kids" q U) ∧ (∃ q : Nat, vk_R "TreeMatcher" 65 "no element" q U) ∧ (∃ q : Nat, vk_R "TreeMatcher" 92 "no rule" q U) ∧ (∃ q : Nat, vk_R "TreeMatcher" 102 "no such operator, or a kid is not so" q U) ∧ (∃ q : Nat, vk_R "TreeMatcher" 168 "no such node or nonterminal" q U) ∧ (∃ q : Nat, vk_R "TreeMatcher" 130 "no such pair, or what" q U) ∧ (∃ q : Nat, vk_R "TreeMatcher" 150 "no such node" q U) ∧ (∃ q : Nat, vk_R "TreeMatcher" 166 "nothing to count" q U)
theorem tx_Str.warm {s U : State} (hW : s.WarmedH U.vm) (h : tx_Str s) : tx_Str U := by
  obtain ⟨⟨q0, h0⟩, ⟨q1, h1⟩, ⟨q2, h2⟩, ⟨q3, h3⟩, ⟨q4, h4⟩, ⟨q5, h5⟩, ⟨q6, h6⟩, ⟨q7, h7⟩⟩ := h
  exact ⟨⟨q0, h0.warm hW⟩, ⟨q1, h1.warm hW⟩, ⟨q2, h2.warm hW⟩, ⟨q3, h3.warm hW⟩, ⟨q4, h4.warm hW⟩, ⟨q5, h5.warm hW⟩, ⟨q6, h6.warm hW⟩, ⟨q7, h7.warm hW⟩⟩
theorem tx_Str.same {u U : State} (hv : U.vm = u.vm) (h : tx_Str u) : tx_Str U := by
  obtain ⟨⟨q0, h0⟩, ⟨q1, h1⟩, ⟨q2, h2⟩, ⟨q3, h3⟩, ⟨q4, h4⟩, ⟨q5, h5⟩, ⟨q6, h6⟩, ⟨q7, h7⟩⟩ := h
  exact ⟨⟨q0, vk_R.same hv h0⟩, ⟨q1, vk_R.same hv h1⟩, ⟨q2, vk_R.same hv h2⟩, ⟨q3, vk_R.same hv h3⟩, ⟨q4, vk_R.same hv h4⟩, ⟨q5, vk_R.same hv h5⟩, ⟨q6, vk_R.same hv h6⟩, ⟨q7, vk_R.same hv h7⟩⟩
theorem tx_str47 {U : State} (h : tx_Str U) : ∃ q : Nat, vk_R "TreeMatcher" 47 "no number of an operator, or of kids" q U := h.1
theorem tx_str65 {U : State} (h : tx_Str U) : ∃ q : Nat, vk_R "TreeMatcher" 65 "no element" q U := h.2.1
theorem tx_str92 {U : State} (h : tx_Str U) : ∃ q : Nat, vk_R "TreeMatcher" 92 "no rule" q U := h.2.2.1
theorem tx_str102 {U : State} (h : tx_Str U) : ∃ q : Nat, vk_R "TreeMatcher" 102 "no such operator, or a kid is not so" q U := h.2.2.2.1
theorem tx_str168 {U : State} (h : tx_Str U) : ∃ q : Nat, vk_R "TreeMatcher" 168 "no such node or nonterminal" q U := h.2.2.2.2.1
theorem tx_str130 {U : State} (h : tx_Str U) : ∃ q : Nat, vk_R "TreeMatcher" 130 "no such pair, or what" q U := h.2.2.2.2.2.1
theorem tx_str150 {U : State} (h : tx_Str U) : ∃ q : Nat, vk_R "TreeMatcher" 150 "no such node" q U := h.2.2.2.2.2.2.1
theorem tx_str166 {U : State} (h : tx_Str U) : ∃ q : Nat, vk_R "TreeMatcher" 166 "nothing to count" q U := h.2.2.2.2.2.2.2
theorem tx_tr {c : Cond} {u U : State} (hc : c.onTables = true) (h : c.before #[] (u.setVm U.vm) = true) : c.before #[] U = true := by
  have e := Cond.onTables_vm (A := #[]) (A' := #[]) (U := u) (U' := U) U.vm c hc
  have hU : U.setVm U.vm = U := rfl
  rw [hU] at e
  rw [← e]
  exact h
theorem tx_decl {x : MethodName} {u U : State} (hvm : u.vm.Alike U.vm) (h : va_Nw (.declares x) u) : va_Nw (.declares x) U := tx_tr (u := u) rfl (by rw [Cond.declares_setVm hvm]; exact h)
theorem tx_cast {x y : String} {u U : State} (hvm : u.vm.Alike U.vm) (h : va_Nw (.castable x y) u) : va_Nw (.castable x y) U := tx_tr (u := u) rfl (by rw [Cond.castable_setVm hvm]; exact h)
abbrev tx_dl : List Cond := [.declares (Bundle.initS "java/lang/RuntimeException"), .declares (Bundle.initS "java/lang/Exception"), .declares (Bundle.initS "java/lang/Throwable"), .castable "java/lang/IllegalArgumentException" "java/lang/IllegalArgumentException", .castable "java/lang/IndexOutOfBoundsException" "java/lang/IndexOutOfBoundsException"]
def tx_D (U : State) : Prop := va_Nw (.declares (Bundle.initS "java/lang/RuntimeException")) U ∧ va_Nw (.declares (Bundle.initS "java/lang/Exception")) U ∧ va_Nw (.declares (Bundle.initS "java/lang/Throwable")) U ∧ va_Nw (.castable "java/lang/IllegalArgumentException" "java/lang/IllegalArgumentException") U ∧ va_Nw (.castable "java/lang/IndexOutOfBoundsException" "java/lang/IndexOutOfBoundsException") U
theorem tx_D.moved {u U : State} (hvm : u.vm.Alike U.vm) (h : tx_D u) : tx_D U := ⟨tx_decl hvm h.1, tx_decl hvm h.2.1, tx_decl hvm h.2.2.1, tx_cast hvm h.2.2.2.1, tx_cast hvm h.2.2.2.2⟩
theorem tx_D.use {U : State} (h : tx_D U) (args : Array Value) : ∀ a ∈ tx_dl, a.before args U = true := by
  intro a ha
  rcases List.mem_cons.mp ha with rfl | ha
  · exact va_Nw.use rfl h.1
  rcases List.mem_cons.mp ha with rfl | ha
  · exact va_Nw.use rfl h.2.1
  rcases List.mem_cons.mp ha with rfl | ha
  · exact va_Nw.use rfl h.2.2.1
  rcases List.mem_cons.mp ha with rfl | ha
  · exact va_Nw.use rfl h.2.2.2.1
  rcases List.mem_cons.mp ha with rfl | ha
  · exact va_Nw.use rfl h.2.2.2.2
  cases ha
def tx_Th (A : Nat → Prop) (U : State) (H : Heap) : Prop := tx_Zs Bundle.tN "UNASSIGNED_STACK" Bundle.steD A U H ∧ tx_Zs Bundle.tN "SUPPRESSED_SENTINEL" Bundle.listD A U H
def tx_G (A : Nat → Prop) (U : State) : Prop := tx_N U ∧ tx_Str U ∧ tx_D U ∧ tx_Th A U U.heap
theorem tx_G.to {A B : Nat → Prop} {s U : State} (h : tx_G A s) (hW : s.WarmedH U.vm) (hq : ∀ a : Nat, a < s.heap.size → ¬ A a → U.heap[a]? = s.heap[a]?) (hAB : ∀ q, B q → A q) : tx_G B U :=
  ⟨h.1.warm hW, h.2.1.warm hW, h.2.2.1.moved hW.alike, ((h.2.2.2.1.kept hq).moved hW.alike).narrow hAB, ((h.2.2.2.2.kept hq).moved hW.alike).narrow hAB⟩
theorem tx_G.same {A : Nat → Prop} {u U : State} (hv : U.vm = u.vm) (hh : U.heap = u.heap) (h : tx_G A u) : tx_G A U :=
  ⟨h.1.same hv.symm, h.2.1.same hv, h.2.2.1.moved (by rw [hv]; exact Vm.Alike.refl _), by rw [hh]; exact ⟨h.2.2.2.1.moved (by rw [hv]; exact Vm.Alike.refl _), h.2.2.2.2.moved (by rw [hv]; exact Vm.Alike.refl _)⟩⟩
/-! a callee that writes nothing old -/
theorem tx_pA {sz q : Nat} (h1 : q < sz) (h : va_A [] sz q) : False := by
  rcases h with ⟨k, e, h⟩ | h
  · simp at h
  · omega
theorem tx_pF {A0 : Nat → Prop} {H0 H : Heap} {locs : List Loc} (hS : va_S A0 H0 H locs) (hA : ∀ q, H0.size ≤ q → A0 q) : ∀ q, va_A [] H.size q → A0 q := by
  intro q h
  rcases h with ⟨k, e, h⟩ | h
  · simp at h
  · exact hA q (Nat.le_trans hS.1 h)
theorem tx_keep {D : va_G} {cl : List vw_C} {ws : va_W} {H H1 : Heap} (hP : va_P D cl ws H) (hk : ∀ q : Nat, q < H.size → ¬ va_A [] H.size q → H1[q]? = H[q]?) : va_P D cl ws H1 :=
  hP.kept (fun k q hq => hk q.1 ((hP k q hq).lt) (fun h => tx_pA ((hP k q hq).lt) h))
/-- behind a callee that wrote some cells of which nothing more is wanted: the rest -/
theorem tx_rest {A0 : Nat → Prop} {D : va_G} {cl : List vw_C} {ws wc wr : va_W} {H H1 : Heap} (hP : va_P D cl ws H) (hD : va_D A0 ws) (isC isR : List Nat) (hC : isC.map (fun i => ws[i]?) = wc.map some) (hR : isR.map (fun i => ws[i]?) = wr.map some) (hn : va_nd isR = true) (hdis : ∀ i ∈ isR, i ∉ isC)
    (hk : ∀ q : Nat, q < H.size → ¬ va_A wc H.size q → H1[q]? = H[q]?) (hF : ∀ q, va_A wc H.size q → A0 q) : va_P D cl wr H1 ∧ va_D A0 wr := by
  have h := va_join (w1 := []) hP hD isC isR hC hR hn hdis hk hF (fun k q h => by simp at h) ⟨fun i j p q h => by simp at h, fun k q h => by simp at h⟩
  rw [List.append_nil] at h
  exact h
/-- an old cell that a walk has written is no statics -/
theorem tx_loc {D : va_G} {cl : List vw_C} {ws : va_W} {s : State} {H : Heap} {locs : List Loc} (hP : va_P D cl ws s.heap) (hS : va_S (va_A ws s.heap.size) s.heap H locs) : ∀ x ∈ locs, ∀ cell, s.heap[x.base]? = some cell → cell.vm.isStatics = false := by
  intro x hx cell hc
  rcases hS.2.2 x hx with ⟨k, e, h⟩ | h
  · have h1 := hP k _ h
    cases e with
    | inl a =>
      have h2 : s.heap[x.base]? = some (vp_cell a.1 a.2) := h1
      rw [hc] at h2
      cases h2
      obtain ⟨c, n, f⟩ := a
      rcases f with f | f | f | f | f <;> rfl
    | inr o =>
      obtain ⟨r, -, cell', h2, -, h3, -⟩ := h1
      have h2 : s.heap[x.base]? = some cell' := h2
      rw [hc] at h2
      cases h2
      rw [h3]; rfl
  · have := (Array.getElem?_eq_some_iff.mp hc).1
    omega
abbrev tx_nm : List String := ["java/lang/RuntimeException", "java/lang/Exception"]
abbrev tx_sp : List Cond := [.laysStatic Bundle.tN "UNASSIGNED_STACK" Bundle.steD, .laysStatic Bundle.tN "SUPPRESSED_SENTINEL" Bundle.listD, .isRef (.static Bundle.tN "UNASSIGNED_STACK" Bundle.steD), .isRef (.static Bundle.tN "SUPPRESSED_SENTINEL" Bundle.listD)]
theorem tx_spok {A : Nat → Prop} {s : State} (h : tx_Th A s s.heap) (args : Array Value) : ∀ a ∈ tx_sp, a.before args s = true := by
  intro a ha
  rcases List.mem_cons.mp ha with rfl | ha
  · exact h.1.lays args
  rcases List.mem_cons.mp ha with rfl | ha
  · exact h.2.lays args
  rcases List.mem_cons.mp ha with rfl | ha
  · exact h.1.ref args
  rcases List.mem_cons.mp ha with rfl | ha
  · exact h.2.ref args
  cases ha
def tx_isC : Cond → Bool
  | .code .. => true
  | .codeSync .. => true
  | _ => false
theorem tx_split {L : List Cond} (ps : List Nat) (hp : L.filter tx_isC = ps.filterMap (fun i => tables_1[i]?)) (hgc : (L.filter tx_isC).all goodWord = true)
    (h : (L.filter (fun w => !tx_isC w)).all (fun a => decide (a ∈ tx_sp ++ tx_dl) || (goodWord a && decide (a ∈ tables_1))) = true) : ∀ a ∈ L, a ∈ tx_sp ++ tx_dl ∨ a ∈ gw := by
  intro a ha
  by_cases hc : tx_isC a = true
  · have h1 : a ∈ L.filter tx_isC := List.mem_filter.mpr ⟨ha, hc⟩
    have h2 := List.all_eq_true.mp hgc a h1
    rw [hp] at h1
    obtain ⟨i, -, hi⟩ := List.mem_filterMap.mp h1
    exact Or.inr (gw_of (List.mem_of_getElem? hi) h2)
  · have h1 := List.all_eq_true.mp h a (List.mem_filter.mpr ⟨ha, by simpa using hc⟩)
    rcases (Bool.or_eq_true _ _).mp h1 with h2 | h2
    · exact Or.inl (of_decide_eq_true h2)
    · obtain ⟨h3, h4⟩ := (Bool.and_eq_true _ _).mp h2
      exact Or.inr (gw_of (of_decide_eq_true h4) h3)
set_option maxRecDepth 100000 in
theorem tx_ownIAE {A : Nat → Prop} {s : State} {args : Array Value} (hg : ∀ w ∈ gw, w.before args s = true) (hG : tx_G A s) : ∀ a ∈ Bundle.ownAtoms "TreeMatcher" 49 "java/lang/IllegalArgumentException" tx_nm, a.before args s = true := by
  intro a ha
  rcases tx_split (L := Bundle.ownAtoms "TreeMatcher" 49 "java/lang/IllegalArgumentException" tx_nm) [359, 348, 27, 377, 368, 371, 374] rfl (by decide +kernel) (by decide +kernel) a ha with h1 | h1
  · rcases List.mem_append.mp h1 with h1 | h1
    · exact tx_spok hG.2.2.2 args a h1
    · exact hG.2.2.1.use args a h1
  · exact hg a h1
set_option maxRecDepth 100000 in
theorem tx_ownIOB {A : Nat → Prop} {s : State} {args : Array Value} (hg : ∀ w ∈ gw, w.before args s = true) (hG : tx_G A s) : ∀ a ∈ Bundle.ownAtoms "TreeMatcher" 132 "java/lang/IndexOutOfBoundsException" tx_nm, a.before args s = true := by
  intro a ha
  rcases tx_split (L := Bundle.ownAtoms "TreeMatcher" 132 "java/lang/IndexOutOfBoundsException" tx_nm) [359, 348, 27, 377, 677, 371, 374] rfl (by decide +kernel) (by decide +kernel) a ha with h1 | h1
  · rcases List.mem_append.mp h1 with h1 | h1
    · exact tx_spok hG.2.2.2 args a h1
    · exact hG.2.2.1.use args a h1
  · exact hg a h1
end
section
/-! AN ARRAY OF ROWS, of which nothing is kept but that it was made; loops that count -/
def tx_AO (U : State) : Prop := (Cond.arrayOver (.array .long)).before #[] U = true
theorem tx_AO.moved {u U : State} (hvm : u.vm.Alike U.vm) (h : tx_AO u) : tx_AO U := by
  obtain ⟨comp, c, k, h1, h2, h3, h4, h5⟩ := arrayOverA_spec h
  obtain ⟨k', hk', he⟩ := hvm.2.2 _ _ h3
  have hi : (U.vm.classes.findIdx? fun (x : Class) => match x.kind with | .array component _ => component == comp | _ => false) = some c := by
    have e1 := va_idx_bare U.vm comp
    have e2 := va_idx_bare u.vm comp
    have e3 : U.vm.bare = u.vm.bare := by first | exact hvm.bare_eq | exact hvm.bare_eq.symm
    rw [e3] at e1
    exact (e1.symm.trans e2).trans h2
  have hkind : k'.kind = .array comp (.array .long) := by rw [he]; exact h4
  have f1 : U.vm.findClass (FieldType.array .long).toString = some comp := by rw [hvm.findClass]; exact h1
  have f2 : U.vm.findClass ("[" ++ (FieldType.array .long).toString) = some c := by rw [hvm.findClass]; exact h5
  unfold tx_AO Cond.before Cond.holds
  simp only [Cond.value]
  rw [f1, Option.bind_some]
  refine (congrArg (fun o : Option Nat => (o.bind (fun c => (U.vm.classes[c]?).map fun (k : Class) => match k.kind with | .array _ ty => decide (ty = FieldType.array .long) && decide (U.vm.findClass ("[" ++ (FieldType.array .long).toString) = some c) | _ => false) == some true)) hi).trans ?_
  simp [hk', hkind, f2]
def tx_C (U : State) : Prop := tx_N U ∧ tx_AO U
theorem tx_C.warm {s U : State} (hW : s.WarmedH U.vm) (h : tx_C s) : tx_C U := ⟨h.1.warm hW, h.2.moved hW.alike⟩
theorem tx_C.same {u U : State} (hv : u.vm = U.vm) (h : tx_C u) : tx_C U := ⟨h.1.same hv, h.2.moved (by rw [hv]; exact Vm.Alike.refl _)⟩
section TX9
variable {p : Program} {l : Launch} {e : Env} {R : Room} {s : State} {m : MethodId} {args : Array Value} {below : List Frame} {meth : Method} {c : Code} {H : Heap} {locs : List Loc} {cells slots : Nat} {Q : State → Prop}
variable {cc : ByteArray} {pc : Nat} {ls : Array Slot} {rest : List Value} {D : va_G} {cl : List vw_C} {A : Nat → Prop} {ws : va_W} {H0 : Heap}
theorem tx_newrows (hexec : p.tables.exec = Jvm.exec) (hb : c.code = cc) {own : String} {index : Nat} (hown : s.vm.findClass own = some m.cls) (hclink : (Cond.classLink own index (FieldType.array .long).toString).before args s = true) (hover : tx_AO s) (hP : va_P D cl ws H) (hS : va_S A H0 H locs)
    {n : Int32} {N' : Nat} (hn : ¬ n < 0) (hN : n.toNatClampNeg = N') (hbytes : N' * 4 ≤ 536870912) (hcells : cells + 1 ≤ R.cells) (hslots : slots + N' ≤ R.slots) (hdg : decode cc pc = .ok (.anewarray index, 3))
    (kk : ∀ (q : Nat) (H1 : Heap), va_P D cl ws H1 → va_S A H0 H1 locs → W p l e R s m args below meth c H1 locs (cells + 1) (slots + N') Q (F0 m (pc + 3) ls (.ref q :: rest))) : W p l e R s m args below meth c H locs cells slots Q (F0 m pc ls (.int n :: rest)) := by
  subst hN
  refine W.anewA hexec hb hown hclink hover rfl hdg rfl hn hbytes hcells hslots fun cA kA comp f1 f2 f3 f4 => ?_
  generalize hH1 : H.push ({ cls := cA, slots := Array.replicate n.toNatClampNeg .null, vm := .none } : Cell) = H1
  have z1 : H1.size = H.size + 1 := by rw [← hH1, Array.size_push]
  have o1 : ∀ q : Nat, q < H.size → H1[q]? = H[q]? := fun q hq => by
    rw [← hH1, Array.getElem?_push]
    simp [Nat.ne_of_lt hq]
  exact kk H.size H1 (hP.kept (fun k q hq => o1 q.1 ((hP k q hq).lt))) ⟨Nat.le_trans hS.1 (by omega), fun q h1 h2 => (o1 q (Nat.lt_of_lt_of_le h1 hS.1)).trans (hS.2.1 q h1 h2), hS.2.2⟩
/-- a loop that counts from 0 up to e, its head at pc with an empty stack -/
theorem tx_loop (I : Nat → Heap → List Loc → Array Slot → Prop) (e0 : Nat)
    (step : ∀ (i : Nat) (H : Heap) (locs : List Loc) (ls : Array Slot), i < e0 → I i H locs ls → (∀ (H' : Heap) (locs' : List Loc) (ls' : Array Slot), I (i + 1) H' locs' ls' → W p l e R s m args below meth c H' locs' cells slots Q (F0 m pc ls' [])) → W p l e R s m args below meth c H locs cells slots Q (F0 m pc ls []))
    (stop : ∀ (H : Heap) (locs : List Loc) (ls : Array Slot), I e0 H locs ls → W p l e R s m args below meth c H locs cells slots Q (F0 m pc ls [])) :
    ∀ (i : Nat) (H : Heap) (locs : List Loc) (ls : Array Slot), i ≤ e0 → I i H locs ls → W p l e R s m args below meth c H locs cells slots Q (F0 m pc ls []) := by
  intro i
  induction hk : e0 - i generalizing i with
  | zero =>
    intro H locs ls hi hI
    have : i = e0 := by omega
    subst this
    exact stop H locs ls hI
  | succ k ih =>
    intro H locs ls hi hI
    exact step i H locs ls (by omega) hI (fun H' locs' ls' h => ih (i + 1) (by omega) H' locs' ls' (by omega) h)
end TX9
end
section
set_option maxRecDepth 100000 in
theorem tw_43 : (Jvm.Cond.laysFinal "TreeMatcher$Groups" "TreeMatcher$Groups" "groups" "I") ∈ gw := gw_of (List.mem_of_getElem? (i := 43) rfl) rfl
set_option maxRecDepth 100000 in
theorem tw_45 : (Jvm.Cond.laysFinal "TreeMatcher$Groups" "TreeMatcher$Groups" "starts" "[I") ∈ gw := gw_of (List.mem_of_getElem? (i := 45) rfl) rfl
set_option maxRecDepth 100000 in
theorem tw_47 : (Jvm.Cond.laysFinal "TreeMatcher$Groups" "TreeMatcher$Groups" "members" "[I") ∈ gw := gw_of (List.mem_of_getElem? (i := 47) rfl) rfl
set_option maxRecDepth 100000 in
theorem tw_64 : (Jvm.Cond.fieldLink "TreeMatcher$Parts" (33 : Nat) "TreeMatcher$Parts" "size" "I") ∈ gw := gw_of (List.mem_of_getElem? (i := 64) rfl) rfl
set_option maxRecDepth 100000 in
theorem tw_65 : (Jvm.Cond.laysFinal "TreeMatcher$Parts" "TreeMatcher$Parts" "lefts" "[I") ∈ gw := gw_of (List.mem_of_getElem? (i := 65) rfl) rfl
set_option maxRecDepth 100000 in
theorem tw_67 : (Jvm.Cond.laysFinal "TreeMatcher$Parts" "TreeMatcher$Parts" "rights" "[I") ∈ gw := gw_of (List.mem_of_getElem? (i := 67) rfl) rfl
set_option maxRecDepth 100000 in
theorem tw_69 : (Jvm.Cond.laysFinal "TreeMatcher$Parts" "TreeMatcher$Parts" "rules" "[I") ∈ gw := gw_of (List.mem_of_getElem? (i := 69) rfl) rfl
set_option maxRecDepth 100000 in
theorem tw_71 : (Jvm.Cond.laysFinal "TreeMatcher$Parts" "TreeMatcher$Parts" "open" "[I") ∈ gw := gw_of (List.mem_of_getElem? (i := 71) rfl) rfl
set_option maxRecDepth 100000 in
theorem tw_73 : (Jvm.Cond.laysFinal "TreeMatcher$Parts" "TreeMatcher$Parts" "byOperator" "LTreeMatcher$Groups;") ∈ gw := gw_of (List.mem_of_getElem? (i := 73) rfl) rfl
set_option maxRecDepth 100000 in
theorem tw_75 : (Jvm.Cond.lays "TreeMatcher$Parts" "TreeMatcher$Parts" "size" "I") ∈ gw := gw_of (List.mem_of_getElem? (i := 75) rfl) rfl
set_option maxRecDepth 100000 in
theorem tw_82 : (Jvm.Cond.fieldLink "TreeMatcher$Grammar" (15 : Nat) "TreeMatcher$Grammar" "operatorCount" "I") ∈ gw := gw_of (List.mem_of_getElem? (i := 82) rfl) rfl
set_option maxRecDepth 100000 in
theorem tw_84 : (Jvm.Cond.fieldLink "TreeMatcher$Grammar" (22 : Nat) "TreeMatcher$Grammar" "handSize" "I") ∈ gw := gw_of (List.mem_of_getElem? (i := 84) rfl) rfl
set_option maxRecDepth 100000 in
theorem tw_92 : (Jvm.Cond.fieldLink "TreeMatcher$Grammar" (52 : Nat) "TreeMatcher$Grammar" "ruleCount" "I") ∈ gw := gw_of (List.mem_of_getElem? (i := 92) rfl) rfl
set_option maxRecDepth 100000 in
theorem tw_93 : (Jvm.Cond.fieldLink "TreeMatcher$Grammar" (55 : Nat) "TreeMatcher$Grammar" "limits" "Z") ∈ gw := gw_of (List.mem_of_getElem? (i := 93) rfl) rfl
set_option maxRecDepth 100000 in
theorem tw_95 : (Jvm.Cond.laysFinal "TreeMatcher$Grammar" "TreeMatcher$Grammar" "kids" "[I") ∈ gw := gw_of (List.mem_of_getElem? (i := 95) rfl) rfl
set_option maxRecDepth 100000 in
theorem tw_97 : (Jvm.Cond.lays "TreeMatcher$Grammar" "TreeMatcher$Grammar" "operatorCount" "I") ∈ gw := gw_of (List.mem_of_getElem? (i := 97) rfl) rfl
set_option maxRecDepth 100000 in
theorem tw_99 : (Jvm.Cond.laysFinal "TreeMatcher$Grammar" "TreeMatcher$Grammar" "hand" "[I") ∈ gw := gw_of (List.mem_of_getElem? (i := 99) rfl) rfl
set_option maxRecDepth 100000 in
theorem tw_101 : (Jvm.Cond.lays "TreeMatcher$Grammar" "TreeMatcher$Grammar" "handSize" "I") ∈ gw := gw_of (List.mem_of_getElem? (i := 101) rfl) rfl
set_option maxRecDepth 100000 in
theorem tw_103 : (Jvm.Cond.laysFinal "TreeMatcher$Grammar" "TreeMatcher$Grammar" "elements" "[I") ∈ gw := gw_of (List.mem_of_getElem? (i := 103) rfl) rfl
set_option maxRecDepth 100000 in
theorem tw_105 : (Jvm.Cond.laysFinal "TreeMatcher$Grammar" "TreeMatcher$Grammar" "lengths" "[I") ∈ gw := gw_of (List.mem_of_getElem? (i := 105) rfl) rfl
set_option maxRecDepth 100000 in
theorem tw_107 : (Jvm.Cond.laysFinal "TreeMatcher$Grammar" "TreeMatcher$Grammar" "gives" "[I") ∈ gw := gw_of (List.mem_of_getElem? (i := 107) rfl) rfl
set_option maxRecDepth 100000 in
theorem tw_109 : (Jvm.Cond.laysFinal "TreeMatcher$Grammar" "TreeMatcher$Grammar" "costs" "[I") ∈ gw := gw_of (List.mem_of_getElem? (i := 109) rfl) rfl
set_option maxRecDepth 100000 in
theorem tw_111 : (Jvm.Cond.laysFinal "TreeMatcher$Grammar" "TreeMatcher$Grammar" "lows" "[I") ∈ gw := gw_of (List.mem_of_getElem? (i := 111) rfl) rfl
set_option maxRecDepth 100000 in
theorem tw_113 : (Jvm.Cond.laysFinal "TreeMatcher$Grammar" "TreeMatcher$Grammar" "highs" "[I") ∈ gw := gw_of (List.mem_of_getElem? (i := 113) rfl) rfl
set_option maxRecDepth 100000 in
theorem tw_115 : (Jvm.Cond.laysFinal "TreeMatcher$Grammar" "TreeMatcher$Grammar" "rulesByChain" "LTreeMatcher$Groups;") ∈ gw := gw_of (List.mem_of_getElem? (i := 115) rfl) rfl
set_option maxRecDepth 100000 in
theorem tw_117 : (Jvm.Cond.lays "TreeMatcher$Grammar" "TreeMatcher$Grammar" "ruleCount" "I") ∈ gw := gw_of (List.mem_of_getElem? (i := 117) rfl) rfl
set_option maxRecDepth 100000 in
theorem tw_119 : (Jvm.Cond.lays "TreeMatcher$Grammar" "TreeMatcher$Grammar" "limits" "Z") ∈ gw := gw_of (List.mem_of_getElem? (i := 119) rfl) rfl
set_option maxRecDepth 100000 in
theorem tw_121 : (Jvm.Cond.laysFinal "TreeMatcher$Grammar" "TreeMatcher$Grammar" "parts" "LTreeMatcher$Parts;") ∈ gw := gw_of (List.mem_of_getElem? (i := 121) rfl) rfl
set_option maxRecDepth 100000 in
theorem tw_139 : (Jvm.Cond.laysFinal "TreeMatcher$Labels" "TreeMatcher$Labels" "grammar" "LTreeMatcher$Grammar;") ∈ gw := gw_of (List.mem_of_getElem? (i := 139) rfl) rfl
set_option maxRecDepth 100000 in
theorem tw_141 : (Jvm.Cond.laysFinal "TreeMatcher$Labels" "TreeMatcher$Labels" "costs" "[J") ∈ gw := gw_of (List.mem_of_getElem? (i := 141) rfl) rfl
set_option maxRecDepth 100000 in
theorem tw_143 : (Jvm.Cond.laysFinal "TreeMatcher$Labels" "TreeMatcher$Labels" "rules" "[I") ∈ gw := gw_of (List.mem_of_getElem? (i := 143) rfl) rfl
set_option maxRecDepth 100000 in
theorem tw_173 : (Jvm.Cond.fieldLink "TreeMatcher$Vectors" (17 : Nat) "TreeMatcher$Vectors" "size" "I") ∈ gw := gw_of (List.mem_of_getElem? (i := 173) rfl) rfl
set_option maxRecDepth 100000 in
theorem tw_174 : (Jvm.Cond.laysFinal "TreeMatcher$Vectors" "TreeMatcher$Vectors" "grammar" "LTreeMatcher$Grammar;") ∈ gw := gw_of (List.mem_of_getElem? (i := 174) rfl) rfl
set_option maxRecDepth 100000 in
theorem tw_176 : (Jvm.Cond.laysFinal "TreeMatcher$Vectors" "TreeMatcher$Vectors" "parts" "LTreeMatcher$Parts;") ∈ gw := gw_of (List.mem_of_getElem? (i := 176) rfl) rfl
set_option maxRecDepth 100000 in
theorem tw_178 : (Jvm.Cond.laysFinal "TreeMatcher$Vectors" "TreeMatcher$Vectors" "byOperator" "LTreeMatcher$Groups;") ∈ gw := gw_of (List.mem_of_getElem? (i := 178) rfl) rfl
set_option maxRecDepth 100000 in
theorem tw_180 : (Jvm.Cond.laysFinal "TreeMatcher$Vectors" "TreeMatcher$Vectors" "labels" "LTreeMatcher$Labels;") ∈ gw := gw_of (List.mem_of_getElem? (i := 180) rfl) rfl
set_option maxRecDepth 100000 in
theorem tw_182 : (Jvm.Cond.laysFinal "TreeMatcher$Vectors" "TreeMatcher$Vectors" "rows" "[[J") ∈ gw := gw_of (List.mem_of_getElem? (i := 182) rfl) rfl
set_option maxRecDepth 100000 in
theorem tw_184 : (Jvm.Cond.laysFinal "TreeMatcher$Vectors" "TreeMatcher$Vectors" "roots" "[I") ∈ gw := gw_of (List.mem_of_getElem? (i := 184) rfl) rfl
set_option maxRecDepth 100000 in
theorem tw_186 : (Jvm.Cond.laysFinal "TreeMatcher$Vectors" "TreeMatcher$Vectors" "fresh" "[J") ∈ gw := gw_of (List.mem_of_getElem? (i := 186) rfl) rfl
set_option maxRecDepth 100000 in
theorem tw_188 : (Jvm.Cond.lays "TreeMatcher$Vectors" "TreeMatcher$Vectors" "size" "I") ∈ gw := gw_of (List.mem_of_getElem? (i := 188) rfl) rfl
set_option maxRecDepth 100000 in
theorem tw_200 : (Jvm.Cond.fieldLink "TreeMatcher$Forest" (37 : Nat) "TreeMatcher$Forest" "size" "I") ∈ gw := gw_of (List.mem_of_getElem? (i := 200) rfl) rfl
set_option maxRecDepth 100000 in
theorem tw_205 : (Jvm.Cond.laysFinal "TreeMatcher$Forest" "TreeMatcher$Forest" "grammar" "LTreeMatcher$Grammar;") ∈ gw := gw_of (List.mem_of_getElem? (i := 205) rfl) rfl
set_option maxRecDepth 100000 in
theorem tw_207 : (Jvm.Cond.laysFinal "TreeMatcher$Forest" "TreeMatcher$Forest" "operators" "[I") ∈ gw := gw_of (List.mem_of_getElem? (i := 207) rfl) rfl
set_option maxRecDepth 100000 in
theorem tw_209 : (Jvm.Cond.laysFinal "TreeMatcher$Forest" "TreeMatcher$Forest" "values" "[I") ∈ gw := gw_of (List.mem_of_getElem? (i := 209) rfl) rfl
set_option maxRecDepth 100000 in
theorem tw_211 : (Jvm.Cond.laysFinal "TreeMatcher$Forest" "TreeMatcher$Forest" "lefts" "[I") ∈ gw := gw_of (List.mem_of_getElem? (i := 211) rfl) rfl
set_option maxRecDepth 100000 in
theorem tw_213 : (Jvm.Cond.laysFinal "TreeMatcher$Forest" "TreeMatcher$Forest" "rights" "[I") ∈ gw := gw_of (List.mem_of_getElem? (i := 213) rfl) rfl
set_option maxRecDepth 100000 in
theorem tw_215 : (Jvm.Cond.laysFinal "TreeMatcher$Forest" "TreeMatcher$Forest" "isKid" "[Z") ∈ gw := gw_of (List.mem_of_getElem? (i := 215) rfl) rfl
set_option maxRecDepth 100000 in
theorem tw_217 : (Jvm.Cond.laysFinal "TreeMatcher$Forest" "TreeMatcher$Forest" "costs" "[I") ∈ gw := gw_of (List.mem_of_getElem? (i := 217) rfl) rfl
set_option maxRecDepth 100000 in
theorem tw_219 : (Jvm.Cond.laysFinal "TreeMatcher$Forest" "TreeMatcher$Forest" "rules" "[I") ∈ gw := gw_of (List.mem_of_getElem? (i := 219) rfl) rfl
set_option maxRecDepth 100000 in
theorem tw_221 : (Jvm.Cond.laysFinal "TreeMatcher$Forest" "TreeMatcher$Forest" "vectorRows" "[I") ∈ gw := gw_of (List.mem_of_getElem? (i := 221) rfl) rfl
set_option maxRecDepth 100000 in
theorem tw_223 : (Jvm.Cond.lays "TreeMatcher$Forest" "TreeMatcher$Forest" "size" "I") ∈ gw := gw_of (List.mem_of_getElem? (i := 223) rfl) rfl
set_option maxRecDepth 100000 in
theorem tw_225 : (Jvm.Cond.laysFinal "TreeMatcher$Forest" "TreeMatcher$Forest" "labels" "LTreeMatcher$Labels;") ∈ gw := gw_of (List.mem_of_getElem? (i := 225) rfl) rfl
set_option maxRecDepth 100000 in
theorem tw_227 : (Jvm.Cond.laysFinal "TreeMatcher$Forest" "TreeMatcher$Forest" "vectors" "LTreeMatcher$Vectors;") ∈ gw := gw_of (List.mem_of_getElem? (i := 227) rfl) rfl
set_option maxRecDepth 100000 in
theorem tw_229 : (Jvm.Cond.laysFinal "TreeMatcher$Forest" "TreeMatcher$Forest" "places" "[I") ∈ gw := gw_of (List.mem_of_getElem? (i := 229) rfl) rfl
set_option maxRecDepth 100000 in
theorem tw_231 : (Jvm.Cond.laysFinal "TreeMatcher$Forest" "TreeMatcher$Forest" "open" "[I") ∈ gw := gw_of (List.mem_of_getElem? (i := 231) rfl) rfl
set_option maxRecDepth 100000 in
theorem tw_246 : (Jvm.Cond.fieldLink "TreeMatcher$Covering" (25 : Nat) "TreeMatcher$Covering" "size" "I") ∈ gw := gw_of (List.mem_of_getElem? (i := 246) rfl) rfl
set_option maxRecDepth 100000 in
theorem tw_247 : (Jvm.Cond.laysFinal "TreeMatcher$Covering" "TreeMatcher$Covering" "grammar" "LTreeMatcher$Grammar;") ∈ gw := gw_of (List.mem_of_getElem? (i := 247) rfl) rfl
set_option maxRecDepth 100000 in
theorem tw_249 : (Jvm.Cond.laysFinal "TreeMatcher$Covering" "TreeMatcher$Covering" "forest" "LTreeMatcher$Forest;") ∈ gw := gw_of (List.mem_of_getElem? (i := 249) rfl) rfl
set_option maxRecDepth 100000 in
theorem tw_251 : (Jvm.Cond.laysFinal "TreeMatcher$Covering" "TreeMatcher$Covering" "labels" "[I") ∈ gw := gw_of (List.mem_of_getElem? (i := 251) rfl) rfl
set_option maxRecDepth 100000 in
theorem tw_253 : (Jvm.Cond.laysFinal "TreeMatcher$Covering" "TreeMatcher$Covering" "backwards" "[I") ∈ gw := gw_of (List.mem_of_getElem? (i := 253) rfl) rfl
set_option maxRecDepth 100000 in
theorem tw_255 : (Jvm.Cond.laysFinal "TreeMatcher$Covering" "TreeMatcher$Covering" "open" "[I") ∈ gw := gw_of (List.mem_of_getElem? (i := 255) rfl) rfl
set_option maxRecDepth 100000 in
theorem tw_257 : (Jvm.Cond.lays "TreeMatcher$Covering" "TreeMatcher$Covering" "top" "I") ∈ gw := gw_of (List.mem_of_getElem? (i := 257) rfl) rfl
set_option maxRecDepth 100000 in
theorem tw_259 : (Jvm.Cond.lays "TreeMatcher$Covering" "TreeMatcher$Covering" "size" "I") ∈ gw := gw_of (List.mem_of_getElem? (i := 259) rfl) rfl
set_option maxRecDepth 100000 in
theorem tw_274 : (Jvm.Cond.laysFinal "TreeMatcher$Tally" "TreeMatcher$Tally" "grammar" "LTreeMatcher$Grammar;") ∈ gw := gw_of (List.mem_of_getElem? (i := 274) rfl) rfl
set_option maxRecDepth 100000 in
theorem tw_276 : (Jvm.Cond.laysFinal "TreeMatcher$Tally" "TreeMatcher$Tally" "vectors" "LTreeMatcher$Vectors;") ∈ gw := gw_of (List.mem_of_getElem? (i := 276) rfl) rfl
set_option maxRecDepth 100000 in
theorem tw_278 : (Jvm.Cond.lays "TreeMatcher$Tally" "TreeMatcher$Tally" "operatorsThen" "I") ∈ gw := gw_of (List.mem_of_getElem? (i := 278) rfl) rfl
set_option maxRecDepth 100000 in
theorem tw_280 : (Jvm.Cond.lays "TreeMatcher$Tally" "TreeMatcher$Tally" "rulesThen" "I") ∈ gw := gw_of (List.mem_of_getElem? (i := 280) rfl) rfl
set_option maxRecDepth 100000 in
theorem tw_287 : (Jvm.Cond.laysFinal "TreeMatcher" "TreeMatcher" "grammar" "LTreeMatcher$Grammar;") ∈ gw := gw_of (List.mem_of_getElem? (i := 287) rfl) rfl
set_option maxRecDepth 100000 in
theorem tw_289 : (Jvm.Cond.laysFinal "TreeMatcher" "TreeMatcher" "forest" "LTreeMatcher$Forest;") ∈ gw := gw_of (List.mem_of_getElem? (i := 289) rfl) rfl
set_option maxRecDepth 100000 in
theorem tw_291 : (Jvm.Cond.laysFinal "TreeMatcher" "TreeMatcher" "covering" "LTreeMatcher$Covering;") ∈ gw := gw_of (List.mem_of_getElem? (i := 291) rfl) rfl
set_option maxRecDepth 100000 in
theorem tw_293 : (Jvm.Cond.laysFinal "TreeMatcher" "TreeMatcher" "tally" "LTreeMatcher$Tally;") ∈ gw := gw_of (List.mem_of_getElem? (i := 293) rfl) rfl
set_option maxRecDepth 100000 in
theorem tw_323 : (Jvm.Cond.code ({ cls := "TreeMatcher", name := "isWithin", desc := "(II)Z" } : Jvm.MethodName) prog_1_method_15_code (2 : Nat) (Option.some Jvm.ClassFile.FieldType.boolean)) ∈ gw := gw_of (List.mem_of_getElem? (i := 323) rfl) rfl
set_option maxRecDepth 100000 in
theorem tw_428 : (Jvm.Cond.code ({ cls := "TreeMatcher$Grammar", name := "handSize", desc := "()I" } : Jvm.MethodName) prog_4_method_7_code (1 : Nat) (Option.some Jvm.ClassFile.FieldType.int)) ∈ gw := gw_of (List.mem_of_getElem? (i := 428) rfl) rfl
set_option maxRecDepth 100000 in
theorem tw_444 : (Jvm.Cond.code ({ cls := "TreeMatcher$Grammar", name := "ruleCount", desc := "()I" } : Jvm.MethodName) prog_4_method_11_code (1 : Nat) (Option.some Jvm.ClassFile.FieldType.int)) ∈ gw := gw_of (List.mem_of_getElem? (i := 444) rfl) rfl
set_option maxRecDepth 100000 in
theorem tw_448 : (Jvm.Cond.code ({ cls := "TreeMatcher$Forest", name := "size", desc := "()I" } : Jvm.MethodName) prog_3_method_2_code (1 : Nat) (Option.some Jvm.ClassFile.FieldType.int)) ∈ gw := gw_of (List.mem_of_getElem? (i := 448) rfl) rfl
set_option maxRecDepth 100000 in
theorem tw_570 : (Jvm.Cond.code ({ cls := "TreeMatcher$Parts", name := "size", desc := "()I" } : Jvm.MethodName) prog_7_method_4_code (1 : Nat) (Option.some Jvm.ClassFile.FieldType.int)) ∈ gw := gw_of (List.mem_of_getElem? (i := 570) rfl) rfl
set_option maxRecDepth 100000 in
theorem tw_732 : (Jvm.Cond.code ({ cls := "TreeMatcher$Covering", name := "size", desc := "()I" } : Jvm.MethodName) prog_2_method_2_code (1 : Nat) (Option.some Jvm.ClassFile.FieldType.int)) ∈ gw := gw_of (List.mem_of_getElem? (i := 732) rfl) rfl
set_option maxRecDepth 100000 in
theorem tw_756 : (Jvm.Cond.code ({ cls := "TreeMatcher$Grammar", name := "hasLimits", desc := "()Z" } : Jvm.MethodName) prog_4_method_17_code (1 : Nat) (Option.some Jvm.ClassFile.FieldType.boolean)) ∈ gw := gw_of (List.mem_of_getElem? (i := 756) rfl) rfl
set_option maxRecDepth 100000 in
theorem tw_765 : (Jvm.Cond.code ({ cls := "TreeMatcher$Grammar", name := "operatorCount", desc := "()I" } : Jvm.MethodName) prog_4_method_4_code (1 : Nat) (Option.some Jvm.ClassFile.FieldType.int)) ∈ gw := gw_of (List.mem_of_getElem? (i := 765) rfl) rfl
set_option maxRecDepth 100000 in
theorem tw_773 : (Jvm.Cond.code ({ cls := "TreeMatcher$Vectors", name := "size", desc := "()I" } : Jvm.MethodName) prog_9_method_2_code (1 : Nat) (Option.some Jvm.ClassFile.FieldType.int)) ∈ gw := gw_of (List.mem_of_getElem? (i := 773) rfl) rfl
set_option maxRecDepth 100000 in
theorem tw_817 : (Jvm.Cond.fieldLink "TreeMatcherModel" (115 : Nat) "TreeMatcherModel" "thrown" "I") ∈ gw := gw_of (List.mem_of_getElem? (i := 817) rfl) rfl
set_option maxRecDepth 100000 in
theorem tw_859 : (Jvm.Cond.lays "TreeMatcherModel" "TreeMatcherModel" "thrown" "I") ∈ gw := gw_of (List.mem_of_getElem? (i := 859) rfl) rfl
set_option maxRecDepth 100000 in
theorem tw_861 : (Jvm.Cond.laysFinal "TreeMatcherModel" "TreeMatcherModel" "kids" "[I") ∈ gw := gw_of (List.mem_of_getElem? (i := 861) rfl) rfl
set_option maxRecDepth 100000 in
theorem tw_863 : (Jvm.Cond.lays "TreeMatcherModel" "TreeMatcherModel" "operators" "I") ∈ gw := gw_of (List.mem_of_getElem? (i := 863) rfl) rfl
set_option maxRecDepth 100000 in
theorem tw_865 : (Jvm.Cond.laysFinal "TreeMatcherModel" "TreeMatcherModel" "hand" "[I") ∈ gw := gw_of (List.mem_of_getElem? (i := 865) rfl) rfl
set_option maxRecDepth 100000 in
theorem tw_867 : (Jvm.Cond.lays "TreeMatcherModel" "TreeMatcherModel" "handed" "I") ∈ gw := gw_of (List.mem_of_getElem? (i := 867) rfl) rfl
set_option maxRecDepth 100000 in
theorem tw_869 : (Jvm.Cond.lays "TreeMatcherModel" "TreeMatcherModel" "rules" "I") ∈ gw := gw_of (List.mem_of_getElem? (i := 869) rfl) rfl
set_option maxRecDepth 100000 in
theorem tw_871 : (Jvm.Cond.laysFinal "TreeMatcherModel" "TreeMatcherModel" "gives" "[I") ∈ gw := gw_of (List.mem_of_getElem? (i := 871) rfl) rfl
set_option maxRecDepth 100000 in
theorem tw_873 : (Jvm.Cond.laysFinal "TreeMatcherModel" "TreeMatcherModel" "costs" "[I") ∈ gw := gw_of (List.mem_of_getElem? (i := 873) rfl) rfl
set_option maxRecDepth 100000 in
theorem tw_875 : (Jvm.Cond.laysFinal "TreeMatcherModel" "TreeMatcherModel" "lows" "[I") ∈ gw := gw_of (List.mem_of_getElem? (i := 875) rfl) rfl
set_option maxRecDepth 100000 in
theorem tw_877 : (Jvm.Cond.laysFinal "TreeMatcherModel" "TreeMatcherModel" "highs" "[I") ∈ gw := gw_of (List.mem_of_getElem? (i := 877) rfl) rfl
set_option maxRecDepth 100000 in
theorem tw_879 : (Jvm.Cond.laysFinal "TreeMatcherModel" "TreeMatcherModel" "sizes" "[I") ∈ gw := gw_of (List.mem_of_getElem? (i := 879) rfl) rfl
set_option maxRecDepth 100000 in
theorem tw_881 : (Jvm.Cond.laysFinal "TreeMatcherModel" "TreeMatcherModel" "elements" "[I") ∈ gw := gw_of (List.mem_of_getElem? (i := 881) rfl) rfl
set_option maxRecDepth 100000 in
theorem tw_883 : (Jvm.Cond.lays "TreeMatcherModel" "TreeMatcherModel" "nodes" "I") ∈ gw := gw_of (List.mem_of_getElem? (i := 883) rfl) rfl
set_option maxRecDepth 100000 in
theorem tw_885 : (Jvm.Cond.laysFinal "TreeMatcherModel" "TreeMatcherModel" "operator" "[I") ∈ gw := gw_of (List.mem_of_getElem? (i := 885) rfl) rfl
set_option maxRecDepth 100000 in
theorem tw_887 : (Jvm.Cond.laysFinal "TreeMatcherModel" "TreeMatcherModel" "value" "[I") ∈ gw := gw_of (List.mem_of_getElem? (i := 887) rfl) rfl
set_option maxRecDepth 100000 in
theorem tw_889 : (Jvm.Cond.laysFinal "TreeMatcherModel" "TreeMatcherModel" "left" "[I") ∈ gw := gw_of (List.mem_of_getElem? (i := 889) rfl) rfl
set_option maxRecDepth 100000 in
theorem tw_891 : (Jvm.Cond.laysFinal "TreeMatcherModel" "TreeMatcherModel" "right" "[I") ∈ gw := gw_of (List.mem_of_getElem? (i := 891) rfl) rfl
set_option maxRecDepth 100000 in
theorem tw_893 : (Jvm.Cond.laysFinal "TreeMatcherModel" "TreeMatcherModel" "isKid" "[Z") ∈ gw := gw_of (List.mem_of_getElem? (i := 893) rfl) rfl
set_option maxRecDepth 100000 in
theorem tw_895 : (Jvm.Cond.laysFinal "TreeMatcherModel" "TreeMatcherModel" "least" "[I") ∈ gw := gw_of (List.mem_of_getElem? (i := 895) rfl) rfl
set_option maxRecDepth 100000 in
theorem tw_897 : (Jvm.Cond.laysFinal "TreeMatcherModel" "TreeMatcherModel" "ruleOf" "[I") ∈ gw := gw_of (List.mem_of_getElem? (i := 897) rfl) rfl
set_option maxRecDepth 100000 in
theorem tw_899 : (Jvm.Cond.lays "TreeMatcherModel" "TreeMatcherModel" "pairs" "I") ∈ gw := gw_of (List.mem_of_getElem? (i := 899) rfl) rfl
set_option maxRecDepth 100000 in
theorem tw_901 : (Jvm.Cond.laysFinal "TreeMatcherModel" "TreeMatcherModel" "pairNode" "[I") ∈ gw := gw_of (List.mem_of_getElem? (i := 901) rfl) rfl
set_option maxRecDepth 100000 in
theorem tw_903 : (Jvm.Cond.laysFinal "TreeMatcherModel" "TreeMatcherModel" "pairRule" "[I") ∈ gw := gw_of (List.mem_of_getElem? (i := 903) rfl) rfl
set_option maxRecDepth 100000 in
theorem tw_905 : (Jvm.Cond.laysFinal "TreeMatcherModel" "TreeMatcherModel" "stands" "[I") ∈ gw := gw_of (List.mem_of_getElem? (i := 905) rfl) rfl
set_option maxRecDepth 100000 in
theorem tw_907 : (Jvm.Cond.laysFinal "TreeMatcherModel" "TreeMatcherModel" "todo" "[I") ∈ gw := gw_of (List.mem_of_getElem? (i := 907) rfl) rfl
set_option maxRecDepth 100000 in
theorem tw_909 : (Jvm.Cond.laysFinal "TreeMatcherModel" "TreeMatcherModel" "chainOf" "[I") ∈ gw := gw_of (List.mem_of_getElem? (i := 909) rfl) rfl
set_option maxRecDepth 100000 in
theorem tw_911 : (Jvm.Cond.laysFinal "TreeMatcherModel" "TreeMatcherModel" "chainFrom" "[I") ∈ gw := gw_of (List.mem_of_getElem? (i := 911) rfl) rfl
set_option maxRecDepth 100000 in
theorem tw_913 : (Jvm.Cond.laysFinal "TreeMatcherModel" "TreeMatcherModel" "coverNode" "[I") ∈ gw := gw_of (List.mem_of_getElem? (i := 913) rfl) rfl
set_option maxRecDepth 100000 in
theorem tw_915 : (Jvm.Cond.laysFinal "TreeMatcherModel" "TreeMatcherModel" "coverOf" "[I") ∈ gw := gw_of (List.mem_of_getElem? (i := 915) rfl) rfl
set_option maxRecDepth 100000 in
theorem tw_917 : (Jvm.Cond.laysFinal "TreeMatcherModel" "TreeMatcherModel" "coverRule" "[I") ∈ gw := gw_of (List.mem_of_getElem? (i := 917) rfl) rfl
set_option maxRecDepth 100000 in
theorem tw_919 : (Jvm.Cond.laysFinal "TreeMatcherModel" "TreeMatcherModel" "newNode" "[I") ∈ gw := gw_of (List.mem_of_getElem? (i := 919) rfl) rfl
set_option maxRecDepth 100000 in
theorem tw_921 : (Jvm.Cond.laysFinal "TreeMatcherModel" "TreeMatcherModel" "newRule" "[I") ∈ gw := gw_of (List.mem_of_getElem? (i := 921) rfl) rfl
set_option maxRecDepth 100000 in
theorem tw_923 : (Jvm.Cond.lays "TreeMatcherModel" "TreeMatcherModel" "parts" "I") ∈ gw := gw_of (List.mem_of_getElem? (i := 923) rfl) rfl
set_option maxRecDepth 100000 in
theorem tw_925 : (Jvm.Cond.laysFinal "TreeMatcherModel" "TreeMatcherModel" "partOf" "[I") ∈ gw := gw_of (List.mem_of_getElem? (i := 925) rfl) rfl
set_option maxRecDepth 100000 in
theorem tw_927 : (Jvm.Cond.laysFinal "TreeMatcherModel" "TreeMatcherModel" "partRule" "[I") ∈ gw := gw_of (List.mem_of_getElem? (i := 927) rfl) rfl
set_option maxRecDepth 100000 in
theorem tw_929 : (Jvm.Cond.laysFinal "TreeMatcherModel" "TreeMatcherModel" "partFrom" "[I") ∈ gw := gw_of (List.mem_of_getElem? (i := 929) rfl) rfl
set_option maxRecDepth 100000 in
theorem tw_931 : (Jvm.Cond.laysFinal "TreeMatcherModel" "TreeMatcherModel" "partLeft" "[I") ∈ gw := gw_of (List.mem_of_getElem? (i := 931) rfl) rfl
set_option maxRecDepth 100000 in
theorem tw_933 : (Jvm.Cond.laysFinal "TreeMatcherModel" "TreeMatcherModel" "partRight" "[I") ∈ gw := gw_of (List.mem_of_getElem? (i := 933) rfl) rfl
set_option maxRecDepth 100000 in
theorem tw_935 : (Jvm.Cond.laysFinal "TreeMatcherModel" "TreeMatcherModel" "states" "[I") ∈ gw := gw_of (List.mem_of_getElem? (i := 935) rfl) rfl
set_option maxRecDepth 100000 in
theorem tw_937 : (Jvm.Cond.laysFinal "TreeMatcherModel" "TreeMatcherModel" "vectors" "[I") ∈ gw := gw_of (List.mem_of_getElem? (i := 937) rfl) rfl
set_option maxRecDepth 100000 in
theorem tw_939 : (Jvm.Cond.laysFinal "TreeMatcherModel" "TreeMatcherModel" "byRule" "[I") ∈ gw := gw_of (List.mem_of_getElem? (i := 939) rfl) rfl
set_option maxRecDepth 100000 in
theorem tw_941 : (Jvm.Cond.lays "TreeMatcherModel" "TreeMatcherModel" "stateCount" "I") ∈ gw := gw_of (List.mem_of_getElem? (i := 941) rfl) rfl
set_option maxRecDepth 100000 in
theorem tw_947 : (Jvm.Cond.code ({ cls := "TreeMatcherModel", name := "thrown", desc := "()I" } : Jvm.MethodName) prog_11_method_2_code (1 : Nat) (Option.some Jvm.ClassFile.FieldType.int)) ∈ gw := gw_of (List.mem_of_getElem? (i := 947) rfl) rfl
def kR_M : String := "TreeMatcher"
def kT_M : u_T := fun k => match k with
  | 0 => ("TreeMatcher", "grammar", "LTreeMatcher$Grammar;", true)
  | 1 => ("TreeMatcher", "forest", "LTreeMatcher$Forest;", true)
  | 2 => ("TreeMatcher", "covering", "LTreeMatcher$Covering;", true)
  | _ => ("TreeMatcher", "tally", "LTreeMatcher$Tally;", true)
def kt_M : Nat → FieldType := fun k => match k with
  | 0 => .object "TreeMatcher$Grammar"
  | 1 => .object "TreeMatcher$Forest"
  | 2 => .object "TreeMatcher$Covering"
  | _ => .object "TreeMatcher$Tally"
theorem knm_M : ∀ a, a < 4 → ∀ b, b < 4 → a ≠ b → (kT_M a).2.1 ≠ (kT_M b).2.1 := by decide +kernel
theorem kty_M : ∀ k, k < 4 → parseFieldDescriptor (kT_M k).2.2.1 = some (kt_M k) := by decide +kernel
theorem kdf_M : ∀ j, j < 4 → defaultValue (kt_M j) = vp_V [.null, .null, .null, .null] j := by
  intro j hj
  match j, hj with
  | 0, _ => rfl
  | 1, _ => rfl
  | 2, _ => rfl
  | 3, _ => rfl
def kR_G : String := "TreeMatcher$Grammar"
def kT_G : u_T := fun k => match k with
  | 0 => ("TreeMatcher$Grammar", "kids", "[I", true)
  | 1 => ("TreeMatcher$Grammar", "operatorCount", "I", false)
  | 2 => ("TreeMatcher$Grammar", "hand", "[I", true)
  | 3 => ("TreeMatcher$Grammar", "handSize", "I", false)
  | 4 => ("TreeMatcher$Grammar", "elements", "[I", true)
  | 5 => ("TreeMatcher$Grammar", "lengths", "[I", true)
  | 6 => ("TreeMatcher$Grammar", "gives", "[I", true)
  | 7 => ("TreeMatcher$Grammar", "costs", "[I", true)
  | 8 => ("TreeMatcher$Grammar", "lows", "[I", true)
  | 9 => ("TreeMatcher$Grammar", "highs", "[I", true)
  | 10 => ("TreeMatcher$Grammar", "rulesByChain", "LTreeMatcher$Groups;", true)
  | 11 => ("TreeMatcher$Grammar", "ruleCount", "I", false)
  | 12 => ("TreeMatcher$Grammar", "limits", "Z", false)
  | _ => ("TreeMatcher$Grammar", "parts", "LTreeMatcher$Parts;", true)
def kt_G : Nat → FieldType := fun k => match k with
  | 0 => .array .int
  | 1 => .int
  | 2 => .array .int
  | 3 => .int
  | 4 => .array .int
  | 5 => .array .int
  | 6 => .array .int
  | 7 => .array .int
  | 8 => .array .int
  | 9 => .array .int
  | 10 => .object "TreeMatcher$Groups"
  | 11 => .int
  | 12 => .boolean
  | _ => .object "TreeMatcher$Parts"
theorem knm_G : ∀ a, a < 14 → ∀ b, b < 14 → a ≠ b → (kT_G a).2.1 ≠ (kT_G b).2.1 := by decide +kernel
theorem kty_G : ∀ k, k < 14 → parseFieldDescriptor (kT_G k).2.2.1 = some (kt_G k) := by decide +kernel
theorem kdf_G : ∀ j, j < 14 → defaultValue (kt_G j) = vp_V [.null, .int 0, .null, .int 0, .null, .null, .null, .null, .null, .null, .null, .int 0, .int 0, .null] j := by
  intro j hj
  match j, hj with
  | 0, _ => rfl
  | 1, _ => rfl
  | 2, _ => rfl
  | 3, _ => rfl
  | 4, _ => rfl
  | 5, _ => rfl
  | 6, _ => rfl
  | 7, _ => rfl
  | 8, _ => rfl
  | 9, _ => rfl
  | 10, _ => rfl
  | 11, _ => rfl
  | 12, _ => rfl
  | 13, _ => rfl
def kR_F : String := "TreeMatcher$Forest"
def kT_F : u_T := fun k => match k with
  | 0 => ("TreeMatcher$Forest", "grammar", "LTreeMatcher$Grammar;", true)
  | 1 => ("TreeMatcher$Forest", "operators", "[I", true)
  | 2 => ("TreeMatcher$Forest", "values", "[I", true)
  | 3 => ("TreeMatcher$Forest", "lefts", "[I", true)
  | 4 => ("TreeMatcher$Forest", "rights", "[I", true)
  | 5 => ("TreeMatcher$Forest", "isKid", "[Z", true)
  | 6 => ("TreeMatcher$Forest", "costs", "[I", true)
  | 7 => ("TreeMatcher$Forest", "rules", "[I", true)
  | 8 => ("TreeMatcher$Forest", "vectorRows", "[I", true)
  | 9 => ("TreeMatcher$Forest", "size", "I", false)
  | 10 => ("TreeMatcher$Forest", "labels", "LTreeMatcher$Labels;", true)
  | 11 => ("TreeMatcher$Forest", "vectors", "LTreeMatcher$Vectors;", true)
  | 12 => ("TreeMatcher$Forest", "places", "[I", true)
  | _ => ("TreeMatcher$Forest", "open", "[I", true)
def kt_F : Nat → FieldType := fun k => match k with
  | 0 => .object "TreeMatcher$Grammar"
  | 1 => .array .int
  | 2 => .array .int
  | 3 => .array .int
  | 4 => .array .int
  | 5 => .array .boolean
  | 6 => .array .int
  | 7 => .array .int
  | 8 => .array .int
  | 9 => .int
  | 10 => .object "TreeMatcher$Labels"
  | 11 => .object "TreeMatcher$Vectors"
  | 12 => .array .int
  | _ => .array .int
theorem knm_F : ∀ a, a < 14 → ∀ b, b < 14 → a ≠ b → (kT_F a).2.1 ≠ (kT_F b).2.1 := by decide +kernel
theorem kty_F : ∀ k, k < 14 → parseFieldDescriptor (kT_F k).2.2.1 = some (kt_F k) := by decide +kernel
theorem kdf_F : ∀ j, j < 14 → defaultValue (kt_F j) = vp_V [.null, .null, .null, .null, .null, .null, .null, .null, .null, .int 0, .null, .null, .null, .null] j := by
  intro j hj
  match j, hj with
  | 0, _ => rfl
  | 1, _ => rfl
  | 2, _ => rfl
  | 3, _ => rfl
  | 4, _ => rfl
  | 5, _ => rfl
  | 6, _ => rfl
  | 7, _ => rfl
  | 8, _ => rfl
  | 9, _ => rfl
  | 10, _ => rfl
  | 11, _ => rfl
  | 12, _ => rfl
  | 13, _ => rfl
def kR_C : String := "TreeMatcher$Covering"
def kT_C : u_T := fun k => match k with
  | 0 => ("TreeMatcher$Covering", "grammar", "LTreeMatcher$Grammar;", true)
  | 1 => ("TreeMatcher$Covering", "forest", "LTreeMatcher$Forest;", true)
  | 2 => ("TreeMatcher$Covering", "labels", "[I", true)
  | 3 => ("TreeMatcher$Covering", "backwards", "[I", true)
  | 4 => ("TreeMatcher$Covering", "open", "[I", true)
  | 5 => ("TreeMatcher$Covering", "top", "I", false)
  | _ => ("TreeMatcher$Covering", "size", "I", false)
def kt_C : Nat → FieldType := fun k => match k with
  | 0 => .object "TreeMatcher$Grammar"
  | 1 => .object "TreeMatcher$Forest"
  | 2 => .array .int
  | 3 => .array .int
  | 4 => .array .int
  | 5 => .int
  | _ => .int
theorem knm_C : ∀ a, a < 7 → ∀ b, b < 7 → a ≠ b → (kT_C a).2.1 ≠ (kT_C b).2.1 := by decide +kernel
theorem kty_C : ∀ k, k < 7 → parseFieldDescriptor (kT_C k).2.2.1 = some (kt_C k) := by decide +kernel
theorem kdf_C : ∀ j, j < 7 → defaultValue (kt_C j) = vp_V [.null, .null, .null, .null, .null, .int 0, .int 0] j := by
  intro j hj
  match j, hj with
  | 0, _ => rfl
  | 1, _ => rfl
  | 2, _ => rfl
  | 3, _ => rfl
  | 4, _ => rfl
  | 5, _ => rfl
  | 6, _ => rfl
def kR_Y : String := "TreeMatcher$Tally"
def kT_Y : u_T := fun k => match k with
  | 0 => ("TreeMatcher$Tally", "grammar", "LTreeMatcher$Grammar;", true)
  | 1 => ("TreeMatcher$Tally", "vectors", "LTreeMatcher$Vectors;", true)
  | 2 => ("TreeMatcher$Tally", "operatorsThen", "I", false)
  | _ => ("TreeMatcher$Tally", "rulesThen", "I", false)
def kt_Y : Nat → FieldType := fun k => match k with
  | 0 => .object "TreeMatcher$Grammar"
  | 1 => .object "TreeMatcher$Vectors"
  | 2 => .int
  | _ => .int
theorem knm_Y : ∀ a, a < 4 → ∀ b, b < 4 → a ≠ b → (kT_Y a).2.1 ≠ (kT_Y b).2.1 := by decide +kernel
theorem kty_Y : ∀ k, k < 4 → parseFieldDescriptor (kT_Y k).2.2.1 = some (kt_Y k) := by decide +kernel
theorem kdf_Y : ∀ j, j < 4 → defaultValue (kt_Y j) = vp_V [.null, .null, .int 0, .int 0] j := by
  intro j hj
  match j, hj with
  | 0, _ => rfl
  | 1, _ => rfl
  | 2, _ => rfl
  | 3, _ => rfl
def kR_V : String := "TreeMatcher$Vectors"
def kT_V : u_T := fun k => match k with
  | 0 => ("TreeMatcher$Vectors", "grammar", "LTreeMatcher$Grammar;", true)
  | 1 => ("TreeMatcher$Vectors", "parts", "LTreeMatcher$Parts;", true)
  | 2 => ("TreeMatcher$Vectors", "byOperator", "LTreeMatcher$Groups;", true)
  | 3 => ("TreeMatcher$Vectors", "labels", "LTreeMatcher$Labels;", true)
  | 4 => ("TreeMatcher$Vectors", "rows", "[[J", true)
  | 5 => ("TreeMatcher$Vectors", "roots", "[I", true)
  | 6 => ("TreeMatcher$Vectors", "fresh", "[J", true)
  | _ => ("TreeMatcher$Vectors", "size", "I", false)
def kt_V : Nat → FieldType := fun k => match k with
  | 0 => .object "TreeMatcher$Grammar"
  | 1 => .object "TreeMatcher$Parts"
  | 2 => .object "TreeMatcher$Groups"
  | 3 => .object "TreeMatcher$Labels"
  | 4 => .array (.array .long)
  | 5 => .array .int
  | 6 => .array .long
  | _ => .int
theorem knm_V : ∀ a, a < 8 → ∀ b, b < 8 → a ≠ b → (kT_V a).2.1 ≠ (kT_V b).2.1 := by decide +kernel
theorem kty_V : ∀ k, k < 8 → parseFieldDescriptor (kT_V k).2.2.1 = some (kt_V k) := by decide +kernel
theorem kdf_V : ∀ j, j < 8 → defaultValue (kt_V j) = vp_V [.null, .null, .null, .null, .null, .null, .null, .int 0] j := by
  intro j hj
  match j, hj with
  | 0, _ => rfl
  | 1, _ => rfl
  | 2, _ => rfl
  | 3, _ => rfl
  | 4, _ => rfl
  | 5, _ => rfl
  | 6, _ => rfl
  | 7, _ => rfl
def kR_P : String := "TreeMatcher$Parts"
def kT_P : u_T := fun k => match k with
  | 0 => ("TreeMatcher$Parts", "lefts", "[I", true)
  | 1 => ("TreeMatcher$Parts", "rights", "[I", true)
  | 2 => ("TreeMatcher$Parts", "rules", "[I", true)
  | 3 => ("TreeMatcher$Parts", "open", "[I", true)
  | 4 => ("TreeMatcher$Parts", "byOperator", "LTreeMatcher$Groups;", true)
  | _ => ("TreeMatcher$Parts", "size", "I", false)
def kt_P : Nat → FieldType := fun k => match k with
  | 0 => .array .int
  | 1 => .array .int
  | 2 => .array .int
  | 3 => .array .int
  | 4 => .object "TreeMatcher$Groups"
  | _ => .int
theorem knm_P : ∀ a, a < 6 → ∀ b, b < 6 → a ≠ b → (kT_P a).2.1 ≠ (kT_P b).2.1 := by decide +kernel
theorem kty_P : ∀ k, k < 6 → parseFieldDescriptor (kT_P k).2.2.1 = some (kt_P k) := by decide +kernel
theorem kdf_P : ∀ j, j < 6 → defaultValue (kt_P j) = vp_V [.null, .null, .null, .null, .null, .int 0] j := by
  intro j hj
  match j, hj with
  | 0, _ => rfl
  | 1, _ => rfl
  | 2, _ => rfl
  | 3, _ => rfl
  | 4, _ => rfl
  | 5, _ => rfl
def kR_U : String := "TreeMatcher$Groups"
def kT_U : u_T := fun k => match k with
  | 0 => ("TreeMatcher$Groups", "groups", "I", true)
  | 1 => ("TreeMatcher$Groups", "starts", "[I", true)
  | _ => ("TreeMatcher$Groups", "members", "[I", true)
def kt_U : Nat → FieldType := fun k => match k with
  | 0 => .int
  | 1 => .array .int
  | _ => .array .int
theorem knm_U : ∀ a, a < 3 → ∀ b, b < 3 → a ≠ b → (kT_U a).2.1 ≠ (kT_U b).2.1 := by decide +kernel
theorem kty_U : ∀ k, k < 3 → parseFieldDescriptor (kT_U k).2.2.1 = some (kt_U k) := by decide +kernel
theorem kdf_U : ∀ j, j < 3 → defaultValue (kt_U j) = vp_V [.int 0, .null, .null] j := by
  intro j hj
  match j, hj with
  | 0, _ => rfl
  | 1, _ => rfl
  | 2, _ => rfl
def kR_L : String := "TreeMatcher$Labels"
def kT_L : u_T := fun k => match k with
  | 0 => ("TreeMatcher$Labels", "grammar", "LTreeMatcher$Grammar;", true)
  | 1 => ("TreeMatcher$Labels", "costs", "[J", true)
  | _ => ("TreeMatcher$Labels", "rules", "[I", true)
def kt_L : Nat → FieldType := fun k => match k with
  | 0 => .object "TreeMatcher$Grammar"
  | 1 => .array .long
  | _ => .array .int
theorem knm_L : ∀ a, a < 3 → ∀ b, b < 3 → a ≠ b → (kT_L a).2.1 ≠ (kT_L b).2.1 := by decide +kernel
theorem kty_L : ∀ k, k < 3 → parseFieldDescriptor (kT_L k).2.2.1 = some (kt_L k) := by decide +kernel
theorem kdf_L : ∀ j, j < 3 → defaultValue (kt_L j) = vp_V [.null, .null, .null] j := by
  intro j hj
  match j, hj with
  | 0, _ => rfl
  | 1, _ => rfl
  | 2, _ => rfl
def kR_D : String := "TreeMatcherModel"
def kT_D : u_T := fun k => match k with
  | 0 => ("TreeMatcherModel", "thrown", "I", false)
  | 1 => ("TreeMatcherModel", "kids", "[I", true)
  | 2 => ("TreeMatcherModel", "operators", "I", false)
  | 3 => ("TreeMatcherModel", "hand", "[I", true)
  | 4 => ("TreeMatcherModel", "handed", "I", false)
  | 5 => ("TreeMatcherModel", "rules", "I", false)
  | 6 => ("TreeMatcherModel", "gives", "[I", true)
  | 7 => ("TreeMatcherModel", "costs", "[I", true)
  | 8 => ("TreeMatcherModel", "lows", "[I", true)
  | 9 => ("TreeMatcherModel", "highs", "[I", true)
  | 10 => ("TreeMatcherModel", "sizes", "[I", true)
  | 11 => ("TreeMatcherModel", "elements", "[I", true)
  | 12 => ("TreeMatcherModel", "nodes", "I", false)
  | 13 => ("TreeMatcherModel", "operator", "[I", true)
  | 14 => ("TreeMatcherModel", "value", "[I", true)
  | 15 => ("TreeMatcherModel", "left", "[I", true)
  | 16 => ("TreeMatcherModel", "right", "[I", true)
  | 17 => ("TreeMatcherModel", "isKid", "[Z", true)
  | 18 => ("TreeMatcherModel", "least", "[I", true)
  | 19 => ("TreeMatcherModel", "ruleOf", "[I", true)
  | 20 => ("TreeMatcherModel", "pairs", "I", false)
  | 21 => ("TreeMatcherModel", "pairNode", "[I", true)
  | 22 => ("TreeMatcherModel", "pairRule", "[I", true)
  | 23 => ("TreeMatcherModel", "stands", "[I", true)
  | 24 => ("TreeMatcherModel", "todo", "[I", true)
  | 25 => ("TreeMatcherModel", "chainOf", "[I", true)
  | 26 => ("TreeMatcherModel", "chainFrom", "[I", true)
  | 27 => ("TreeMatcherModel", "coverNode", "[I", true)
  | 28 => ("TreeMatcherModel", "coverOf", "[I", true)
  | 29 => ("TreeMatcherModel", "coverRule", "[I", true)
  | 30 => ("TreeMatcherModel", "newNode", "[I", true)
  | 31 => ("TreeMatcherModel", "newRule", "[I", true)
  | 32 => ("TreeMatcherModel", "parts", "I", false)
  | 33 => ("TreeMatcherModel", "partOf", "[I", true)
  | 34 => ("TreeMatcherModel", "partRule", "[I", true)
  | 35 => ("TreeMatcherModel", "partFrom", "[I", true)
  | 36 => ("TreeMatcherModel", "partLeft", "[I", true)
  | 37 => ("TreeMatcherModel", "partRight", "[I", true)
  | 38 => ("TreeMatcherModel", "states", "[I", true)
  | 39 => ("TreeMatcherModel", "vectors", "[I", true)
  | 40 => ("TreeMatcherModel", "byRule", "[I", true)
  | _ => ("TreeMatcherModel", "stateCount", "I", false)
def kt_D : Nat → FieldType := fun k => match k with
  | 0 => .int
  | 1 => .array .int
  | 2 => .int
  | 3 => .array .int
  | 4 => .int
  | 5 => .int
  | 6 => .array .int
  | 7 => .array .int
  | 8 => .array .int
  | 9 => .array .int
  | 10 => .array .int
  | 11 => .array .int
  | 12 => .int
  | 13 => .array .int
  | 14 => .array .int
  | 15 => .array .int
  | 16 => .array .int
  | 17 => .array .boolean
  | 18 => .array .int
  | 19 => .array .int
  | 20 => .int
  | 21 => .array .int
  | 22 => .array .int
  | 23 => .array .int
  | 24 => .array .int
  | 25 => .array .int
  | 26 => .array .int
  | 27 => .array .int
  | 28 => .array .int
  | 29 => .array .int
  | 30 => .array .int
  | 31 => .array .int
  | 32 => .int
  | 33 => .array .int
  | 34 => .array .int
  | 35 => .array .int
  | 36 => .array .int
  | 37 => .array .int
  | 38 => .array .int
  | 39 => .array .int
  | 40 => .array .int
  | _ => .int
theorem knm_D : ∀ a, a < 42 → ∀ b, b < 42 → a ≠ b → (kT_D a).2.1 ≠ (kT_D b).2.1 := by decide +kernel
theorem kty_D : ∀ k, k < 42 → parseFieldDescriptor (kT_D k).2.2.1 = some (kt_D k) := by decide +kernel
theorem kdf_D : ∀ j, j < 42 → defaultValue (kt_D j) = vp_V [.int 0, .null, .int 0, .null, .int 0, .int 0, .null, .null, .null, .null, .null, .null, .int 0, .null, .null, .null, .null, .null, .null, .null, .int 0, .null, .null, .null, .null, .null, .null, .null, .null, .null, .null, .null, .int 0, .null, .null, .null, .null, .null, .null, .null, .null, .int 0] j := by
  intro j hj
  match j, hj with
  | 0, _ => rfl
  | 1, _ => rfl
  | 2, _ => rfl
  | 3, _ => rfl
  | 4, _ => rfl
  | 5, _ => rfl
  | 6, _ => rfl
  | 7, _ => rfl
  | 8, _ => rfl
  | 9, _ => rfl
  | 10, _ => rfl
  | 11, _ => rfl
  | 12, _ => rfl
  | 13, _ => rfl
  | 14, _ => rfl
  | 15, _ => rfl
  | 16, _ => rfl
  | 17, _ => rfl
  | 18, _ => rfl
  | 19, _ => rfl
  | 20, _ => rfl
  | 21, _ => rfl
  | 22, _ => rfl
  | 23, _ => rfl
  | 24, _ => rfl
  | 25, _ => rfl
  | 26, _ => rfl
  | 27, _ => rfl
  | 28, _ => rfl
  | 29, _ => rfl
  | 30, _ => rfl
  | 31, _ => rfl
  | 32, _ => rfl
  | 33, _ => rfl
  | 34, _ => rfl
  | 35, _ => rfl
  | 36, _ => rfl
  | 37, _ => rfl
  | 38, _ => rfl
  | 39, _ => rfl
  | 40, _ => rfl
  | 41, _ => rfl
  | k + 42, h => exact absurd h (by omega)
abbrev kcl : List vw_C := [(kR_M, kT_M, 4), (kR_G, kT_G, 14), (kR_F, kT_F, 14), (kR_C, kT_C, 7), (kR_Y, kT_Y, 4), (kR_V, kT_V, 8), (kR_P, kT_P, 6), (kR_U, kT_U, 3), (kR_L, kT_L, 3), (kR_D, kT_D, 42)]
theorem kin_M : ∀ w ∈ u_ws kR_M kT_M 4, w ∈ gw := by
  intro w hw
  obtain ⟨k, hk, rfl⟩ := List.mem_map.mp hw
  have hk := List.mem_range.mp hk
  match k, hk with
  | 0, _ => exact tw_287
  | 1, _ => exact tw_289
  | 2, _ => exact tw_291
  | 3, _ => exact tw_293
theorem kin_G : ∀ w ∈ u_ws kR_G kT_G 14, w ∈ gw := by
  intro w hw
  obtain ⟨k, hk, rfl⟩ := List.mem_map.mp hw
  have hk := List.mem_range.mp hk
  match k, hk with
  | 0, _ => exact tw_95
  | 1, _ => exact tw_97
  | 2, _ => exact tw_99
  | 3, _ => exact tw_101
  | 4, _ => exact tw_103
  | 5, _ => exact tw_105
  | 6, _ => exact tw_107
  | 7, _ => exact tw_109
  | 8, _ => exact tw_111
  | 9, _ => exact tw_113
  | 10, _ => exact tw_115
  | 11, _ => exact tw_117
  | 12, _ => exact tw_119
  | 13, _ => exact tw_121
theorem kin_F : ∀ w ∈ u_ws kR_F kT_F 14, w ∈ gw := by
  intro w hw
  obtain ⟨k, hk, rfl⟩ := List.mem_map.mp hw
  have hk := List.mem_range.mp hk
  match k, hk with
  | 0, _ => exact tw_205
  | 1, _ => exact tw_207
  | 2, _ => exact tw_209
  | 3, _ => exact tw_211
  | 4, _ => exact tw_213
  | 5, _ => exact tw_215
  | 6, _ => exact tw_217
  | 7, _ => exact tw_219
  | 8, _ => exact tw_221
  | 9, _ => exact tw_223
  | 10, _ => exact tw_225
  | 11, _ => exact tw_227
  | 12, _ => exact tw_229
  | 13, _ => exact tw_231
theorem kin_C : ∀ w ∈ u_ws kR_C kT_C 7, w ∈ gw := by
  intro w hw
  obtain ⟨k, hk, rfl⟩ := List.mem_map.mp hw
  have hk := List.mem_range.mp hk
  match k, hk with
  | 0, _ => exact tw_247
  | 1, _ => exact tw_249
  | 2, _ => exact tw_251
  | 3, _ => exact tw_253
  | 4, _ => exact tw_255
  | 5, _ => exact tw_257
  | 6, _ => exact tw_259
theorem kin_Y : ∀ w ∈ u_ws kR_Y kT_Y 4, w ∈ gw := by
  intro w hw
  obtain ⟨k, hk, rfl⟩ := List.mem_map.mp hw
  have hk := List.mem_range.mp hk
  match k, hk with
  | 0, _ => exact tw_274
  | 1, _ => exact tw_276
  | 2, _ => exact tw_278
  | 3, _ => exact tw_280
theorem kin_V : ∀ w ∈ u_ws kR_V kT_V 8, w ∈ gw := by
  intro w hw
  obtain ⟨k, hk, rfl⟩ := List.mem_map.mp hw
  have hk := List.mem_range.mp hk
  match k, hk with
  | 0, _ => exact tw_174
  | 1, _ => exact tw_176
  | 2, _ => exact tw_178
  | 3, _ => exact tw_180
  | 4, _ => exact tw_182
  | 5, _ => exact tw_184
  | 6, _ => exact tw_186
  | 7, _ => exact tw_188
theorem kin_P : ∀ w ∈ u_ws kR_P kT_P 6, w ∈ gw := by
  intro w hw
  obtain ⟨k, hk, rfl⟩ := List.mem_map.mp hw
  have hk := List.mem_range.mp hk
  match k, hk with
  | 0, _ => exact tw_65
  | 1, _ => exact tw_67
  | 2, _ => exact tw_69
  | 3, _ => exact tw_71
  | 4, _ => exact tw_73
  | 5, _ => exact tw_75
theorem kin_U : ∀ w ∈ u_ws kR_U kT_U 3, w ∈ gw := by
  intro w hw
  obtain ⟨k, hk, rfl⟩ := List.mem_map.mp hw
  have hk := List.mem_range.mp hk
  match k, hk with
  | 0, _ => exact tw_43
  | 1, _ => exact tw_45
  | 2, _ => exact tw_47
theorem kin_L : ∀ w ∈ u_ws kR_L kT_L 3, w ∈ gw := by
  intro w hw
  obtain ⟨k, hk, rfl⟩ := List.mem_map.mp hw
  have hk := List.mem_range.mp hk
  match k, hk with
  | 0, _ => exact tw_139
  | 1, _ => exact tw_141
  | 2, _ => exact tw_143
theorem kin_D : ∀ w ∈ u_ws kR_D kT_D 42, w ∈ gw := by
  intro w hw
  obtain ⟨k, hk, rfl⟩ := List.mem_map.mp hw
  have hk := List.mem_range.mp hk
  match k, hk with
  | 0, _ => exact tw_859
  | 1, _ => exact tw_861
  | 2, _ => exact tw_863
  | 3, _ => exact tw_865
  | 4, _ => exact tw_867
  | 5, _ => exact tw_869
  | 6, _ => exact tw_871
  | 7, _ => exact tw_873
  | 8, _ => exact tw_875
  | 9, _ => exact tw_877
  | 10, _ => exact tw_879
  | 11, _ => exact tw_881
  | 12, _ => exact tw_883
  | 13, _ => exact tw_885
  | 14, _ => exact tw_887
  | 15, _ => exact tw_889
  | 16, _ => exact tw_891
  | 17, _ => exact tw_893
  | 18, _ => exact tw_895
  | 19, _ => exact tw_897
  | 20, _ => exact tw_899
  | 21, _ => exact tw_901
  | 22, _ => exact tw_903
  | 23, _ => exact tw_905
  | 24, _ => exact tw_907
  | 25, _ => exact tw_909
  | 26, _ => exact tw_911
  | 27, _ => exact tw_913
  | 28, _ => exact tw_915
  | 29, _ => exact tw_917
  | 30, _ => exact tw_919
  | 31, _ => exact tw_921
  | 32, _ => exact tw_923
  | 33, _ => exact tw_925
  | 34, _ => exact tw_927
  | 35, _ => exact tw_929
  | 36, _ => exact tw_931
  | 37, _ => exact tw_933
  | 38, _ => exact tw_935
  | 39, _ => exact tw_937
  | 40, _ => exact tw_939
  | 41, _ => exact tw_941
  | k + 42, h => exact absurd h (by omega)
abbrev b_M_isWithin : ByteArray := prog_1_method_15_code
def y_M_isWithin : MethodName := ⟨"TreeMatcher", "isWithin", "(II)Z"⟩
def ws_M_isWithin : List Cond := Cond.code y_M_isWithin b_M_isWithin 2 (Option.some Jvm.ClassFile.FieldType.boolean) :: gw
theorem cin_M_isWithin : Cond.code y_M_isWithin b_M_isWithin 2 (Option.some Jvm.ClassFile.FieldType.boolean) ∈ gw := tw_323
abbrev b_G_handSize : ByteArray := prog_4_method_7_code
def y_G_handSize : MethodName := ⟨"TreeMatcher$Grammar", "handSize", "()I"⟩
def ws_G_handSize : List Cond := Cond.code y_G_handSize b_G_handSize 1 (Option.some Jvm.ClassFile.FieldType.int) :: gw
theorem cin_G_handSize : Cond.code y_G_handSize b_G_handSize 1 (Option.some Jvm.ClassFile.FieldType.int) ∈ gw := tw_428
abbrev b_G_ruleCount : ByteArray := prog_4_method_11_code
def y_G_ruleCount : MethodName := ⟨"TreeMatcher$Grammar", "ruleCount", "()I"⟩
def ws_G_ruleCount : List Cond := Cond.code y_G_ruleCount b_G_ruleCount 1 (Option.some Jvm.ClassFile.FieldType.int) :: gw
theorem cin_G_ruleCount : Cond.code y_G_ruleCount b_G_ruleCount 1 (Option.some Jvm.ClassFile.FieldType.int) ∈ gw := tw_444
abbrev b_F_size : ByteArray := prog_3_method_2_code
def y_F_size : MethodName := ⟨"TreeMatcher$Forest", "size", "()I"⟩
def ws_F_size : List Cond := Cond.code y_F_size b_F_size 1 (Option.some Jvm.ClassFile.FieldType.int) :: gw
theorem cin_F_size : Cond.code y_F_size b_F_size 1 (Option.some Jvm.ClassFile.FieldType.int) ∈ gw := tw_448
abbrev b_P_size : ByteArray := prog_7_method_4_code
def y_P_size : MethodName := ⟨"TreeMatcher$Parts", "size", "()I"⟩
def ws_P_size : List Cond := Cond.code y_P_size b_P_size 1 (Option.some Jvm.ClassFile.FieldType.int) :: gw
theorem cin_P_size : Cond.code y_P_size b_P_size 1 (Option.some Jvm.ClassFile.FieldType.int) ∈ gw := tw_570
abbrev b_C_size : ByteArray := prog_2_method_2_code
def y_C_size : MethodName := ⟨"TreeMatcher$Covering", "size", "()I"⟩
def ws_C_size : List Cond := Cond.code y_C_size b_C_size 1 (Option.some Jvm.ClassFile.FieldType.int) :: gw
theorem cin_C_size : Cond.code y_C_size b_C_size 1 (Option.some Jvm.ClassFile.FieldType.int) ∈ gw := tw_732
abbrev b_G_hasLimits : ByteArray := prog_4_method_17_code
def y_G_hasLimits : MethodName := ⟨"TreeMatcher$Grammar", "hasLimits", "()Z"⟩
def ws_G_hasLimits : List Cond := Cond.code y_G_hasLimits b_G_hasLimits 1 (Option.some Jvm.ClassFile.FieldType.boolean) :: gw
theorem cin_G_hasLimits : Cond.code y_G_hasLimits b_G_hasLimits 1 (Option.some Jvm.ClassFile.FieldType.boolean) ∈ gw := tw_756
abbrev b_G_operatorCount : ByteArray := prog_4_method_4_code
def y_G_operatorCount : MethodName := ⟨"TreeMatcher$Grammar", "operatorCount", "()I"⟩
def ws_G_operatorCount : List Cond := Cond.code y_G_operatorCount b_G_operatorCount 1 (Option.some Jvm.ClassFile.FieldType.int) :: gw
theorem cin_G_operatorCount : Cond.code y_G_operatorCount b_G_operatorCount 1 (Option.some Jvm.ClassFile.FieldType.int) ∈ gw := tw_765
abbrev b_V_size : ByteArray := prog_9_method_2_code
def y_V_size : MethodName := ⟨"TreeMatcher$Vectors", "size", "()I"⟩
def ws_V_size : List Cond := Cond.code y_V_size b_V_size 1 (Option.some Jvm.ClassFile.FieldType.int) :: gw
theorem cin_V_size : Cond.code y_V_size b_V_size 1 (Option.some Jvm.ClassFile.FieldType.int) ∈ gw := tw_773
abbrev b_D_thrown : ByteArray := prog_11_method_2_code
def y_D_thrown : MethodName := ⟨"TreeMatcherModel", "thrown", "()I"⟩
def ws_D_thrown : List Cond := Cond.code y_D_thrown b_D_thrown 1 (Option.some Jvm.ClassFile.FieldType.int) :: gw
theorem cin_D_thrown : Cond.code y_D_thrown b_D_thrown 1 (Option.some Jvm.ClassFile.FieldType.int) ∈ gw := tw_947
theorem d_M_isWithin_0 : decode b_M_isWithin 0 = .ok (.iload_n 0, 1) := by decide +kernel
theorem d_M_isWithin_1 : decode b_M_isWithin 1 = .ok (.ifCond .lt 12, 3) := by decide +kernel
theorem d_M_isWithin_4 : decode b_M_isWithin 4 = .ok (.iload_n 0, 1) := by decide +kernel
theorem d_M_isWithin_5 : decode b_M_isWithin 5 = .ok (.iload_n 1, 1) := by decide +kernel
theorem d_M_isWithin_6 : decode b_M_isWithin 6 = .ok (.if_icmp .ge 7, 3) := by decide +kernel
theorem d_M_isWithin_9 : decode b_M_isWithin 9 = .ok (.iconst 1, 1) := by decide +kernel
theorem d_M_isWithin_10 : decode b_M_isWithin 10 = .ok (.goto 4, 3) := by decide +kernel
theorem d_M_isWithin_13 : decode b_M_isWithin 13 = .ok (.iconst 0, 1) := by decide +kernel
theorem d_M_isWithin_14 : decode b_M_isWithin 14 = .ok (.ireturn, 1) := by decide +kernel
theorem d_G_handSize_0 : decode b_G_handSize 0 = .ok (.aload_n 0, 1) := by decide +kernel
theorem d_G_handSize_1 : decode b_G_handSize 1 = .ok (.getfield 22, 3) := by decide +kernel
theorem d_G_handSize_4 : decode b_G_handSize 4 = .ok (.ireturn, 1) := by decide +kernel
theorem d_G_ruleCount_0 : decode b_G_ruleCount 0 = .ok (.aload_n 0, 1) := by decide +kernel
theorem d_G_ruleCount_1 : decode b_G_ruleCount 1 = .ok (.getfield 52, 3) := by decide +kernel
theorem d_G_ruleCount_4 : decode b_G_ruleCount 4 = .ok (.ireturn, 1) := by decide +kernel
theorem d_F_size_0 : decode b_F_size 0 = .ok (.aload_n 0, 1) := by decide +kernel
theorem d_F_size_1 : decode b_F_size 1 = .ok (.getfield 37, 3) := by decide +kernel
theorem d_F_size_4 : decode b_F_size 4 = .ok (.ireturn, 1) := by decide +kernel
theorem d_P_size_0 : decode b_P_size 0 = .ok (.aload_n 0, 1) := by decide +kernel
theorem d_P_size_1 : decode b_P_size 1 = .ok (.getfield 33, 3) := by decide +kernel
theorem d_P_size_4 : decode b_P_size 4 = .ok (.ireturn, 1) := by decide +kernel
theorem d_C_size_0 : decode b_C_size 0 = .ok (.aload_n 0, 1) := by decide +kernel
theorem d_C_size_1 : decode b_C_size 1 = .ok (.getfield 25, 3) := by decide +kernel
theorem d_C_size_4 : decode b_C_size 4 = .ok (.ireturn, 1) := by decide +kernel
theorem d_G_hasLimits_0 : decode b_G_hasLimits 0 = .ok (.aload_n 0, 1) := by decide +kernel
theorem d_G_hasLimits_1 : decode b_G_hasLimits 1 = .ok (.getfield 55, 3) := by decide +kernel
theorem d_G_hasLimits_4 : decode b_G_hasLimits 4 = .ok (.ireturn, 1) := by decide +kernel
theorem d_G_operatorCount_0 : decode b_G_operatorCount 0 = .ok (.aload_n 0, 1) := by decide +kernel
theorem d_G_operatorCount_1 : decode b_G_operatorCount 1 = .ok (.getfield 15, 3) := by decide +kernel
theorem d_G_operatorCount_4 : decode b_G_operatorCount 4 = .ok (.ireturn, 1) := by decide +kernel
theorem d_V_size_0 : decode b_V_size 0 = .ok (.aload_n 0, 1) := by decide +kernel
theorem d_V_size_1 : decode b_V_size 1 = .ok (.getfield 17, 3) := by decide +kernel
theorem d_V_size_4 : decode b_V_size 4 = .ok (.ireturn, 1) := by decide +kernel
theorem d_D_thrown_0 : decode b_D_thrown 0 = .ok (.aload_n 0, 1) := by decide +kernel
theorem d_D_thrown_1 : decode b_D_thrown 1 = .ok (.getfield 115, 3) := by decide +kernel
theorem d_D_thrown_4 : decode b_D_thrown 4 = .ok (.ireturn, 1) := by decide +kernel
end
section
set_option maxHeartbeats 4000000 in
set_option maxRecDepth 100000 in
/-- isWithin(x, y) -/
theorem c_M_isWithin (l : Launch) (dC : Nat → ClassId) (dI : Nat → Nat → Nat) (sz : Nat) (x y : Int32) : Met l y_M_isWithin ws_M_isWithin ({ frames := 0, cells := 0, slots := 0, locals := 0 }) (va_Pc [.int x, .int y] (fun U => U.heap.size = sz ∧ va_P (dC, dI) kcl [] U.heap ∧ va_K (dC, dI) kcl [] U)) (va_Qi (fun (r : Int32) (_ : Unit) => r = if 0 ≤ x ∧ x < y then 1 else 0) (fun (_ : Unit) (_ : State) => True) (va_A [] sz)) 0 0 (va_A [] sz) := by
  refine Met.ofW (cc := b_M_isWithin) (maxL := 2) (ret := (Option.some Jvm.ClassFile.FieldType.boolean)) (by decide) rfl ?_
  intro p e s m args below meth c s₁ B hml hv
  obtain ⟨rfl, hsz, hP, hK⟩ := hv
  have hx := B.exec
  have hb := B.bytes
  have hr := B.returns
  have hlocks := B.notSynchronized
  have hg : ∀ w ∈ gw, w.before _ s = true := fun w h => atoms_spec (ws := ws_M_isWithin) B.pre w (List.mem_cons_of_mem _ h)
  have hown : s.vm.findClass "TreeMatcher" = some m.cls := findClass_of_methodNamed B.named
  subst hsz
  have hA : ∀ q : Nat, s.heap.size ≤ q → va_A ([] : va_W) s.heap.size q := fun q h => Or.inr h
  generalize hAe : va_A ([] : va_W) s.heap.size = A at hA ⊢
  have hS : va_S A s.heap s.heap [] := va_S.rf
  have hl := lv_entry ([.int x, .int y] : List Value) (n := 2) (Nat.le_of_ble_eq_true rfl)
  rw [lg_entry_eq]
  generalize (lg_sl ([.int x, .int y] : List Value) ++ List.replicate (2 - (lg_sl ([.int x, .int y] : List Value)).length) Slot.unset).toArray = ls at hl ⊢
  have hl : lv_has ls 2 [(0, .int x), (1, .int y)] := hl
  refine lv_iload_n hx hb d_M_isWithin_0 rfl (lv_at hl 0 rfl) ?_
  refine lv_if_lt (tgt := 13) hx hb d_M_isWithin_1 (by decide) (fun c_1 => ?_) (fun c_1 => ?_)
  · refine lv_iconst (v := 0) hx hb d_M_isWithin_13 (by decide) ?_
    exact W.zret (v := 0) hx hb hr rfl (fun t ht hW => ⟨⟨0, (), rfl, (by rw [if_neg (fun h => absurd c_1 (Int32.not_lt.mpr h.1))]), trivial⟩, hS.F ht⟩) hS.2.2 d_M_isWithin_14
  · refine lv_iload_n hx hb d_M_isWithin_4 rfl (lv_at hl 0 rfl) ?_
    refine lv_iload_n hx hb d_M_isWithin_5 rfl (lv_at hl 1 rfl) ?_
    refine lv_icmp_ge (tgt := 13) hx hb d_M_isWithin_6 (by decide) (fun c_2 => ?_) (fun c_2 => ?_)
    · refine lv_iconst (v := 0) hx hb d_M_isWithin_13 (by decide) ?_
      exact W.zret (v := 0) hx hb hr rfl (fun t ht hW => ⟨⟨0, (), rfl, (by rw [if_neg (fun h => absurd h.2 (Int32.not_lt.mpr c_2))]), trivial⟩, hS.F ht⟩) hS.2.2 d_M_isWithin_14
    · refine lv_iconst (v := 1) hx hb d_M_isWithin_9 (by decide) ?_
      refine lv_goto (tgt := 14) hx hb d_M_isWithin_10 (by decide) ?_
      exact W.zret (v := 1) hx hb hr rfl (fun t ht hW => ⟨⟨1, (), rfl, (by rw [if_pos ⟨Int32.not_lt.mp c_1, Int32.not_le.mp c_2⟩]), trivial⟩, hS.F ht⟩) hS.2.2 d_M_isWithin_14
set_option maxHeartbeats 4000000 in
set_option maxRecDepth 100000 in
/-- TreeMatcher$Grammar.operatorCount() -/
theorem c_G_operatorCount (l : Launch) (dC : Nat → ClassId) (dI : Nat → Nat → Nat) (sz : Nat) (a : Nat) (za : Nat → Value) (v : Int32) : Met l y_G_operatorCount ws_G_operatorCount ({ frames := 0, cells := 0, slots := 0, locals := 0 }) (va_Pc [.ref a] (fun U => U.heap.size = sz ∧ va_P (dC, dI) kcl [(a, .inr (1, [(za 0), .int v, (za 2), (za 3), (za 4), (za 5), (za 6), (za 7), (za 8), (za 9), (za 10), (za 11), (za 12), (za 13)]))] U.heap ∧ va_K (dC, dI) kcl [] U)) (va_Qi (fun (r : Int32) (_ : Unit) => r = v) (fun (_ : Unit) (_ : State) => True) (va_A [] sz)) 0 0 (va_A [] sz) := by
  refine Met.ofW (cc := b_G_operatorCount) (maxL := 1) (ret := (Option.some Jvm.ClassFile.FieldType.int)) (by decide) rfl ?_
  intro p e s m args below meth c s₁ B hml hv
  obtain ⟨rfl, hsz, hP, hK⟩ := hv
  have hx := B.exec
  have hb := B.bytes
  have hr := B.returns
  have hlocks := B.notSynchronized
  have hg : ∀ w ∈ gw, w.before _ s = true := fun w h => atoms_spec (ws := ws_G_operatorCount) B.pre w (List.mem_cons_of_mem _ h)
  have hown : s.vm.findClass "TreeMatcher$Grammar" = some m.cls := findClass_of_methodNamed B.named
  subst hsz
  have hA : ∀ q : Nat, s.heap.size ≤ q → va_A ([] : va_W) s.heap.size q := fun q h => Or.inr h
  generalize hAe : va_A ([] : va_W) s.heap.size = A at hA ⊢
  have hS : va_S A s.heap s.heap [] := va_S.rf
  have hl := lv_entry ([.ref a] : List Value) (n := 1) (Nat.le_of_ble_eq_true rfl)
  rw [lg_entry_eq]
  generalize (lg_sl ([.ref a] : List Value) ++ List.replicate (1 - (lg_sl ([.ref a] : List Value)).length) Slot.unset).toArray = ls at hl ⊢
  have hl : lv_has ls 1 [(0, .ref a)] := hl
  refine lv_aload_n hx hb d_G_operatorCount_0 rfl (lv_at hl 0 rfl) ?_
  refine va_get (D := (dC, dI)) (ci := 1) (v := .int v) (C := kR_G) (T := kT_G) (N := 14) hx hb hg kin_G hown hK hP 0 rfl rfl 1 (by decide) (hg _ tw_82) (fun _ h9 => h9) rfl d_G_operatorCount_1 ?_
  exact W.iret (v := v) hx hb hr (fun t ht hW => ⟨⟨v, (), rfl, rfl, trivial⟩, hS.F ht⟩) hS.2.2 d_G_operatorCount_4
set_option maxHeartbeats 4000000 in
set_option maxRecDepth 100000 in
/-- TreeMatcher$Grammar.handSize() -/
theorem c_G_handSize (l : Launch) (dC : Nat → ClassId) (dI : Nat → Nat → Nat) (sz : Nat) (a : Nat) (za : Nat → Value) (v : Int32) : Met l y_G_handSize ws_G_handSize ({ frames := 0, cells := 0, slots := 0, locals := 0 }) (va_Pc [.ref a] (fun U => U.heap.size = sz ∧ va_P (dC, dI) kcl [(a, .inr (1, [(za 0), (za 1), (za 2), .int v, (za 4), (za 5), (za 6), (za 7), (za 8), (za 9), (za 10), (za 11), (za 12), (za 13)]))] U.heap ∧ va_K (dC, dI) kcl [] U)) (va_Qi (fun (r : Int32) (_ : Unit) => r = v) (fun (_ : Unit) (_ : State) => True) (va_A [] sz)) 0 0 (va_A [] sz) := by
  refine Met.ofW (cc := b_G_handSize) (maxL := 1) (ret := (Option.some Jvm.ClassFile.FieldType.int)) (by decide) rfl ?_
  intro p e s m args below meth c s₁ B hml hv
  obtain ⟨rfl, hsz, hP, hK⟩ := hv
  have hx := B.exec
  have hb := B.bytes
  have hr := B.returns
  have hlocks := B.notSynchronized
  have hg : ∀ w ∈ gw, w.before _ s = true := fun w h => atoms_spec (ws := ws_G_handSize) B.pre w (List.mem_cons_of_mem _ h)
  have hown : s.vm.findClass "TreeMatcher$Grammar" = some m.cls := findClass_of_methodNamed B.named
  subst hsz
  have hA : ∀ q : Nat, s.heap.size ≤ q → va_A ([] : va_W) s.heap.size q := fun q h => Or.inr h
  generalize hAe : va_A ([] : va_W) s.heap.size = A at hA ⊢
  have hS : va_S A s.heap s.heap [] := va_S.rf
  have hl := lv_entry ([.ref a] : List Value) (n := 1) (Nat.le_of_ble_eq_true rfl)
  rw [lg_entry_eq]
  generalize (lg_sl ([.ref a] : List Value) ++ List.replicate (1 - (lg_sl ([.ref a] : List Value)).length) Slot.unset).toArray = ls at hl ⊢
  have hl : lv_has ls 1 [(0, .ref a)] := hl
  refine lv_aload_n hx hb d_G_handSize_0 rfl (lv_at hl 0 rfl) ?_
  refine va_get (D := (dC, dI)) (ci := 1) (v := .int v) (C := kR_G) (T := kT_G) (N := 14) hx hb hg kin_G hown hK hP 0 rfl rfl 3 (by decide) (hg _ tw_84) (fun _ h9 => h9) rfl d_G_handSize_1 ?_
  exact W.iret (v := v) hx hb hr (fun t ht hW => ⟨⟨v, (), rfl, rfl, trivial⟩, hS.F ht⟩) hS.2.2 d_G_handSize_4
set_option maxHeartbeats 4000000 in
set_option maxRecDepth 100000 in
/-- TreeMatcher$Grammar.ruleCount() -/
theorem c_G_ruleCount (l : Launch) (dC : Nat → ClassId) (dI : Nat → Nat → Nat) (sz : Nat) (a : Nat) (za : Nat → Value) (v : Int32) : Met l y_G_ruleCount ws_G_ruleCount ({ frames := 0, cells := 0, slots := 0, locals := 0 }) (va_Pc [.ref a] (fun U => U.heap.size = sz ∧ va_P (dC, dI) kcl [(a, .inr (1, [(za 0), (za 1), (za 2), (za 3), (za 4), (za 5), (za 6), (za 7), (za 8), (za 9), (za 10), .int v, (za 12), (za 13)]))] U.heap ∧ va_K (dC, dI) kcl [] U)) (va_Qi (fun (r : Int32) (_ : Unit) => r = v) (fun (_ : Unit) (_ : State) => True) (va_A [] sz)) 0 0 (va_A [] sz) := by
  refine Met.ofW (cc := b_G_ruleCount) (maxL := 1) (ret := (Option.some Jvm.ClassFile.FieldType.int)) (by decide) rfl ?_
  intro p e s m args below meth c s₁ B hml hv
  obtain ⟨rfl, hsz, hP, hK⟩ := hv
  have hx := B.exec
  have hb := B.bytes
  have hr := B.returns
  have hlocks := B.notSynchronized
  have hg : ∀ w ∈ gw, w.before _ s = true := fun w h => atoms_spec (ws := ws_G_ruleCount) B.pre w (List.mem_cons_of_mem _ h)
  have hown : s.vm.findClass "TreeMatcher$Grammar" = some m.cls := findClass_of_methodNamed B.named
  subst hsz
  have hA : ∀ q : Nat, s.heap.size ≤ q → va_A ([] : va_W) s.heap.size q := fun q h => Or.inr h
  generalize hAe : va_A ([] : va_W) s.heap.size = A at hA ⊢
  have hS : va_S A s.heap s.heap [] := va_S.rf
  have hl := lv_entry ([.ref a] : List Value) (n := 1) (Nat.le_of_ble_eq_true rfl)
  rw [lg_entry_eq]
  generalize (lg_sl ([.ref a] : List Value) ++ List.replicate (1 - (lg_sl ([.ref a] : List Value)).length) Slot.unset).toArray = ls at hl ⊢
  have hl : lv_has ls 1 [(0, .ref a)] := hl
  refine lv_aload_n hx hb d_G_ruleCount_0 rfl (lv_at hl 0 rfl) ?_
  refine va_get (D := (dC, dI)) (ci := 1) (v := .int v) (C := kR_G) (T := kT_G) (N := 14) hx hb hg kin_G hown hK hP 0 rfl rfl 11 (by decide) (hg _ tw_92) (fun _ h9 => h9) rfl d_G_ruleCount_1 ?_
  exact W.iret (v := v) hx hb hr (fun t ht hW => ⟨⟨v, (), rfl, rfl, trivial⟩, hS.F ht⟩) hS.2.2 d_G_ruleCount_4
set_option maxHeartbeats 4000000 in
set_option maxRecDepth 100000 in
/-- TreeMatcher$Grammar.hasLimits() -/
theorem c_G_hasLimits (l : Launch) (dC : Nat → ClassId) (dI : Nat → Nat → Nat) (sz : Nat) (a : Nat) (za : Nat → Value) (v : Int32) (hv : v = 0 ∨ v = 1) : Met l y_G_hasLimits ws_G_hasLimits ({ frames := 0, cells := 0, slots := 0, locals := 0 }) (va_Pc [.ref a] (fun U => U.heap.size = sz ∧ va_P (dC, dI) kcl [(a, .inr (1, [(za 0), (za 1), (za 2), (za 3), (za 4), (za 5), (za 6), (za 7), (za 8), (za 9), (za 10), (za 11), .int v, (za 13)]))] U.heap ∧ va_K (dC, dI) kcl [] U)) (va_Qi (fun (r : Int32) (_ : Unit) => r = v) (fun (_ : Unit) (_ : State) => True) (va_A [] sz)) 0 0 (va_A [] sz) := by
  refine Met.ofW (cc := b_G_hasLimits) (maxL := 1) (ret := (Option.some Jvm.ClassFile.FieldType.boolean)) (by decide) rfl ?_
  intro p e s m args below meth c s₁ B hml hv
  obtain ⟨rfl, hsz, hP, hK⟩ := hv
  have hx := B.exec
  have hb := B.bytes
  have hr := B.returns
  have hlocks := B.notSynchronized
  have hg : ∀ w ∈ gw, w.before _ s = true := fun w h => atoms_spec (ws := ws_G_hasLimits) B.pre w (List.mem_cons_of_mem _ h)
  have hown : s.vm.findClass "TreeMatcher$Grammar" = some m.cls := findClass_of_methodNamed B.named
  subst hsz
  have hA : ∀ q : Nat, s.heap.size ≤ q → va_A ([] : va_W) s.heap.size q := fun q h => Or.inr h
  generalize hAe : va_A ([] : va_W) s.heap.size = A at hA ⊢
  have hS : va_S A s.heap s.heap [] := va_S.rf
  have hl := lv_entry ([.ref a] : List Value) (n := 1) (Nat.le_of_ble_eq_true rfl)
  rw [lg_entry_eq]
  generalize (lg_sl ([.ref a] : List Value) ++ List.replicate (1 - (lg_sl ([.ref a] : List Value)).length) Slot.unset).toArray = ls at hl ⊢
  have hl : lv_has ls 1 [(0, .ref a)] := hl
  refine lv_aload_n hx hb d_G_hasLimits_0 rfl (lv_at hl 0 rfl) ?_
  refine va_get (D := (dC, dI)) (ci := 1) (v := .int v) (C := kR_G) (T := kT_G) (N := 14) hx hb hg kin_G hown hK hP 0 rfl rfl 12 (by decide) (hg _ tw_93) (fun _ h9 => h9) rfl d_G_hasLimits_1 ?_
  exact W.zret (v := v) hx hb hr (by rcases hv with rfl | rfl <;> rfl) (fun t ht hW => ⟨⟨v, (), rfl, rfl, trivial⟩, hS.F ht⟩) hS.2.2 d_G_hasLimits_4
set_option maxHeartbeats 4000000 in
set_option maxRecDepth 100000 in
/-- TreeMatcher$Forest.size() -/
theorem c_F_size (l : Launch) (dC : Nat → ClassId) (dI : Nat → Nat → Nat) (sz : Nat) (a : Nat) (za : Nat → Value) (v : Int32) : Met l y_F_size ws_F_size ({ frames := 0, cells := 0, slots := 0, locals := 0 }) (va_Pc [.ref a] (fun U => U.heap.size = sz ∧ va_P (dC, dI) kcl [(a, .inr (2, [(za 0), (za 1), (za 2), (za 3), (za 4), (za 5), (za 6), (za 7), (za 8), .int v, (za 10), (za 11), (za 12), (za 13)]))] U.heap ∧ va_K (dC, dI) kcl [] U)) (va_Qi (fun (r : Int32) (_ : Unit) => r = v) (fun (_ : Unit) (_ : State) => True) (va_A [] sz)) 0 0 (va_A [] sz) := by
  refine Met.ofW (cc := b_F_size) (maxL := 1) (ret := (Option.some Jvm.ClassFile.FieldType.int)) (by decide) rfl ?_
  intro p e s m args below meth c s₁ B hml hv
  obtain ⟨rfl, hsz, hP, hK⟩ := hv
  have hx := B.exec
  have hb := B.bytes
  have hr := B.returns
  have hlocks := B.notSynchronized
  have hg : ∀ w ∈ gw, w.before _ s = true := fun w h => atoms_spec (ws := ws_F_size) B.pre w (List.mem_cons_of_mem _ h)
  have hown : s.vm.findClass "TreeMatcher$Forest" = some m.cls := findClass_of_methodNamed B.named
  subst hsz
  have hA : ∀ q : Nat, s.heap.size ≤ q → va_A ([] : va_W) s.heap.size q := fun q h => Or.inr h
  generalize hAe : va_A ([] : va_W) s.heap.size = A at hA ⊢
  have hS : va_S A s.heap s.heap [] := va_S.rf
  have hl := lv_entry ([.ref a] : List Value) (n := 1) (Nat.le_of_ble_eq_true rfl)
  rw [lg_entry_eq]
  generalize (lg_sl ([.ref a] : List Value) ++ List.replicate (1 - (lg_sl ([.ref a] : List Value)).length) Slot.unset).toArray = ls at hl ⊢
  have hl : lv_has ls 1 [(0, .ref a)] := hl
  refine lv_aload_n hx hb d_F_size_0 rfl (lv_at hl 0 rfl) ?_
  refine va_get (D := (dC, dI)) (ci := 2) (v := .int v) (C := kR_F) (T := kT_F) (N := 14) hx hb hg kin_F hown hK hP 0 rfl rfl 9 (by decide) (hg _ tw_200) (fun _ h9 => h9) rfl d_F_size_1 ?_
  exact W.iret (v := v) hx hb hr (fun t ht hW => ⟨⟨v, (), rfl, rfl, trivial⟩, hS.F ht⟩) hS.2.2 d_F_size_4
set_option maxHeartbeats 4000000 in
set_option maxRecDepth 100000 in
/-- TreeMatcher$Covering.size() -/
theorem c_C_size (l : Launch) (dC : Nat → ClassId) (dI : Nat → Nat → Nat) (sz : Nat) (a : Nat) (za : Nat → Value) (v : Int32) : Met l y_C_size ws_C_size ({ frames := 0, cells := 0, slots := 0, locals := 0 }) (va_Pc [.ref a] (fun U => U.heap.size = sz ∧ va_P (dC, dI) kcl [(a, .inr (3, [(za 0), (za 1), (za 2), (za 3), (za 4), (za 5), .int v]))] U.heap ∧ va_K (dC, dI) kcl [] U)) (va_Qi (fun (r : Int32) (_ : Unit) => r = v) (fun (_ : Unit) (_ : State) => True) (va_A [] sz)) 0 0 (va_A [] sz) := by
  refine Met.ofW (cc := b_C_size) (maxL := 1) (ret := (Option.some Jvm.ClassFile.FieldType.int)) (by decide) rfl ?_
  intro p e s m args below meth c s₁ B hml hv
  obtain ⟨rfl, hsz, hP, hK⟩ := hv
  have hx := B.exec
  have hb := B.bytes
  have hr := B.returns
  have hlocks := B.notSynchronized
  have hg : ∀ w ∈ gw, w.before _ s = true := fun w h => atoms_spec (ws := ws_C_size) B.pre w (List.mem_cons_of_mem _ h)
  have hown : s.vm.findClass "TreeMatcher$Covering" = some m.cls := findClass_of_methodNamed B.named
  subst hsz
  have hA : ∀ q : Nat, s.heap.size ≤ q → va_A ([] : va_W) s.heap.size q := fun q h => Or.inr h
  generalize hAe : va_A ([] : va_W) s.heap.size = A at hA ⊢
  have hS : va_S A s.heap s.heap [] := va_S.rf
  have hl := lv_entry ([.ref a] : List Value) (n := 1) (Nat.le_of_ble_eq_true rfl)
  rw [lg_entry_eq]
  generalize (lg_sl ([.ref a] : List Value) ++ List.replicate (1 - (lg_sl ([.ref a] : List Value)).length) Slot.unset).toArray = ls at hl ⊢
  have hl : lv_has ls 1 [(0, .ref a)] := hl
  refine lv_aload_n hx hb d_C_size_0 rfl (lv_at hl 0 rfl) ?_
  refine va_get (D := (dC, dI)) (ci := 3) (v := .int v) (C := kR_C) (T := kT_C) (N := 7) hx hb hg kin_C hown hK hP 0 rfl rfl 6 (by decide) (hg _ tw_246) (fun _ h9 => h9) rfl d_C_size_1 ?_
  exact W.iret (v := v) hx hb hr (fun t ht hW => ⟨⟨v, (), rfl, rfl, trivial⟩, hS.F ht⟩) hS.2.2 d_C_size_4
set_option maxHeartbeats 4000000 in
set_option maxRecDepth 100000 in
/-- TreeMatcher$Vectors.size() -/
theorem c_V_size (l : Launch) (dC : Nat → ClassId) (dI : Nat → Nat → Nat) (sz : Nat) (a : Nat) (za : Nat → Value) (v : Int32) : Met l y_V_size ws_V_size ({ frames := 0, cells := 0, slots := 0, locals := 0 }) (va_Pc [.ref a] (fun U => U.heap.size = sz ∧ va_P (dC, dI) kcl [(a, .inr (5, [(za 0), (za 1), (za 2), (za 3), (za 4), (za 5), (za 6), .int v]))] U.heap ∧ va_K (dC, dI) kcl [] U)) (va_Qi (fun (r : Int32) (_ : Unit) => r = v) (fun (_ : Unit) (_ : State) => True) (va_A [] sz)) 0 0 (va_A [] sz) := by
  refine Met.ofW (cc := b_V_size) (maxL := 1) (ret := (Option.some Jvm.ClassFile.FieldType.int)) (by decide) rfl ?_
  intro p e s m args below meth c s₁ B hml hv
  obtain ⟨rfl, hsz, hP, hK⟩ := hv
  have hx := B.exec
  have hb := B.bytes
  have hr := B.returns
  have hlocks := B.notSynchronized
  have hg : ∀ w ∈ gw, w.before _ s = true := fun w h => atoms_spec (ws := ws_V_size) B.pre w (List.mem_cons_of_mem _ h)
  have hown : s.vm.findClass "TreeMatcher$Vectors" = some m.cls := findClass_of_methodNamed B.named
  subst hsz
  have hA : ∀ q : Nat, s.heap.size ≤ q → va_A ([] : va_W) s.heap.size q := fun q h => Or.inr h
  generalize hAe : va_A ([] : va_W) s.heap.size = A at hA ⊢
  have hS : va_S A s.heap s.heap [] := va_S.rf
  have hl := lv_entry ([.ref a] : List Value) (n := 1) (Nat.le_of_ble_eq_true rfl)
  rw [lg_entry_eq]
  generalize (lg_sl ([.ref a] : List Value) ++ List.replicate (1 - (lg_sl ([.ref a] : List Value)).length) Slot.unset).toArray = ls at hl ⊢
  have hl : lv_has ls 1 [(0, .ref a)] := hl
  refine lv_aload_n hx hb d_V_size_0 rfl (lv_at hl 0 rfl) ?_
  refine va_get (D := (dC, dI)) (ci := 5) (v := .int v) (C := kR_V) (T := kT_V) (N := 8) hx hb hg kin_V hown hK hP 0 rfl rfl 7 (by decide) (hg _ tw_173) (fun _ h9 => h9) rfl d_V_size_1 ?_
  exact W.iret (v := v) hx hb hr (fun t ht hW => ⟨⟨v, (), rfl, rfl, trivial⟩, hS.F ht⟩) hS.2.2 d_V_size_4
set_option maxHeartbeats 4000000 in
set_option maxRecDepth 100000 in
/-- TreeMatcher$Parts.size() -/
theorem c_P_size (l : Launch) (dC : Nat → ClassId) (dI : Nat → Nat → Nat) (sz : Nat) (a : Nat) (za : Nat → Value) (v : Int32) : Met l y_P_size ws_P_size ({ frames := 0, cells := 0, slots := 0, locals := 0 }) (va_Pc [.ref a] (fun U => U.heap.size = sz ∧ va_P (dC, dI) kcl [(a, .inr (6, [(za 0), (za 1), (za 2), (za 3), (za 4), .int v]))] U.heap ∧ va_K (dC, dI) kcl [] U)) (va_Qi (fun (r : Int32) (_ : Unit) => r = v) (fun (_ : Unit) (_ : State) => True) (va_A [] sz)) 0 0 (va_A [] sz) := by
  refine Met.ofW (cc := b_P_size) (maxL := 1) (ret := (Option.some Jvm.ClassFile.FieldType.int)) (by decide) rfl ?_
  intro p e s m args below meth c s₁ B hml hv
  obtain ⟨rfl, hsz, hP, hK⟩ := hv
  have hx := B.exec
  have hb := B.bytes
  have hr := B.returns
  have hlocks := B.notSynchronized
  have hg : ∀ w ∈ gw, w.before _ s = true := fun w h => atoms_spec (ws := ws_P_size) B.pre w (List.mem_cons_of_mem _ h)
  have hown : s.vm.findClass "TreeMatcher$Parts" = some m.cls := findClass_of_methodNamed B.named
  subst hsz
  have hA : ∀ q : Nat, s.heap.size ≤ q → va_A ([] : va_W) s.heap.size q := fun q h => Or.inr h
  generalize hAe : va_A ([] : va_W) s.heap.size = A at hA ⊢
  have hS : va_S A s.heap s.heap [] := va_S.rf
  have hl := lv_entry ([.ref a] : List Value) (n := 1) (Nat.le_of_ble_eq_true rfl)
  rw [lg_entry_eq]
  generalize (lg_sl ([.ref a] : List Value) ++ List.replicate (1 - (lg_sl ([.ref a] : List Value)).length) Slot.unset).toArray = ls at hl ⊢
  have hl : lv_has ls 1 [(0, .ref a)] := hl
  refine lv_aload_n hx hb d_P_size_0 rfl (lv_at hl 0 rfl) ?_
  refine va_get (D := (dC, dI)) (ci := 6) (v := .int v) (C := kR_P) (T := kT_P) (N := 6) hx hb hg kin_P hown hK hP 0 rfl rfl 5 (by decide) (hg _ tw_64) (fun _ h9 => h9) rfl d_P_size_1 ?_
  exact W.iret (v := v) hx hb hr (fun t ht hW => ⟨⟨v, (), rfl, rfl, trivial⟩, hS.F ht⟩) hS.2.2 d_P_size_4
set_option maxHeartbeats 4000000 in
set_option maxRecDepth 100000 in
/-- TreeMatcherModel.thrown() -/
theorem c_D_thrown (l : Launch) (dC : Nat → ClassId) (dI : Nat → Nat → Nat) (sz : Nat) (a : Nat) (za : Nat → Value) (v : Int32) : Met l y_D_thrown ws_D_thrown ({ frames := 0, cells := 0, slots := 0, locals := 0 }) (va_Pc [.ref a] (fun U => U.heap.size = sz ∧ va_P (dC, dI) kcl [(a, .inr (9, [.int v, (za 1), (za 2), (za 3), (za 4), (za 5), (za 6), (za 7), (za 8), (za 9), (za 10), (za 11), (za 12), (za 13), (za 14), (za 15), (za 16), (za 17), (za 18), (za 19), (za 20), (za 21), (za 22), (za 23), (za 24), (za 25), (za 26), (za 27), (za 28), (za 29), (za 30), (za 31), (za 32), (za 33), (za 34), (za 35), (za 36), (za 37), (za 38), (za 39), (za 40), (za 41)]))] U.heap ∧ va_K (dC, dI) kcl [] U)) (va_Qi (fun (r : Int32) (_ : Unit) => r = v) (fun (_ : Unit) (_ : State) => True) (va_A [] sz)) 0 0 (va_A [] sz) := by
  refine Met.ofW (cc := b_D_thrown) (maxL := 1) (ret := (Option.some Jvm.ClassFile.FieldType.int)) (by decide) rfl ?_
  intro p e s m args below meth c s₁ B hml hv
  obtain ⟨rfl, hsz, hP, hK⟩ := hv
  have hx := B.exec
  have hb := B.bytes
  have hr := B.returns
  have hlocks := B.notSynchronized
  have hg : ∀ w ∈ gw, w.before _ s = true := fun w h => atoms_spec (ws := ws_D_thrown) B.pre w (List.mem_cons_of_mem _ h)
  have hown : s.vm.findClass "TreeMatcherModel" = some m.cls := findClass_of_methodNamed B.named
  subst hsz
  have hA : ∀ q : Nat, s.heap.size ≤ q → va_A ([] : va_W) s.heap.size q := fun q h => Or.inr h
  generalize hAe : va_A ([] : va_W) s.heap.size = A at hA ⊢
  have hS : va_S A s.heap s.heap [] := va_S.rf
  have hl := lv_entry ([.ref a] : List Value) (n := 1) (Nat.le_of_ble_eq_true rfl)
  rw [lg_entry_eq]
  generalize (lg_sl ([.ref a] : List Value) ++ List.replicate (1 - (lg_sl ([.ref a] : List Value)).length) Slot.unset).toArray = ls at hl ⊢
  have hl : lv_has ls 1 [(0, .ref a)] := hl
  refine lv_aload_n hx hb d_D_thrown_0 rfl (lv_at hl 0 rfl) ?_
  refine va_get (D := (dC, dI)) (ci := 9) (v := .int v) (C := kR_D) (T := kT_D) (N := 42) hx hb hg kin_D hown hK hP 0 rfl rfl 0 (by decide) (hg _ tw_817) (fun _ h9 => h9) rfl d_D_thrown_1 ?_
  exact W.iret (v := v) hx hb hr (fun t ht hW => ⟨⟨v, (), rfl, rfl, trivial⟩, hS.F ht⟩) hS.2.2 d_D_thrown_4
end
section
set_option maxRecDepth 100000 in
theorem tw_1 : (Jvm.Cond.initialized "TreeMatcher") ∈ gw := gw_of (List.mem_of_getElem? (i := 1) rfl) rfl
set_option maxRecDepth 100000 in
theorem tw_2 : (Jvm.Cond.initialized "TreeMatcher$Grammar") ∈ gw := gw_of (List.mem_of_getElem? (i := 2) rfl) rfl
set_option maxRecDepth 100000 in
theorem tw_4 : (Jvm.Cond.initialized "TreeMatcher$Parts") ∈ gw := gw_of (List.mem_of_getElem? (i := 4) rfl) rfl
set_option maxRecDepth 100000 in
theorem tw_8 : (Jvm.Cond.initialized "TreeMatcher$Vectors") ∈ gw := gw_of (List.mem_of_getElem? (i := 8) rfl) rfl
set_option maxRecDepth 100000 in
theorem tw_81 : (Jvm.Cond.fieldLink "TreeMatcher$Grammar" (9 : Nat) "TreeMatcher$Grammar" "kids" "[I") ∈ gw := gw_of (List.mem_of_getElem? (i := 81) rfl) rfl
set_option maxRecDepth 100000 in
theorem tw_83 : (Jvm.Cond.fieldLink "TreeMatcher$Grammar" (19 : Nat) "TreeMatcher$Grammar" "hand" "[I") ∈ gw := gw_of (List.mem_of_getElem? (i := 83) rfl) rfl
set_option maxRecDepth 100000 in
theorem tw_94 : (Jvm.Cond.fieldLink "TreeMatcher$Grammar" (62 : Nat) "TreeMatcher$Grammar" "parts" "LTreeMatcher$Parts;") ∈ gw := gw_of (List.mem_of_getElem? (i := 94) rfl) rfl
set_option maxRecDepth 100000 in
theorem tw_202 : (Jvm.Cond.fieldLink "TreeMatcher$Forest" (65 : Nat) "TreeMatcher$Forest" "vectors" "LTreeMatcher$Vectors;") ∈ gw := gw_of (List.mem_of_getElem? (i := 202) rfl) rfl
set_option maxRecDepth 100000 in
theorem tw_270 : (Jvm.Cond.fieldLink "TreeMatcher$Tally" (18 : Nat) "TreeMatcher$Tally" "grammar" "LTreeMatcher$Grammar;") ∈ gw := gw_of (List.mem_of_getElem? (i := 270) rfl) rfl
set_option maxRecDepth 100000 in
theorem tw_271 : (Jvm.Cond.fieldLink "TreeMatcher$Tally" (27 : Nat) "TreeMatcher$Tally" "vectors" "LTreeMatcher$Vectors;") ∈ gw := gw_of (List.mem_of_getElem? (i := 271) rfl) rfl
set_option maxRecDepth 100000 in
theorem tw_272 : (Jvm.Cond.fieldLink "TreeMatcher$Tally" (9 : Nat) "TreeMatcher$Tally" "operatorsThen" "I") ∈ gw := gw_of (List.mem_of_getElem? (i := 272) rfl) rfl
set_option maxRecDepth 100000 in
theorem tw_273 : (Jvm.Cond.fieldLink "TreeMatcher$Tally" (15 : Nat) "TreeMatcher$Tally" "rulesThen" "I") ∈ gw := gw_of (List.mem_of_getElem? (i := 273) rfl) rfl
set_option maxRecDepth 100000 in
theorem tw_303 : (Jvm.Cond.code ({ cls := "TreeMatcher$Covering", name := "forget", desc := "()V" } : Jvm.MethodName) prog_2_method_4_code (1 : Nat) (Option.none : Option Jvm.ClassFile.FieldType)) ∈ gw := gw_of (List.mem_of_getElem? (i := 303) rfl) rfl
set_option maxRecDepth 100000 in
theorem tw_307 : (Jvm.Cond.code ({ cls := "TreeMatcher$Forest", name := "forget", desc := "()I" } : Jvm.MethodName) prog_3_method_14_code (2 : Nat) (Option.some Jvm.ClassFile.FieldType.int)) ∈ gw := gw_of (List.mem_of_getElem? (i := 307) rfl) rfl
set_option maxRecDepth 100000 in
theorem tw_308 : (Jvm.Cond.methodLink "TreeMatcher$Forest" (144 : Nat) ({ cls := "TreeMatcher$Vectors", name := "forget", desc := "()V" } : Jvm.MethodName)) ∈ gw := gw_of (List.mem_of_getElem? (i := 308) rfl) rfl
set_option maxRecDepth 100000 in
theorem tw_309 : (Jvm.Cond.instanceMethod ({ cls := "TreeMatcher$Vectors", name := "forget", desc := "()V" } : Jvm.MethodName)) ∈ gw := gw_of (List.mem_of_getElem? (i := 309) rfl) rfl
set_option maxRecDepth 100000 in
theorem tw_310 : (Jvm.Cond.selects "TreeMatcher$Vectors" ({ cls := "TreeMatcher$Vectors", name := "forget", desc := "()V" } : Jvm.MethodName) ({ cls := "TreeMatcher$Vectors", name := "forget", desc := "()V" } : Jvm.MethodName)) ∈ gw := gw_of (List.mem_of_getElem? (i := 310) rfl) rfl
set_option maxRecDepth 100000 in
theorem tw_311 : (Jvm.Cond.code ({ cls := "TreeMatcher$Vectors", name := "forget", desc := "()V" } : Jvm.MethodName) prog_9_method_3_code (1 : Nat) (Option.none : Option Jvm.ClassFile.FieldType)) ∈ gw := gw_of (List.mem_of_getElem? (i := 311) rfl) rfl
set_option maxRecDepth 100000 in
theorem tw_322 : (Jvm.Cond.static ({ cls := "TreeMatcher", name := "isWithin", desc := "(II)Z" } : Jvm.MethodName)) ∈ gw := gw_of (List.mem_of_getElem? (i := 322) rfl) rfl
set_option maxRecDepth 100000 in
theorem tw_395 : (Jvm.Cond.code ({ cls := "TreeMatcher$Grammar", name := "hasOperator", desc := "(I)Z" } : Jvm.MethodName) prog_4_method_2_code (2 : Nat) (Option.some Jvm.ClassFile.FieldType.boolean)) ∈ gw := gw_of (List.mem_of_getElem? (i := 395) rfl) rfl
set_option maxRecDepth 100000 in
theorem tw_416 : (Jvm.Cond.code ({ cls := "TreeMatcher$Grammar", name := "addOperator", desc := "(II)I" } : Jvm.MethodName) prog_4_method_3_code (3 : Nat) (Option.some Jvm.ClassFile.FieldType.int)) ∈ gw := gw_of (List.mem_of_getElem? (i := 416) rfl) rfl
set_option maxRecDepth 100000 in
theorem tw_433 : (Jvm.Cond.code ({ cls := "TreeMatcher$Grammar", name := "addElement", desc := "(I)I" } : Jvm.MethodName) prog_4_method_6_code (2 : Nat) (Option.some Jvm.ClassFile.FieldType.int)) ∈ gw := gw_of (List.mem_of_getElem? (i := 433) rfl) rfl
set_option maxRecDepth 100000 in
theorem tw_442 : (Jvm.Cond.instanceMethod ({ cls := "TreeMatcher$Grammar", name := "ruleCount", desc := "()I" } : Jvm.MethodName)) ∈ gw := gw_of (List.mem_of_getElem? (i := 442) rfl) rfl
set_option maxRecDepth 100000 in
theorem tw_443 : (Jvm.Cond.selects "TreeMatcher$Grammar" ({ cls := "TreeMatcher$Grammar", name := "ruleCount", desc := "()I" } : Jvm.MethodName) ({ cls := "TreeMatcher$Grammar", name := "ruleCount", desc := "()I" } : Jvm.MethodName)) ∈ gw := gw_of (List.mem_of_getElem? (i := 443) rfl) rfl
set_option maxRecDepth 100000 in
theorem tw_453 : (Jvm.Cond.code ({ cls := "TreeMatcher$Grammar", name := "handIsPattern", desc := "()Z" } : Jvm.MethodName) prog_4_method_9_code (4 : Nat) (Option.some Jvm.ClassFile.FieldType.boolean)) ∈ gw := gw_of (List.mem_of_getElem? (i := 453) rfl) rfl
set_option maxRecDepth 100000 in
theorem tw_458 : (Jvm.Cond.code ({ cls := "TreeMatcher$Grammar", name := "dropHand", desc := "()V" } : Jvm.MethodName) prog_4_method_8_code (1 : Nat) (Option.none : Option Jvm.ClassFile.FieldType)) ∈ gw := gw_of (List.mem_of_getElem? (i := 458) rfl) rfl
set_option maxRecDepth 100000 in
theorem tw_568 : (Jvm.Cond.instanceMethod ({ cls := "TreeMatcher$Parts", name := "size", desc := "()I" } : Jvm.MethodName)) ∈ gw := gw_of (List.mem_of_getElem? (i := 568) rfl) rfl
set_option maxRecDepth 100000 in
theorem tw_569 : (Jvm.Cond.selects "TreeMatcher$Parts" ({ cls := "TreeMatcher$Parts", name := "size", desc := "()I" } : Jvm.MethodName) ({ cls := "TreeMatcher$Parts", name := "size", desc := "()I" } : Jvm.MethodName)) ∈ gw := gw_of (List.mem_of_getElem? (i := 569) rfl) rfl
set_option maxRecDepth 100000 in
theorem tw_761 : (Jvm.Cond.code ({ cls := "TreeMatcher$Tally", name := "refresh", desc := "()V" } : Jvm.MethodName) prog_8_method_3_code (3 : Nat) (Option.none : Option Jvm.ClassFile.FieldType)) ∈ gw := gw_of (List.mem_of_getElem? (i := 761) rfl) rfl
set_option maxRecDepth 100000 in
theorem tw_762 : (Jvm.Cond.methodLink "TreeMatcher$Tally" (35 : Nat) ({ cls := "TreeMatcher$Grammar", name := "operatorCount", desc := "()I" } : Jvm.MethodName)) ∈ gw := gw_of (List.mem_of_getElem? (i := 762) rfl) rfl
set_option maxRecDepth 100000 in
theorem tw_763 : (Jvm.Cond.instanceMethod ({ cls := "TreeMatcher$Grammar", name := "operatorCount", desc := "()I" } : Jvm.MethodName)) ∈ gw := gw_of (List.mem_of_getElem? (i := 763) rfl) rfl
set_option maxRecDepth 100000 in
theorem tw_764 : (Jvm.Cond.selects "TreeMatcher$Grammar" ({ cls := "TreeMatcher$Grammar", name := "operatorCount", desc := "()I" } : Jvm.MethodName) ({ cls := "TreeMatcher$Grammar", name := "operatorCount", desc := "()I" } : Jvm.MethodName)) ∈ gw := gw_of (List.mem_of_getElem? (i := 764) rfl) rfl
set_option maxRecDepth 100000 in
theorem tw_766 : (Jvm.Cond.methodLink "TreeMatcher$Tally" (40 : Nat) ({ cls := "TreeMatcher$Grammar", name := "ruleCount", desc := "()I" } : Jvm.MethodName)) ∈ gw := gw_of (List.mem_of_getElem? (i := 766) rfl) rfl
set_option maxRecDepth 100000 in
theorem tw_770 : (Jvm.Cond.methodLink "TreeMatcher$Tally" (31 : Nat) ({ cls := "TreeMatcher$Vectors", name := "size", desc := "()I" } : Jvm.MethodName)) ∈ gw := gw_of (List.mem_of_getElem? (i := 770) rfl) rfl
set_option maxRecDepth 100000 in
theorem tw_771 : (Jvm.Cond.instanceMethod ({ cls := "TreeMatcher$Vectors", name := "size", desc := "()I" } : Jvm.MethodName)) ∈ gw := gw_of (List.mem_of_getElem? (i := 771) rfl) rfl
set_option maxRecDepth 100000 in
theorem tw_772 : (Jvm.Cond.selects "TreeMatcher$Vectors" ({ cls := "TreeMatcher$Vectors", name := "size", desc := "()I" } : Jvm.MethodName) ({ cls := "TreeMatcher$Vectors", name := "size", desc := "()I" } : Jvm.MethodName)) ∈ gw := gw_of (List.mem_of_getElem? (i := 772) rfl) rfl
set_option maxRecDepth 100000 in
theorem tw_781 : (Jvm.Cond.code ({ cls := "TreeMatcher$Tally", name := "size", desc := "()I" } : Jvm.MethodName) prog_8_method_2_code (1 : Nat) (Option.some Jvm.ClassFile.FieldType.int)) ∈ gw := gw_of (List.mem_of_getElem? (i := 781) rfl) rfl
set_option maxRecDepth 100000 in
theorem tw_806 : (Jvm.Cond.code ({ cls := "TreeMatcher$Grammar", name := "partCount", desc := "()I" } : Jvm.MethodName) prog_4_method_20_code (1 : Nat) (Option.some Jvm.ClassFile.FieldType.int)) ∈ gw := gw_of (List.mem_of_getElem? (i := 806) rfl) rfl
set_option maxRecDepth 100000 in
theorem tw_807 : (Jvm.Cond.methodLink "TreeMatcher$Grammar" (100 : Nat) ({ cls := "TreeMatcher$Parts", name := "size", desc := "()I" } : Jvm.MethodName)) ∈ gw := gw_of (List.mem_of_getElem? (i := 807) rfl) rfl
abbrev b_C_forget : ByteArray := prog_2_method_4_code
def y_C_forget : MethodName := ⟨"TreeMatcher$Covering", "forget", "()V"⟩
def ws_C_forget : List Cond := Cond.code y_C_forget b_C_forget 1 (Option.none : Option Jvm.ClassFile.FieldType) :: gw
theorem cin_C_forget : Cond.code y_C_forget b_C_forget 1 (Option.none : Option Jvm.ClassFile.FieldType) ∈ gw := tw_303
abbrev b_F_forget : ByteArray := prog_3_method_14_code
def y_F_forget : MethodName := ⟨"TreeMatcher$Forest", "forget", "()I"⟩
def ws_F_forget : List Cond := Cond.code y_F_forget b_F_forget 2 (Option.some Jvm.ClassFile.FieldType.int) :: gw
theorem cin_F_forget : Cond.code y_F_forget b_F_forget 2 (Option.some Jvm.ClassFile.FieldType.int) ∈ gw := tw_307
abbrev b_V_forget : ByteArray := prog_9_method_3_code
def y_V_forget : MethodName := ⟨"TreeMatcher$Vectors", "forget", "()V"⟩
def ws_V_forget : List Cond := Cond.code y_V_forget b_V_forget 1 (Option.none : Option Jvm.ClassFile.FieldType) :: gw
theorem cin_V_forget : Cond.code y_V_forget b_V_forget 1 (Option.none : Option Jvm.ClassFile.FieldType) ∈ gw := tw_311
abbrev b_G_hasOperator : ByteArray := prog_4_method_2_code
def y_G_hasOperator : MethodName := ⟨"TreeMatcher$Grammar", "hasOperator", "(I)Z"⟩
def ws_G_hasOperator : List Cond := Cond.code y_G_hasOperator b_G_hasOperator 2 (Option.some Jvm.ClassFile.FieldType.boolean) :: gw
theorem cin_G_hasOperator : Cond.code y_G_hasOperator b_G_hasOperator 2 (Option.some Jvm.ClassFile.FieldType.boolean) ∈ gw := tw_395
abbrev b_G_addOperator : ByteArray := prog_4_method_3_code
def y_G_addOperator : MethodName := ⟨"TreeMatcher$Grammar", "addOperator", "(II)I"⟩
def ws_G_addOperator : List Cond := Cond.code y_G_addOperator b_G_addOperator 3 (Option.some Jvm.ClassFile.FieldType.int) :: gw
theorem cin_G_addOperator : Cond.code y_G_addOperator b_G_addOperator 3 (Option.some Jvm.ClassFile.FieldType.int) ∈ gw := tw_416
abbrev b_G_addElement : ByteArray := prog_4_method_6_code
def y_G_addElement : MethodName := ⟨"TreeMatcher$Grammar", "addElement", "(I)I"⟩
def ws_G_addElement : List Cond := Cond.code y_G_addElement b_G_addElement 2 (Option.some Jvm.ClassFile.FieldType.int) :: gw
theorem cin_G_addElement : Cond.code y_G_addElement b_G_addElement 2 (Option.some Jvm.ClassFile.FieldType.int) ∈ gw := tw_433
abbrev b_G_handIsPattern : ByteArray := prog_4_method_9_code
def y_G_handIsPattern : MethodName := ⟨"TreeMatcher$Grammar", "handIsPattern", "()Z"⟩
def ws_G_handIsPattern : List Cond := Cond.code y_G_handIsPattern b_G_handIsPattern 4 (Option.some Jvm.ClassFile.FieldType.boolean) :: gw
theorem cin_G_handIsPattern : Cond.code y_G_handIsPattern b_G_handIsPattern 4 (Option.some Jvm.ClassFile.FieldType.boolean) ∈ gw := tw_453
abbrev b_G_dropHand : ByteArray := prog_4_method_8_code
def y_G_dropHand : MethodName := ⟨"TreeMatcher$Grammar", "dropHand", "()V"⟩
def ws_G_dropHand : List Cond := Cond.code y_G_dropHand b_G_dropHand 1 (Option.none : Option Jvm.ClassFile.FieldType) :: gw
theorem cin_G_dropHand : Cond.code y_G_dropHand b_G_dropHand 1 (Option.none : Option Jvm.ClassFile.FieldType) ∈ gw := tw_458
abbrev b_Y_refresh : ByteArray := prog_8_method_3_code
def y_Y_refresh : MethodName := ⟨"TreeMatcher$Tally", "refresh", "()V"⟩
def ws_Y_refresh : List Cond := Cond.code y_Y_refresh b_Y_refresh 3 (Option.none : Option Jvm.ClassFile.FieldType) :: gw
theorem cin_Y_refresh : Cond.code y_Y_refresh b_Y_refresh 3 (Option.none : Option Jvm.ClassFile.FieldType) ∈ gw := tw_761
abbrev b_Y_size : ByteArray := prog_8_method_2_code
def y_Y_size : MethodName := ⟨"TreeMatcher$Tally", "size", "()I"⟩
def ws_Y_size : List Cond := Cond.code y_Y_size b_Y_size 1 (Option.some Jvm.ClassFile.FieldType.int) :: gw
theorem cin_Y_size : Cond.code y_Y_size b_Y_size 1 (Option.some Jvm.ClassFile.FieldType.int) ∈ gw := tw_781
abbrev b_G_partCount : ByteArray := prog_4_method_20_code
def y_G_partCount : MethodName := ⟨"TreeMatcher$Grammar", "partCount", "()I"⟩
def ws_G_partCount : List Cond := Cond.code y_G_partCount b_G_partCount 1 (Option.some Jvm.ClassFile.FieldType.int) :: gw
theorem cin_G_partCount : Cond.code y_G_partCount b_G_partCount 1 (Option.some Jvm.ClassFile.FieldType.int) ∈ gw := tw_806
theorem d_C_forget_0 : decode b_C_forget 0 = .ok (.aload_n 0, 1) := by decide +kernel
theorem d_C_forget_1 : decode b_C_forget 1 = .ok (.iconst 0, 1) := by decide +kernel
theorem d_C_forget_2 : decode b_C_forget 2 = .ok (.putfield 25, 3) := by decide +kernel
theorem d_C_forget_5 : decode b_C_forget 5 = .ok (.return_, 1) := by decide +kernel
theorem d_F_forget_0 : decode b_F_forget 0 = .ok (.aload_n 0, 1) := by decide +kernel
theorem d_F_forget_1 : decode b_F_forget 1 = .ok (.getfield 37, 3) := by decide +kernel
theorem d_F_forget_4 : decode b_F_forget 4 = .ok (.istore_n 1, 1) := by decide +kernel
theorem d_F_forget_5 : decode b_F_forget 5 = .ok (.aload_n 0, 1) := by decide +kernel
theorem d_F_forget_6 : decode b_F_forget 6 = .ok (.iconst 0, 1) := by decide +kernel
theorem d_F_forget_7 : decode b_F_forget 7 = .ok (.putfield 37, 3) := by decide +kernel
theorem d_F_forget_10 : decode b_F_forget 10 = .ok (.aload_n 0, 1) := by decide +kernel
theorem d_F_forget_11 : decode b_F_forget 11 = .ok (.getfield 65, 3) := by decide +kernel
theorem d_F_forget_14 : decode b_F_forget 14 = .ok (.invokevirtual 144, 3) := by decide +kernel
theorem d_F_forget_17 : decode b_F_forget 17 = .ok (.iload_n 1, 1) := by decide +kernel
theorem d_F_forget_18 : decode b_F_forget 18 = .ok (.ireturn, 1) := by decide +kernel
theorem d_V_forget_0 : decode b_V_forget 0 = .ok (.aload_n 0, 1) := by decide +kernel
theorem d_V_forget_1 : decode b_V_forget 1 = .ok (.iconst 0, 1) := by decide +kernel
theorem d_V_forget_2 : decode b_V_forget 2 = .ok (.putfield 17, 3) := by decide +kernel
theorem d_V_forget_5 : decode b_V_forget 5 = .ok (.return_, 1) := by decide +kernel
theorem d_G_hasOperator_0 : decode b_G_hasOperator 0 = .ok (.iload_n 1, 1) := by decide +kernel
theorem d_G_hasOperator_1 : decode b_G_hasOperator 1 = .ok (.bipush 32, 2) := by decide +kernel
theorem d_G_hasOperator_3 : decode b_G_hasOperator 3 = .ok (.invokestatic 72, 3) := by decide +kernel
theorem d_G_hasOperator_6 : decode b_G_hasOperator 6 = .ok (.ifCond .eq 17, 3) := by decide +kernel
theorem d_G_hasOperator_9 : decode b_G_hasOperator 9 = .ok (.aload_n 0, 1) := by decide +kernel
theorem d_G_hasOperator_10 : decode b_G_hasOperator 10 = .ok (.getfield 9, 3) := by decide +kernel
theorem d_G_hasOperator_13 : decode b_G_hasOperator 13 = .ok (.iload_n 1, 1) := by decide +kernel
theorem d_G_hasOperator_14 : decode b_G_hasOperator 14 = .ok (.iaload, 1) := by decide +kernel
theorem d_G_hasOperator_15 : decode b_G_hasOperator 15 = .ok (.iconst (-1), 1) := by decide +kernel
theorem d_G_hasOperator_16 : decode b_G_hasOperator 16 = .ok (.if_icmp .eq 7, 3) := by decide +kernel
theorem d_G_hasOperator_23 : decode b_G_hasOperator 23 = .ok (.iconst 0, 1) := by decide +kernel
theorem d_G_hasOperator_24 : decode b_G_hasOperator 24 = .ok (.ireturn, 1) := by decide +kernel
theorem d_G_addOperator_0 : decode b_G_addOperator 0 = .ok (.aload_n 0, 1) := by decide +kernel
theorem d_G_addOperator_1 : decode b_G_addOperator 1 = .ok (.getfield 9, 3) := by decide +kernel
theorem d_G_addOperator_4 : decode b_G_addOperator 4 = .ok (.iload_n 1, 1) := by decide +kernel
theorem d_G_addOperator_5 : decode b_G_addOperator 5 = .ok (.iload_n 2, 1) := by decide +kernel
theorem d_G_addOperator_6 : decode b_G_addOperator 6 = .ok (.iastore, 1) := by decide +kernel
theorem d_G_addOperator_7 : decode b_G_addOperator 7 = .ok (.aload_n 0, 1) := by decide +kernel
theorem d_G_addOperator_8 : decode b_G_addOperator 8 = .ok (.dup, 1) := by decide +kernel
theorem d_G_addOperator_9 : decode b_G_addOperator 9 = .ok (.getfield 15, 3) := by decide +kernel
theorem d_G_addOperator_12 : decode b_G_addOperator 12 = .ok (.iconst 1, 1) := by decide +kernel
theorem d_G_addOperator_13 : decode b_G_addOperator 13 = .ok (.iadd, 1) := by decide +kernel
theorem d_G_addOperator_14 : decode b_G_addOperator 14 = .ok (.putfield 15, 3) := by decide +kernel
theorem d_G_addOperator_17 : decode b_G_addOperator 17 = .ok (.aload_n 0, 1) := by decide +kernel
theorem d_G_addOperator_18 : decode b_G_addOperator 18 = .ok (.getfield 15, 3) := by decide +kernel
theorem d_G_addOperator_21 : decode b_G_addOperator 21 = .ok (.ireturn, 1) := by decide +kernel
theorem d_G_addElement_0 : decode b_G_addElement 0 = .ok (.aload_n 0, 1) := by decide +kernel
theorem d_G_addElement_1 : decode b_G_addElement 1 = .ok (.getfield 19, 3) := by decide +kernel
theorem d_G_addElement_4 : decode b_G_addElement 4 = .ok (.aload_n 0, 1) := by decide +kernel
theorem d_G_addElement_5 : decode b_G_addElement 5 = .ok (.getfield 22, 3) := by decide +kernel
theorem d_G_addElement_8 : decode b_G_addElement 8 = .ok (.iload_n 1, 1) := by decide +kernel
theorem d_G_addElement_9 : decode b_G_addElement 9 = .ok (.iastore, 1) := by decide +kernel
theorem d_G_addElement_10 : decode b_G_addElement 10 = .ok (.aload_n 0, 1) := by decide +kernel
theorem d_G_addElement_11 : decode b_G_addElement 11 = .ok (.dup, 1) := by decide +kernel
theorem d_G_addElement_12 : decode b_G_addElement 12 = .ok (.getfield 22, 3) := by decide +kernel
theorem d_G_addElement_15 : decode b_G_addElement 15 = .ok (.iconst 1, 1) := by decide +kernel
theorem d_G_addElement_16 : decode b_G_addElement 16 = .ok (.iadd, 1) := by decide +kernel
theorem d_G_addElement_17 : decode b_G_addElement 17 = .ok (.putfield 22, 3) := by decide +kernel
theorem d_G_addElement_20 : decode b_G_addElement 20 = .ok (.aload_n 0, 1) := by decide +kernel
theorem d_G_addElement_21 : decode b_G_addElement 21 = .ok (.getfield 22, 3) := by decide +kernel
theorem d_G_addElement_24 : decode b_G_addElement 24 = .ok (.ireturn, 1) := by decide +kernel
theorem d_G_handIsPattern_0 : decode b_G_handIsPattern 0 = .ok (.iconst 1, 1) := by decide +kernel
theorem d_G_handIsPattern_1 : decode b_G_handIsPattern 1 = .ok (.istore_n 1, 1) := by decide +kernel
theorem d_G_handIsPattern_2 : decode b_G_handIsPattern 2 = .ok (.iconst 0, 1) := by decide +kernel
theorem d_G_handIsPattern_3 : decode b_G_handIsPattern 3 = .ok (.istore_n 2, 1) := by decide +kernel
theorem d_G_handIsPattern_4 : decode b_G_handIsPattern 4 = .ok (.iload_n 2, 1) := by decide +kernel
theorem d_G_handIsPattern_5 : decode b_G_handIsPattern 5 = .ok (.aload_n 0, 1) := by decide +kernel
theorem d_G_handIsPattern_6 : decode b_G_handIsPattern 6 = .ok (.getfield 22, 3) := by decide +kernel
theorem d_G_handIsPattern_9 : decode b_G_handIsPattern 9 = .ok (.if_icmp .ge 57, 3) := by decide +kernel
theorem d_G_handIsPattern_66 : decode b_G_handIsPattern 66 = .ok (.iload_n 1, 1) := by decide +kernel
theorem d_G_handIsPattern_67 : decode b_G_handIsPattern 67 = .ok (.ifCond .ne 7, 3) := by decide +kernel
theorem d_G_handIsPattern_74 : decode b_G_handIsPattern 74 = .ok (.iconst 0, 1) := by decide +kernel
theorem d_G_handIsPattern_75 : decode b_G_handIsPattern 75 = .ok (.ireturn, 1) := by decide +kernel
theorem d_G_dropHand_0 : decode b_G_dropHand 0 = .ok (.aload_n 0, 1) := by decide +kernel
theorem d_G_dropHand_1 : decode b_G_dropHand 1 = .ok (.iconst 0, 1) := by decide +kernel
theorem d_G_dropHand_2 : decode b_G_dropHand 2 = .ok (.putfield 22, 3) := by decide +kernel
theorem d_G_dropHand_5 : decode b_G_dropHand 5 = .ok (.return_, 1) := by decide +kernel
theorem d_Y_refresh_0 : decode b_Y_refresh 0 = .ok (.aload_n 0, 1) := by decide +kernel
theorem d_Y_refresh_1 : decode b_Y_refresh 1 = .ok (.getfield 9, 3) := by decide +kernel
theorem d_Y_refresh_4 : decode b_Y_refresh 4 = .ok (.aload_n 0, 1) := by decide +kernel
theorem d_Y_refresh_5 : decode b_Y_refresh 5 = .ok (.getfield 18, 3) := by decide +kernel
theorem d_Y_refresh_8 : decode b_Y_refresh 8 = .ok (.invokevirtual 35, 3) := by decide +kernel
theorem d_Y_refresh_11 : decode b_Y_refresh 11 = .ok (.if_icmp .ne 18, 3) := by decide +kernel
theorem d_Y_refresh_14 : decode b_Y_refresh 14 = .ok (.aload_n 0, 1) := by decide +kernel
theorem d_Y_refresh_15 : decode b_Y_refresh 15 = .ok (.getfield 15, 3) := by decide +kernel
theorem d_Y_refresh_18 : decode b_Y_refresh 18 = .ok (.aload_n 0, 1) := by decide +kernel
theorem d_Y_refresh_19 : decode b_Y_refresh 19 = .ok (.getfield 18, 3) := by decide +kernel
theorem d_Y_refresh_22 : decode b_Y_refresh 22 = .ok (.invokevirtual 40, 3) := by decide +kernel
theorem d_Y_refresh_25 : decode b_Y_refresh 25 = .ok (.if_icmp .ne 4, 3) := by decide +kernel
theorem d_Y_refresh_28 : decode b_Y_refresh 28 = .ok (.return_, 1) := by decide +kernel
theorem d_Y_size_0 : decode b_Y_size 0 = .ok (.aload_n 0, 1) := by decide +kernel
theorem d_Y_size_1 : decode b_Y_size 1 = .ok (.getfield 27, 3) := by decide +kernel
theorem d_Y_size_4 : decode b_Y_size 4 = .ok (.invokevirtual 31, 3) := by decide +kernel
theorem d_Y_size_7 : decode b_Y_size 7 = .ok (.ireturn, 1) := by decide +kernel
theorem d_G_partCount_0 : decode b_G_partCount 0 = .ok (.aload_n 0, 1) := by decide +kernel
theorem d_G_partCount_1 : decode b_G_partCount 1 = .ok (.getfield 62, 3) := by decide +kernel
theorem d_G_partCount_4 : decode b_G_partCount 4 = .ok (.invokevirtual 100, 3) := by decide +kernel
theorem d_G_partCount_7 : decode b_G_partCount 7 = .ok (.ireturn, 1) := by decide +kernel
theorem tx_if1 {P : Prop} [Decidable P] (h : ¬ (if P then (1 : Int32) else 0) = 0) : P := by
  by_cases hp : P
  · exact hp
  · rw [if_neg hp] at h; exact absurd rfl h
theorem tx_if0 {P : Prop} [Decidable P] (h : (if P then (1 : Int32) else 0) = 0) : ¬ P := by
  intro hp
  rw [if_pos hp] at h
  exact absurd h (by decide)
theorem tx_in32 {x : Int32} (h : 0 ≤ x ∧ x < 32) : vp_in x 32 := by
  refine vp_in_iff.mpr ⟨?_, ?_⟩
  · exact Int32.le_iff_toInt_le.mp h.1
  · exact Int32.lt_iff_toInt_lt.mp h.2
theorem tx_in32n {x : Int32} (h : 0 ≤ x ∧ x < 32) : x.toNatClampNeg < 32 := by
  obtain ⟨j, hj, rfl⟩ := vp_in_of (tx_in32 h) (by decide)
  rw [nI_clamp (by omega)]; exact hj
set_option maxHeartbeats 4000000 in
set_option maxRecDepth 100000 in
theorem c_G_partCount (l : Launch) (dC : Nat → ClassId) (dI : Nat → Nat → Nat) (sz : Nat) (g pq : Nat) (zg : Nat → Value) (zpq : Nat → Value) (v : Int32) : Met l y_G_partCount ws_G_partCount ({ frames := 1, cells := 0, slots := 0, locals := 20 }) (va_Pc [.ref g] (fun U => U.heap.size = sz ∧ va_P (dC, dI) kcl [(g, .inr (1, [(zg 0), (zg 1), (zg 2), (zg 3), (zg 4), (zg 5), (zg 6), (zg 7), (zg 8), (zg 9), (zg 10), (zg 11), (zg 12), .ref pq])), (pq, .inr (6, [(zpq 0), (zpq 1), (zpq 2), (zpq 3), (zpq 4), .int v]))] U.heap ∧ va_K (dC, dI) kcl [] U)) (va_Qi (fun (r : Int32) (_ : Unit) => r = v) (fun (_ : Unit) (_ : State) => True) (va_A [] sz)) 0 0 (va_A [] sz) := by
  refine Met.ofW (cc := b_G_partCount) (maxL := 1) (ret := (Option.some Jvm.ClassFile.FieldType.int)) (by decide) rfl ?_
  intro p e s m args below meth c s₁ B hml hv
  obtain ⟨rfl, hsz, hP, hK⟩ := hv
  have hx := B.exec
  have hb := B.bytes
  have hr := B.returns
  have hlocks := B.notSynchronized
  have hg : ∀ w ∈ gw, w.before _ s = true := fun w h => atoms_spec (ws := ws_G_partCount) B.pre w (List.mem_cons_of_mem _ h)
  have hown : s.vm.findClass "TreeMatcher$Grammar" = some m.cls := findClass_of_methodNamed B.named
  subst hsz
  have hA : ∀ q : Nat, s.heap.size ≤ q → va_A ([] : va_W) s.heap.size q := fun q h => Or.inr h
  generalize hAe : va_A ([] : va_W) s.heap.size = A at hA ⊢
  have hS : va_S A s.heap s.heap [] := va_S.rf
  have hl := lv_entry ([.ref g] : List Value) (n := 1) (Nat.le_of_ble_eq_true rfl)
  rw [lg_entry_eq]
  generalize (lg_sl ([.ref g] : List Value) ++ List.replicate (1 - (lg_sl ([.ref g] : List Value)).length) Slot.unset).toArray = ls at hl ⊢
  have hl : lv_has ls 1 [(0, .ref g)] := hl
  refine lv_aload_n hx hb d_G_partCount_0 rfl (lv_at hl 0 rfl) ?_
  refine va_get (D := (dC, dI)) (ci := 1) (v := .ref pq) (C := kR_G) (T := kT_G) (N := 14) hx hb hg kin_G hown hK hP 0 rfl rfl 13 (by decide) (hg _ tw_94) (fun _ h9 => h9) rfl d_G_partCount_1 ?_
  have hPc := hP.sub (ws' := [(pq, .inr (6, [(zpq 0), (zpq 1), (zpq 2), (zpq 3), (zpq 4), .int v]))]) [1] rfl
  have hKc := hK.sub (tys' := []) [] rfl
  refine va_calli (va_runV (As := []) (rest := []) ⟨hx, hb, hml, hown, hg⟩ (c_P_size l dC dI s.heap.size pq zpq v) (cwV 0 hg (gw_giV cin_P_size tw_807 tw_568 tw_569 tw_4) rfl rfl rfl (by decide +kernel) ⟨Nat.le_of_ble_eq_true rfl, Nat.le_of_ble_eq_true rfl⟩) ⟨fun a U g mk q => by obtain ⟨q0, q1, qP, qK⟩ := q; exact ⟨q0, q1, qP, va_K.moved (u := U) (U := U.calling g mk a) (Vm.Alike.refl U.vm) qK⟩, va_recv hKc hPc (ci := 6) (q0 := 0) rfl rfl, fun U hU hW => ⟨rfl, by rw [hU], by rw [hU]; exact hPc, va_K.moved hW.alike hKc⟩⟩ rfl rfl hl.1 rfl (lv_room (Nat.le_of_ble_eq_true rfl)) d_G_partCount_4 ⟨Nat.le_of_ble_eq_true rfl, Nat.le_of_ble_eq_true rfl⟩) hS (fun q h1 h => (tx_pA h1 h).elim) (tx_pF hS hA) (fun r_k_1 u_k_1 t_k_1 H_2 l_k_1 ht hvm hw_k_1 hB hz1 hk1 hS => ?_)
  have hw_k_1 : v = r_k_1 := Eq.symm hw_k_1
  subst hw_k_1
  have hP := tx_keep hP hk1
  exact W.iret (v := v) hx hb hr (fun t ht hW => ⟨⟨v, (), rfl, rfl, trivial⟩, hS.F ht⟩) hS.2.2 d_G_partCount_7
set_option maxHeartbeats 4000000 in
set_option maxRecDepth 100000 in
theorem c_Y_size (l : Launch) (dC : Nat → ClassId) (dI : Nat → Nat → Nat) (sz : Nat) (y v : Nat) (zy : Nat → Value) (zv : Nat → Value) (n : Int32) : Met l y_Y_size ws_Y_size ({ frames := 1, cells := 0, slots := 0, locals := 20 }) (va_Pc [.ref y] (fun U => U.heap.size = sz ∧ va_P (dC, dI) kcl [(y, .inr (4, [(zy 0), .ref v, (zy 2), (zy 3)])), (v, .inr (5, [(zv 0), (zv 1), (zv 2), (zv 3), (zv 4), (zv 5), (zv 6), .int n]))] U.heap ∧ va_K (dC, dI) kcl [] U)) (va_Qi (fun (r : Int32) (_ : Unit) => r = n) (fun (_ : Unit) (_ : State) => True) (va_A [] sz)) 0 0 (va_A [] sz) := by
  refine Met.ofW (cc := b_Y_size) (maxL := 1) (ret := (Option.some Jvm.ClassFile.FieldType.int)) (by decide) rfl ?_
  intro p e s m args below meth c s₁ B hml hv
  obtain ⟨rfl, hsz, hP, hK⟩ := hv
  have hx := B.exec
  have hb := B.bytes
  have hr := B.returns
  have hlocks := B.notSynchronized
  have hg : ∀ w ∈ gw, w.before _ s = true := fun w h => atoms_spec (ws := ws_Y_size) B.pre w (List.mem_cons_of_mem _ h)
  have hown : s.vm.findClass "TreeMatcher$Tally" = some m.cls := findClass_of_methodNamed B.named
  subst hsz
  have hA : ∀ q : Nat, s.heap.size ≤ q → va_A ([] : va_W) s.heap.size q := fun q h => Or.inr h
  generalize hAe : va_A ([] : va_W) s.heap.size = A at hA ⊢
  have hS : va_S A s.heap s.heap [] := va_S.rf
  have hl := lv_entry ([.ref y] : List Value) (n := 1) (Nat.le_of_ble_eq_true rfl)
  rw [lg_entry_eq]
  generalize (lg_sl ([.ref y] : List Value) ++ List.replicate (1 - (lg_sl ([.ref y] : List Value)).length) Slot.unset).toArray = ls at hl ⊢
  have hl : lv_has ls 1 [(0, .ref y)] := hl
  refine lv_aload_n hx hb d_Y_size_0 rfl (lv_at hl 0 rfl) ?_
  refine va_get (D := (dC, dI)) (ci := 4) (v := .ref v) (C := kR_Y) (T := kT_Y) (N := 4) hx hb hg kin_Y hown hK hP 0 rfl rfl 1 (by decide) (hg _ tw_271) (fun _ h9 => h9) rfl d_Y_size_1 ?_
  have hPc := hP.sub (ws' := [(v, .inr (5, [(zv 0), (zv 1), (zv 2), (zv 3), (zv 4), (zv 5), (zv 6), .int n]))]) [1] rfl
  have hKc := hK.sub (tys' := []) [] rfl
  refine va_calli (va_runV (As := []) (rest := []) ⟨hx, hb, hml, hown, hg⟩ (c_V_size l dC dI s.heap.size v zv n) (cwV 0 hg (gw_giV cin_V_size tw_770 tw_771 tw_772 tw_8) rfl rfl rfl (by decide +kernel) ⟨Nat.le_of_ble_eq_true rfl, Nat.le_of_ble_eq_true rfl⟩) ⟨fun a U g mk q => by obtain ⟨q0, q1, qP, qK⟩ := q; exact ⟨q0, q1, qP, va_K.moved (u := U) (U := U.calling g mk a) (Vm.Alike.refl U.vm) qK⟩, va_recv hKc hPc (ci := 5) (q0 := 0) rfl rfl, fun U hU hW => ⟨rfl, by rw [hU], by rw [hU]; exact hPc, va_K.moved hW.alike hKc⟩⟩ rfl rfl hl.1 rfl (lv_room (Nat.le_of_ble_eq_true rfl)) d_Y_size_4 ⟨Nat.le_of_ble_eq_true rfl, Nat.le_of_ble_eq_true rfl⟩) hS (fun q h1 h => (tx_pA h1 h).elim) (tx_pF hS hA) (fun r_k_1 u_k_1 t_k_1 H_2 l_k_1 ht hvm hw_k_1 hB hz1 hk1 hS => ?_)
  have hw_k_1 : n = r_k_1 := Eq.symm hw_k_1
  subst hw_k_1
  have hP := tx_keep hP hk1
  exact W.iret (v := n) hx hb hr (fun t ht hW => ⟨⟨n, (), rfl, rfl, trivial⟩, hS.F ht⟩) hS.2.2 d_Y_size_7
set_option maxHeartbeats 4000000 in
set_option maxRecDepth 100000 in
/-- no operator yet: false -/
theorem c_G_hasOperator (l : Launch) (dC : Nat → ClassId) (dI : Nat → Nat → Nat) (sz : Nat) (g kq : Nat) (cA : ClassId) (zg : Nat → Value) (f : Nat → Int32) (hf : ∀ j, j < 32 → f j = -1) (x : Int32) : Met l y_G_hasOperator ws_G_hasOperator ({ frames := 1, cells := 0, slots := 0, locals := 21 }) (va_Pc [.ref g, .int x] (fun U => U.heap.size = sz ∧ va_P (dC, dI) kcl [(g, .inr (1, [.ref kq, (zg 1), (zg 2), (zg 3), (zg 4), (zg 5), (zg 6), (zg 7), (zg 8), (zg 9), (zg 10), (zg 11), (zg 12), (zg 13)])), (kq, .inl (cA, 32, .inl f))] U.heap ∧ va_K (dC, dI) kcl [(cA, .int)] U ∧ tx_N U)) (va_Qi (fun (r : Int32) (_ : Unit) => r = 0) (fun (_ : Unit) (_ : State) => True) (va_A [] sz)) 0 0 (va_A [] sz) := by
  refine Met.ofW (cc := b_G_hasOperator) (maxL := 2) (ret := (Option.some Jvm.ClassFile.FieldType.boolean)) (by decide) rfl ?_
  intro p e s m args below meth c s₁ B hml hv
  obtain ⟨rfl, hsz, hP, hK, hG⟩ := hv
  have hx := B.exec
  have hb := B.bytes
  have hr := B.returns
  have hlocks := B.notSynchronized
  have hg : ∀ w ∈ gw, w.before _ s = true := fun w h => atoms_spec (ws := ws_G_hasOperator) B.pre w (List.mem_cons_of_mem _ h)
  have hown : s.vm.findClass "TreeMatcher$Grammar" = some m.cls := findClass_of_methodNamed B.named
  subst hsz
  have hA : ∀ q : Nat, s.heap.size ≤ q → va_A ([] : va_W) s.heap.size q := fun q h => Or.inr h
  generalize hAe : va_A ([] : va_W) s.heap.size = A at hA ⊢
  have hN : tx_N s := hG
  have hS : va_S A s.heap s.heap [] := va_S.rf
  have hl := lv_entry ([.ref g, .int x] : List Value) (n := 2) (Nat.le_of_ble_eq_true rfl)
  rw [lg_entry_eq]
  generalize (lg_sl ([.ref g, .int x] : List Value) ++ List.replicate (2 - (lg_sl ([.ref g, .int x] : List Value)).length) Slot.unset).toArray = ls at hl ⊢
  have hl : lv_has ls 2 [(0, .ref g), (1, .int x)] := hl
  refine lv_iload_n hx hb d_G_hasOperator_0 rfl (lv_at hl 1 rfl) ?_
  refine lv_bipush (v := 32) hx hb d_G_hasOperator_1 (by decide) ?_
  have hPc := hP.sub (ws' := []) [] rfl
  have hKc := hK.sub (tys' := []) [] rfl
  refine va_calli (va_runSN (As := [.int x, .int 32]) (rest := []) ⟨hx, hb, hml, hown, hg⟩ (c_M_isWithin l dC dI s.heap.size x 32) ⟨va_cnB 2 hg (gw_gi cin_M_isWithin) rfl rfl rfl (hN.2) (hg _ tw_1) (by decide +kernel) ⟨Nat.le_of_ble_eq_true rfl, Nat.le_of_ble_eq_true rfl⟩, hg _ tw_322, trivial⟩ ⟨fun a U g mk q => by obtain ⟨q0, q1, qP, qK⟩ := q; exact ⟨q0, q1, qP, va_K.moved (u := U) (U := U.calling g mk a) (Vm.Alike.refl U.vm) qK⟩, fun U hU hW => ⟨rfl, by rw [hU], by rw [hU]; exact hPc, va_K.moved hW.alike hKc⟩⟩ rfl rfl hl.1 rfl (lv_room (Nat.le_of_ble_eq_true rfl)) d_G_hasOperator_3 ⟨Nat.le_of_ble_eq_true rfl, Nat.le_of_ble_eq_true rfl⟩) hS (fun q h1 h => (tx_pA h1 h).elim) (tx_pF hS hA) (fun r_k_1 u_k_1 t_k_1 H_2 l_k_1 ht hvm hw_k_1 hB hz1 hk1 hS => ?_)
  have hw_k_1 : (if 0 ≤ x ∧ x < 32 then 1 else 0) = r_k_1 := Eq.symm hw_k_1
  subst hw_k_1
  have hP := tx_keep hP hk1
  refine lv_if_eq (tgt := 23) hx hb d_G_hasOperator_6 (by decide) (fun c_3 => ?_) (fun c_3 => ?_)
  · refine lv_iconst (v := 0) hx hb d_G_hasOperator_23 (by decide) ?_
    exact W.zret (v := 0) hx hb hr rfl (fun t ht hW => ⟨⟨0, (), rfl, rfl, trivial⟩, hS.F ht⟩) hS.2.2 d_G_hasOperator_24
  · refine lv_aload_n hx hb d_G_hasOperator_9 rfl (lv_at hl 0 rfl) ?_
    refine va_get (D := (dC, dI)) (ci := 1) (v := .ref kq) (C := kR_G) (T := kT_G) (N := 14) hx hb hg kin_G hown hK hP 0 rfl rfl 0 (by decide) (hg _ tw_81) (fun _ h9 => h9) rfl d_G_hasOperator_10 ?_
    refine lv_iload_n hx hb d_G_hasOperator_13 rfl (lv_at hl 1 rfl) ?_
    have hi := tx_if1 c_3
    refine va_iald hx hb hK hP 1 0 rfl rfl (tx_in32 hi) d_G_hasOperator_14 ?_
    refine lv_iconst (v := (-1)) hx hb d_G_hasOperator_15 (by decide) ?_
    refine lv_icmp_eq (tgt := 23) hx hb d_G_hasOperator_16 (by decide) (fun c_4 => ?_) (fun c_4 => ?_)
    · refine lv_iconst (v := 0) hx hb d_G_hasOperator_23 (by decide) ?_
      exact W.zret (v := 0) hx hb hr rfl (fun t ht hW => ⟨⟨0, (), rfl, rfl, trivial⟩, hS.F ht⟩) hS.2.2 d_G_hasOperator_24
    · exact absurd (hf _ (tx_in32n hi)) c_4
set_option maxHeartbeats 4000000 in
set_option maxRecDepth 100000 in
theorem c_G_addOperator (l : Launch) (dC : Nat → ClassId) (dI : Nat → Nat → Nat) (sz : Nat) (g kq : Nat) (cA : ClassId) (zg : Nat → Value) (f : Nat → Int32) (x k o : Int32) (hi : 0 ≤ x ∧ x < 32) : Met l y_G_addOperator ws_G_addOperator ({ frames := 0, cells := 0, slots := 0, locals := 0 }) (va_Pc [.ref g, .int x, .int k] (fun U => U.heap.size = sz ∧ va_P (dC, dI) kcl [(g, .inr (1, [.ref kq, .int o, (zg 2), (zg 3), (zg 4), (zg 5), (zg 6), (zg 7), (zg 8), (zg 9), (zg 10), (zg 11), (zg 12), (zg 13)])), (kq, .inl (cA, 32, .inl f))] U.heap ∧ va_K (dC, dI) kcl [(cA, .int)] U ∧ va_D (fun _ => True) [(g, .inr (1, [.ref kq, .int o, (zg 2), (zg 3), (zg 4), (zg 5), (zg 6), (zg 7), (zg 8), (zg 9), (zg 10), (zg 11), (zg 12), (zg 13)])), (kq, .inl (cA, 32, .inl f))])) (va_Qi (fun (r : Int32) (_ : Unit) => r = o + 1) (fun (_ : Unit) (_ : State) => True) (va_A [(g, .inr (1, [.ref kq, .int o, (zg 2), (zg 3), (zg 4), (zg 5), (zg 6), (zg 7), (zg 8), (zg 9), (zg 10), (zg 11), (zg 12), (zg 13)])), (kq, .inl (cA, 32, .inl f))] sz)) 0 0 (va_A [(g, .inr (1, [.ref kq, .int o, (zg 2), (zg 3), (zg 4), (zg 5), (zg 6), (zg 7), (zg 8), (zg 9), (zg 10), (zg 11), (zg 12), (zg 13)])), (kq, .inl (cA, 32, .inl f))] sz) := by
  refine Met.ofW (cc := b_G_addOperator) (maxL := 3) (ret := (Option.some Jvm.ClassFile.FieldType.int)) (by decide) rfl ?_
  intro p e s m args below meth c s₁ B hml hv
  obtain ⟨rfl, hsz, hP, hK, hD0⟩ := hv
  have hx := B.exec
  have hb := B.bytes
  have hr := B.returns
  have hlocks := B.notSynchronized
  have hg : ∀ w ∈ gw, w.before _ s = true := fun w h => atoms_spec (ws := ws_G_addOperator) B.pre w (List.mem_cons_of_mem _ h)
  have hown : s.vm.findClass "TreeMatcher$Grammar" = some m.cls := findClass_of_methodNamed B.named
  subst hsz
  have hD := hD0.self (sz := s.heap.size)
  have hA : ∀ q : Nat, s.heap.size ≤ q → va_A [(g, .inr (1, [.ref kq, .int o, (zg 2), (zg 3), (zg 4), (zg 5), (zg 6), (zg 7), (zg 8), (zg 9), (zg 10), (zg 11), (zg 12), (zg 13)])), (kq, .inl (cA, 32, .inl f))] s.heap.size q := fun q h => Or.inr h
  generalize hAe : va_A [(g, .inr (1, [.ref kq, .int o, (zg 2), (zg 3), (zg 4), (zg 5), (zg 6), (zg 7), (zg 8), (zg 9), (zg 10), (zg 11), (zg 12), (zg 13)])), (kq, .inl (cA, 32, .inl f))] s.heap.size = A at hD hA ⊢
  have hS : va_S A s.heap s.heap [] := va_S.rf
  have hl := lv_entry ([.ref g, .int x, .int k] : List Value) (n := 3) (Nat.le_of_ble_eq_true rfl)
  rw [lg_entry_eq]
  generalize (lg_sl ([.ref g, .int x, .int k] : List Value) ++ List.replicate (3 - (lg_sl ([.ref g, .int x, .int k] : List Value)).length) Slot.unset).toArray = ls at hl ⊢
  have hl : lv_has ls 3 [(0, .ref g), (1, .int x), (2, .int k)] := hl
  refine lv_aload_n hx hb d_G_addOperator_0 rfl (lv_at hl 0 rfl) ?_
  refine va_get (D := (dC, dI)) (ci := 1) (v := .ref kq) (C := kR_G) (T := kT_G) (N := 14) hx hb hg kin_G hown hK hP 0 rfl rfl 0 (by decide) (hg _ tw_81) (fun _ h9 => h9) rfl d_G_addOperator_1 ?_
  refine lv_iload_n hx hb d_G_addOperator_4 rfl (lv_at hl 1 rfl) ?_
  refine lv_iload_n hx hb d_G_addOperator_5 rfl (lv_at hl 2 rfl) ?_
  refine va_iast hx hb hK hP hD hS 1 0 rfl rfl (tx_in32 hi) d_G_addOperator_6 (fun H_1 lo_2 hP hD hS => ?_)
  have hP : va_P (dC, dI) kcl [(g, .inr (1, [.ref kq, .int o, (zg 2), (zg 3), (zg 4), (zg 5), (zg 6), (zg 7), (zg 8), (zg 9), (zg 10), (zg 11), (zg 12), (zg 13)])), (kq, .inl (cA, 32, .inl (upd f (x : Int32).toNatClampNeg k)))] H_1 := hP
  have hD : va_D A [(g, .inr (1, [.ref kq, .int o, (zg 2), (zg 3), (zg 4), (zg 5), (zg 6), (zg 7), (zg 8), (zg 9), (zg 10), (zg 11), (zg 12), (zg 13)])), (kq, .inl (cA, 32, .inl (upd f (x : Int32).toNatClampNeg k)))] := hD
  refine lv_aload_n hx hb d_G_addOperator_7 rfl (lv_at hl 0 rfl) ?_
  refine lv_dup hx hb d_G_addOperator_8 rfl ?_
  refine va_get (D := (dC, dI)) (ci := 1) (v := .int o) (C := kR_G) (T := kT_G) (N := 14) hx hb hg kin_G hown hK hP 0 rfl rfl 1 (by decide) (hg _ tw_82) (fun _ h9 => h9) rfl d_G_addOperator_9 ?_
  refine lv_iconst (v := 1) hx hb d_G_addOperator_12 (by decide) ?_
  refine lv_iadd hx hb d_G_addOperator_13 ?_
  refine lv_topi (fun v_3 ev_3 => ?_)
  refine va_put (D := (dC, dI)) (ci := 1) (v := .int v_3) (ty := .int) (C := kR_G) (T := kT_G) (N := 14) hx hb hg kin_G kt_G kty_G knm_G hown hK hP hD hS 0 rfl rfl 1 (by decide) (hg _ tw_82) (fun _ h9 => h9) rfl (by decide +kernel) rfl rfl (Nat.le_of_ble_eq_true rfl) d_G_addOperator_14 (fun H_4 lo_5 hP hD hS => ?_)
  have hP : va_P (dC, dI) kcl [(g, .inr (1, [.ref kq, .int v_3, (zg 2), (zg 3), (zg 4), (zg 5), (zg 6), (zg 7), (zg 8), (zg 9), (zg 10), (zg 11), (zg 12), (zg 13)])), (kq, .inl (cA, 32, .inl (upd f (x : Int32).toNatClampNeg k)))] H_4 := hP
  have hD : va_D A [(g, .inr (1, [.ref kq, .int v_3, (zg 2), (zg 3), (zg 4), (zg 5), (zg 6), (zg 7), (zg 8), (zg 9), (zg 10), (zg 11), (zg 12), (zg 13)])), (kq, .inl (cA, 32, .inl (upd f (x : Int32).toNatClampNeg k)))] := hD
  refine lv_aload_n hx hb d_G_addOperator_17 rfl (lv_at hl 0 rfl) ?_
  refine va_get (D := (dC, dI)) (ci := 1) (v := .int v_3) (C := kR_G) (T := kT_G) (N := 14) hx hb hg kin_G hown hK hP 0 rfl rfl 1 (by decide) (hg _ tw_82) (fun _ h9 => h9) rfl d_G_addOperator_18 ?_
  exact W.iret (v := v_3) hx hb hr (fun t ht hW => ⟨⟨v_3, (), rfl, ev_3, trivial⟩, hS.F ht⟩) hS.2.2 d_G_addOperator_21
set_option maxHeartbeats 4000000 in
set_option maxRecDepth 100000 in
theorem c_G_addElement (l : Launch) (dC : Nat → ClassId) (dI : Nat → Nat → Nat) (sz : Nat) (g hq : Nat) (cA : ClassId) (zg : Nat → Value) (f : Nat → Int32) (x : Int32) : Met l y_G_addElement ws_G_addElement ({ frames := 0, cells := 0, slots := 0, locals := 0 }) (va_Pc [.ref g, .int x] (fun U => U.heap.size = sz ∧ va_P (dC, dI) kcl [(g, .inr (1, [(zg 0), (zg 1), .ref hq, .int 0, (zg 4), (zg 5), (zg 6), (zg 7), (zg 8), (zg 9), (zg 10), (zg 11), (zg 12), (zg 13)])), (hq, .inl (cA, 12, .inl f))] U.heap ∧ va_K (dC, dI) kcl [(cA, .int)] U ∧ va_D (fun _ => True) [(g, .inr (1, [(zg 0), (zg 1), .ref hq, .int 0, (zg 4), (zg 5), (zg 6), (zg 7), (zg 8), (zg 9), (zg 10), (zg 11), (zg 12), (zg 13)])), (hq, .inl (cA, 12, .inl f))])) (va_Qi (fun (r : Int32) (_ : Unit) => r = 0 + 1) (fun (_ : Unit) (_ : State) => True) (va_A [(g, .inr (1, [(zg 0), (zg 1), .ref hq, .int 0, (zg 4), (zg 5), (zg 6), (zg 7), (zg 8), (zg 9), (zg 10), (zg 11), (zg 12), (zg 13)])), (hq, .inl (cA, 12, .inl f))] sz)) 0 0 (va_A [(g, .inr (1, [(zg 0), (zg 1), .ref hq, .int 0, (zg 4), (zg 5), (zg 6), (zg 7), (zg 8), (zg 9), (zg 10), (zg 11), (zg 12), (zg 13)])), (hq, .inl (cA, 12, .inl f))] sz) := by
  refine Met.ofW (cc := b_G_addElement) (maxL := 2) (ret := (Option.some Jvm.ClassFile.FieldType.int)) (by decide) rfl ?_
  intro p e s m args below meth c s₁ B hml hv
  obtain ⟨rfl, hsz, hP, hK, hD0⟩ := hv
  have hx := B.exec
  have hb := B.bytes
  have hr := B.returns
  have hlocks := B.notSynchronized
  have hg : ∀ w ∈ gw, w.before _ s = true := fun w h => atoms_spec (ws := ws_G_addElement) B.pre w (List.mem_cons_of_mem _ h)
  have hown : s.vm.findClass "TreeMatcher$Grammar" = some m.cls := findClass_of_methodNamed B.named
  subst hsz
  have hD := hD0.self (sz := s.heap.size)
  have hA : ∀ q : Nat, s.heap.size ≤ q → va_A [(g, .inr (1, [(zg 0), (zg 1), .ref hq, .int 0, (zg 4), (zg 5), (zg 6), (zg 7), (zg 8), (zg 9), (zg 10), (zg 11), (zg 12), (zg 13)])), (hq, .inl (cA, 12, .inl f))] s.heap.size q := fun q h => Or.inr h
  generalize hAe : va_A [(g, .inr (1, [(zg 0), (zg 1), .ref hq, .int 0, (zg 4), (zg 5), (zg 6), (zg 7), (zg 8), (zg 9), (zg 10), (zg 11), (zg 12), (zg 13)])), (hq, .inl (cA, 12, .inl f))] s.heap.size = A at hD hA ⊢
  have hS : va_S A s.heap s.heap [] := va_S.rf
  have hl := lv_entry ([.ref g, .int x] : List Value) (n := 2) (Nat.le_of_ble_eq_true rfl)
  rw [lg_entry_eq]
  generalize (lg_sl ([.ref g, .int x] : List Value) ++ List.replicate (2 - (lg_sl ([.ref g, .int x] : List Value)).length) Slot.unset).toArray = ls at hl ⊢
  have hl : lv_has ls 2 [(0, .ref g), (1, .int x)] := hl
  refine lv_aload_n hx hb d_G_addElement_0 rfl (lv_at hl 0 rfl) ?_
  refine va_get (D := (dC, dI)) (ci := 1) (v := .ref hq) (C := kR_G) (T := kT_G) (N := 14) hx hb hg kin_G hown hK hP 0 rfl rfl 2 (by decide) (hg _ tw_83) (fun _ h9 => h9) rfl d_G_addElement_1 ?_
  refine lv_aload_n hx hb d_G_addElement_4 rfl (lv_at hl 0 rfl) ?_
  refine va_get (D := (dC, dI)) (ci := 1) (v := .int 0) (C := kR_G) (T := kT_G) (N := 14) hx hb hg kin_G hown hK hP 0 rfl rfl 3 (by decide) (hg _ tw_84) (fun _ h9 => h9) rfl d_G_addElement_5 ?_
  refine lv_iload_n hx hb d_G_addElement_8 rfl (lv_at hl 1 rfl) ?_
  refine va_iast hx hb hK hP hD hS 1 0 rfl rfl (by unfold vp_in; decide +kernel) d_G_addElement_9 (fun H_1 lo_2 hP hD hS => ?_)
  have hP : va_P (dC, dI) kcl [(g, .inr (1, [(zg 0), (zg 1), .ref hq, .int 0, (zg 4), (zg 5), (zg 6), (zg 7), (zg 8), (zg 9), (zg 10), (zg 11), (zg 12), (zg 13)])), (hq, .inl (cA, 12, .inl (upd f (0 : Int32).toNatClampNeg x)))] H_1 := hP
  have hD : va_D A [(g, .inr (1, [(zg 0), (zg 1), .ref hq, .int 0, (zg 4), (zg 5), (zg 6), (zg 7), (zg 8), (zg 9), (zg 10), (zg 11), (zg 12), (zg 13)])), (hq, .inl (cA, 12, .inl (upd f (0 : Int32).toNatClampNeg x)))] := hD
  refine lv_aload_n hx hb d_G_addElement_10 rfl (lv_at hl 0 rfl) ?_
  refine lv_dup hx hb d_G_addElement_11 rfl ?_
  refine va_get (D := (dC, dI)) (ci := 1) (v := .int 0) (C := kR_G) (T := kT_G) (N := 14) hx hb hg kin_G hown hK hP 0 rfl rfl 3 (by decide) (hg _ tw_84) (fun _ h9 => h9) rfl d_G_addElement_12 ?_
  refine lv_iconst (v := 1) hx hb d_G_addElement_15 (by decide) ?_
  refine lv_iadd hx hb d_G_addElement_16 ?_
  refine lv_topi (fun v_3 ev_3 => ?_)
  refine va_put (D := (dC, dI)) (ci := 1) (v := .int v_3) (ty := .int) (C := kR_G) (T := kT_G) (N := 14) hx hb hg kin_G kt_G kty_G knm_G hown hK hP hD hS 0 rfl rfl 3 (by decide) (hg _ tw_84) (fun _ h9 => h9) rfl (by decide +kernel) rfl rfl (Nat.le_of_ble_eq_true rfl) d_G_addElement_17 (fun H_4 lo_5 hP hD hS => ?_)
  have hP : va_P (dC, dI) kcl [(g, .inr (1, [(zg 0), (zg 1), .ref hq, .int v_3, (zg 4), (zg 5), (zg 6), (zg 7), (zg 8), (zg 9), (zg 10), (zg 11), (zg 12), (zg 13)])), (hq, .inl (cA, 12, .inl (upd f (0 : Int32).toNatClampNeg x)))] H_4 := hP
  have hD : va_D A [(g, .inr (1, [(zg 0), (zg 1), .ref hq, .int v_3, (zg 4), (zg 5), (zg 6), (zg 7), (zg 8), (zg 9), (zg 10), (zg 11), (zg 12), (zg 13)])), (hq, .inl (cA, 12, .inl (upd f (0 : Int32).toNatClampNeg x)))] := hD
  refine lv_aload_n hx hb d_G_addElement_20 rfl (lv_at hl 0 rfl) ?_
  refine va_get (D := (dC, dI)) (ci := 1) (v := .int v_3) (C := kR_G) (T := kT_G) (N := 14) hx hb hg kin_G hown hK hP 0 rfl rfl 3 (by decide) (hg _ tw_84) (fun _ h9 => h9) rfl d_G_addElement_21 ?_
  exact W.iret (v := v_3) hx hb hr (fun t ht hW => ⟨⟨v_3, (), rfl, ev_3, trivial⟩, hS.F ht⟩) hS.2.2 d_G_addElement_24
set_option maxHeartbeats 4000000 in
set_option maxRecDepth 100000 in
theorem c_G_dropHand (l : Launch) (dC : Nat → ClassId) (dI : Nat → Nat → Nat) (sz : Nat) (a : Nat) (za : Nat → Value) (n : Int32) : Met l y_G_dropHand ws_G_dropHand ({ frames := 0, cells := 0, slots := 0, locals := 0 }) (va_Pc [.ref a] (fun U => U.heap.size = sz ∧ va_P (dC, dI) kcl [(a, .inr (1, [(za 0), (za 1), (za 2), .int n, (za 4), (za 5), (za 6), (za 7), (za 8), (za 9), (za 10), (za 11), (za 12), (za 13)]))] U.heap ∧ va_K (dC, dI) kcl [] U ∧ va_D (fun _ => True) [(a, .inr (1, [(za 0), (za 1), (za 2), .int n, (za 4), (za 5), (za 6), (za 7), (za 8), (za 9), (za 10), (za 11), (za 12), (za 13)]))])) (va_Qv (fun (_ : Unit) => True) (fun (_ : Unit) (_ : State) => True) (va_A [(a, .inr (1, [(za 0), (za 1), (za 2), .int n, (za 4), (za 5), (za 6), (za 7), (za 8), (za 9), (za 10), (za 11), (za 12), (za 13)]))] sz)) 0 0 (va_A [(a, .inr (1, [(za 0), (za 1), (za 2), .int n, (za 4), (za 5), (za 6), (za 7), (za 8), (za 9), (za 10), (za 11), (za 12), (za 13)]))] sz) := by
  refine Met.ofW (cc := b_G_dropHand) (maxL := 1) (ret := (Option.none : Option Jvm.ClassFile.FieldType)) (by decide) rfl ?_
  intro p e s m args below meth c s₁ B hml hv
  obtain ⟨rfl, hsz, hP, hK, hD0⟩ := hv
  have hx := B.exec
  have hb := B.bytes
  have hr := B.returns
  have hlocks := B.notSynchronized
  have hg : ∀ w ∈ gw, w.before _ s = true := fun w h => atoms_spec (ws := ws_G_dropHand) B.pre w (List.mem_cons_of_mem _ h)
  have hown : s.vm.findClass "TreeMatcher$Grammar" = some m.cls := findClass_of_methodNamed B.named
  subst hsz
  have hD := hD0.self (sz := s.heap.size)
  have hA : ∀ q : Nat, s.heap.size ≤ q → va_A [(a, .inr (1, [(za 0), (za 1), (za 2), .int n, (za 4), (za 5), (za 6), (za 7), (za 8), (za 9), (za 10), (za 11), (za 12), (za 13)]))] s.heap.size q := fun q h => Or.inr h
  generalize hAe : va_A [(a, .inr (1, [(za 0), (za 1), (za 2), .int n, (za 4), (za 5), (za 6), (za 7), (za 8), (za 9), (za 10), (za 11), (za 12), (za 13)]))] s.heap.size = A at hD hA ⊢
  have hS : va_S A s.heap s.heap [] := va_S.rf
  have hl := lv_entry ([.ref a] : List Value) (n := 1) (Nat.le_of_ble_eq_true rfl)
  rw [lg_entry_eq]
  generalize (lg_sl ([.ref a] : List Value) ++ List.replicate (1 - (lg_sl ([.ref a] : List Value)).length) Slot.unset).toArray = ls at hl ⊢
  have hl : lv_has ls 1 [(0, .ref a)] := hl
  refine lv_aload_n hx hb d_G_dropHand_0 rfl (lv_at hl 0 rfl) ?_
  refine lv_iconst (v := 0) hx hb d_G_dropHand_1 (by decide) ?_
  refine va_put (D := (dC, dI)) (ci := 1) (v := .int 0) (ty := .int) (C := kR_G) (T := kT_G) (N := 14) hx hb hg kin_G kt_G kty_G knm_G hown hK hP hD hS 0 rfl rfl 3 (by decide) (hg _ tw_84) (fun _ h9 => h9) rfl (by decide +kernel) rfl rfl (Nat.le_of_ble_eq_true rfl) d_G_dropHand_2 (fun H_1 lo_2 hP hD hS => ?_)
  have hP : va_P (dC, dI) kcl [(a, .inr (1, [(za 0), (za 1), (za 2), .int 0, (za 4), (za 5), (za 6), (za 7), (za 8), (za 9), (za 10), (za 11), (za 12), (za 13)]))] H_1 := hP
  have hD : va_D A [(a, .inr (1, [(za 0), (za 1), (za 2), .int 0, (za 4), (za 5), (za 6), (za 7), (za 8), (za 9), (za 10), (za 11), (za 12), (za 13)]))] := hD
  exact W.vret hx hb hr (fun t ht hW => ⟨⟨(), rfl, trivial, trivial⟩, hS.F ht⟩) hS.2.2 d_G_dropHand_5
set_option maxHeartbeats 4000000 in
set_option maxRecDepth 100000 in
theorem c_C_forget (l : Launch) (dC : Nat → ClassId) (dI : Nat → Nat → Nat) (sz : Nat) (a : Nat) (za : Nat → Value) (n : Int32) : Met l y_C_forget ws_C_forget ({ frames := 0, cells := 0, slots := 0, locals := 0 }) (va_Pc [.ref a] (fun U => U.heap.size = sz ∧ va_P (dC, dI) kcl [(a, .inr (3, [(za 0), (za 1), (za 2), (za 3), (za 4), (za 5), .int n]))] U.heap ∧ va_K (dC, dI) kcl [] U ∧ va_D (fun _ => True) [(a, .inr (3, [(za 0), (za 1), (za 2), (za 3), (za 4), (za 5), .int n]))])) (va_Qv (fun (_ : Unit) => True) (fun (_ : Unit) (_ : State) => True) (va_A [(a, .inr (3, [(za 0), (za 1), (za 2), (za 3), (za 4), (za 5), .int n]))] sz)) 0 0 (va_A [(a, .inr (3, [(za 0), (za 1), (za 2), (za 3), (za 4), (za 5), .int n]))] sz) := by
  refine Met.ofW (cc := b_C_forget) (maxL := 1) (ret := (Option.none : Option Jvm.ClassFile.FieldType)) (by decide) rfl ?_
  intro p e s m args below meth c s₁ B hml hv
  obtain ⟨rfl, hsz, hP, hK, hD0⟩ := hv
  have hx := B.exec
  have hb := B.bytes
  have hr := B.returns
  have hlocks := B.notSynchronized
  have hg : ∀ w ∈ gw, w.before _ s = true := fun w h => atoms_spec (ws := ws_C_forget) B.pre w (List.mem_cons_of_mem _ h)
  have hown : s.vm.findClass "TreeMatcher$Covering" = some m.cls := findClass_of_methodNamed B.named
  subst hsz
  have hD := hD0.self (sz := s.heap.size)
  have hA : ∀ q : Nat, s.heap.size ≤ q → va_A [(a, .inr (3, [(za 0), (za 1), (za 2), (za 3), (za 4), (za 5), .int n]))] s.heap.size q := fun q h => Or.inr h
  generalize hAe : va_A [(a, .inr (3, [(za 0), (za 1), (za 2), (za 3), (za 4), (za 5), .int n]))] s.heap.size = A at hD hA ⊢
  have hS : va_S A s.heap s.heap [] := va_S.rf
  have hl := lv_entry ([.ref a] : List Value) (n := 1) (Nat.le_of_ble_eq_true rfl)
  rw [lg_entry_eq]
  generalize (lg_sl ([.ref a] : List Value) ++ List.replicate (1 - (lg_sl ([.ref a] : List Value)).length) Slot.unset).toArray = ls at hl ⊢
  have hl : lv_has ls 1 [(0, .ref a)] := hl
  refine lv_aload_n hx hb d_C_forget_0 rfl (lv_at hl 0 rfl) ?_
  refine lv_iconst (v := 0) hx hb d_C_forget_1 (by decide) ?_
  refine va_put (D := (dC, dI)) (ci := 3) (v := .int 0) (ty := .int) (C := kR_C) (T := kT_C) (N := 7) hx hb hg kin_C kt_C kty_C knm_C hown hK hP hD hS 0 rfl rfl 6 (by decide) (hg _ tw_246) (fun _ h9 => h9) rfl (by decide +kernel) rfl rfl (Nat.le_of_ble_eq_true rfl) d_C_forget_2 (fun H_1 lo_2 hP hD hS => ?_)
  have hP : va_P (dC, dI) kcl [(a, .inr (3, [(za 0), (za 1), (za 2), (za 3), (za 4), (za 5), .int 0]))] H_1 := hP
  have hD : va_D A [(a, .inr (3, [(za 0), (za 1), (za 2), (za 3), (za 4), (za 5), .int 0]))] := hD
  exact W.vret hx hb hr (fun t ht hW => ⟨⟨(), rfl, trivial, trivial⟩, hS.F ht⟩) hS.2.2 d_C_forget_5
set_option maxHeartbeats 4000000 in
set_option maxRecDepth 100000 in
theorem c_V_forget (l : Launch) (dC : Nat → ClassId) (dI : Nat → Nat → Nat) (sz : Nat) (a : Nat) (za : Nat → Value) (n : Int32) : Met l y_V_forget ws_V_forget ({ frames := 0, cells := 0, slots := 0, locals := 0 }) (va_Pc [.ref a] (fun U => U.heap.size = sz ∧ va_P (dC, dI) kcl [(a, .inr (5, [(za 0), (za 1), (za 2), (za 3), (za 4), (za 5), (za 6), .int n]))] U.heap ∧ va_K (dC, dI) kcl [] U ∧ va_D (fun _ => True) [(a, .inr (5, [(za 0), (za 1), (za 2), (za 3), (za 4), (za 5), (za 6), .int n]))])) (va_Qv (fun (_ : Unit) => True) (fun (_ : Unit) (_ : State) => True) (va_A [(a, .inr (5, [(za 0), (za 1), (za 2), (za 3), (za 4), (za 5), (za 6), .int n]))] sz)) 0 0 (va_A [(a, .inr (5, [(za 0), (za 1), (za 2), (za 3), (za 4), (za 5), (za 6), .int n]))] sz) := by
  refine Met.ofW (cc := b_V_forget) (maxL := 1) (ret := (Option.none : Option Jvm.ClassFile.FieldType)) (by decide) rfl ?_
  intro p e s m args below meth c s₁ B hml hv
  obtain ⟨rfl, hsz, hP, hK, hD0⟩ := hv
  have hx := B.exec
  have hb := B.bytes
  have hr := B.returns
  have hlocks := B.notSynchronized
  have hg : ∀ w ∈ gw, w.before _ s = true := fun w h => atoms_spec (ws := ws_V_forget) B.pre w (List.mem_cons_of_mem _ h)
  have hown : s.vm.findClass "TreeMatcher$Vectors" = some m.cls := findClass_of_methodNamed B.named
  subst hsz
  have hD := hD0.self (sz := s.heap.size)
  have hA : ∀ q : Nat, s.heap.size ≤ q → va_A [(a, .inr (5, [(za 0), (za 1), (za 2), (za 3), (za 4), (za 5), (za 6), .int n]))] s.heap.size q := fun q h => Or.inr h
  generalize hAe : va_A [(a, .inr (5, [(za 0), (za 1), (za 2), (za 3), (za 4), (za 5), (za 6), .int n]))] s.heap.size = A at hD hA ⊢
  have hS : va_S A s.heap s.heap [] := va_S.rf
  have hl := lv_entry ([.ref a] : List Value) (n := 1) (Nat.le_of_ble_eq_true rfl)
  rw [lg_entry_eq]
  generalize (lg_sl ([.ref a] : List Value) ++ List.replicate (1 - (lg_sl ([.ref a] : List Value)).length) Slot.unset).toArray = ls at hl ⊢
  have hl : lv_has ls 1 [(0, .ref a)] := hl
  refine lv_aload_n hx hb d_V_forget_0 rfl (lv_at hl 0 rfl) ?_
  refine lv_iconst (v := 0) hx hb d_V_forget_1 (by decide) ?_
  refine va_put (D := (dC, dI)) (ci := 5) (v := .int 0) (ty := .int) (C := kR_V) (T := kT_V) (N := 8) hx hb hg kin_V kt_V kty_V knm_V hown hK hP hD hS 0 rfl rfl 7 (by decide) (hg _ tw_173) (fun _ h9 => h9) rfl (by decide +kernel) rfl rfl (Nat.le_of_ble_eq_true rfl) d_V_forget_2 (fun H_1 lo_2 hP hD hS => ?_)
  have hP : va_P (dC, dI) kcl [(a, .inr (5, [(za 0), (za 1), (za 2), (za 3), (za 4), (za 5), (za 6), .int 0]))] H_1 := hP
  have hD : va_D A [(a, .inr (5, [(za 0), (za 1), (za 2), (za 3), (za 4), (za 5), (za 6), .int 0]))] := hD
  exact W.vret hx hb hr (fun t ht hW => ⟨⟨(), rfl, trivial, trivial⟩, hS.F ht⟩) hS.2.2 d_V_forget_5
set_option maxHeartbeats 4000000 in
set_option maxRecDepth 100000 in
theorem c_F_forget (l : Launch) (dC : Nat → ClassId) (dI : Nat → Nat → Nat) (sz : Nat) (f v : Nat) (zf : Nat → Value) (zv : Nat → Value) (n k : Int32) : Met l y_F_forget ws_F_forget ({ frames := 1, cells := 0, slots := 0, locals := 20 }) (va_Pc [.ref f] (fun U => U.heap.size = sz ∧ va_P (dC, dI) kcl [(f, .inr (2, [(zf 0), (zf 1), (zf 2), (zf 3), (zf 4), (zf 5), (zf 6), (zf 7), (zf 8), .int n, (zf 10), .ref v, (zf 12), (zf 13)])), (v, .inr (5, [(zv 0), (zv 1), (zv 2), (zv 3), (zv 4), (zv 5), (zv 6), .int k]))] U.heap ∧ va_K (dC, dI) kcl [] U ∧ va_D (fun _ => True) [(f, .inr (2, [(zf 0), (zf 1), (zf 2), (zf 3), (zf 4), (zf 5), (zf 6), (zf 7), (zf 8), .int n, (zf 10), .ref v, (zf 12), (zf 13)])), (v, .inr (5, [(zv 0), (zv 1), (zv 2), (zv 3), (zv 4), (zv 5), (zv 6), .int k]))])) (va_Qi (fun (r : Int32) (_ : Unit) => r = n) (fun (_ : Unit) (_ : State) => True) (va_A [(f, .inr (2, [(zf 0), (zf 1), (zf 2), (zf 3), (zf 4), (zf 5), (zf 6), (zf 7), (zf 8), .int n, (zf 10), .ref v, (zf 12), (zf 13)])), (v, .inr (5, [(zv 0), (zv 1), (zv 2), (zv 3), (zv 4), (zv 5), (zv 6), .int k]))] sz)) 0 0 (va_A [(f, .inr (2, [(zf 0), (zf 1), (zf 2), (zf 3), (zf 4), (zf 5), (zf 6), (zf 7), (zf 8), .int n, (zf 10), .ref v, (zf 12), (zf 13)])), (v, .inr (5, [(zv 0), (zv 1), (zv 2), (zv 3), (zv 4), (zv 5), (zv 6), .int k]))] sz) := by
  refine Met.ofW (cc := b_F_forget) (maxL := 2) (ret := (Option.some Jvm.ClassFile.FieldType.int)) (by decide) rfl ?_
  intro p e s m args below meth c s₁ B hml hv
  obtain ⟨rfl, hsz, hP, hK, hD0⟩ := hv
  have hx := B.exec
  have hb := B.bytes
  have hr := B.returns
  have hlocks := B.notSynchronized
  have hg : ∀ w ∈ gw, w.before _ s = true := fun w h => atoms_spec (ws := ws_F_forget) B.pre w (List.mem_cons_of_mem _ h)
  have hown : s.vm.findClass "TreeMatcher$Forest" = some m.cls := findClass_of_methodNamed B.named
  subst hsz
  have hD := hD0.self (sz := s.heap.size)
  have hA : ∀ q : Nat, s.heap.size ≤ q → va_A [(f, .inr (2, [(zf 0), (zf 1), (zf 2), (zf 3), (zf 4), (zf 5), (zf 6), (zf 7), (zf 8), .int n, (zf 10), .ref v, (zf 12), (zf 13)])), (v, .inr (5, [(zv 0), (zv 1), (zv 2), (zv 3), (zv 4), (zv 5), (zv 6), .int k]))] s.heap.size q := fun q h => Or.inr h
  generalize hAe : va_A [(f, .inr (2, [(zf 0), (zf 1), (zf 2), (zf 3), (zf 4), (zf 5), (zf 6), (zf 7), (zf 8), .int n, (zf 10), .ref v, (zf 12), (zf 13)])), (v, .inr (5, [(zv 0), (zv 1), (zv 2), (zv 3), (zv 4), (zv 5), (zv 6), .int k]))] s.heap.size = A at hD hA ⊢
  have hS : va_S A s.heap s.heap [] := va_S.rf
  have hl := lv_entry ([.ref f] : List Value) (n := 2) (Nat.le_of_ble_eq_true rfl)
  rw [lg_entry_eq]
  generalize (lg_sl ([.ref f] : List Value) ++ List.replicate (2 - (lg_sl ([.ref f] : List Value)).length) Slot.unset).toArray = ls at hl ⊢
  have hl : lv_has ls 2 [(0, .ref f)] := hl
  refine lv_aload_n hx hb d_F_forget_0 rfl (lv_at hl 0 rfl) ?_
  refine va_get (D := (dC, dI)) (ci := 2) (v := .int n) (C := kR_F) (T := kT_F) (N := 14) hx hb hg kin_F hown hK hP 0 rfl rfl 9 (by decide) (hg _ tw_200) (fun _ h9 => h9) rfl d_F_forget_1 ?_
  refine lv_istore_n (lv' := [(1, .int n), (0, .ref f)]) hx hb d_F_forget_4 rfl hl (by decide) rfl (fun ls hl => ?_)
  refine lv_aload_n hx hb d_F_forget_5 rfl (lv_at hl 1 rfl) ?_
  refine lv_iconst (v := 0) hx hb d_F_forget_6 (by decide) ?_
  refine va_put (D := (dC, dI)) (ci := 2) (v := .int 0) (ty := .int) (C := kR_F) (T := kT_F) (N := 14) hx hb hg kin_F kt_F kty_F knm_F hown hK hP hD hS 0 rfl rfl 9 (by decide) (hg _ tw_200) (fun _ h9 => h9) rfl (by decide +kernel) rfl rfl (Nat.le_of_ble_eq_true rfl) d_F_forget_7 (fun H_1 lo_2 hP hD hS => ?_)
  have hP : va_P (dC, dI) kcl [(f, .inr (2, [(zf 0), (zf 1), (zf 2), (zf 3), (zf 4), (zf 5), (zf 6), (zf 7), (zf 8), .int 0, (zf 10), .ref v, (zf 12), (zf 13)])), (v, .inr (5, [(zv 0), (zv 1), (zv 2), (zv 3), (zv 4), (zv 5), (zv 6), .int k]))] H_1 := hP
  have hD : va_D A [(f, .inr (2, [(zf 0), (zf 1), (zf 2), (zf 3), (zf 4), (zf 5), (zf 6), (zf 7), (zf 8), .int 0, (zf 10), .ref v, (zf 12), (zf 13)])), (v, .inr (5, [(zv 0), (zv 1), (zv 2), (zv 3), (zv 4), (zv 5), (zv 6), .int k]))] := hD
  refine lv_aload_n hx hb d_F_forget_10 rfl (lv_at hl 1 rfl) ?_
  refine va_get (D := (dC, dI)) (ci := 2) (v := .ref v) (C := kR_F) (T := kT_F) (N := 14) hx hb hg kin_F hown hK hP 0 rfl rfl 11 (by decide) (hg _ tw_202) (fun _ h9 => h9) rfl d_F_forget_11 ?_
  have hPc := hP.sub (ws' := [(v, .inr (5, [(zv 0), (zv 1), (zv 2), (zv 3), (zv 4), (zv 5), (zv 6), .int k]))]) [1] rfl
  have hKc := hK.sub (tys' := []) [] rfl
  have hDc := hD.sub (ws' := [(v, .inr (5, [(zv 0), (zv 1), (zv 2), (zv 3), (zv 4), (zv 5), (zv 6), .int k]))]) [1] (by decide) rfl
  have hFc := va_free (wc := [(v, .inr (5, [(zv 0), (zv 1), (zv 2), (zv 3), (zv 4), (zv 5), (zv 6), .int k]))]) hD hS hA [1] rfl
  refine va_callv (va_runV (As := []) (rest := []) ⟨hx, hb, hml, hown, hg⟩ (c_V_forget l dC dI H_1.size v zv k) (cwV 0 hg (gw_giV cin_V_forget tw_308 tw_309 tw_310 tw_8) rfl rfl rfl (by decide +kernel) ⟨Nat.le_of_ble_eq_true rfl, Nat.le_of_ble_eq_true rfl⟩) ⟨fun a U g mk q => by obtain ⟨q0, q1, qP, qK, qD⟩ := q; exact ⟨q0, q1, qP, va_K.moved (u := U) (U := U.calling g mk a) (Vm.Alike.refl U.vm) qK, qD⟩, va_recv hKc hPc (ci := 5) (q0 := 0) rfl rfl, fun U hU hW => ⟨rfl, by rw [hU], by rw [hU]; exact hPc, va_K.moved hW.alike hKc, hDc.weaken (fun _ _ _ _ => trivial)⟩⟩ rfl rfl hl.1 rfl (lv_room (Nat.le_of_ble_eq_true rfl)) d_F_forget_14 ⟨Nat.le_of_ble_eq_true rfl, Nat.le_of_ble_eq_true rfl⟩) hS (fun q _ h => hFc q h) hFc (fun u_k_3 t_k_3 H_4 l_k_3 ht hvm hw_k_3 hB hz1 hk1 hS => ?_)
  obtain ⟨hP, hD⟩ := tx_rest (wc := [(v, .inr (5, [(zv 0), (zv 1), (zv 2), (zv 3), (zv 4), (zv 5), (zv 6), .int k]))]) (wr := [(f, .inr (2, [(zf 0), (zf 1), (zf 2), (zf 3), (zf 4), (zf 5), (zf 6), (zf 7), (zf 8), .int 0, (zf 10), .ref v, (zf 12), (zf 13)]))]) hP hD [1] [0] rfl rfl (by decide) (by decide) hk1 hFc
  have hK := hK.sub (tys' := []) [] rfl
  refine lv_iload_n hx hb d_F_forget_17 rfl (lv_at hl 0 rfl) ?_
  exact W.iret (v := n) hx hb hr (fun t ht hW => ⟨⟨n, (), rfl, rfl, trivial⟩, hS.F ht⟩) hS.2.2 d_F_forget_18
set_option maxHeartbeats 4000000 in
set_option maxRecDepth 100000 in
/-- nothing at hand: no pattern -/
theorem c_G_handIsPattern (l : Launch) (dC : Nat → ClassId) (dI : Nat → Nat → Nat) (sz : Nat) (g : Nat) (zg : Nat → Value) : Met l y_G_handIsPattern ws_G_handIsPattern ({ frames := 0, cells := 0, slots := 0, locals := 0 }) (va_Pc [.ref g] (fun U => U.heap.size = sz ∧ va_P (dC, dI) kcl [(g, .inr (1, [(zg 0), (zg 1), (zg 2), .int 0, (zg 4), (zg 5), (zg 6), (zg 7), (zg 8), (zg 9), (zg 10), (zg 11), (zg 12), (zg 13)]))] U.heap ∧ va_K (dC, dI) kcl [] U)) (va_Qi (fun (r : Int32) (_ : Unit) => r = 0) (fun (_ : Unit) (_ : State) => True) (va_A [] sz)) 0 0 (va_A [] sz) := by
  refine Met.ofW (cc := b_G_handIsPattern) (maxL := 4) (ret := (Option.some Jvm.ClassFile.FieldType.boolean)) (by decide) rfl ?_
  intro p e s m args below meth c s₁ B hml hv
  obtain ⟨rfl, hsz, hP, hK⟩ := hv
  have hx := B.exec
  have hb := B.bytes
  have hr := B.returns
  have hlocks := B.notSynchronized
  have hg : ∀ w ∈ gw, w.before _ s = true := fun w h => atoms_spec (ws := ws_G_handIsPattern) B.pre w (List.mem_cons_of_mem _ h)
  have hown : s.vm.findClass "TreeMatcher$Grammar" = some m.cls := findClass_of_methodNamed B.named
  subst hsz
  have hA : ∀ q : Nat, s.heap.size ≤ q → va_A ([] : va_W) s.heap.size q := fun q h => Or.inr h
  generalize hAe : va_A ([] : va_W) s.heap.size = A at hA ⊢
  have hS : va_S A s.heap s.heap [] := va_S.rf
  have hl := lv_entry ([.ref g] : List Value) (n := 4) (Nat.le_of_ble_eq_true rfl)
  rw [lg_entry_eq]
  generalize (lg_sl ([.ref g] : List Value) ++ List.replicate (4 - (lg_sl ([.ref g] : List Value)).length) Slot.unset).toArray = ls at hl ⊢
  have hl : lv_has ls 4 [(0, .ref g)] := hl
  refine lv_iconst (v := 1) hx hb d_G_handIsPattern_0 (by decide) ?_
  refine lv_istore_n (lv' := [(1, .int 1), (0, .ref g)]) hx hb d_G_handIsPattern_1 rfl hl (by decide) rfl (fun ls hl => ?_)
  refine lv_iconst (v := 0) hx hb d_G_handIsPattern_2 (by decide) ?_
  refine lv_istore_n (lv' := [(2, .int 0), (1, .int 1), (0, .ref g)]) hx hb d_G_handIsPattern_3 rfl hl (by decide) rfl (fun ls hl => ?_)
  refine lv_iload_n hx hb d_G_handIsPattern_4 rfl (lv_at hl 0 rfl) ?_
  refine lv_aload_n hx hb d_G_handIsPattern_5 rfl (lv_at hl 2 rfl) ?_
  refine va_get (D := (dC, dI)) (ci := 1) (v := .int 0) (C := kR_G) (T := kT_G) (N := 14) hx hb hg kin_G hown hK hP 0 rfl rfl 3 (by decide) (hg _ tw_84) (fun _ h9 => h9) rfl d_G_handIsPattern_6 ?_
  refine lv_icmp_ge (tgt := 66) hx hb d_G_handIsPattern_9 (by decide) (fun c_1 => ?_) (fun c_1 => ?_)
  · refine lv_iload_n hx hb d_G_handIsPattern_66 rfl (lv_at hl 1 rfl) ?_
    refine lv_if_ne (tgt := 74) hx hb d_G_handIsPattern_67 (by decide) (fun c_2 => ?_) (fun c_2 => ?_)
    · refine lv_iconst (v := 0) hx hb d_G_handIsPattern_74 (by decide) ?_
      exact W.zret (v := 0) hx hb hr rfl (fun t ht hW => ⟨⟨0, (), rfl, rfl, trivial⟩, hS.F ht⟩) hS.2.2 d_G_handIsPattern_75
    · exact absurd c_2 (by decide)
  · exact absurd (by decide) c_1
set_option maxHeartbeats 4000000 in
set_option maxRecDepth 100000 in
theorem c_Y_refresh (l : Launch) (dC : Nat → ClassId) (dI : Nat → Nat → Nat) (sz : Nat) (y g : Nat) (zy : Nat → Value) (zg : Nat → Value) : Met l y_Y_refresh ws_Y_refresh ({ frames := 1, cells := 0, slots := 0, locals := 20 }) (va_Pc [.ref y] (fun U => U.heap.size = sz ∧ va_P (dC, dI) kcl [(y, .inr (4, [.ref g, (zy 1), .int 0, .int 0])), (g, .inr (1, [(zg 0), .int 0, (zg 2), (zg 3), (zg 4), (zg 5), (zg 6), (zg 7), (zg 8), (zg 9), (zg 10), .int 0, (zg 12), (zg 13)]))] U.heap ∧ va_K (dC, dI) kcl [] U)) (va_Qv (fun (_ : Unit) => True) (fun (_ : Unit) (_ : State) => True) (va_A [] sz)) 0 0 (va_A [] sz) := by
  refine Met.ofW (cc := b_Y_refresh) (maxL := 3) (ret := (Option.none : Option Jvm.ClassFile.FieldType)) (by decide) rfl ?_
  intro p e s m args below meth c s₁ B hml hv
  obtain ⟨rfl, hsz, hP, hK⟩ := hv
  have hx := B.exec
  have hb := B.bytes
  have hr := B.returns
  have hlocks := B.notSynchronized
  have hg : ∀ w ∈ gw, w.before _ s = true := fun w h => atoms_spec (ws := ws_Y_refresh) B.pre w (List.mem_cons_of_mem _ h)
  have hown : s.vm.findClass "TreeMatcher$Tally" = some m.cls := findClass_of_methodNamed B.named
  subst hsz
  have hA : ∀ q : Nat, s.heap.size ≤ q → va_A ([] : va_W) s.heap.size q := fun q h => Or.inr h
  generalize hAe : va_A ([] : va_W) s.heap.size = A at hA ⊢
  have hS : va_S A s.heap s.heap [] := va_S.rf
  have hl := lv_entry ([.ref y] : List Value) (n := 3) (Nat.le_of_ble_eq_true rfl)
  rw [lg_entry_eq]
  generalize (lg_sl ([.ref y] : List Value) ++ List.replicate (3 - (lg_sl ([.ref y] : List Value)).length) Slot.unset).toArray = ls at hl ⊢
  have hl : lv_has ls 3 [(0, .ref y)] := hl
  refine lv_aload_n hx hb d_Y_refresh_0 rfl (lv_at hl 0 rfl) ?_
  refine va_get (D := (dC, dI)) (ci := 4) (v := .int 0) (C := kR_Y) (T := kT_Y) (N := 4) hx hb hg kin_Y hown hK hP 0 rfl rfl 2 (by decide) (hg _ tw_272) (fun _ h9 => h9) rfl d_Y_refresh_1 ?_
  refine lv_aload_n hx hb d_Y_refresh_4 rfl (lv_at hl 0 rfl) ?_
  refine va_get (D := (dC, dI)) (ci := 4) (v := .ref g) (C := kR_Y) (T := kT_Y) (N := 4) hx hb hg kin_Y hown hK hP 0 rfl rfl 0 (by decide) (hg _ tw_270) (fun _ h9 => h9) rfl d_Y_refresh_5 ?_
  have hPc := hP.sub (ws' := [(g, .inr (1, [(zg 0), .int 0, (zg 2), (zg 3), (zg 4), (zg 5), (zg 6), (zg 7), (zg 8), (zg 9), (zg 10), .int 0, (zg 12), (zg 13)]))]) [1] rfl
  have hKc := hK.sub (tys' := []) [] rfl
  refine va_calli (va_runV (As := []) (rest := [.int 0]) ⟨hx, hb, hml, hown, hg⟩ (c_G_operatorCount l dC dI s.heap.size g (fun i => if i = 11 then .int 0 else zg i) 0) (cwV 0 hg (gw_giV cin_G_operatorCount tw_762 tw_763 tw_764 tw_2) rfl rfl rfl (by decide +kernel) ⟨Nat.le_of_ble_eq_true rfl, Nat.le_of_ble_eq_true rfl⟩) ⟨fun a U g mk q => by obtain ⟨q0, q1, qP, qK⟩ := q; exact ⟨q0, q1, qP, va_K.moved (u := U) (U := U.calling g mk a) (Vm.Alike.refl U.vm) qK⟩, va_recv hKc hPc (ci := 1) (q0 := 0) rfl rfl, fun U hU hW => ⟨rfl, by rw [hU], by rw [hU]; exact hPc, va_K.moved hW.alike hKc⟩⟩ rfl rfl hl.1 rfl (lv_room (Nat.le_of_ble_eq_true rfl)) d_Y_refresh_8 ⟨Nat.le_of_ble_eq_true rfl, Nat.le_of_ble_eq_true rfl⟩) hS (fun q h1 h => (tx_pA h1 h).elim) (tx_pF hS hA) (fun r_k_1 u_k_1 t_k_1 H_2 l_k_1 ht hvm hw_k_1 hB hz1 hk1 hS => ?_)
  have hw_k_1 : 0 = r_k_1 := Eq.symm hw_k_1
  subst hw_k_1
  have hP := tx_keep hP hk1
  refine lv_icmp_ne (tgt := 29) hx hb d_Y_refresh_11 (by decide) (fun c_3 => ?_) (fun c_3 => ?_)
  · exact absurd rfl c_3
  · refine lv_aload_n hx hb d_Y_refresh_14 rfl (lv_at hl 0 rfl) ?_
    refine va_get (D := (dC, dI)) (ci := 4) (v := .int 0) (C := kR_Y) (T := kT_Y) (N := 4) hx hb hg kin_Y hown hK hP 0 rfl rfl 3 (by decide) (hg _ tw_273) (fun _ h9 => h9) rfl d_Y_refresh_15 ?_
    refine lv_aload_n hx hb d_Y_refresh_18 rfl (lv_at hl 0 rfl) ?_
    refine va_get (D := (dC, dI)) (ci := 4) (v := .ref g) (C := kR_Y) (T := kT_Y) (N := 4) hx hb hg kin_Y hown hK hP 0 rfl rfl 0 (by decide) (hg _ tw_270) (fun _ h9 => h9) rfl d_Y_refresh_19 ?_
    have hPc := hP.sub (ws' := [(g, .inr (1, [(zg 0), .int 0, (zg 2), (zg 3), (zg 4), (zg 5), (zg 6), (zg 7), (zg 8), (zg 9), (zg 10), .int 0, (zg 12), (zg 13)]))]) [1] rfl
    have hKc := hK.sub (tys' := []) [] rfl
    refine va_calli (va_runV (As := []) (rest := [.int 0]) ⟨hx, hb, hml, hown, hg⟩ (c_G_ruleCount l dC dI H_2.size g (fun i => if i = 1 then .int 0 else zg i) 0) (cwV 0 hg (gw_giV cin_G_ruleCount tw_766 tw_442 tw_443 tw_2) rfl rfl rfl (by decide +kernel) ⟨Nat.le_of_ble_eq_true rfl, Nat.le_of_ble_eq_true rfl⟩) ⟨fun a U g mk q => by obtain ⟨q0, q1, qP, qK⟩ := q; exact ⟨q0, q1, qP, va_K.moved (u := U) (U := U.calling g mk a) (Vm.Alike.refl U.vm) qK⟩, va_recv hKc hPc (ci := 1) (q0 := 0) rfl rfl, fun U hU hW => ⟨rfl, by rw [hU], by rw [hU]; exact hPc, va_K.moved hW.alike hKc⟩⟩ rfl rfl hl.1 rfl (lv_room (Nat.le_of_ble_eq_true rfl)) d_Y_refresh_22 ⟨Nat.le_of_ble_eq_true rfl, Nat.le_of_ble_eq_true rfl⟩) hS (fun q h1 h => (tx_pA h1 h).elim) (tx_pF hS hA) (fun r_k_4 u_k_4 t_k_4 H_5 l_k_4 ht hvm hw_k_4 hB hz1 hk1 hS => ?_)
    have hw_k_4 : 0 = r_k_4 := Eq.symm hw_k_4
    subst hw_k_4
    have hP := tx_keep hP hk1
    refine lv_icmp_ne (tgt := 29) hx hb d_Y_refresh_25 (by decide) (fun c_6 => ?_) (fun c_6 => ?_)
    · exact absurd rfl c_6
    · exact W.vret hx hb hr (fun t ht hW => ⟨⟨(), rfl, trivial, trivial⟩, hS.F ht⟩) hS.2.2 d_Y_refresh_28
end
section
set_option maxRecDepth 100000 in
theorem tw_6 : (Jvm.Cond.initialized "TreeMatcher$Forest") ∈ gw := gw_of (List.mem_of_getElem? (i := 6) rfl) rfl
set_option maxRecDepth 100000 in
theorem tw_9 : (Jvm.Cond.initialized "TreeMatcher$Covering") ∈ gw := gw_of (List.mem_of_getElem? (i := 9) rfl) rfl
set_option maxRecDepth 100000 in
theorem tw_10 : (Jvm.Cond.initialized "TreeMatcher$Tally") ∈ gw := gw_of (List.mem_of_getElem? (i := 10) rfl) rfl
set_option maxRecDepth 100000 in
theorem tw_15 : (Jvm.Cond.initialized "java/lang/IllegalArgumentException") ∈ gw := gw_of (List.mem_of_getElem? (i := 15) rfl) rfl
set_option maxRecDepth 100000 in
theorem tw_19 : (Jvm.Cond.initialized "java/lang/IndexOutOfBoundsException") ∈ gw := gw_of (List.mem_of_getElem? (i := 19) rfl) rfl
set_option maxRecDepth 100000 in
theorem tw_283 : (Jvm.Cond.fieldLink "TreeMatcher" (12 : Nat) "TreeMatcher" "grammar" "LTreeMatcher$Grammar;") ∈ gw := gw_of (List.mem_of_getElem? (i := 283) rfl) rfl
set_option maxRecDepth 100000 in
theorem tw_284 : (Jvm.Cond.fieldLink "TreeMatcher" (21 : Nat) "TreeMatcher" "forest" "LTreeMatcher$Forest;") ∈ gw := gw_of (List.mem_of_getElem? (i := 284) rfl) rfl
set_option maxRecDepth 100000 in
theorem tw_285 : (Jvm.Cond.fieldLink "TreeMatcher" (30 : Nat) "TreeMatcher" "covering" "LTreeMatcher$Covering;") ∈ gw := gw_of (List.mem_of_getElem? (i := 285) rfl) rfl
set_option maxRecDepth 100000 in
theorem tw_286 : (Jvm.Cond.fieldLink "TreeMatcher" (37 : Nat) "TreeMatcher" "tally" "LTreeMatcher$Tally;") ∈ gw := gw_of (List.mem_of_getElem? (i := 286) rfl) rfl
set_option maxRecDepth 100000 in
theorem tw_299 : (Jvm.Cond.code ({ cls := "TreeMatcher", name := "clear", desc := "()I" } : Jvm.MethodName) prog_1_method_12_code (1 : Nat) (Option.some Jvm.ClassFile.FieldType.int)) ∈ gw := gw_of (List.mem_of_getElem? (i := 299) rfl) rfl
set_option maxRecDepth 100000 in
theorem tw_300 : (Jvm.Cond.methodLink "TreeMatcher" (155 : Nat) ({ cls := "TreeMatcher$Covering", name := "forget", desc := "()V" } : Jvm.MethodName)) ∈ gw := gw_of (List.mem_of_getElem? (i := 300) rfl) rfl
set_option maxRecDepth 100000 in
theorem tw_301 : (Jvm.Cond.instanceMethod ({ cls := "TreeMatcher$Covering", name := "forget", desc := "()V" } : Jvm.MethodName)) ∈ gw := gw_of (List.mem_of_getElem? (i := 301) rfl) rfl
set_option maxRecDepth 100000 in
theorem tw_302 : (Jvm.Cond.selects "TreeMatcher$Covering" ({ cls := "TreeMatcher$Covering", name := "forget", desc := "()V" } : Jvm.MethodName) ({ cls := "TreeMatcher$Covering", name := "forget", desc := "()V" } : Jvm.MethodName)) ∈ gw := gw_of (List.mem_of_getElem? (i := 302) rfl) rfl
set_option maxRecDepth 100000 in
theorem tw_304 : (Jvm.Cond.methodLink "TreeMatcher" (158 : Nat) ({ cls := "TreeMatcher$Forest", name := "forget", desc := "()I" } : Jvm.MethodName)) ∈ gw := gw_of (List.mem_of_getElem? (i := 304) rfl) rfl
set_option maxRecDepth 100000 in
theorem tw_305 : (Jvm.Cond.instanceMethod ({ cls := "TreeMatcher$Forest", name := "forget", desc := "()I" } : Jvm.MethodName)) ∈ gw := gw_of (List.mem_of_getElem? (i := 305) rfl) rfl
set_option maxRecDepth 100000 in
theorem tw_306 : (Jvm.Cond.selects "TreeMatcher$Forest" ({ cls := "TreeMatcher$Forest", name := "forget", desc := "()I" } : Jvm.MethodName) ({ cls := "TreeMatcher$Forest", name := "forget", desc := "()I" } : Jvm.MethodName)) ∈ gw := gw_of (List.mem_of_getElem? (i := 306) rfl) rfl
set_option maxRecDepth 100000 in
theorem tw_320 : (Jvm.Cond.code ({ cls := "TreeMatcher", name := "operator", desc := "(II)I" } : Jvm.MethodName) prog_1_method_2_code (3 : Nat) (Option.some Jvm.ClassFile.FieldType.int)) ∈ gw := gw_of (List.mem_of_getElem? (i := 320) rfl) rfl
set_option maxRecDepth 100000 in
theorem tw_321 : (Jvm.Cond.methodLink "TreeMatcher" (41 : Nat) ({ cls := "TreeMatcher", name := "isWithin", desc := "(II)Z" } : Jvm.MethodName)) ∈ gw := gw_of (List.mem_of_getElem? (i := 321) rfl) rfl
set_option maxRecDepth 100000 in
theorem tw_324 : (Jvm.Cond.classLink "TreeMatcher" (45 : Nat) "java/lang/IllegalArgumentException") ∈ gw := gw_of (List.mem_of_getElem? (i := 324) rfl) rfl
set_option maxRecDepth 100000 in
theorem tw_325 : (Jvm.Cond.instantiable "java/lang/IllegalArgumentException" (6 : Nat)) ∈ gw := gw_of (List.mem_of_getElem? (i := 325) rfl) rfl
set_option maxRecDepth 100000 in
theorem tw_392 : (Jvm.Cond.methodLink "TreeMatcher" (52 : Nat) ({ cls := "TreeMatcher$Grammar", name := "hasOperator", desc := "(I)Z" } : Jvm.MethodName)) ∈ gw := gw_of (List.mem_of_getElem? (i := 392) rfl) rfl
set_option maxRecDepth 100000 in
theorem tw_393 : (Jvm.Cond.instanceMethod ({ cls := "TreeMatcher$Grammar", name := "hasOperator", desc := "(I)Z" } : Jvm.MethodName)) ∈ gw := gw_of (List.mem_of_getElem? (i := 393) rfl) rfl
set_option maxRecDepth 100000 in
theorem tw_394 : (Jvm.Cond.selects "TreeMatcher$Grammar" ({ cls := "TreeMatcher$Grammar", name := "hasOperator", desc := "(I)Z" } : Jvm.MethodName) ({ cls := "TreeMatcher$Grammar", name := "hasOperator", desc := "(I)Z" } : Jvm.MethodName)) ∈ gw := gw_of (List.mem_of_getElem? (i := 394) rfl) rfl
set_option maxRecDepth 100000 in
theorem tw_413 : (Jvm.Cond.methodLink "TreeMatcher" (61 : Nat) ({ cls := "TreeMatcher$Grammar", name := "addOperator", desc := "(II)I" } : Jvm.MethodName)) ∈ gw := gw_of (List.mem_of_getElem? (i := 413) rfl) rfl
set_option maxRecDepth 100000 in
theorem tw_414 : (Jvm.Cond.instanceMethod ({ cls := "TreeMatcher$Grammar", name := "addOperator", desc := "(II)I" } : Jvm.MethodName)) ∈ gw := gw_of (List.mem_of_getElem? (i := 414) rfl) rfl
set_option maxRecDepth 100000 in
theorem tw_415 : (Jvm.Cond.selects "TreeMatcher$Grammar" ({ cls := "TreeMatcher$Grammar", name := "addOperator", desc := "(II)I" } : Jvm.MethodName) ({ cls := "TreeMatcher$Grammar", name := "addOperator", desc := "(II)I" } : Jvm.MethodName)) ∈ gw := gw_of (List.mem_of_getElem? (i := 415) rfl) rfl
set_option maxRecDepth 100000 in
theorem tw_423 : (Jvm.Cond.code ({ cls := "TreeMatcher", name := "element", desc := "(I)I" } : Jvm.MethodName) prog_1_method_3_code (2 : Nat) (Option.some Jvm.ClassFile.FieldType.int)) ∈ gw := gw_of (List.mem_of_getElem? (i := 423) rfl) rfl
set_option maxRecDepth 100000 in
theorem tw_425 : (Jvm.Cond.methodLink "TreeMatcher" (67 : Nat) ({ cls := "TreeMatcher$Grammar", name := "handSize", desc := "()I" } : Jvm.MethodName)) ∈ gw := gw_of (List.mem_of_getElem? (i := 425) rfl) rfl
set_option maxRecDepth 100000 in
theorem tw_426 : (Jvm.Cond.instanceMethod ({ cls := "TreeMatcher$Grammar", name := "handSize", desc := "()I" } : Jvm.MethodName)) ∈ gw := gw_of (List.mem_of_getElem? (i := 426) rfl) rfl
set_option maxRecDepth 100000 in
theorem tw_427 : (Jvm.Cond.selects "TreeMatcher$Grammar" ({ cls := "TreeMatcher$Grammar", name := "handSize", desc := "()I" } : Jvm.MethodName) ({ cls := "TreeMatcher$Grammar", name := "handSize", desc := "()I" } : Jvm.MethodName)) ∈ gw := gw_of (List.mem_of_getElem? (i := 427) rfl) rfl
set_option maxRecDepth 100000 in
theorem tw_430 : (Jvm.Cond.methodLink "TreeMatcher" (73 : Nat) ({ cls := "TreeMatcher$Grammar", name := "addElement", desc := "(I)I" } : Jvm.MethodName)) ∈ gw := gw_of (List.mem_of_getElem? (i := 430) rfl) rfl
set_option maxRecDepth 100000 in
theorem tw_431 : (Jvm.Cond.instanceMethod ({ cls := "TreeMatcher$Grammar", name := "addElement", desc := "(I)I" } : Jvm.MethodName)) ∈ gw := gw_of (List.mem_of_getElem? (i := 431) rfl) rfl
set_option maxRecDepth 100000 in
theorem tw_432 : (Jvm.Cond.selects "TreeMatcher$Grammar" ({ cls := "TreeMatcher$Grammar", name := "addElement", desc := "(I)I" } : Jvm.MethodName) ({ cls := "TreeMatcher$Grammar", name := "addElement", desc := "(I)I" } : Jvm.MethodName)) ∈ gw := gw_of (List.mem_of_getElem? (i := 432) rfl) rfl
set_option maxRecDepth 100000 in
theorem tw_440 : (Jvm.Cond.code ({ cls := "TreeMatcher", name := "rule", desc := "(IIII)I" } : Jvm.MethodName) prog_1_method_4_code (6 : Nat) (Option.some Jvm.ClassFile.FieldType.int)) ∈ gw := gw_of (List.mem_of_getElem? (i := 440) rfl) rfl
set_option maxRecDepth 100000 in
theorem tw_441 : (Jvm.Cond.methodLink "TreeMatcher" (77 : Nat) ({ cls := "TreeMatcher$Grammar", name := "ruleCount", desc := "()I" } : Jvm.MethodName)) ∈ gw := gw_of (List.mem_of_getElem? (i := 441) rfl) rfl
set_option maxRecDepth 100000 in
theorem tw_445 : (Jvm.Cond.methodLink "TreeMatcher" (80 : Nat) ({ cls := "TreeMatcher$Forest", name := "size", desc := "()I" } : Jvm.MethodName)) ∈ gw := gw_of (List.mem_of_getElem? (i := 445) rfl) rfl
set_option maxRecDepth 100000 in
theorem tw_446 : (Jvm.Cond.instanceMethod ({ cls := "TreeMatcher$Forest", name := "size", desc := "()I" } : Jvm.MethodName)) ∈ gw := gw_of (List.mem_of_getElem? (i := 446) rfl) rfl
set_option maxRecDepth 100000 in
theorem tw_447 : (Jvm.Cond.selects "TreeMatcher$Forest" ({ cls := "TreeMatcher$Forest", name := "size", desc := "()I" } : Jvm.MethodName) ({ cls := "TreeMatcher$Forest", name := "size", desc := "()I" } : Jvm.MethodName)) ∈ gw := gw_of (List.mem_of_getElem? (i := 447) rfl) rfl
set_option maxRecDepth 100000 in
theorem tw_450 : (Jvm.Cond.methodLink "TreeMatcher" (85 : Nat) ({ cls := "TreeMatcher$Grammar", name := "handIsPattern", desc := "()Z" } : Jvm.MethodName)) ∈ gw := gw_of (List.mem_of_getElem? (i := 450) rfl) rfl
set_option maxRecDepth 100000 in
theorem tw_451 : (Jvm.Cond.instanceMethod ({ cls := "TreeMatcher$Grammar", name := "handIsPattern", desc := "()Z" } : Jvm.MethodName)) ∈ gw := gw_of (List.mem_of_getElem? (i := 451) rfl) rfl
set_option maxRecDepth 100000 in
theorem tw_452 : (Jvm.Cond.selects "TreeMatcher$Grammar" ({ cls := "TreeMatcher$Grammar", name := "handIsPattern", desc := "()Z" } : Jvm.MethodName) ({ cls := "TreeMatcher$Grammar", name := "handIsPattern", desc := "()Z" } : Jvm.MethodName)) ∈ gw := gw_of (List.mem_of_getElem? (i := 452) rfl) rfl
set_option maxRecDepth 100000 in
theorem tw_455 : (Jvm.Cond.methodLink "TreeMatcher" (89 : Nat) ({ cls := "TreeMatcher$Grammar", name := "dropHand", desc := "()V" } : Jvm.MethodName)) ∈ gw := gw_of (List.mem_of_getElem? (i := 455) rfl) rfl
set_option maxRecDepth 100000 in
theorem tw_456 : (Jvm.Cond.instanceMethod ({ cls := "TreeMatcher$Grammar", name := "dropHand", desc := "()V" } : Jvm.MethodName)) ∈ gw := gw_of (List.mem_of_getElem? (i := 456) rfl) rfl
set_option maxRecDepth 100000 in
theorem tw_457 : (Jvm.Cond.selects "TreeMatcher$Grammar" ({ cls := "TreeMatcher$Grammar", name := "dropHand", desc := "()V" } : Jvm.MethodName) ({ cls := "TreeMatcher$Grammar", name := "dropHand", desc := "()V" } : Jvm.MethodName)) ∈ gw := gw_of (List.mem_of_getElem? (i := 457) rfl) rfl
set_option maxRecDepth 100000 in
theorem tw_490 : (Jvm.Cond.code ({ cls := "TreeMatcher", name := "node", desc := "(IIII)I" } : Jvm.MethodName) prog_1_method_5_code (5 : Nat) (Option.some Jvm.ClassFile.FieldType.int)) ∈ gw := gw_of (List.mem_of_getElem? (i := 490) rfl) rfl
set_option maxRecDepth 100000 in
theorem tw_660 : (Jvm.Cond.code ({ cls := "TreeMatcher", name := "cost", desc := "(II)I" } : Jvm.MethodName) prog_1_method_6_code (3 : Nat) (Option.some Jvm.ClassFile.FieldType.int)) ∈ gw := gw_of (List.mem_of_getElem? (i := 660) rfl) rfl
set_option maxRecDepth 100000 in
theorem tw_661 : (Jvm.Cond.methodLink "TreeMatcher" (109 : Nat) ({ cls := "TreeMatcher", name := "checkLabel", desc := "(II)V" } : Jvm.MethodName)) ∈ gw := gw_of (List.mem_of_getElem? (i := 661) rfl) rfl
set_option maxRecDepth 100000 in
theorem tw_663 : (Jvm.Cond.instanceMethod ({ cls := "TreeMatcher", name := "checkLabel", desc := "(II)V" } : Jvm.MethodName)) ∈ gw := gw_of (List.mem_of_getElem? (i := 663) rfl) rfl
set_option maxRecDepth 100000 in
theorem tw_664 : (Jvm.Cond.code ({ cls := "TreeMatcher", name := "checkLabel", desc := "(II)V" } : Jvm.MethodName) prog_1_method_14_code (3 : Nat) (Option.none : Option Jvm.ClassFile.FieldType)) ∈ gw := gw_of (List.mem_of_getElem? (i := 664) rfl) rfl
set_option maxRecDepth 100000 in
theorem tw_665 : (Jvm.Cond.classLink "TreeMatcher" (128 : Nat) "java/lang/IndexOutOfBoundsException") ∈ gw := gw_of (List.mem_of_getElem? (i := 665) rfl) rfl
set_option maxRecDepth 100000 in
theorem tw_666 : (Jvm.Cond.instantiable "java/lang/IndexOutOfBoundsException" (6 : Nat)) ∈ gw := gw_of (List.mem_of_getElem? (i := 666) rfl) rfl
set_option maxRecDepth 100000 in
theorem tw_692 : (Jvm.Cond.code ({ cls := "TreeMatcher", name := "ruleAt", desc := "(II)I" } : Jvm.MethodName) prog_1_method_7_code (3 : Nat) (Option.some Jvm.ClassFile.FieldType.int)) ∈ gw := gw_of (List.mem_of_getElem? (i := 692) rfl) rfl
set_option maxRecDepth 100000 in
theorem tw_703 : (Jvm.Cond.code ({ cls := "TreeMatcher", name := "cover", desc := "(II)I" } : Jvm.MethodName) prog_1_method_8_code (4 : Nat) (Option.some Jvm.ClassFile.FieldType.int)) ∈ gw := gw_of (List.mem_of_getElem? (i := 703) rfl) rfl
set_option maxRecDepth 100000 in
theorem tw_729 : (Jvm.Cond.methodLink "TreeMatcher" (127 : Nat) ({ cls := "TreeMatcher$Covering", name := "size", desc := "()I" } : Jvm.MethodName)) ∈ gw := gw_of (List.mem_of_getElem? (i := 729) rfl) rfl
set_option maxRecDepth 100000 in
theorem tw_730 : (Jvm.Cond.instanceMethod ({ cls := "TreeMatcher$Covering", name := "size", desc := "()I" } : Jvm.MethodName)) ∈ gw := gw_of (List.mem_of_getElem? (i := 730) rfl) rfl
set_option maxRecDepth 100000 in
theorem tw_731 : (Jvm.Cond.selects "TreeMatcher$Covering" ({ cls := "TreeMatcher$Covering", name := "size", desc := "()I" } : Jvm.MethodName) ({ cls := "TreeMatcher$Covering", name := "size", desc := "()I" } : Jvm.MethodName)) ∈ gw := gw_of (List.mem_of_getElem? (i := 731) rfl) rfl
set_option maxRecDepth 100000 in
theorem tw_739 : (Jvm.Cond.code ({ cls := "TreeMatcher", name := "pair", desc := "(II)I" } : Jvm.MethodName) prog_1_method_9_code (4 : Nat) (Option.some Jvm.ClassFile.FieldType.int)) ∈ gw := gw_of (List.mem_of_getElem? (i := 739) rfl) rfl
set_option maxRecDepth 100000 in
theorem tw_752 : (Jvm.Cond.code ({ cls := "TreeMatcher", name := "states", desc := "()I" } : Jvm.MethodName) prog_1_method_10_code (1 : Nat) (Option.some Jvm.ClassFile.FieldType.int)) ∈ gw := gw_of (List.mem_of_getElem? (i := 752) rfl) rfl
set_option maxRecDepth 100000 in
theorem tw_753 : (Jvm.Cond.methodLink "TreeMatcher" (139 : Nat) ({ cls := "TreeMatcher$Grammar", name := "hasLimits", desc := "()Z" } : Jvm.MethodName)) ∈ gw := gw_of (List.mem_of_getElem? (i := 753) rfl) rfl
set_option maxRecDepth 100000 in
theorem tw_754 : (Jvm.Cond.instanceMethod ({ cls := "TreeMatcher$Grammar", name := "hasLimits", desc := "()Z" } : Jvm.MethodName)) ∈ gw := gw_of (List.mem_of_getElem? (i := 754) rfl) rfl
set_option maxRecDepth 100000 in
theorem tw_755 : (Jvm.Cond.selects "TreeMatcher$Grammar" ({ cls := "TreeMatcher$Grammar", name := "hasLimits", desc := "()Z" } : Jvm.MethodName) ({ cls := "TreeMatcher$Grammar", name := "hasLimits", desc := "()Z" } : Jvm.MethodName)) ∈ gw := gw_of (List.mem_of_getElem? (i := 755) rfl) rfl
set_option maxRecDepth 100000 in
theorem tw_758 : (Jvm.Cond.methodLink "TreeMatcher" (144 : Nat) ({ cls := "TreeMatcher$Tally", name := "refresh", desc := "()V" } : Jvm.MethodName)) ∈ gw := gw_of (List.mem_of_getElem? (i := 758) rfl) rfl
set_option maxRecDepth 100000 in
theorem tw_759 : (Jvm.Cond.instanceMethod ({ cls := "TreeMatcher$Tally", name := "refresh", desc := "()V" } : Jvm.MethodName)) ∈ gw := gw_of (List.mem_of_getElem? (i := 759) rfl) rfl
set_option maxRecDepth 100000 in
theorem tw_760 : (Jvm.Cond.selects "TreeMatcher$Tally" ({ cls := "TreeMatcher$Tally", name := "refresh", desc := "()V" } : Jvm.MethodName) ({ cls := "TreeMatcher$Tally", name := "refresh", desc := "()V" } : Jvm.MethodName)) ∈ gw := gw_of (List.mem_of_getElem? (i := 760) rfl) rfl
set_option maxRecDepth 100000 in
theorem tw_778 : (Jvm.Cond.methodLink "TreeMatcher" (147 : Nat) ({ cls := "TreeMatcher$Tally", name := "size", desc := "()I" } : Jvm.MethodName)) ∈ gw := gw_of (List.mem_of_getElem? (i := 778) rfl) rfl
set_option maxRecDepth 100000 in
theorem tw_779 : (Jvm.Cond.instanceMethod ({ cls := "TreeMatcher$Tally", name := "size", desc := "()I" } : Jvm.MethodName)) ∈ gw := gw_of (List.mem_of_getElem? (i := 779) rfl) rfl
set_option maxRecDepth 100000 in
theorem tw_780 : (Jvm.Cond.selects "TreeMatcher$Tally" ({ cls := "TreeMatcher$Tally", name := "size", desc := "()I" } : Jvm.MethodName) ({ cls := "TreeMatcher$Tally", name := "size", desc := "()I" } : Jvm.MethodName)) ∈ gw := gw_of (List.mem_of_getElem? (i := 780) rfl) rfl
set_option maxRecDepth 100000 in
theorem tw_789 : (Jvm.Cond.code ({ cls := "TreeMatcher", name := "same", desc := "(II)Z" } : Jvm.MethodName) prog_1_method_11_code (3 : Nat) (Option.some Jvm.ClassFile.FieldType.boolean)) ∈ gw := gw_of (List.mem_of_getElem? (i := 789) rfl) rfl
abbrev b_M_clear : ByteArray := prog_1_method_12_code
def y_M_clear : MethodName := ⟨"TreeMatcher", "clear", "()I"⟩
def ws_M_clear : List Cond := Cond.code y_M_clear b_M_clear 1 (Option.some Jvm.ClassFile.FieldType.int) :: gw
theorem cin_M_clear : Cond.code y_M_clear b_M_clear 1 (Option.some Jvm.ClassFile.FieldType.int) ∈ gw := tw_299
abbrev b_M_operator : ByteArray := prog_1_method_2_code
def y_M_operator : MethodName := ⟨"TreeMatcher", "operator", "(II)I"⟩
def ws_M_operator : List Cond := Cond.code y_M_operator b_M_operator 3 (Option.some Jvm.ClassFile.FieldType.int) :: gw
theorem cin_M_operator : Cond.code y_M_operator b_M_operator 3 (Option.some Jvm.ClassFile.FieldType.int) ∈ gw := tw_320
abbrev b_M_element : ByteArray := prog_1_method_3_code
def y_M_element : MethodName := ⟨"TreeMatcher", "element", "(I)I"⟩
def ws_M_element : List Cond := Cond.code y_M_element b_M_element 2 (Option.some Jvm.ClassFile.FieldType.int) :: gw
theorem cin_M_element : Cond.code y_M_element b_M_element 2 (Option.some Jvm.ClassFile.FieldType.int) ∈ gw := tw_423
abbrev b_M_rule : ByteArray := prog_1_method_4_code
def y_M_rule : MethodName := ⟨"TreeMatcher", "rule", "(IIII)I"⟩
def ws_M_rule : List Cond := Cond.code y_M_rule b_M_rule 6 (Option.some Jvm.ClassFile.FieldType.int) :: gw
theorem cin_M_rule : Cond.code y_M_rule b_M_rule 6 (Option.some Jvm.ClassFile.FieldType.int) ∈ gw := tw_440
abbrev b_M_node : ByteArray := prog_1_method_5_code
def y_M_node : MethodName := ⟨"TreeMatcher", "node", "(IIII)I"⟩
def ws_M_node : List Cond := Cond.code y_M_node b_M_node 5 (Option.some Jvm.ClassFile.FieldType.int) :: gw
theorem cin_M_node : Cond.code y_M_node b_M_node 5 (Option.some Jvm.ClassFile.FieldType.int) ∈ gw := tw_490
abbrev b_M_cost : ByteArray := prog_1_method_6_code
def y_M_cost : MethodName := ⟨"TreeMatcher", "cost", "(II)I"⟩
def ws_M_cost : List Cond := Cond.code y_M_cost b_M_cost 3 (Option.some Jvm.ClassFile.FieldType.int) :: gw
theorem cin_M_cost : Cond.code y_M_cost b_M_cost 3 (Option.some Jvm.ClassFile.FieldType.int) ∈ gw := tw_660
abbrev b_M_checkLabel : ByteArray := prog_1_method_14_code
def y_M_checkLabel : MethodName := ⟨"TreeMatcher", "checkLabel", "(II)V"⟩
def ws_M_checkLabel : List Cond := Cond.code y_M_checkLabel b_M_checkLabel 3 (Option.none : Option Jvm.ClassFile.FieldType) :: gw
theorem cin_M_checkLabel : Cond.code y_M_checkLabel b_M_checkLabel 3 (Option.none : Option Jvm.ClassFile.FieldType) ∈ gw := tw_664
abbrev b_M_ruleAt : ByteArray := prog_1_method_7_code
def y_M_ruleAt : MethodName := ⟨"TreeMatcher", "ruleAt", "(II)I"⟩
def ws_M_ruleAt : List Cond := Cond.code y_M_ruleAt b_M_ruleAt 3 (Option.some Jvm.ClassFile.FieldType.int) :: gw
theorem cin_M_ruleAt : Cond.code y_M_ruleAt b_M_ruleAt 3 (Option.some Jvm.ClassFile.FieldType.int) ∈ gw := tw_692
abbrev b_M_cover : ByteArray := prog_1_method_8_code
def y_M_cover : MethodName := ⟨"TreeMatcher", "cover", "(II)I"⟩
def ws_M_cover : List Cond := Cond.code y_M_cover b_M_cover 4 (Option.some Jvm.ClassFile.FieldType.int) :: gw
theorem cin_M_cover : Cond.code y_M_cover b_M_cover 4 (Option.some Jvm.ClassFile.FieldType.int) ∈ gw := tw_703
abbrev b_M_pair : ByteArray := prog_1_method_9_code
def y_M_pair : MethodName := ⟨"TreeMatcher", "pair", "(II)I"⟩
def ws_M_pair : List Cond := Cond.code y_M_pair b_M_pair 4 (Option.some Jvm.ClassFile.FieldType.int) :: gw
theorem cin_M_pair : Cond.code y_M_pair b_M_pair 4 (Option.some Jvm.ClassFile.FieldType.int) ∈ gw := tw_739
abbrev b_M_states : ByteArray := prog_1_method_10_code
def y_M_states : MethodName := ⟨"TreeMatcher", "states", "()I"⟩
def ws_M_states : List Cond := Cond.code y_M_states b_M_states 1 (Option.some Jvm.ClassFile.FieldType.int) :: gw
theorem cin_M_states : Cond.code y_M_states b_M_states 1 (Option.some Jvm.ClassFile.FieldType.int) ∈ gw := tw_752
abbrev b_M_same : ByteArray := prog_1_method_11_code
def y_M_same : MethodName := ⟨"TreeMatcher", "same", "(II)Z"⟩
def ws_M_same : List Cond := Cond.code y_M_same b_M_same 3 (Option.some Jvm.ClassFile.FieldType.boolean) :: gw
theorem cin_M_same : Cond.code y_M_same b_M_same 3 (Option.some Jvm.ClassFile.FieldType.boolean) ∈ gw := tw_789
theorem sw_M_checkLabel : Cond.selects "TreeMatcher" ({ cls := "TreeMatcher", name := "checkLabel", desc := "(II)V" } : Jvm.MethodName) ({ cls := "TreeMatcher", name := "checkLabel", desc := "(II)V" } : Jvm.MethodName) ∈ gw := gw_sel (by decide +kernel) rfl
theorem d_M_clear_0 : decode b_M_clear 0 = .ok (.aload_n 0, 1) := by decide +kernel
theorem d_M_clear_1 : decode b_M_clear 1 = .ok (.getfield 30, 3) := by decide +kernel
theorem d_M_clear_4 : decode b_M_clear 4 = .ok (.invokevirtual 155, 3) := by decide +kernel
theorem d_M_clear_7 : decode b_M_clear 7 = .ok (.aload_n 0, 1) := by decide +kernel
theorem d_M_clear_8 : decode b_M_clear 8 = .ok (.getfield 21, 3) := by decide +kernel
theorem d_M_clear_11 : decode b_M_clear 11 = .ok (.invokevirtual 158, 3) := by decide +kernel
theorem d_M_clear_14 : decode b_M_clear 14 = .ok (.ireturn, 1) := by decide +kernel
theorem d_M_operator_0 : decode b_M_operator 0 = .ok (.iload_n 1, 1) := by decide +kernel
theorem d_M_operator_1 : decode b_M_operator 1 = .ok (.bipush 32, 2) := by decide +kernel
theorem d_M_operator_3 : decode b_M_operator 3 = .ok (.invokestatic 41, 3) := by decide +kernel
theorem d_M_operator_6 : decode b_M_operator 6 = .ok (.ifCond .eq 11, 3) := by decide +kernel
theorem d_M_operator_9 : decode b_M_operator 9 = .ok (.iload_n 2, 1) := by decide +kernel
theorem d_M_operator_10 : decode b_M_operator 10 = .ok (.iconst 3, 1) := by decide +kernel
theorem d_M_operator_11 : decode b_M_operator 11 = .ok (.invokestatic 41, 3) := by decide +kernel
theorem d_M_operator_14 : decode b_M_operator 14 = .ok (.ifCond .ne 13, 3) := by decide +kernel
theorem d_M_operator_17 : decode b_M_operator 17 = .ok (.new 45, 3) := by decide +kernel
theorem d_M_operator_20 : decode b_M_operator 20 = .ok (.dup, 1) := by decide +kernel
theorem d_M_operator_21 : decode b_M_operator 21 = .ok (.ldc 47, 2) := by decide +kernel
theorem d_M_operator_23 : decode b_M_operator 23 = .ok (.invokespecial 49, 3) := by decide +kernel
theorem d_M_operator_26 : decode b_M_operator 26 = .ok (.athrow, 1) := by decide +kernel
theorem d_M_operator_27 : decode b_M_operator 27 = .ok (.aload_n 0, 1) := by decide +kernel
theorem d_M_operator_28 : decode b_M_operator 28 = .ok (.getfield 12, 3) := by decide +kernel
theorem d_M_operator_31 : decode b_M_operator 31 = .ok (.iload_n 1, 1) := by decide +kernel
theorem d_M_operator_32 : decode b_M_operator 32 = .ok (.invokevirtual 52, 3) := by decide +kernel
theorem d_M_operator_35 : decode b_M_operator 35 = .ok (.ifCond .eq 13, 3) := by decide +kernel
theorem d_M_operator_48 : decode b_M_operator 48 = .ok (.aload_n 0, 1) := by decide +kernel
theorem d_M_operator_49 : decode b_M_operator 49 = .ok (.getfield 12, 3) := by decide +kernel
theorem d_M_operator_52 : decode b_M_operator 52 = .ok (.iload_n 1, 1) := by decide +kernel
theorem d_M_operator_53 : decode b_M_operator 53 = .ok (.iload_n 2, 1) := by decide +kernel
theorem d_M_operator_54 : decode b_M_operator 54 = .ok (.invokevirtual 61, 3) := by decide +kernel
theorem d_M_operator_57 : decode b_M_operator 57 = .ok (.ireturn, 1) := by decide +kernel
theorem d_M_element_0 : decode b_M_element 0 = .ok (.iload_n 1, 1) := by decide +kernel
theorem d_M_element_1 : decode b_M_element 1 = .ok (.bipush 48, 2) := by decide +kernel
theorem d_M_element_3 : decode b_M_element 3 = .ok (.invokestatic 41, 3) := by decide +kernel
theorem d_M_element_6 : decode b_M_element 6 = .ok (.ifCond .ne 13, 3) := by decide +kernel
theorem d_M_element_9 : decode b_M_element 9 = .ok (.new 45, 3) := by decide +kernel
theorem d_M_element_12 : decode b_M_element 12 = .ok (.dup, 1) := by decide +kernel
theorem d_M_element_13 : decode b_M_element 13 = .ok (.ldc 65, 2) := by decide +kernel
theorem d_M_element_15 : decode b_M_element 15 = .ok (.invokespecial 49, 3) := by decide +kernel
theorem d_M_element_18 : decode b_M_element 18 = .ok (.athrow, 1) := by decide +kernel
theorem d_M_element_19 : decode b_M_element 19 = .ok (.aload_n 0, 1) := by decide +kernel
theorem d_M_element_20 : decode b_M_element 20 = .ok (.getfield 12, 3) := by decide +kernel
theorem d_M_element_23 : decode b_M_element 23 = .ok (.invokevirtual 67, 3) := by decide +kernel
theorem d_M_element_26 : decode b_M_element 26 = .ok (.bipush 12, 2) := by decide +kernel
theorem d_M_element_28 : decode b_M_element 28 = .ok (.if_icmp .lt 13, 3) := by decide +kernel
theorem d_M_element_41 : decode b_M_element 41 = .ok (.aload_n 0, 1) := by decide +kernel
theorem d_M_element_42 : decode b_M_element 42 = .ok (.getfield 12, 3) := by decide +kernel
theorem d_M_element_45 : decode b_M_element 45 = .ok (.iload_n 1, 1) := by decide +kernel
theorem d_M_element_46 : decode b_M_element 46 = .ok (.invokevirtual 73, 3) := by decide +kernel
theorem d_M_element_49 : decode b_M_element 49 = .ok (.ireturn, 1) := by decide +kernel
theorem d_M_rule_0 : decode b_M_rule 0 = .ok (.aload_n 0, 1) := by decide +kernel
theorem d_M_rule_1 : decode b_M_rule 1 = .ok (.getfield 12, 3) := by decide +kernel
theorem d_M_rule_4 : decode b_M_rule 4 = .ok (.invokevirtual 77, 3) := by decide +kernel
theorem d_M_rule_7 : decode b_M_rule 7 = .ok (.bipush 64, 2) := by decide +kernel
theorem d_M_rule_9 : decode b_M_rule 9 = .ok (.if_icmp .ge 13, 3) := by decide +kernel
theorem d_M_rule_12 : decode b_M_rule 12 = .ok (.aload_n 0, 1) := by decide +kernel
theorem d_M_rule_13 : decode b_M_rule 13 = .ok (.getfield 21, 3) := by decide +kernel
theorem d_M_rule_16 : decode b_M_rule 16 = .ok (.invokevirtual 80, 3) := by decide +kernel
theorem d_M_rule_19 : decode b_M_rule 19 = .ok (.ifCond .le 13, 3) := by decide +kernel
theorem d_M_rule_32 : decode b_M_rule 32 = .ok (.iload_n 1, 1) := by decide +kernel
theorem d_M_rule_33 : decode b_M_rule 33 = .ok (.bipush 16, 2) := by decide +kernel
theorem d_M_rule_35 : decode b_M_rule 35 = .ok (.invokestatic 41, 3) := by decide +kernel
theorem d_M_rule_38 : decode b_M_rule 38 = .ok (.ifCond .eq 32, 3) := by decide +kernel
theorem d_M_rule_41 : decode b_M_rule 41 = .ok (.iload_n 2, 1) := by decide +kernel
theorem d_M_rule_42 : decode b_M_rule 42 = .ok (.bipush 100, 2) := by decide +kernel
theorem d_M_rule_44 : decode b_M_rule 44 = .ok (.invokestatic 41, 3) := by decide +kernel
theorem d_M_rule_47 : decode b_M_rule 47 = .ok (.ifCond .eq 23, 3) := by decide +kernel
theorem d_M_rule_50 : decode b_M_rule 50 = .ok (.iload_n 3, 1) := by decide +kernel
theorem d_M_rule_51 : decode b_M_rule 51 = .ok (.iload 4, 2) := by decide +kernel
theorem d_M_rule_53 : decode b_M_rule 53 = .ok (.if_icmp .gt 17, 3) := by decide +kernel
theorem d_M_rule_56 : decode b_M_rule 56 = .ok (.aload_n 0, 1) := by decide +kernel
theorem d_M_rule_57 : decode b_M_rule 57 = .ok (.getfield 12, 3) := by decide +kernel
theorem d_M_rule_60 : decode b_M_rule 60 = .ok (.invokevirtual 85, 3) := by decide +kernel
theorem d_M_rule_63 : decode b_M_rule 63 = .ok (.ifCond .eq 7, 3) := by decide +kernel
theorem d_M_rule_70 : decode b_M_rule 70 = .ok (.iconst 0, 1) := by decide +kernel
theorem d_M_rule_71 : decode b_M_rule 71 = .ok (.istore 5, 2) := by decide +kernel
theorem d_M_rule_73 : decode b_M_rule 73 = .ok (.iload 5, 2) := by decide +kernel
theorem d_M_rule_75 : decode b_M_rule 75 = .ok (.ifCond .ne 20, 3) := by decide +kernel
theorem d_M_rule_78 : decode b_M_rule 78 = .ok (.aload_n 0, 1) := by decide +kernel
theorem d_M_rule_79 : decode b_M_rule 79 = .ok (.getfield 12, 3) := by decide +kernel
theorem d_M_rule_82 : decode b_M_rule 82 = .ok (.invokevirtual 89, 3) := by decide +kernel
theorem d_M_rule_85 : decode b_M_rule 85 = .ok (.new 45, 3) := by decide +kernel
theorem d_M_rule_88 : decode b_M_rule 88 = .ok (.dup, 1) := by decide +kernel
theorem d_M_rule_89 : decode b_M_rule 89 = .ok (.ldc 92, 2) := by decide +kernel
theorem d_M_rule_91 : decode b_M_rule 91 = .ok (.invokespecial 49, 3) := by decide +kernel
theorem d_M_rule_94 : decode b_M_rule 94 = .ok (.athrow, 1) := by decide +kernel
theorem d_M_node_0 : decode b_M_node 0 = .ok (.aload_n 0, 1) := by decide +kernel
theorem d_M_node_1 : decode b_M_node 1 = .ok (.getfield 12, 3) := by decide +kernel
theorem d_M_node_4 : decode b_M_node 4 = .ok (.iload_n 1, 1) := by decide +kernel
theorem d_M_node_5 : decode b_M_node 5 = .ok (.invokevirtual 52, 3) := by decide +kernel
theorem d_M_node_8 : decode b_M_node 8 = .ok (.ifCond .eq 17, 3) := by decide +kernel
theorem d_M_node_25 : decode b_M_node 25 = .ok (.new 45, 3) := by decide +kernel
theorem d_M_node_28 : decode b_M_node 28 = .ok (.dup, 1) := by decide +kernel
theorem d_M_node_29 : decode b_M_node 29 = .ok (.ldc 102, 2) := by decide +kernel
theorem d_M_node_31 : decode b_M_node 31 = .ok (.invokespecial 49, 3) := by decide +kernel
theorem d_M_node_34 : decode b_M_node 34 = .ok (.athrow, 1) := by decide +kernel
theorem d_M_cost_0 : decode b_M_cost 0 = .ok (.aload_n 0, 1) := by decide +kernel
theorem d_M_cost_1 : decode b_M_cost 1 = .ok (.iload_n 1, 1) := by decide +kernel
theorem d_M_cost_2 : decode b_M_cost 2 = .ok (.iload_n 2, 1) := by decide +kernel
theorem d_M_cost_3 : decode b_M_cost 3 = .ok (.invokevirtual 109, 3) := by decide +kernel
theorem d_M_checkLabel_0 : decode b_M_checkLabel 0 = .ok (.iload_n 1, 1) := by decide +kernel
theorem d_M_checkLabel_1 : decode b_M_checkLabel 1 = .ok (.aload_n 0, 1) := by decide +kernel
theorem d_M_checkLabel_2 : decode b_M_checkLabel 2 = .ok (.getfield 21, 3) := by decide +kernel
theorem d_M_checkLabel_5 : decode b_M_checkLabel 5 = .ok (.invokevirtual 80, 3) := by decide +kernel
theorem d_M_checkLabel_8 : decode b_M_checkLabel 8 = .ok (.invokestatic 41, 3) := by decide +kernel
theorem d_M_checkLabel_11 : decode b_M_checkLabel 11 = .ok (.ifCond .eq 12, 3) := by decide +kernel
theorem d_M_checkLabel_23 : decode b_M_checkLabel 23 = .ok (.new 128, 3) := by decide +kernel
theorem d_M_checkLabel_26 : decode b_M_checkLabel 26 = .ok (.dup, 1) := by decide +kernel
theorem d_M_checkLabel_27 : decode b_M_checkLabel 27 = .ok (.ldc 168, 2) := by decide +kernel
theorem d_M_checkLabel_29 : decode b_M_checkLabel 29 = .ok (.invokespecial 132, 3) := by decide +kernel
theorem d_M_checkLabel_32 : decode b_M_checkLabel 32 = .ok (.athrow, 1) := by decide +kernel
theorem d_M_ruleAt_0 : decode b_M_ruleAt 0 = .ok (.aload_n 0, 1) := by decide +kernel
theorem d_M_ruleAt_1 : decode b_M_ruleAt 1 = .ok (.iload_n 1, 1) := by decide +kernel
theorem d_M_ruleAt_2 : decode b_M_ruleAt 2 = .ok (.iload_n 2, 1) := by decide +kernel
theorem d_M_ruleAt_3 : decode b_M_ruleAt 3 = .ok (.invokevirtual 109, 3) := by decide +kernel
theorem d_M_cover_0 : decode b_M_cover 0 = .ok (.aload_n 0, 1) := by decide +kernel
theorem d_M_cover_1 : decode b_M_cover 1 = .ok (.iload_n 1, 1) := by decide +kernel
theorem d_M_cover_2 : decode b_M_cover 2 = .ok (.iload_n 2, 1) := by decide +kernel
theorem d_M_cover_3 : decode b_M_cover 3 = .ok (.invokevirtual 109, 3) := by decide +kernel
theorem d_M_pair_0 : decode b_M_pair 0 = .ok (.iload_n 1, 1) := by decide +kernel
theorem d_M_pair_1 : decode b_M_pair 1 = .ok (.aload_n 0, 1) := by decide +kernel
theorem d_M_pair_2 : decode b_M_pair 2 = .ok (.getfield 30, 3) := by decide +kernel
theorem d_M_pair_5 : decode b_M_pair 5 = .ok (.invokevirtual 127, 3) := by decide +kernel
theorem d_M_pair_8 : decode b_M_pair 8 = .ok (.invokestatic 41, 3) := by decide +kernel
theorem d_M_pair_11 : decode b_M_pair 11 = .ok (.ifCond .eq 11, 3) := by decide +kernel
theorem d_M_pair_22 : decode b_M_pair 22 = .ok (.new 128, 3) := by decide +kernel
theorem d_M_pair_25 : decode b_M_pair 25 = .ok (.dup, 1) := by decide +kernel
theorem d_M_pair_26 : decode b_M_pair 26 = .ok (.ldc 130, 2) := by decide +kernel
theorem d_M_pair_28 : decode b_M_pair 28 = .ok (.invokespecial 132, 3) := by decide +kernel
theorem d_M_pair_31 : decode b_M_pair 31 = .ok (.athrow, 1) := by decide +kernel
theorem d_M_states_0 : decode b_M_states 0 = .ok (.aload_n 0, 1) := by decide +kernel
theorem d_M_states_1 : decode b_M_states 1 = .ok (.getfield 12, 3) := by decide +kernel
theorem d_M_states_4 : decode b_M_states 4 = .ok (.invokevirtual 139, 3) := by decide +kernel
theorem d_M_states_7 : decode b_M_states 7 = .ok (.ifCond .eq 13, 3) := by decide +kernel
theorem d_M_states_20 : decode b_M_states 20 = .ok (.aload_n 0, 1) := by decide +kernel
theorem d_M_states_21 : decode b_M_states 21 = .ok (.getfield 37, 3) := by decide +kernel
theorem d_M_states_24 : decode b_M_states 24 = .ok (.invokevirtual 144, 3) := by decide +kernel
theorem d_M_states_27 : decode b_M_states 27 = .ok (.aload_n 0, 1) := by decide +kernel
theorem d_M_states_28 : decode b_M_states 28 = .ok (.getfield 37, 3) := by decide +kernel
theorem d_M_states_31 : decode b_M_states 31 = .ok (.invokevirtual 147, 3) := by decide +kernel
theorem d_M_states_34 : decode b_M_states 34 = .ok (.bipush 60, 2) := by decide +kernel
theorem d_M_states_36 : decode b_M_states 36 = .ok (.if_icmp .le 13, 3) := by decide +kernel
theorem d_M_states_49 : decode b_M_states 49 = .ok (.aload_n 0, 1) := by decide +kernel
theorem d_M_states_50 : decode b_M_states 50 = .ok (.getfield 37, 3) := by decide +kernel
theorem d_M_states_53 : decode b_M_states 53 = .ok (.invokevirtual 147, 3) := by decide +kernel
theorem d_M_states_56 : decode b_M_states 56 = .ok (.ireturn, 1) := by decide +kernel
theorem d_M_same_0 : decode b_M_same 0 = .ok (.iload_n 1, 1) := by decide +kernel
theorem d_M_same_1 : decode b_M_same 1 = .ok (.aload_n 0, 1) := by decide +kernel
theorem d_M_same_2 : decode b_M_same 2 = .ok (.getfield 21, 3) := by decide +kernel
theorem d_M_same_5 : decode b_M_same 5 = .ok (.invokevirtual 80, 3) := by decide +kernel
theorem d_M_same_8 : decode b_M_same 8 = .ok (.invokestatic 41, 3) := by decide +kernel
theorem d_M_same_11 : decode b_M_same 11 = .ok (.ifCond .eq 17, 3) := by decide +kernel
theorem d_M_same_28 : decode b_M_same 28 = .ok (.new 128, 3) := by decide +kernel
theorem d_M_same_31 : decode b_M_same 31 = .ok (.dup, 1) := by decide +kernel
theorem d_M_same_32 : decode b_M_same 32 = .ok (.ldc 150, 2) := by decide +kernel
theorem d_M_same_34 : decode b_M_same 34 = .ok (.invokespecial 132, 3) := by decide +kernel
theorem d_M_same_37 : decode b_M_same 37 = .ok (.athrow, 1) := by decide +kernel
theorem tx_none {n : Int32} (h : 0 ≤ n ∧ n < 0) : False := absurd h.2 (Int32.not_lt.mpr h.1)
set_option maxHeartbeats 4000000 in
set_option maxRecDepth 100000 in
/-- operator on a new object -/
theorem c_M_operator (l : Launch) (hlf : l.flags = flags0) (dC : Nat → ClassId) (dI : Nat → Nat → Nat) (sz : Nat) (x g kq : Nat) (cA : ClassId) (zx : Nat → Value) (zg : Nat → Value) (f : Nat → Int32) (hf : ∀ j, j < 32 → f j = -1) (n k : Int32) : tx_Met l y_M_operator ws_M_operator ({ frames := 6, cells := 1, slots := 6, locals := 90 }) (va_Pc [.ref x, .int n, .int k] (fun U => U.heap.size = sz ∧ va_P (dC, dI) kcl [(x, .inr (0, [.ref g, (zx 1), (zx 2), (zx 3)])), (g, .inr (1, [.ref kq, .int 0, (zg 2), (zg 3), (zg 4), (zg 5), (zg 6), (zg 7), (zg 8), (zg 9), (zg 10), (zg 11), (zg 12), (zg 13)])), (kq, .inl (cA, 32, .inl f))] U.heap ∧ va_K (dC, dI) kcl [(cA, .int)] U ∧ va_D (fun _ => True) [(x, .inr (0, [.ref g, (zx 1), (zx 2), (zx 3)])), (g, .inr (1, [.ref kq, .int 0, (zg 2), (zg 3), (zg 4), (zg 5), (zg 6), (zg 7), (zg 8), (zg 9), (zg 10), (zg 11), (zg 12), (zg 13)])), (kq, .inl (cA, 32, .inl f))] ∧ tx_G (va_A [(x, .inr (0, [.ref g, (zx 1), (zx 2), (zx 3)])), (g, .inr (1, [.ref kq, .int 0, (zg 2), (zg 3), (zg 4), (zg 5), (zg 6), (zg 7), (zg 8), (zg 9), (zg 10), (zg 11), (zg 12), (zg 13)])), (kq, .inl (cA, 32, .inl f))] sz) U)) (tx_Q (fun v => ((0 ≤ n ∧ n < 32) ∧ (0 ≤ k ∧ k < 3)) ∧ v = some (.int 1)) (fun X => ¬ ((0 ≤ n ∧ n < 32) ∧ (0 ≤ k ∧ k < 3)) ∧ X = "java/lang/IllegalArgumentException") (va_A [(x, .inr (0, [.ref g, (zx 1), (zx 2), (zx 3)])), (g, .inr (1, [.ref kq, .int 0, (zg 2), (zg 3), (zg 4), (zg 5), (zg 6), (zg 7), (zg 8), (zg 9), (zg 10), (zg 11), (zg 12), (zg 13)])), (kq, .inl (cA, 32, .inl f))] sz)) 1 6 (va_A [(x, .inr (0, [.ref g, (zx 1), (zx 2), (zx 3)])), (g, .inr (1, [.ref kq, .int 0, (zg 2), (zg 3), (zg 4), (zg 5), (zg 6), (zg 7), (zg 8), (zg 9), (zg 10), (zg 11), (zg 12), (zg 13)])), (kq, .inl (cA, 32, .inl f))] sz) := by
  refine tx_ofW (cc := b_M_operator) (maxL := 3) (ret := (Option.some Jvm.ClassFile.FieldType.int)) (by decide) rfl ?_
  intro p e s m args below meth c s₁ B hml hout hadm hv
  obtain ⟨rfl, hsz, hP, hK, hD0, hG⟩ := hv
  have hP0 := hP
  have hx := B.exec
  have hb := B.bytes
  have hr := B.returns
  have hlocks := B.notSynchronized
  have hg : ∀ w ∈ gw, w.before _ s = true := fun w h => atoms_spec (ws := ws_M_operator) B.pre w (List.mem_cons_of_mem _ h)
  have hown : s.vm.findClass "TreeMatcher" = some m.cls := findClass_of_methodNamed B.named
  subst hsz
  have hD := hD0.self (sz := s.heap.size)
  have hA : ∀ q : Nat, s.heap.size ≤ q → va_A [(x, .inr (0, [.ref g, (zx 1), (zx 2), (zx 3)])), (g, .inr (1, [.ref kq, .int 0, (zg 2), (zg 3), (zg 4), (zg 5), (zg 6), (zg 7), (zg 8), (zg 9), (zg 10), (zg 11), (zg 12), (zg 13)])), (kq, .inl (cA, 32, .inl f))] s.heap.size q := fun q h => Or.inr h
  generalize hAe : va_A [(x, .inr (0, [.ref g, (zx 1), (zx 2), (zx 3)])), (g, .inr (1, [.ref kq, .int 0, (zg 2), (zg 3), (zg 4), (zg 5), (zg 6), (zg 7), (zg 8), (zg 9), (zg 10), (zg 11), (zg 12), (zg 13)])), (kq, .inl (cA, 32, .inl f))] s.heap.size = A at hD hG hA ⊢
  have hN : tx_N s := hG.1
  have hS : va_S A s.heap s.heap [] := va_S.rf
  have hl := lv_entry ([.ref x, .int n, .int k] : List Value) (n := 3) (Nat.le_of_ble_eq_true rfl)
  rw [lg_entry_eq]
  generalize (lg_sl ([.ref x, .int n, .int k] : List Value) ++ List.replicate (3 - (lg_sl ([.ref x, .int n, .int k] : List Value)).length) Slot.unset).toArray = ls at hl ⊢
  have hl : lv_has ls 3 [(0, .ref x), (1, .int n), (2, .int k)] := hl
  refine lv_iload_n hx hb d_M_operator_0 rfl (lv_at hl 1 rfl) ?_
  refine lv_bipush (v := 32) hx hb d_M_operator_1 (by decide) ?_
  have hPc := hP.sub (ws' := []) [] rfl
  have hKc := hK.sub (tys' := []) [] rfl
  refine va_calli (va_runS (As := [.int n, .int 32]) (rest := []) ⟨hx, hb, hml, hown, hg⟩ (c_M_isWithin l dC dI s.heap.size n 32) (va_cwS 2 hg (gw_giS cin_M_isWithin tw_321 tw_322 tw_1) rfl rfl rfl (by decide +kernel) ⟨Nat.le_of_ble_eq_true rfl, Nat.le_of_ble_eq_true rfl⟩) ⟨fun a U g mk q => by obtain ⟨q0, q1, qP, qK⟩ := q; exact ⟨q0, q1, qP, va_K.moved (u := U) (U := U.calling g mk a) (Vm.Alike.refl U.vm) qK⟩, fun U hU hW => ⟨rfl, by rw [hU], by rw [hU]; exact hPc, va_K.moved hW.alike hKc⟩⟩ rfl rfl hl.1 rfl (lv_room (Nat.le_of_ble_eq_true rfl)) d_M_operator_3 ⟨Nat.le_of_ble_eq_true rfl, Nat.le_of_ble_eq_true rfl⟩) hS (fun q h1 h => (tx_pA h1 h).elim) (tx_pF hS hA) (fun r_k_1 u_k_1 t_k_1 H_2 l_k_1 ht hvm hw_k_1 hB hz1 hk1 hS => ?_)
  have hw_k_1 : (if 0 ≤ n ∧ n < 32 then 1 else 0) = r_k_1 := Eq.symm hw_k_1
  subst hw_k_1
  have hP := tx_keep hP hk1
  refine lv_if_eq (tgt := 17) hx hb d_M_operator_6 (by decide) (fun c_3 => ?_) (fun c_3 => ?_)
  · obtain ⟨qs, hqs⟩ := tx_str47 hG.2.1
    exact tx_throwNew (names := tx_nm) hx hb hlf hout hlocks hown (hg _ tw_324) (hg _ tw_325) (hg _ tw_15) (tx_ownIAE hg hG) (by decide +kernel) (by decide +kernel) hqs (tx_loc (ws := [(x, .inr (0, [.ref g, (zx 1), (zx 2), (zx 3)])), (g, .inr (1, [.ref kq, .int 0, (zg 2), (zg 3), (zg 4), (zg 5), (zg 6), (zg 7), (zg 8), (zg 9), (zg 10), (zg 11), (zg 12), (zg 13)])), (kq, .inl (cA, 32, .inl f))]) hP0 (by rw [hAe]; exact hS)) (hl.1.trans hml.symm) hS (Nat.le_of_ble_eq_true rfl) (Nat.le_of_ble_eq_true rfl) (Nat.le_of_ble_eq_true rfl) (Nat.le_of_ble_eq_true rfl) d_M_operator_17 d_M_operator_20 d_M_operator_21 d_M_operator_23 d_M_operator_26 ⟨fun h => tx_if0 c_3 h.1, rfl⟩
  · refine lv_iload_n hx hb d_M_operator_9 rfl (lv_at hl 2 rfl) ?_
    refine lv_iconst (v := 3) hx hb d_M_operator_10 (by decide) ?_
    have hPc := hP.sub (ws' := []) [] rfl
    have hKc := hK.sub (tys' := []) [] rfl
    refine va_calli (va_runS (As := [.int k, .int 3]) (rest := []) ⟨hx, hb, hml, hown, hg⟩ (c_M_isWithin l dC dI H_2.size k 3) (va_cwS 2 hg (gw_giS cin_M_isWithin tw_321 tw_322 tw_1) rfl rfl rfl (by decide +kernel) ⟨Nat.le_of_ble_eq_true rfl, Nat.le_of_ble_eq_true rfl⟩) ⟨fun a U g mk q => by obtain ⟨q0, q1, qP, qK⟩ := q; exact ⟨q0, q1, qP, va_K.moved (u := U) (U := U.calling g mk a) (Vm.Alike.refl U.vm) qK⟩, fun U hU hW => ⟨rfl, by rw [hU], by rw [hU]; exact hPc, va_K.moved hW.alike hKc⟩⟩ rfl rfl hl.1 rfl (lv_room (Nat.le_of_ble_eq_true rfl)) d_M_operator_11 ⟨Nat.le_of_ble_eq_true rfl, Nat.le_of_ble_eq_true rfl⟩) hS (fun q h1 h => (tx_pA h1 h).elim) (tx_pF hS hA) (fun r_k_4 u_k_4 t_k_4 H_5 l_k_4 ht hvm hw_k_4 hB hz1 hk1 hS => ?_)
    have hw_k_4 : (if 0 ≤ k ∧ k < 3 then 1 else 0) = r_k_4 := Eq.symm hw_k_4
    subst hw_k_4
    have hP := tx_keep hP hk1
    refine lv_if_ne (tgt := 27) hx hb d_M_operator_14 (by decide) (fun c_6 => ?_) (fun c_6 => ?_)
    · refine lv_aload_n hx hb d_M_operator_27 rfl (lv_at hl 0 rfl) ?_
      refine va_get (D := (dC, dI)) (ci := 0) (v := .ref g) (C := kR_M) (T := kT_M) (N := 4) hx hb hg kin_M hown hK hP 0 rfl rfl 0 (by decide) (hg _ tw_283) (fun _ h9 => h9) rfl d_M_operator_28 ?_
      refine lv_iload_n hx hb d_M_operator_31 rfl (lv_at hl 1 rfl) ?_
      have hPc := hP.sub (ws' := [(g, .inr (1, [.ref kq, .int 0, (zg 2), (zg 3), (zg 4), (zg 5), (zg 6), (zg 7), (zg 8), (zg 9), (zg 10), (zg 11), (zg 12), (zg 13)])), (kq, .inl (cA, 32, .inl f))]) [1, 2] rfl
      have hKc := hK.sub (tys' := [(cA, .int)]) [0] rfl
      refine va_calli (va_runV (As := [.int n]) (rest := []) ⟨hx, hb, hml, hown, hg⟩ (c_G_hasOperator l dC dI H_5.size g kq cA (fun i => if i = 1 then .int 0 else zg i) f hf n) (cwV 1 hg (gw_giV cin_G_hasOperator tw_392 tw_393 tw_394 tw_2) rfl rfl rfl (by decide +kernel) ⟨Nat.le_of_ble_eq_true rfl, Nat.le_of_ble_eq_true rfl⟩) ⟨fun a U g mk q => by obtain ⟨q0, q1, qP, qK, qG⟩ := q; exact ⟨q0, q1, qP, va_K.moved (u := U) (U := U.calling g mk a) (Vm.Alike.refl U.vm) qK, tx_N.same (U := U.calling g mk a) rfl qG⟩, va_recv hKc hPc (ci := 1) (q0 := 0) rfl rfl, fun U hU hW => ⟨rfl, by rw [hU], by rw [hU]; exact hPc, va_K.moved hW.alike hKc, hN.warm hW⟩⟩ rfl rfl hl.1 rfl (lv_room (Nat.le_of_ble_eq_true rfl)) d_M_operator_32 ⟨Nat.le_of_ble_eq_true rfl, Nat.le_of_ble_eq_true rfl⟩) hS (fun q h1 h => (tx_pA h1 h).elim) (tx_pF hS hA) (fun r_k_7 u_k_7 t_k_7 H_8 l_k_7 ht hvm hw_k_7 hB hz1 hk1 hS => ?_)
      have hw_k_7 : 0 = r_k_7 := Eq.symm hw_k_7
      subst hw_k_7
      have hP := tx_keep hP hk1
      refine lv_if_eq (tgt := 48) hx hb d_M_operator_35 (by decide) (fun c_9 => ?_) (fun c_9 => ?_)
      · refine lv_aload_n hx hb d_M_operator_48 rfl (lv_at hl 0 rfl) ?_
        refine va_get (D := (dC, dI)) (ci := 0) (v := .ref g) (C := kR_M) (T := kT_M) (N := 4) hx hb hg kin_M hown hK hP 0 rfl rfl 0 (by decide) (hg _ tw_283) (fun _ h9 => h9) rfl d_M_operator_49 ?_
        refine lv_iload_n hx hb d_M_operator_52 rfl (lv_at hl 1 rfl) ?_
        refine lv_iload_n hx hb d_M_operator_53 rfl (lv_at hl 2 rfl) ?_
        have hPc := hP.sub (ws' := [(g, .inr (1, [.ref kq, .int 0, (zg 2), (zg 3), (zg 4), (zg 5), (zg 6), (zg 7), (zg 8), (zg 9), (zg 10), (zg 11), (zg 12), (zg 13)])), (kq, .inl (cA, 32, .inl f))]) [1, 2] rfl
        have hKc := hK.sub (tys' := [(cA, .int)]) [0] rfl
        have hDc := hD.sub (ws' := [(g, .inr (1, [.ref kq, .int 0, (zg 2), (zg 3), (zg 4), (zg 5), (zg 6), (zg 7), (zg 8), (zg 9), (zg 10), (zg 11), (zg 12), (zg 13)])), (kq, .inl (cA, 32, .inl f))]) [1, 2] (by decide) rfl
        have hFc := va_free (wc := [(g, .inr (1, [.ref kq, .int 0, (zg 2), (zg 3), (zg 4), (zg 5), (zg 6), (zg 7), (zg 8), (zg 9), (zg 10), (zg 11), (zg 12), (zg 13)])), (kq, .inl (cA, 32, .inl f))]) hD hS hA [1, 2] rfl
        refine va_calli (va_runV (As := [.int n, .int k]) (rest := []) ⟨hx, hb, hml, hown, hg⟩ (c_G_addOperator l dC dI H_8.size g kq cA zg f n k 0 (tx_if1 c_3)) (cwV 2 hg (gw_giV cin_G_addOperator tw_413 tw_414 tw_415 tw_2) rfl rfl rfl (by decide +kernel) ⟨Nat.le_of_ble_eq_true rfl, Nat.le_of_ble_eq_true rfl⟩) ⟨fun a U g mk q => by obtain ⟨q0, q1, qP, qK, qD⟩ := q; exact ⟨q0, q1, qP, va_K.moved (u := U) (U := U.calling g mk a) (Vm.Alike.refl U.vm) qK, qD⟩, va_recv hKc hPc (ci := 1) (q0 := 0) rfl rfl, fun U hU hW => ⟨rfl, by rw [hU], by rw [hU]; exact hPc, va_K.moved hW.alike hKc, hDc.weaken (fun _ _ _ _ => trivial)⟩⟩ rfl rfl hl.1 rfl (lv_room (Nat.le_of_ble_eq_true rfl)) d_M_operator_54 ⟨Nat.le_of_ble_eq_true rfl, Nat.le_of_ble_eq_true rfl⟩) hS (fun q _ h => hFc q h) hFc (fun r_k_10 u_k_10 t_k_10 H_11 l_k_10 ht hvm hw_k_10 hB hz1 hk1 hS => ?_)
        have hw_k_10 : (0 + 1) = r_k_10 := Eq.symm hw_k_10
        subst hw_k_10
        obtain ⟨hP, hD⟩ := tx_rest (wc := [(g, .inr (1, [.ref kq, .int 0, (zg 2), (zg 3), (zg 4), (zg 5), (zg 6), (zg 7), (zg 8), (zg 9), (zg 10), (zg 11), (zg 12), (zg 13)])), (kq, .inl (cA, 32, .inl f))]) (wr := [(x, .inr (0, [.ref g, (zx 1), (zx 2), (zx 3)]))]) hP hD [1, 2] [0] rfl rfl (by decide) (by decide) hk1 hFc
        have hK := hK.sub (tys' := []) [] rfl
        refine W.widen (k := 1) (n := 6) (Nat.le_of_ble_eq_true rfl) (Nat.le_of_ble_eq_true rfl) ?_
        exact tx_ret (W.iret (v := (0 + 1)) hx hb hr (fun t ht hW => ⟨Or.inl ⟨_, rfl, ⟨⟨tx_if1 c_3, tx_if1 c_6⟩, rfl⟩⟩, hS.F ht⟩) hS.2.2 d_M_operator_57)
      · exact absurd rfl c_9
    · obtain ⟨qs, hqs⟩ := tx_str47 hG.2.1
      exact tx_throwNew (names := tx_nm) hx hb hlf hout hlocks hown (hg _ tw_324) (hg _ tw_325) (hg _ tw_15) (tx_ownIAE hg hG) (by decide +kernel) (by decide +kernel) hqs (tx_loc (ws := [(x, .inr (0, [.ref g, (zx 1), (zx 2), (zx 3)])), (g, .inr (1, [.ref kq, .int 0, (zg 2), (zg 3), (zg 4), (zg 5), (zg 6), (zg 7), (zg 8), (zg 9), (zg 10), (zg 11), (zg 12), (zg 13)])), (kq, .inl (cA, 32, .inl f))]) hP0 (by rw [hAe]; exact hS)) (hl.1.trans hml.symm) hS (Nat.le_of_ble_eq_true rfl) (Nat.le_of_ble_eq_true rfl) (Nat.le_of_ble_eq_true rfl) (Nat.le_of_ble_eq_true rfl) d_M_operator_17 d_M_operator_20 d_M_operator_21 d_M_operator_23 d_M_operator_26 ⟨fun h => tx_if0 c_6 h.2, rfl⟩
set_option maxHeartbeats 4000000 in
set_option maxRecDepth 100000 in
theorem c_M_element (l : Launch) (hlf : l.flags = flags0) (dC : Nat → ClassId) (dI : Nat → Nat → Nat) (sz : Nat) (x g hq : Nat) (cA : ClassId) (zx : Nat → Value) (zg : Nat → Value) (f : Nat → Int32) (n : Int32) : tx_Met l y_M_element ws_M_element ({ frames := 6, cells := 1, slots := 6, locals := 90 }) (va_Pc [.ref x, .int n] (fun U => U.heap.size = sz ∧ va_P (dC, dI) kcl [(x, .inr (0, [.ref g, (zx 1), (zx 2), (zx 3)])), (g, .inr (1, [(zg 0), (zg 1), .ref hq, .int 0, (zg 4), (zg 5), (zg 6), (zg 7), (zg 8), (zg 9), (zg 10), (zg 11), (zg 12), (zg 13)])), (hq, .inl (cA, 12, .inl f))] U.heap ∧ va_K (dC, dI) kcl [(cA, .int)] U ∧ va_D (fun _ => True) [(x, .inr (0, [.ref g, (zx 1), (zx 2), (zx 3)])), (g, .inr (1, [(zg 0), (zg 1), .ref hq, .int 0, (zg 4), (zg 5), (zg 6), (zg 7), (zg 8), (zg 9), (zg 10), (zg 11), (zg 12), (zg 13)])), (hq, .inl (cA, 12, .inl f))] ∧ tx_G (va_A [(x, .inr (0, [.ref g, (zx 1), (zx 2), (zx 3)])), (g, .inr (1, [(zg 0), (zg 1), .ref hq, .int 0, (zg 4), (zg 5), (zg 6), (zg 7), (zg 8), (zg 9), (zg 10), (zg 11), (zg 12), (zg 13)])), (hq, .inl (cA, 12, .inl f))] sz) U)) (tx_Q (fun v => (0 ≤ n ∧ n < 48) ∧ v = some (.int 1)) (fun X => ¬ (0 ≤ n ∧ n < 48) ∧ X = "java/lang/IllegalArgumentException") (va_A [(x, .inr (0, [.ref g, (zx 1), (zx 2), (zx 3)])), (g, .inr (1, [(zg 0), (zg 1), .ref hq, .int 0, (zg 4), (zg 5), (zg 6), (zg 7), (zg 8), (zg 9), (zg 10), (zg 11), (zg 12), (zg 13)])), (hq, .inl (cA, 12, .inl f))] sz)) 1 6 (va_A [(x, .inr (0, [.ref g, (zx 1), (zx 2), (zx 3)])), (g, .inr (1, [(zg 0), (zg 1), .ref hq, .int 0, (zg 4), (zg 5), (zg 6), (zg 7), (zg 8), (zg 9), (zg 10), (zg 11), (zg 12), (zg 13)])), (hq, .inl (cA, 12, .inl f))] sz) := by
  refine tx_ofW (cc := b_M_element) (maxL := 2) (ret := (Option.some Jvm.ClassFile.FieldType.int)) (by decide) rfl ?_
  intro p e s m args below meth c s₁ B hml hout hadm hv
  obtain ⟨rfl, hsz, hP, hK, hD0, hG⟩ := hv
  have hP0 := hP
  have hx := B.exec
  have hb := B.bytes
  have hr := B.returns
  have hlocks := B.notSynchronized
  have hg : ∀ w ∈ gw, w.before _ s = true := fun w h => atoms_spec (ws := ws_M_element) B.pre w (List.mem_cons_of_mem _ h)
  have hown : s.vm.findClass "TreeMatcher" = some m.cls := findClass_of_methodNamed B.named
  subst hsz
  have hD := hD0.self (sz := s.heap.size)
  have hA : ∀ q : Nat, s.heap.size ≤ q → va_A [(x, .inr (0, [.ref g, (zx 1), (zx 2), (zx 3)])), (g, .inr (1, [(zg 0), (zg 1), .ref hq, .int 0, (zg 4), (zg 5), (zg 6), (zg 7), (zg 8), (zg 9), (zg 10), (zg 11), (zg 12), (zg 13)])), (hq, .inl (cA, 12, .inl f))] s.heap.size q := fun q h => Or.inr h
  generalize hAe : va_A [(x, .inr (0, [.ref g, (zx 1), (zx 2), (zx 3)])), (g, .inr (1, [(zg 0), (zg 1), .ref hq, .int 0, (zg 4), (zg 5), (zg 6), (zg 7), (zg 8), (zg 9), (zg 10), (zg 11), (zg 12), (zg 13)])), (hq, .inl (cA, 12, .inl f))] s.heap.size = A at hD hG hA ⊢
  have hN : tx_N s := hG.1
  have hS : va_S A s.heap s.heap [] := va_S.rf
  have hl := lv_entry ([.ref x, .int n] : List Value) (n := 2) (Nat.le_of_ble_eq_true rfl)
  rw [lg_entry_eq]
  generalize (lg_sl ([.ref x, .int n] : List Value) ++ List.replicate (2 - (lg_sl ([.ref x, .int n] : List Value)).length) Slot.unset).toArray = ls at hl ⊢
  have hl : lv_has ls 2 [(0, .ref x), (1, .int n)] := hl
  refine lv_iload_n hx hb d_M_element_0 rfl (lv_at hl 1 rfl) ?_
  refine lv_bipush (v := 48) hx hb d_M_element_1 (by decide) ?_
  have hPc := hP.sub (ws' := []) [] rfl
  have hKc := hK.sub (tys' := []) [] rfl
  refine va_calli (va_runS (As := [.int n, .int 48]) (rest := []) ⟨hx, hb, hml, hown, hg⟩ (c_M_isWithin l dC dI s.heap.size n 48) (va_cwS 2 hg (gw_giS cin_M_isWithin tw_321 tw_322 tw_1) rfl rfl rfl (by decide +kernel) ⟨Nat.le_of_ble_eq_true rfl, Nat.le_of_ble_eq_true rfl⟩) ⟨fun a U g mk q => by obtain ⟨q0, q1, qP, qK⟩ := q; exact ⟨q0, q1, qP, va_K.moved (u := U) (U := U.calling g mk a) (Vm.Alike.refl U.vm) qK⟩, fun U hU hW => ⟨rfl, by rw [hU], by rw [hU]; exact hPc, va_K.moved hW.alike hKc⟩⟩ rfl rfl hl.1 rfl (lv_room (Nat.le_of_ble_eq_true rfl)) d_M_element_3 ⟨Nat.le_of_ble_eq_true rfl, Nat.le_of_ble_eq_true rfl⟩) hS (fun q h1 h => (tx_pA h1 h).elim) (tx_pF hS hA) (fun r_k_1 u_k_1 t_k_1 H_2 l_k_1 ht hvm hw_k_1 hB hz1 hk1 hS => ?_)
  have hw_k_1 : (if 0 ≤ n ∧ n < 48 then 1 else 0) = r_k_1 := Eq.symm hw_k_1
  subst hw_k_1
  have hP := tx_keep hP hk1
  refine lv_if_ne (tgt := 19) hx hb d_M_element_6 (by decide) (fun c_3 => ?_) (fun c_3 => ?_)
  · refine lv_aload_n hx hb d_M_element_19 rfl (lv_at hl 0 rfl) ?_
    refine va_get (D := (dC, dI)) (ci := 0) (v := .ref g) (C := kR_M) (T := kT_M) (N := 4) hx hb hg kin_M hown hK hP 0 rfl rfl 0 (by decide) (hg _ tw_283) (fun _ h9 => h9) rfl d_M_element_20 ?_
    have hPc := hP.sub (ws' := [(g, .inr (1, [(zg 0), (zg 1), .ref hq, .int 0, (zg 4), (zg 5), (zg 6), (zg 7), (zg 8), (zg 9), (zg 10), (zg 11), (zg 12), (zg 13)]))]) [1] rfl
    have hKc := hK.sub (tys' := []) [] rfl
    refine va_calli (va_runV (As := []) (rest := []) ⟨hx, hb, hml, hown, hg⟩ (c_G_handSize l dC dI H_2.size g (fun i => if i = 2 then .ref hq else zg i) 0) (cwV 0 hg (gw_giV cin_G_handSize tw_425 tw_426 tw_427 tw_2) rfl rfl rfl (by decide +kernel) ⟨Nat.le_of_ble_eq_true rfl, Nat.le_of_ble_eq_true rfl⟩) ⟨fun a U g mk q => by obtain ⟨q0, q1, qP, qK⟩ := q; exact ⟨q0, q1, qP, va_K.moved (u := U) (U := U.calling g mk a) (Vm.Alike.refl U.vm) qK⟩, va_recv hKc hPc (ci := 1) (q0 := 0) rfl rfl, fun U hU hW => ⟨rfl, by rw [hU], by rw [hU]; exact hPc, va_K.moved hW.alike hKc⟩⟩ rfl rfl hl.1 rfl (lv_room (Nat.le_of_ble_eq_true rfl)) d_M_element_23 ⟨Nat.le_of_ble_eq_true rfl, Nat.le_of_ble_eq_true rfl⟩) hS (fun q h1 h => (tx_pA h1 h).elim) (tx_pF hS hA) (fun r_k_4 u_k_4 t_k_4 H_5 l_k_4 ht hvm hw_k_4 hB hz1 hk1 hS => ?_)
    have hw_k_4 : 0 = r_k_4 := Eq.symm hw_k_4
    subst hw_k_4
    have hP := tx_keep hP hk1
    refine lv_bipush (v := 12) hx hb d_M_element_26 (by decide) ?_
    refine lv_icmp_lt (tgt := 41) hx hb d_M_element_28 (by decide) (fun c_6 => ?_) (fun c_6 => ?_)
    · refine lv_aload_n hx hb d_M_element_41 rfl (lv_at hl 0 rfl) ?_
      refine va_get (D := (dC, dI)) (ci := 0) (v := .ref g) (C := kR_M) (T := kT_M) (N := 4) hx hb hg kin_M hown hK hP 0 rfl rfl 0 (by decide) (hg _ tw_283) (fun _ h9 => h9) rfl d_M_element_42 ?_
      refine lv_iload_n hx hb d_M_element_45 rfl (lv_at hl 1 rfl) ?_
      have hPc := hP.sub (ws' := [(g, .inr (1, [(zg 0), (zg 1), .ref hq, .int 0, (zg 4), (zg 5), (zg 6), (zg 7), (zg 8), (zg 9), (zg 10), (zg 11), (zg 12), (zg 13)])), (hq, .inl (cA, 12, .inl f))]) [1, 2] rfl
      have hKc := hK.sub (tys' := [(cA, .int)]) [0] rfl
      have hDc := hD.sub (ws' := [(g, .inr (1, [(zg 0), (zg 1), .ref hq, .int 0, (zg 4), (zg 5), (zg 6), (zg 7), (zg 8), (zg 9), (zg 10), (zg 11), (zg 12), (zg 13)])), (hq, .inl (cA, 12, .inl f))]) [1, 2] (by decide) rfl
      have hFc := va_free (wc := [(g, .inr (1, [(zg 0), (zg 1), .ref hq, .int 0, (zg 4), (zg 5), (zg 6), (zg 7), (zg 8), (zg 9), (zg 10), (zg 11), (zg 12), (zg 13)])), (hq, .inl (cA, 12, .inl f))]) hD hS hA [1, 2] rfl
      refine va_calli (va_runV (As := [.int n]) (rest := []) ⟨hx, hb, hml, hown, hg⟩ (c_G_addElement l dC dI H_5.size g hq cA zg f n) (cwV 1 hg (gw_giV cin_G_addElement tw_430 tw_431 tw_432 tw_2) rfl rfl rfl (by decide +kernel) ⟨Nat.le_of_ble_eq_true rfl, Nat.le_of_ble_eq_true rfl⟩) ⟨fun a U g mk q => by obtain ⟨q0, q1, qP, qK, qD⟩ := q; exact ⟨q0, q1, qP, va_K.moved (u := U) (U := U.calling g mk a) (Vm.Alike.refl U.vm) qK, qD⟩, va_recv hKc hPc (ci := 1) (q0 := 0) rfl rfl, fun U hU hW => ⟨rfl, by rw [hU], by rw [hU]; exact hPc, va_K.moved hW.alike hKc, hDc.weaken (fun _ _ _ _ => trivial)⟩⟩ rfl rfl hl.1 rfl (lv_room (Nat.le_of_ble_eq_true rfl)) d_M_element_46 ⟨Nat.le_of_ble_eq_true rfl, Nat.le_of_ble_eq_true rfl⟩) hS (fun q _ h => hFc q h) hFc (fun r_k_7 u_k_7 t_k_7 H_8 l_k_7 ht hvm hw_k_7 hB hz1 hk1 hS => ?_)
      have hw_k_7 : (0 + 1) = r_k_7 := Eq.symm hw_k_7
      subst hw_k_7
      obtain ⟨hP, hD⟩ := tx_rest (wc := [(g, .inr (1, [(zg 0), (zg 1), .ref hq, .int 0, (zg 4), (zg 5), (zg 6), (zg 7), (zg 8), (zg 9), (zg 10), (zg 11), (zg 12), (zg 13)])), (hq, .inl (cA, 12, .inl f))]) (wr := [(x, .inr (0, [.ref g, (zx 1), (zx 2), (zx 3)]))]) hP hD [1, 2] [0] rfl rfl (by decide) (by decide) hk1 hFc
      have hK := hK.sub (tys' := []) [] rfl
      refine W.widen (k := 1) (n := 6) (Nat.le_of_ble_eq_true rfl) (Nat.le_of_ble_eq_true rfl) ?_
      exact tx_ret (W.iret (v := (0 + 1)) hx hb hr (fun t ht hW => ⟨Or.inl ⟨_, rfl, ⟨tx_if1 c_3, rfl⟩⟩, hS.F ht⟩) hS.2.2 d_M_element_49)
    · exact absurd (by decide) c_6
  · obtain ⟨qs, hqs⟩ := tx_str65 hG.2.1
    exact tx_throwNew (names := tx_nm) hx hb hlf hout hlocks hown (hg _ tw_324) (hg _ tw_325) (hg _ tw_15) (tx_ownIAE hg hG) (by decide +kernel) (by decide +kernel) hqs (tx_loc (ws := [(x, .inr (0, [.ref g, (zx 1), (zx 2), (zx 3)])), (g, .inr (1, [(zg 0), (zg 1), .ref hq, .int 0, (zg 4), (zg 5), (zg 6), (zg 7), (zg 8), (zg 9), (zg 10), (zg 11), (zg 12), (zg 13)])), (hq, .inl (cA, 12, .inl f))]) hP0 (by rw [hAe]; exact hS)) (hl.1.trans hml.symm) hS (Nat.le_of_ble_eq_true rfl) (Nat.le_of_ble_eq_true rfl) (Nat.le_of_ble_eq_true rfl) (Nat.le_of_ble_eq_true rfl) d_M_element_9 d_M_element_12 d_M_element_13 d_M_element_15 d_M_element_18 ⟨tx_if0 c_3, rfl⟩
set_option maxHeartbeats 4000000 in
set_option maxRecDepth 100000 in
/-- rule on a new object: nothing is at hand -/
theorem c_M_rule (l : Launch) (hlf : l.flags = flags0) (dC : Nat → ClassId) (dI : Nat → Nat → Nat) (sz : Nat) (x g f : Nat) (zx : Nat → Value) (zg : Nat → Value) (zf : Nat → Value) (n k lo hi : Int32) : tx_Met l y_M_rule ws_M_rule ({ frames := 6, cells := 1, slots := 6, locals := 90 }) (va_Pc [.ref x, .int n, .int k, .int lo, .int hi] (fun U => U.heap.size = sz ∧ va_P (dC, dI) kcl [(x, .inr (0, [.ref g, .ref f, (zx 2), (zx 3)])), (g, .inr (1, [(zg 0), (zg 1), (zg 2), .int 0, (zg 4), (zg 5), (zg 6), (zg 7), (zg 8), (zg 9), (zg 10), .int 0, (zg 12), (zg 13)])), (f, .inr (2, [(zf 0), (zf 1), (zf 2), (zf 3), (zf 4), (zf 5), (zf 6), (zf 7), (zf 8), .int 0, (zf 10), (zf 11), (zf 12), (zf 13)]))] U.heap ∧ va_K (dC, dI) kcl [] U ∧ va_D (fun _ => True) [(x, .inr (0, [.ref g, .ref f, (zx 2), (zx 3)])), (g, .inr (1, [(zg 0), (zg 1), (zg 2), .int 0, (zg 4), (zg 5), (zg 6), (zg 7), (zg 8), (zg 9), (zg 10), .int 0, (zg 12), (zg 13)])), (f, .inr (2, [(zf 0), (zf 1), (zf 2), (zf 3), (zf 4), (zf 5), (zf 6), (zf 7), (zf 8), .int 0, (zf 10), (zf 11), (zf 12), (zf 13)]))] ∧ tx_G (va_A [(x, .inr (0, [.ref g, .ref f, (zx 2), (zx 3)])), (g, .inr (1, [(zg 0), (zg 1), (zg 2), .int 0, (zg 4), (zg 5), (zg 6), (zg 7), (zg 8), (zg 9), (zg 10), .int 0, (zg 12), (zg 13)])), (f, .inr (2, [(zf 0), (zf 1), (zf 2), (zf 3), (zf 4), (zf 5), (zf 6), (zf 7), (zf 8), .int 0, (zf 10), (zf 11), (zf 12), (zf 13)]))] sz) U)) (tx_Q (fun _ => False) (fun X => X = "java/lang/IllegalArgumentException") (va_A [(x, .inr (0, [.ref g, .ref f, (zx 2), (zx 3)])), (g, .inr (1, [(zg 0), (zg 1), (zg 2), .int 0, (zg 4), (zg 5), (zg 6), (zg 7), (zg 8), (zg 9), (zg 10), .int 0, (zg 12), (zg 13)])), (f, .inr (2, [(zf 0), (zf 1), (zf 2), (zf 3), (zf 4), (zf 5), (zf 6), (zf 7), (zf 8), .int 0, (zf 10), (zf 11), (zf 12), (zf 13)]))] sz)) 1 6 (va_A [(x, .inr (0, [.ref g, .ref f, (zx 2), (zx 3)])), (g, .inr (1, [(zg 0), (zg 1), (zg 2), .int 0, (zg 4), (zg 5), (zg 6), (zg 7), (zg 8), (zg 9), (zg 10), .int 0, (zg 12), (zg 13)])), (f, .inr (2, [(zf 0), (zf 1), (zf 2), (zf 3), (zf 4), (zf 5), (zf 6), (zf 7), (zf 8), .int 0, (zf 10), (zf 11), (zf 12), (zf 13)]))] sz) := by
  refine tx_ofW (cc := b_M_rule) (maxL := 6) (ret := (Option.some Jvm.ClassFile.FieldType.int)) (by decide) rfl ?_
  intro p e s m args below meth c s₁ B hml hout hadm hv
  obtain ⟨rfl, hsz, hP, hK, hD0, hG⟩ := hv
  have hP0 := hP
  have hx := B.exec
  have hb := B.bytes
  have hr := B.returns
  have hlocks := B.notSynchronized
  have hg : ∀ w ∈ gw, w.before _ s = true := fun w h => atoms_spec (ws := ws_M_rule) B.pre w (List.mem_cons_of_mem _ h)
  have hown : s.vm.findClass "TreeMatcher" = some m.cls := findClass_of_methodNamed B.named
  subst hsz
  have hD := hD0.self (sz := s.heap.size)
  have hA : ∀ q : Nat, s.heap.size ≤ q → va_A [(x, .inr (0, [.ref g, .ref f, (zx 2), (zx 3)])), (g, .inr (1, [(zg 0), (zg 1), (zg 2), .int 0, (zg 4), (zg 5), (zg 6), (zg 7), (zg 8), (zg 9), (zg 10), .int 0, (zg 12), (zg 13)])), (f, .inr (2, [(zf 0), (zf 1), (zf 2), (zf 3), (zf 4), (zf 5), (zf 6), (zf 7), (zf 8), .int 0, (zf 10), (zf 11), (zf 12), (zf 13)]))] s.heap.size q := fun q h => Or.inr h
  generalize hAe : va_A [(x, .inr (0, [.ref g, .ref f, (zx 2), (zx 3)])), (g, .inr (1, [(zg 0), (zg 1), (zg 2), .int 0, (zg 4), (zg 5), (zg 6), (zg 7), (zg 8), (zg 9), (zg 10), .int 0, (zg 12), (zg 13)])), (f, .inr (2, [(zf 0), (zf 1), (zf 2), (zf 3), (zf 4), (zf 5), (zf 6), (zf 7), (zf 8), .int 0, (zf 10), (zf 11), (zf 12), (zf 13)]))] s.heap.size = A at hD hG hA ⊢
  have hN : tx_N s := hG.1
  have hS : va_S A s.heap s.heap [] := va_S.rf
  have hl := lv_entry ([.ref x, .int n, .int k, .int lo, .int hi] : List Value) (n := 6) (Nat.le_of_ble_eq_true rfl)
  rw [lg_entry_eq]
  generalize (lg_sl ([.ref x, .int n, .int k, .int lo, .int hi] : List Value) ++ List.replicate (6 - (lg_sl ([.ref x, .int n, .int k, .int lo, .int hi] : List Value)).length) Slot.unset).toArray = ls at hl ⊢
  have hl : lv_has ls 6 [(0, .ref x), (1, .int n), (2, .int k), (3, .int lo), (4, .int hi)] := hl
  refine lv_aload_n hx hb d_M_rule_0 rfl (lv_at hl 0 rfl) ?_
  refine va_get (D := (dC, dI)) (ci := 0) (v := .ref g) (C := kR_M) (T := kT_M) (N := 4) hx hb hg kin_M hown hK hP 0 rfl rfl 0 (by decide) (hg _ tw_283) (fun _ h9 => h9) rfl d_M_rule_1 ?_
  have hPc := hP.sub (ws' := [(g, .inr (1, [(zg 0), (zg 1), (zg 2), .int 0, (zg 4), (zg 5), (zg 6), (zg 7), (zg 8), (zg 9), (zg 10), .int 0, (zg 12), (zg 13)]))]) [1] rfl
  have hKc := hK.sub (tys' := []) [] rfl
  refine va_calli (va_runV (As := []) (rest := []) ⟨hx, hb, hml, hown, hg⟩ (c_G_ruleCount l dC dI s.heap.size g (fun i => if i = 3 then .int 0 else zg i) 0) (cwV 0 hg (gw_giV cin_G_ruleCount tw_441 tw_442 tw_443 tw_2) rfl rfl rfl (by decide +kernel) ⟨Nat.le_of_ble_eq_true rfl, Nat.le_of_ble_eq_true rfl⟩) ⟨fun a U g mk q => by obtain ⟨q0, q1, qP, qK⟩ := q; exact ⟨q0, q1, qP, va_K.moved (u := U) (U := U.calling g mk a) (Vm.Alike.refl U.vm) qK⟩, va_recv hKc hPc (ci := 1) (q0 := 0) rfl rfl, fun U hU hW => ⟨rfl, by rw [hU], by rw [hU]; exact hPc, va_K.moved hW.alike hKc⟩⟩ rfl rfl hl.1 rfl (lv_room (Nat.le_of_ble_eq_true rfl)) d_M_rule_4 ⟨Nat.le_of_ble_eq_true rfl, Nat.le_of_ble_eq_true rfl⟩) hS (fun q h1 h => (tx_pA h1 h).elim) (tx_pF hS hA) (fun r_k_1 u_k_1 t_k_1 H_2 l_k_1 ht hvm hw_k_1 hB hz1 hk1 hS => ?_)
  have hw_k_1 : 0 = r_k_1 := Eq.symm hw_k_1
  subst hw_k_1
  have hP := tx_keep hP hk1
  refine lv_bipush (v := 64) hx hb d_M_rule_7 (by decide) ?_
  refine lv_icmp_ge (tgt := 22) hx hb d_M_rule_9 (by decide) (fun c_3 => ?_) (fun c_3 => ?_)
  · exact absurd c_3 (by decide)
  · refine lv_aload_n hx hb d_M_rule_12 rfl (lv_at hl 0 rfl) ?_
    refine va_get (D := (dC, dI)) (ci := 0) (v := .ref f) (C := kR_M) (T := kT_M) (N := 4) hx hb hg kin_M hown hK hP 0 rfl rfl 1 (by decide) (hg _ tw_284) (fun _ h9 => h9) rfl d_M_rule_13 ?_
    have hPc := hP.sub (ws' := [(f, .inr (2, [(zf 0), (zf 1), (zf 2), (zf 3), (zf 4), (zf 5), (zf 6), (zf 7), (zf 8), .int 0, (zf 10), (zf 11), (zf 12), (zf 13)]))]) [2] rfl
    have hKc := hK.sub (tys' := []) [] rfl
    refine va_calli (va_runV (As := []) (rest := []) ⟨hx, hb, hml, hown, hg⟩ (c_F_size l dC dI H_2.size f zf 0) (cwV 0 hg (gw_giV cin_F_size tw_445 tw_446 tw_447 tw_6) rfl rfl rfl (by decide +kernel) ⟨Nat.le_of_ble_eq_true rfl, Nat.le_of_ble_eq_true rfl⟩) ⟨fun a U g mk q => by obtain ⟨q0, q1, qP, qK⟩ := q; exact ⟨q0, q1, qP, va_K.moved (u := U) (U := U.calling g mk a) (Vm.Alike.refl U.vm) qK⟩, va_recv hKc hPc (ci := 2) (q0 := 0) rfl rfl, fun U hU hW => ⟨rfl, by rw [hU], by rw [hU]; exact hPc, va_K.moved hW.alike hKc⟩⟩ rfl rfl hl.1 rfl (lv_room (Nat.le_of_ble_eq_true rfl)) d_M_rule_16 ⟨Nat.le_of_ble_eq_true rfl, Nat.le_of_ble_eq_true rfl⟩) hS (fun q h1 h => (tx_pA h1 h).elim) (tx_pF hS hA) (fun r_k_4 u_k_4 t_k_4 H_5 l_k_4 ht hvm hw_k_4 hB hz1 hk1 hS => ?_)
    have hw_k_4 : 0 = r_k_4 := Eq.symm hw_k_4
    subst hw_k_4
    have hP := tx_keep hP hk1
    refine lv_if_le (tgt := 32) hx hb d_M_rule_19 (by decide) (fun c_6 => ?_) (fun c_6 => ?_)
    · refine lv_iload_n hx hb d_M_rule_32 rfl (lv_at hl 1 rfl) ?_
      refine lv_bipush (v := 16) hx hb d_M_rule_33 (by decide) ?_
      have hPc := hP.sub (ws' := []) [] rfl
      have hKc := hK.sub (tys' := []) [] rfl
      refine va_calli (va_runS (As := [.int n, .int 16]) (rest := []) ⟨hx, hb, hml, hown, hg⟩ (c_M_isWithin l dC dI H_5.size n 16) (va_cwS 2 hg (gw_giS cin_M_isWithin tw_321 tw_322 tw_1) rfl rfl rfl (by decide +kernel) ⟨Nat.le_of_ble_eq_true rfl, Nat.le_of_ble_eq_true rfl⟩) ⟨fun a U g mk q => by obtain ⟨q0, q1, qP, qK⟩ := q; exact ⟨q0, q1, qP, va_K.moved (u := U) (U := U.calling g mk a) (Vm.Alike.refl U.vm) qK⟩, fun U hU hW => ⟨rfl, by rw [hU], by rw [hU]; exact hPc, va_K.moved hW.alike hKc⟩⟩ rfl rfl hl.1 rfl (lv_room (Nat.le_of_ble_eq_true rfl)) d_M_rule_35 ⟨Nat.le_of_ble_eq_true rfl, Nat.le_of_ble_eq_true rfl⟩) hS (fun q h1 h => (tx_pA h1 h).elim) (tx_pF hS hA) (fun r_k_7 u_k_7 t_k_7 H_8 l_k_7 ht hvm hw_k_7 hB hz1 hk1 hS => ?_)
      have hw_k_7 : (if 0 ≤ n ∧ n < 16 then 1 else 0) = r_k_7 := Eq.symm hw_k_7
      subst hw_k_7
      have hP := tx_keep hP hk1
      refine lv_if_eq (tgt := 70) hx hb d_M_rule_38 (by decide) (fun c_9 => ?_) (fun c_9 => ?_)
      · refine lv_iconst (v := 0) hx hb d_M_rule_70 (by decide) ?_
        refine lv_istore (lv' := [(5, .int 0), (0, .ref x), (1, .int n), (2, .int k), (3, .int lo), (4, .int hi)]) hx hb d_M_rule_71 hl (by decide) rfl (fun ls hl => ?_)
        refine lv_iload hx hb d_M_rule_73 (lv_at hl 0 rfl) ?_
        refine lv_if_ne (tgt := 95) hx hb d_M_rule_75 (by decide) (fun c_10 => ?_) (fun c_10 => ?_)
        · exact absurd rfl c_10
        · refine lv_aload_n hx hb d_M_rule_78 rfl (lv_at hl 1 rfl) ?_
          refine va_get (D := (dC, dI)) (ci := 0) (v := .ref g) (C := kR_M) (T := kT_M) (N := 4) hx hb hg kin_M hown hK hP 0 rfl rfl 0 (by decide) (hg _ tw_283) (fun _ h9 => h9) rfl d_M_rule_79 ?_
          have hPc := hP.sub (ws' := [(g, .inr (1, [(zg 0), (zg 1), (zg 2), .int 0, (zg 4), (zg 5), (zg 6), (zg 7), (zg 8), (zg 9), (zg 10), .int 0, (zg 12), (zg 13)]))]) [1] rfl
          have hKc := hK.sub (tys' := []) [] rfl
          have hDc := hD.sub (ws' := [(g, .inr (1, [(zg 0), (zg 1), (zg 2), .int 0, (zg 4), (zg 5), (zg 6), (zg 7), (zg 8), (zg 9), (zg 10), .int 0, (zg 12), (zg 13)]))]) [1] (by decide) rfl
          have hFc := va_free (wc := [(g, .inr (1, [(zg 0), (zg 1), (zg 2), .int 0, (zg 4), (zg 5), (zg 6), (zg 7), (zg 8), (zg 9), (zg 10), .int 0, (zg 12), (zg 13)]))]) hD hS hA [1] rfl
          refine va_callv (va_runV (As := []) (rest := []) ⟨hx, hb, hml, hown, hg⟩ (c_G_dropHand l dC dI H_8.size g (fun i => if i = 11 then .int 0 else zg i) 0) (cwV 0 hg (gw_giV cin_G_dropHand tw_455 tw_456 tw_457 tw_2) rfl rfl rfl (by decide +kernel) ⟨Nat.le_of_ble_eq_true rfl, Nat.le_of_ble_eq_true rfl⟩) ⟨fun a U g mk q => by obtain ⟨q0, q1, qP, qK, qD⟩ := q; exact ⟨q0, q1, qP, va_K.moved (u := U) (U := U.calling g mk a) (Vm.Alike.refl U.vm) qK, qD⟩, va_recv hKc hPc (ci := 1) (q0 := 0) rfl rfl, fun U hU hW => ⟨rfl, by rw [hU], by rw [hU]; exact hPc, va_K.moved hW.alike hKc, hDc.weaken (fun _ _ _ _ => trivial)⟩⟩ rfl rfl hl.1 rfl (lv_room (Nat.le_of_ble_eq_true rfl)) d_M_rule_82 ⟨Nat.le_of_ble_eq_true rfl, Nat.le_of_ble_eq_true rfl⟩) hS (fun q _ h => hFc q h) hFc (fun u_k_11 t_k_11 H_12 l_k_11 ht hvm hw_k_11 hB hz1 hk1 hS => ?_)
          obtain ⟨hP, hD⟩ := tx_rest (wc := [(g, .inr (1, [(zg 0), (zg 1), (zg 2), .int 0, (zg 4), (zg 5), (zg 6), (zg 7), (zg 8), (zg 9), (zg 10), .int 0, (zg 12), (zg 13)]))]) (wr := [(x, .inr (0, [.ref g, .ref f, (zx 2), (zx 3)])), (f, .inr (2, [(zf 0), (zf 1), (zf 2), (zf 3), (zf 4), (zf 5), (zf 6), (zf 7), (zf 8), .int 0, (zf 10), (zf 11), (zf 12), (zf 13)]))]) hP hD [1] [0, 2] rfl rfl (by decide) (by decide) hk1 hFc
          have hK := hK.sub (tys' := []) [] rfl
          obtain ⟨qs, hqs⟩ := tx_str92 hG.2.1
          exact tx_throwNew (names := tx_nm) hx hb hlf hout hlocks hown (hg _ tw_324) (hg _ tw_325) (hg _ tw_15) (tx_ownIAE hg hG) (by decide +kernel) (by decide +kernel) hqs (tx_loc (ws := [(x, .inr (0, [.ref g, .ref f, (zx 2), (zx 3)])), (g, .inr (1, [(zg 0), (zg 1), (zg 2), .int 0, (zg 4), (zg 5), (zg 6), (zg 7), (zg 8), (zg 9), (zg 10), .int 0, (zg 12), (zg 13)])), (f, .inr (2, [(zf 0), (zf 1), (zf 2), (zf 3), (zf 4), (zf 5), (zf 6), (zf 7), (zf 8), .int 0, (zf 10), (zf 11), (zf 12), (zf 13)]))]) hP0 (by rw [hAe]; exact hS)) (hl.1.trans hml.symm) hS (Nat.le_of_ble_eq_true rfl) (Nat.le_of_ble_eq_true rfl) (Nat.le_of_ble_eq_true rfl) (Nat.le_of_ble_eq_true rfl) d_M_rule_85 d_M_rule_88 d_M_rule_89 d_M_rule_91 d_M_rule_94 rfl
      · refine lv_iload_n hx hb d_M_rule_41 rfl (lv_at hl 2 rfl) ?_
        refine lv_bipush (v := 100) hx hb d_M_rule_42 (by decide) ?_
        have hPc := hP.sub (ws' := []) [] rfl
        have hKc := hK.sub (tys' := []) [] rfl
        refine va_calli (va_runS (As := [.int k, .int 100]) (rest := []) ⟨hx, hb, hml, hown, hg⟩ (c_M_isWithin l dC dI H_8.size k 100) (va_cwS 2 hg (gw_giS cin_M_isWithin tw_321 tw_322 tw_1) rfl rfl rfl (by decide +kernel) ⟨Nat.le_of_ble_eq_true rfl, Nat.le_of_ble_eq_true rfl⟩) ⟨fun a U g mk q => by obtain ⟨q0, q1, qP, qK⟩ := q; exact ⟨q0, q1, qP, va_K.moved (u := U) (U := U.calling g mk a) (Vm.Alike.refl U.vm) qK⟩, fun U hU hW => ⟨rfl, by rw [hU], by rw [hU]; exact hPc, va_K.moved hW.alike hKc⟩⟩ rfl rfl hl.1 rfl (lv_room (Nat.le_of_ble_eq_true rfl)) d_M_rule_44 ⟨Nat.le_of_ble_eq_true rfl, Nat.le_of_ble_eq_true rfl⟩) hS (fun q h1 h => (tx_pA h1 h).elim) (tx_pF hS hA) (fun r_k_13 u_k_13 t_k_13 H_14 l_k_13 ht hvm hw_k_13 hB hz1 hk1 hS => ?_)
        have hw_k_13 : (if 0 ≤ k ∧ k < 100 then 1 else 0) = r_k_13 := Eq.symm hw_k_13
        subst hw_k_13
        have hP := tx_keep hP hk1
        refine lv_if_eq (tgt := 70) hx hb d_M_rule_47 (by decide) (fun c_15 => ?_) (fun c_15 => ?_)
        · refine lv_iconst (v := 0) hx hb d_M_rule_70 (by decide) ?_
          refine lv_istore (lv' := [(5, .int 0), (0, .ref x), (1, .int n), (2, .int k), (3, .int lo), (4, .int hi)]) hx hb d_M_rule_71 hl (by decide) rfl (fun ls hl => ?_)
          refine lv_iload hx hb d_M_rule_73 (lv_at hl 0 rfl) ?_
          refine lv_if_ne (tgt := 95) hx hb d_M_rule_75 (by decide) (fun c_16 => ?_) (fun c_16 => ?_)
          · exact absurd rfl c_16
          · refine lv_aload_n hx hb d_M_rule_78 rfl (lv_at hl 1 rfl) ?_
            refine va_get (D := (dC, dI)) (ci := 0) (v := .ref g) (C := kR_M) (T := kT_M) (N := 4) hx hb hg kin_M hown hK hP 0 rfl rfl 0 (by decide) (hg _ tw_283) (fun _ h9 => h9) rfl d_M_rule_79 ?_
            have hPc := hP.sub (ws' := [(g, .inr (1, [(zg 0), (zg 1), (zg 2), .int 0, (zg 4), (zg 5), (zg 6), (zg 7), (zg 8), (zg 9), (zg 10), .int 0, (zg 12), (zg 13)]))]) [1] rfl
            have hKc := hK.sub (tys' := []) [] rfl
            have hDc := hD.sub (ws' := [(g, .inr (1, [(zg 0), (zg 1), (zg 2), .int 0, (zg 4), (zg 5), (zg 6), (zg 7), (zg 8), (zg 9), (zg 10), .int 0, (zg 12), (zg 13)]))]) [1] (by decide) rfl
            have hFc := va_free (wc := [(g, .inr (1, [(zg 0), (zg 1), (zg 2), .int 0, (zg 4), (zg 5), (zg 6), (zg 7), (zg 8), (zg 9), (zg 10), .int 0, (zg 12), (zg 13)]))]) hD hS hA [1] rfl
            refine va_callv (va_runV (As := []) (rest := []) ⟨hx, hb, hml, hown, hg⟩ (c_G_dropHand l dC dI H_14.size g (fun i => if i = 11 then .int 0 else zg i) 0) (cwV 0 hg (gw_giV cin_G_dropHand tw_455 tw_456 tw_457 tw_2) rfl rfl rfl (by decide +kernel) ⟨Nat.le_of_ble_eq_true rfl, Nat.le_of_ble_eq_true rfl⟩) ⟨fun a U g mk q => by obtain ⟨q0, q1, qP, qK, qD⟩ := q; exact ⟨q0, q1, qP, va_K.moved (u := U) (U := U.calling g mk a) (Vm.Alike.refl U.vm) qK, qD⟩, va_recv hKc hPc (ci := 1) (q0 := 0) rfl rfl, fun U hU hW => ⟨rfl, by rw [hU], by rw [hU]; exact hPc, va_K.moved hW.alike hKc, hDc.weaken (fun _ _ _ _ => trivial)⟩⟩ rfl rfl hl.1 rfl (lv_room (Nat.le_of_ble_eq_true rfl)) d_M_rule_82 ⟨Nat.le_of_ble_eq_true rfl, Nat.le_of_ble_eq_true rfl⟩) hS (fun q _ h => hFc q h) hFc (fun u_k_17 t_k_17 H_18 l_k_17 ht hvm hw_k_17 hB hz1 hk1 hS => ?_)
            obtain ⟨hP, hD⟩ := tx_rest (wc := [(g, .inr (1, [(zg 0), (zg 1), (zg 2), .int 0, (zg 4), (zg 5), (zg 6), (zg 7), (zg 8), (zg 9), (zg 10), .int 0, (zg 12), (zg 13)]))]) (wr := [(x, .inr (0, [.ref g, .ref f, (zx 2), (zx 3)])), (f, .inr (2, [(zf 0), (zf 1), (zf 2), (zf 3), (zf 4), (zf 5), (zf 6), (zf 7), (zf 8), .int 0, (zf 10), (zf 11), (zf 12), (zf 13)]))]) hP hD [1] [0, 2] rfl rfl (by decide) (by decide) hk1 hFc
            have hK := hK.sub (tys' := []) [] rfl
            obtain ⟨qs, hqs⟩ := tx_str92 hG.2.1
            exact tx_throwNew (names := tx_nm) hx hb hlf hout hlocks hown (hg _ tw_324) (hg _ tw_325) (hg _ tw_15) (tx_ownIAE hg hG) (by decide +kernel) (by decide +kernel) hqs (tx_loc (ws := [(x, .inr (0, [.ref g, .ref f, (zx 2), (zx 3)])), (g, .inr (1, [(zg 0), (zg 1), (zg 2), .int 0, (zg 4), (zg 5), (zg 6), (zg 7), (zg 8), (zg 9), (zg 10), .int 0, (zg 12), (zg 13)])), (f, .inr (2, [(zf 0), (zf 1), (zf 2), (zf 3), (zf 4), (zf 5), (zf 6), (zf 7), (zf 8), .int 0, (zf 10), (zf 11), (zf 12), (zf 13)]))]) hP0 (by rw [hAe]; exact hS)) (hl.1.trans hml.symm) hS (Nat.le_of_ble_eq_true rfl) (Nat.le_of_ble_eq_true rfl) (Nat.le_of_ble_eq_true rfl) (Nat.le_of_ble_eq_true rfl) d_M_rule_85 d_M_rule_88 d_M_rule_89 d_M_rule_91 d_M_rule_94 rfl
        · refine lv_iload_n hx hb d_M_rule_50 rfl (lv_at hl 3 rfl) ?_
          refine lv_iload hx hb d_M_rule_51 (lv_at hl 4 rfl) ?_
          refine lv_icmp_gt (tgt := 70) hx hb d_M_rule_53 (by decide) (fun c_19 => ?_) (fun c_19 => ?_)
          · refine lv_iconst (v := 0) hx hb d_M_rule_70 (by decide) ?_
            refine lv_istore (lv' := [(5, .int 0), (0, .ref x), (1, .int n), (2, .int k), (3, .int lo), (4, .int hi)]) hx hb d_M_rule_71 hl (by decide) rfl (fun ls hl => ?_)
            refine lv_iload hx hb d_M_rule_73 (lv_at hl 0 rfl) ?_
            refine lv_if_ne (tgt := 95) hx hb d_M_rule_75 (by decide) (fun c_20 => ?_) (fun c_20 => ?_)
            · exact absurd rfl c_20
            · refine lv_aload_n hx hb d_M_rule_78 rfl (lv_at hl 1 rfl) ?_
              refine va_get (D := (dC, dI)) (ci := 0) (v := .ref g) (C := kR_M) (T := kT_M) (N := 4) hx hb hg kin_M hown hK hP 0 rfl rfl 0 (by decide) (hg _ tw_283) (fun _ h9 => h9) rfl d_M_rule_79 ?_
              have hPc := hP.sub (ws' := [(g, .inr (1, [(zg 0), (zg 1), (zg 2), .int 0, (zg 4), (zg 5), (zg 6), (zg 7), (zg 8), (zg 9), (zg 10), .int 0, (zg 12), (zg 13)]))]) [1] rfl
              have hKc := hK.sub (tys' := []) [] rfl
              have hDc := hD.sub (ws' := [(g, .inr (1, [(zg 0), (zg 1), (zg 2), .int 0, (zg 4), (zg 5), (zg 6), (zg 7), (zg 8), (zg 9), (zg 10), .int 0, (zg 12), (zg 13)]))]) [1] (by decide) rfl
              have hFc := va_free (wc := [(g, .inr (1, [(zg 0), (zg 1), (zg 2), .int 0, (zg 4), (zg 5), (zg 6), (zg 7), (zg 8), (zg 9), (zg 10), .int 0, (zg 12), (zg 13)]))]) hD hS hA [1] rfl
              refine va_callv (va_runV (As := []) (rest := []) ⟨hx, hb, hml, hown, hg⟩ (c_G_dropHand l dC dI H_14.size g (fun i => if i = 11 then .int 0 else zg i) 0) (cwV 0 hg (gw_giV cin_G_dropHand tw_455 tw_456 tw_457 tw_2) rfl rfl rfl (by decide +kernel) ⟨Nat.le_of_ble_eq_true rfl, Nat.le_of_ble_eq_true rfl⟩) ⟨fun a U g mk q => by obtain ⟨q0, q1, qP, qK, qD⟩ := q; exact ⟨q0, q1, qP, va_K.moved (u := U) (U := U.calling g mk a) (Vm.Alike.refl U.vm) qK, qD⟩, va_recv hKc hPc (ci := 1) (q0 := 0) rfl rfl, fun U hU hW => ⟨rfl, by rw [hU], by rw [hU]; exact hPc, va_K.moved hW.alike hKc, hDc.weaken (fun _ _ _ _ => trivial)⟩⟩ rfl rfl hl.1 rfl (lv_room (Nat.le_of_ble_eq_true rfl)) d_M_rule_82 ⟨Nat.le_of_ble_eq_true rfl, Nat.le_of_ble_eq_true rfl⟩) hS (fun q _ h => hFc q h) hFc (fun u_k_21 t_k_21 H_22 l_k_21 ht hvm hw_k_21 hB hz1 hk1 hS => ?_)
              obtain ⟨hP, hD⟩ := tx_rest (wc := [(g, .inr (1, [(zg 0), (zg 1), (zg 2), .int 0, (zg 4), (zg 5), (zg 6), (zg 7), (zg 8), (zg 9), (zg 10), .int 0, (zg 12), (zg 13)]))]) (wr := [(x, .inr (0, [.ref g, .ref f, (zx 2), (zx 3)])), (f, .inr (2, [(zf 0), (zf 1), (zf 2), (zf 3), (zf 4), (zf 5), (zf 6), (zf 7), (zf 8), .int 0, (zf 10), (zf 11), (zf 12), (zf 13)]))]) hP hD [1] [0, 2] rfl rfl (by decide) (by decide) hk1 hFc
              have hK := hK.sub (tys' := []) [] rfl
              obtain ⟨qs, hqs⟩ := tx_str92 hG.2.1
              exact tx_throwNew (names := tx_nm) hx hb hlf hout hlocks hown (hg _ tw_324) (hg _ tw_325) (hg _ tw_15) (tx_ownIAE hg hG) (by decide +kernel) (by decide +kernel) hqs (tx_loc (ws := [(x, .inr (0, [.ref g, .ref f, (zx 2), (zx 3)])), (g, .inr (1, [(zg 0), (zg 1), (zg 2), .int 0, (zg 4), (zg 5), (zg 6), (zg 7), (zg 8), (zg 9), (zg 10), .int 0, (zg 12), (zg 13)])), (f, .inr (2, [(zf 0), (zf 1), (zf 2), (zf 3), (zf 4), (zf 5), (zf 6), (zf 7), (zf 8), .int 0, (zf 10), (zf 11), (zf 12), (zf 13)]))]) hP0 (by rw [hAe]; exact hS)) (hl.1.trans hml.symm) hS (Nat.le_of_ble_eq_true rfl) (Nat.le_of_ble_eq_true rfl) (Nat.le_of_ble_eq_true rfl) (Nat.le_of_ble_eq_true rfl) d_M_rule_85 d_M_rule_88 d_M_rule_89 d_M_rule_91 d_M_rule_94 rfl
          · refine lv_aload_n hx hb d_M_rule_56 rfl (lv_at hl 0 rfl) ?_
            refine va_get (D := (dC, dI)) (ci := 0) (v := .ref g) (C := kR_M) (T := kT_M) (N := 4) hx hb hg kin_M hown hK hP 0 rfl rfl 0 (by decide) (hg _ tw_283) (fun _ h9 => h9) rfl d_M_rule_57 ?_
            have hPc := hP.sub (ws' := [(g, .inr (1, [(zg 0), (zg 1), (zg 2), .int 0, (zg 4), (zg 5), (zg 6), (zg 7), (zg 8), (zg 9), (zg 10), .int 0, (zg 12), (zg 13)]))]) [1] rfl
            have hKc := hK.sub (tys' := []) [] rfl
            refine va_calli (va_runV (As := []) (rest := []) ⟨hx, hb, hml, hown, hg⟩ (c_G_handIsPattern l dC dI H_14.size g (fun i => if i = 11 then .int 0 else zg i)) (cwV 0 hg (gw_giV cin_G_handIsPattern tw_450 tw_451 tw_452 tw_2) rfl rfl rfl (by decide +kernel) ⟨Nat.le_of_ble_eq_true rfl, Nat.le_of_ble_eq_true rfl⟩) ⟨fun a U g mk q => by obtain ⟨q0, q1, qP, qK⟩ := q; exact ⟨q0, q1, qP, va_K.moved (u := U) (U := U.calling g mk a) (Vm.Alike.refl U.vm) qK⟩, va_recv hKc hPc (ci := 1) (q0 := 0) rfl rfl, fun U hU hW => ⟨rfl, by rw [hU], by rw [hU]; exact hPc, va_K.moved hW.alike hKc⟩⟩ rfl rfl hl.1 rfl (lv_room (Nat.le_of_ble_eq_true rfl)) d_M_rule_60 ⟨Nat.le_of_ble_eq_true rfl, Nat.le_of_ble_eq_true rfl⟩) hS (fun q h1 h => (tx_pA h1 h).elim) (tx_pF hS hA) (fun r_k_23 u_k_23 t_k_23 H_24 l_k_23 ht hvm hw_k_23 hB hz1 hk1 hS => ?_)
            have hw_k_23 : 0 = r_k_23 := Eq.symm hw_k_23
            subst hw_k_23
            have hP := tx_keep hP hk1
            refine lv_if_eq (tgt := 70) hx hb d_M_rule_63 (by decide) (fun c_25 => ?_) (fun c_25 => ?_)
            · refine lv_iconst (v := 0) hx hb d_M_rule_70 (by decide) ?_
              refine lv_istore (lv' := [(5, .int 0), (0, .ref x), (1, .int n), (2, .int k), (3, .int lo), (4, .int hi)]) hx hb d_M_rule_71 hl (by decide) rfl (fun ls hl => ?_)
              refine lv_iload hx hb d_M_rule_73 (lv_at hl 0 rfl) ?_
              refine lv_if_ne (tgt := 95) hx hb d_M_rule_75 (by decide) (fun c_26 => ?_) (fun c_26 => ?_)
              · exact absurd rfl c_26
              · refine lv_aload_n hx hb d_M_rule_78 rfl (lv_at hl 1 rfl) ?_
                refine va_get (D := (dC, dI)) (ci := 0) (v := .ref g) (C := kR_M) (T := kT_M) (N := 4) hx hb hg kin_M hown hK hP 0 rfl rfl 0 (by decide) (hg _ tw_283) (fun _ h9 => h9) rfl d_M_rule_79 ?_
                have hPc := hP.sub (ws' := [(g, .inr (1, [(zg 0), (zg 1), (zg 2), .int 0, (zg 4), (zg 5), (zg 6), (zg 7), (zg 8), (zg 9), (zg 10), .int 0, (zg 12), (zg 13)]))]) [1] rfl
                have hKc := hK.sub (tys' := []) [] rfl
                have hDc := hD.sub (ws' := [(g, .inr (1, [(zg 0), (zg 1), (zg 2), .int 0, (zg 4), (zg 5), (zg 6), (zg 7), (zg 8), (zg 9), (zg 10), .int 0, (zg 12), (zg 13)]))]) [1] (by decide) rfl
                have hFc := va_free (wc := [(g, .inr (1, [(zg 0), (zg 1), (zg 2), .int 0, (zg 4), (zg 5), (zg 6), (zg 7), (zg 8), (zg 9), (zg 10), .int 0, (zg 12), (zg 13)]))]) hD hS hA [1] rfl
                refine va_callv (va_runV (As := []) (rest := []) ⟨hx, hb, hml, hown, hg⟩ (c_G_dropHand l dC dI H_24.size g (fun i => if i = 11 then .int 0 else zg i) 0) (cwV 0 hg (gw_giV cin_G_dropHand tw_455 tw_456 tw_457 tw_2) rfl rfl rfl (by decide +kernel) ⟨Nat.le_of_ble_eq_true rfl, Nat.le_of_ble_eq_true rfl⟩) ⟨fun a U g mk q => by obtain ⟨q0, q1, qP, qK, qD⟩ := q; exact ⟨q0, q1, qP, va_K.moved (u := U) (U := U.calling g mk a) (Vm.Alike.refl U.vm) qK, qD⟩, va_recv hKc hPc (ci := 1) (q0 := 0) rfl rfl, fun U hU hW => ⟨rfl, by rw [hU], by rw [hU]; exact hPc, va_K.moved hW.alike hKc, hDc.weaken (fun _ _ _ _ => trivial)⟩⟩ rfl rfl hl.1 rfl (lv_room (Nat.le_of_ble_eq_true rfl)) d_M_rule_82 ⟨Nat.le_of_ble_eq_true rfl, Nat.le_of_ble_eq_true rfl⟩) hS (fun q _ h => hFc q h) hFc (fun u_k_27 t_k_27 H_28 l_k_27 ht hvm hw_k_27 hB hz1 hk1 hS => ?_)
                obtain ⟨hP, hD⟩ := tx_rest (wc := [(g, .inr (1, [(zg 0), (zg 1), (zg 2), .int 0, (zg 4), (zg 5), (zg 6), (zg 7), (zg 8), (zg 9), (zg 10), .int 0, (zg 12), (zg 13)]))]) (wr := [(x, .inr (0, [.ref g, .ref f, (zx 2), (zx 3)])), (f, .inr (2, [(zf 0), (zf 1), (zf 2), (zf 3), (zf 4), (zf 5), (zf 6), (zf 7), (zf 8), .int 0, (zf 10), (zf 11), (zf 12), (zf 13)]))]) hP hD [1] [0, 2] rfl rfl (by decide) (by decide) hk1 hFc
                have hK := hK.sub (tys' := []) [] rfl
                obtain ⟨qs, hqs⟩ := tx_str92 hG.2.1
                exact tx_throwNew (names := tx_nm) hx hb hlf hout hlocks hown (hg _ tw_324) (hg _ tw_325) (hg _ tw_15) (tx_ownIAE hg hG) (by decide +kernel) (by decide +kernel) hqs (tx_loc (ws := [(x, .inr (0, [.ref g, .ref f, (zx 2), (zx 3)])), (g, .inr (1, [(zg 0), (zg 1), (zg 2), .int 0, (zg 4), (zg 5), (zg 6), (zg 7), (zg 8), (zg 9), (zg 10), .int 0, (zg 12), (zg 13)])), (f, .inr (2, [(zf 0), (zf 1), (zf 2), (zf 3), (zf 4), (zf 5), (zf 6), (zf 7), (zf 8), .int 0, (zf 10), (zf 11), (zf 12), (zf 13)]))]) hP0 (by rw [hAe]; exact hS)) (hl.1.trans hml.symm) hS (Nat.le_of_ble_eq_true rfl) (Nat.le_of_ble_eq_true rfl) (Nat.le_of_ble_eq_true rfl) (Nat.le_of_ble_eq_true rfl) d_M_rule_85 d_M_rule_88 d_M_rule_89 d_M_rule_91 d_M_rule_94 rfl
            · exact absurd rfl c_25
    · exact absurd (by decide) c_6
set_option maxHeartbeats 4000000 in
set_option maxRecDepth 100000 in
theorem c_M_node (l : Launch) (hlf : l.flags = flags0) (dC : Nat → ClassId) (dI : Nat → Nat → Nat) (sz : Nat) (x g kq : Nat) (cA : ClassId) (zx : Nat → Value) (zg : Nat → Value) (f : Nat → Int32) (hf : ∀ j, j < 32 → f j = -1) (n k lo hi : Int32) : tx_Met l y_M_node ws_M_node ({ frames := 6, cells := 1, slots := 6, locals := 90 }) (va_Pc [.ref x, .int n, .int k, .int lo, .int hi] (fun U => U.heap.size = sz ∧ va_P (dC, dI) kcl [(x, .inr (0, [.ref g, (zx 1), (zx 2), (zx 3)])), (g, .inr (1, [.ref kq, (zg 1), (zg 2), (zg 3), (zg 4), (zg 5), (zg 6), (zg 7), (zg 8), (zg 9), (zg 10), (zg 11), (zg 12), (zg 13)])), (kq, .inl (cA, 32, .inl f))] U.heap ∧ va_K (dC, dI) kcl [(cA, .int)] U ∧ tx_G (va_A [] sz) U)) (tx_Q (fun _ => False) (fun X => X = "java/lang/IllegalArgumentException") (va_A [] sz)) 1 6 (va_A [] sz) := by
  refine tx_ofW (cc := b_M_node) (maxL := 5) (ret := (Option.some Jvm.ClassFile.FieldType.int)) (by decide) rfl ?_
  intro p e s m args below meth c s₁ B hml hout hadm hv
  obtain ⟨rfl, hsz, hP, hK, hG⟩ := hv
  have hP0 := hP
  have hx := B.exec
  have hb := B.bytes
  have hr := B.returns
  have hlocks := B.notSynchronized
  have hg : ∀ w ∈ gw, w.before _ s = true := fun w h => atoms_spec (ws := ws_M_node) B.pre w (List.mem_cons_of_mem _ h)
  have hown : s.vm.findClass "TreeMatcher" = some m.cls := findClass_of_methodNamed B.named
  subst hsz
  have hA : ∀ q : Nat, s.heap.size ≤ q → va_A ([] : va_W) s.heap.size q := fun q h => Or.inr h
  generalize hAe : va_A ([] : va_W) s.heap.size = A at hG hA ⊢
  have hN : tx_N s := hG.1
  have hS : va_S A s.heap s.heap [] := va_S.rf
  have hl := lv_entry ([.ref x, .int n, .int k, .int lo, .int hi] : List Value) (n := 5) (Nat.le_of_ble_eq_true rfl)
  rw [lg_entry_eq]
  generalize (lg_sl ([.ref x, .int n, .int k, .int lo, .int hi] : List Value) ++ List.replicate (5 - (lg_sl ([.ref x, .int n, .int k, .int lo, .int hi] : List Value)).length) Slot.unset).toArray = ls at hl ⊢
  have hl : lv_has ls 5 [(0, .ref x), (1, .int n), (2, .int k), (3, .int lo), (4, .int hi)] := hl
  refine lv_aload_n hx hb d_M_node_0 rfl (lv_at hl 0 rfl) ?_
  refine va_get (D := (dC, dI)) (ci := 0) (v := .ref g) (C := kR_M) (T := kT_M) (N := 4) hx hb hg kin_M hown hK hP 0 rfl rfl 0 (by decide) (hg _ tw_283) (fun _ h9 => h9) rfl d_M_node_1 ?_
  refine lv_iload_n hx hb d_M_node_4 rfl (lv_at hl 1 rfl) ?_
  have hPc := hP.sub (ws' := [(g, .inr (1, [.ref kq, (zg 1), (zg 2), (zg 3), (zg 4), (zg 5), (zg 6), (zg 7), (zg 8), (zg 9), (zg 10), (zg 11), (zg 12), (zg 13)])), (kq, .inl (cA, 32, .inl f))]) [1, 2] rfl
  have hKc := hK.sub (tys' := [(cA, .int)]) [0] rfl
  refine va_calli (va_runV (As := [.int n]) (rest := []) ⟨hx, hb, hml, hown, hg⟩ (c_G_hasOperator l dC dI s.heap.size g kq cA zg f hf n) (cwV 1 hg (gw_giV cin_G_hasOperator tw_392 tw_393 tw_394 tw_2) rfl rfl rfl (by decide +kernel) ⟨Nat.le_of_ble_eq_true rfl, Nat.le_of_ble_eq_true rfl⟩) ⟨fun a U g mk q => by obtain ⟨q0, q1, qP, qK, qG⟩ := q; exact ⟨q0, q1, qP, va_K.moved (u := U) (U := U.calling g mk a) (Vm.Alike.refl U.vm) qK, tx_N.same (U := U.calling g mk a) rfl qG⟩, va_recv hKc hPc (ci := 1) (q0 := 0) rfl rfl, fun U hU hW => ⟨rfl, by rw [hU], by rw [hU]; exact hPc, va_K.moved hW.alike hKc, hN.warm hW⟩⟩ rfl rfl hl.1 rfl (lv_room (Nat.le_of_ble_eq_true rfl)) d_M_node_5 ⟨Nat.le_of_ble_eq_true rfl, Nat.le_of_ble_eq_true rfl⟩) hS (fun q h1 h => (tx_pA h1 h).elim) (tx_pF hS hA) (fun r_k_1 u_k_1 t_k_1 H_2 l_k_1 ht hvm hw_k_1 hB hz1 hk1 hS => ?_)
  have hw_k_1 : 0 = r_k_1 := Eq.symm hw_k_1
  subst hw_k_1
  have hP := tx_keep hP hk1
  refine lv_if_eq (tgt := 25) hx hb d_M_node_8 (by decide) (fun c_3 => ?_) (fun c_3 => ?_)
  · obtain ⟨qs, hqs⟩ := tx_str102 hG.2.1
    exact tx_throwNew (names := tx_nm) hx hb hlf hout hlocks hown (hg _ tw_324) (hg _ tw_325) (hg _ tw_15) (tx_ownIAE hg hG) (by decide +kernel) (by decide +kernel) hqs (tx_loc (D := (dC, dI)) (cl := kcl) (ws := []) (fun k q h => by simp at h) (by rw [hAe]; exact hS)) (hl.1.trans hml.symm) hS (Nat.le_of_ble_eq_true rfl) (Nat.le_of_ble_eq_true rfl) (Nat.le_of_ble_eq_true rfl) (Nat.le_of_ble_eq_true rfl) d_M_node_25 d_M_node_28 d_M_node_29 d_M_node_31 d_M_node_34 rfl
  · exact absurd rfl c_3
set_option maxHeartbeats 4000000 in
set_option maxRecDepth 100000 in
theorem c_M_checkLabel (l : Launch) (hlf : l.flags = flags0) (dC : Nat → ClassId) (dI : Nat → Nat → Nat) (sz : Nat) (x f : Nat) (zx : Nat → Value) (zf : Nat → Value) (n k : Int32) : tx_Met l y_M_checkLabel ws_M_checkLabel ({ frames := 6, cells := 1, slots := 6, locals := 90 }) (va_Pc [.ref x, .int n, .int k] (fun U => U.heap.size = sz ∧ va_P (dC, dI) kcl [(x, .inr (0, [(zx 0), .ref f, (zx 2), (zx 3)])), (f, .inr (2, [(zf 0), (zf 1), (zf 2), (zf 3), (zf 4), (zf 5), (zf 6), (zf 7), (zf 8), .int 0, (zf 10), (zf 11), (zf 12), (zf 13)]))] U.heap ∧ va_K (dC, dI) kcl [] U ∧ tx_G (va_A [] sz) U)) (tx_Q (fun _ => False) (fun X => X = "java/lang/IndexOutOfBoundsException") (va_A [] sz)) 1 6 (va_A [] sz) := by
  refine tx_ofW (cc := b_M_checkLabel) (maxL := 3) (ret := (Option.none : Option Jvm.ClassFile.FieldType)) (by decide) rfl ?_
  intro p e s m args below meth c s₁ B hml hout hadm hv
  obtain ⟨rfl, hsz, hP, hK, hG⟩ := hv
  have hP0 := hP
  have hx := B.exec
  have hb := B.bytes
  have hr := B.returns
  have hlocks := B.notSynchronized
  have hg : ∀ w ∈ gw, w.before _ s = true := fun w h => atoms_spec (ws := ws_M_checkLabel) B.pre w (List.mem_cons_of_mem _ h)
  have hown : s.vm.findClass "TreeMatcher" = some m.cls := findClass_of_methodNamed B.named
  subst hsz
  have hA : ∀ q : Nat, s.heap.size ≤ q → va_A ([] : va_W) s.heap.size q := fun q h => Or.inr h
  generalize hAe : va_A ([] : va_W) s.heap.size = A at hG hA ⊢
  have hN : tx_N s := hG.1
  have hS : va_S A s.heap s.heap [] := va_S.rf
  have hl := lv_entry ([.ref x, .int n, .int k] : List Value) (n := 3) (Nat.le_of_ble_eq_true rfl)
  rw [lg_entry_eq]
  generalize (lg_sl ([.ref x, .int n, .int k] : List Value) ++ List.replicate (3 - (lg_sl ([.ref x, .int n, .int k] : List Value)).length) Slot.unset).toArray = ls at hl ⊢
  have hl : lv_has ls 3 [(0, .ref x), (1, .int n), (2, .int k)] := hl
  refine lv_iload_n hx hb d_M_checkLabel_0 rfl (lv_at hl 1 rfl) ?_
  refine lv_aload_n hx hb d_M_checkLabel_1 rfl (lv_at hl 0 rfl) ?_
  refine va_get (D := (dC, dI)) (ci := 0) (v := .ref f) (C := kR_M) (T := kT_M) (N := 4) hx hb hg kin_M hown hK hP 0 rfl rfl 1 (by decide) (hg _ tw_284) (fun _ h9 => h9) rfl d_M_checkLabel_2 ?_
  have hPc := hP.sub (ws' := [(f, .inr (2, [(zf 0), (zf 1), (zf 2), (zf 3), (zf 4), (zf 5), (zf 6), (zf 7), (zf 8), .int 0, (zf 10), (zf 11), (zf 12), (zf 13)]))]) [1] rfl
  have hKc := hK.sub (tys' := []) [] rfl
  refine va_calli (va_runV (As := []) (rest := [.int n]) ⟨hx, hb, hml, hown, hg⟩ (c_F_size l dC dI s.heap.size f zf 0) (cwV 0 hg (gw_giV cin_F_size tw_445 tw_446 tw_447 tw_6) rfl rfl rfl (by decide +kernel) ⟨Nat.le_of_ble_eq_true rfl, Nat.le_of_ble_eq_true rfl⟩) ⟨fun a U g mk q => by obtain ⟨q0, q1, qP, qK⟩ := q; exact ⟨q0, q1, qP, va_K.moved (u := U) (U := U.calling g mk a) (Vm.Alike.refl U.vm) qK⟩, va_recv hKc hPc (ci := 2) (q0 := 0) rfl rfl, fun U hU hW => ⟨rfl, by rw [hU], by rw [hU]; exact hPc, va_K.moved hW.alike hKc⟩⟩ rfl rfl hl.1 rfl (lv_room (Nat.le_of_ble_eq_true rfl)) d_M_checkLabel_5 ⟨Nat.le_of_ble_eq_true rfl, Nat.le_of_ble_eq_true rfl⟩) hS (fun q h1 h => (tx_pA h1 h).elim) (tx_pF hS hA) (fun r_k_1 u_k_1 t_k_1 H_2 l_k_1 ht hvm hw_k_1 hB hz1 hk1 hS => ?_)
  have hw_k_1 : 0 = r_k_1 := Eq.symm hw_k_1
  subst hw_k_1
  have hP := tx_keep hP hk1
  have hPc := hP.sub (ws' := []) [] rfl
  have hKc := hK.sub (tys' := []) [] rfl
  refine va_calli (va_runS (As := [.int n, .int 0]) (rest := []) ⟨hx, hb, hml, hown, hg⟩ (c_M_isWithin l dC dI H_2.size n 0) (va_cwS 2 hg (gw_giS cin_M_isWithin tw_321 tw_322 tw_1) rfl rfl rfl (by decide +kernel) ⟨Nat.le_of_ble_eq_true rfl, Nat.le_of_ble_eq_true rfl⟩) ⟨fun a U g mk q => by obtain ⟨q0, q1, qP, qK⟩ := q; exact ⟨q0, q1, qP, va_K.moved (u := U) (U := U.calling g mk a) (Vm.Alike.refl U.vm) qK⟩, fun U hU hW => ⟨rfl, by rw [hU], by rw [hU]; exact hPc, va_K.moved hW.alike hKc⟩⟩ rfl rfl hl.1 rfl (lv_room (Nat.le_of_ble_eq_true rfl)) d_M_checkLabel_8 ⟨Nat.le_of_ble_eq_true rfl, Nat.le_of_ble_eq_true rfl⟩) hS (fun q h1 h => (tx_pA h1 h).elim) (tx_pF hS hA) (fun r_k_3 u_k_3 t_k_3 H_4 l_k_3 ht hvm hw_k_3 hB hz1 hk1 hS => ?_)
  have hw_k_3 : (if 0 ≤ n ∧ n < 0 then 1 else 0) = r_k_3 := Eq.symm hw_k_3
  subst hw_k_3
  have hP := tx_keep hP hk1
  refine lv_if_eq (tgt := 23) hx hb d_M_checkLabel_11 (by decide) (fun c_5 => ?_) (fun c_5 => ?_)
  · obtain ⟨qs, hqs⟩ := tx_str168 hG.2.1
    exact tx_throwNew (names := tx_nm) hx hb hlf hout hlocks hown (hg _ tw_665) (hg _ tw_666) (hg _ tw_19) (tx_ownIOB hg hG) (by decide +kernel) (by decide +kernel) hqs (tx_loc (D := (dC, dI)) (cl := kcl) (ws := []) (fun k q h => by simp at h) (by rw [hAe]; exact hS)) (hl.1.trans hml.symm) hS (Nat.le_of_ble_eq_true rfl) (Nat.le_of_ble_eq_true rfl) (Nat.le_of_ble_eq_true rfl) (Nat.le_of_ble_eq_true rfl) d_M_checkLabel_23 d_M_checkLabel_26 d_M_checkLabel_27 d_M_checkLabel_29 d_M_checkLabel_32 rfl
  · exact (tx_none (tx_if1 c_5)).elim
set_option maxHeartbeats 4000000 in
set_option maxRecDepth 100000 in
theorem c_M_cost (l : Launch) (hlf : l.flags = flags0) (dC : Nat → ClassId) (dI : Nat → Nat → Nat) (sz : Nat) (x f : Nat) (zx : Nat → Value) (zf : Nat → Value) (n k : Int32) : tx_Met l y_M_cost ws_M_cost ({ frames := 7, cells := 1, slots := 6, locals := 112 }) (va_Pc [.ref x, .int n, .int k] (fun U => U.heap.size = sz ∧ va_P (dC, dI) kcl [(x, .inr (0, [(zx 0), .ref f, (zx 2), (zx 3)])), (f, .inr (2, [(zf 0), (zf 1), (zf 2), (zf 3), (zf 4), (zf 5), (zf 6), (zf 7), (zf 8), .int 0, (zf 10), (zf 11), (zf 12), (zf 13)]))] U.heap ∧ va_K (dC, dI) kcl [] U ∧ tx_G (va_A [] sz) U)) (tx_Q (fun _ => False) (fun X => X = "java/lang/IndexOutOfBoundsException") (va_A [] sz)) 1 6 (va_A [] sz) := by
  refine tx_ofW (cc := b_M_cost) (maxL := 3) (ret := (Option.some Jvm.ClassFile.FieldType.int)) (by decide) rfl ?_
  intro p e s m args below meth c s₁ B hml hout hadm hv
  obtain ⟨rfl, hsz, hP, hK, hG⟩ := hv
  have hP0 := hP
  have hx := B.exec
  have hb := B.bytes
  have hr := B.returns
  have hlocks := B.notSynchronized
  have hg : ∀ w ∈ gw, w.before _ s = true := fun w h => atoms_spec (ws := ws_M_cost) B.pre w (List.mem_cons_of_mem _ h)
  have hown : s.vm.findClass "TreeMatcher" = some m.cls := findClass_of_methodNamed B.named
  subst hsz
  have hA : ∀ q : Nat, s.heap.size ≤ q → va_A ([] : va_W) s.heap.size q := fun q h => Or.inr h
  generalize hAe : va_A ([] : va_W) s.heap.size = A at hG hA ⊢
  have hN : tx_N s := hG.1
  have hS : va_S A s.heap s.heap [] := va_S.rf
  have hl := lv_entry ([.ref x, .int n, .int k] : List Value) (n := 3) (Nat.le_of_ble_eq_true rfl)
  rw [lg_entry_eq]
  generalize (lg_sl ([.ref x, .int n, .int k] : List Value) ++ List.replicate (3 - (lg_sl ([.ref x, .int n, .int k] : List Value)).length) Slot.unset).toArray = ls at hl ⊢
  have hl : lv_has ls 3 [(0, .ref x), (1, .int n), (2, .int k)] := hl
  refine lv_aload_n hx hb d_M_cost_0 rfl (lv_at hl 0 rfl) ?_
  refine lv_iload_n hx hb d_M_cost_1 rfl (lv_at hl 1 rfl) ?_
  refine lv_iload_n hx hb d_M_cost_2 rfl (lv_at hl 2 rfl) ?_
  have hPc := hP.sub (ws' := [(x, .inr (0, [(zx 0), .ref f, (zx 2), (zx 3)])), (f, .inr (2, [(zf 0), (zf 1), (zf 2), (zf 3), (zf 4), (zf 5), (zf 6), (zf 7), (zf 8), .int 0, (zf 10), (zf 11), (zf 12), (zf 13)]))]) [0, 1] rfl
  have hKc := hK.sub (tys' := []) [] rfl
  refine tx_call (tx_runV (As := [.int n, .int k]) (rest := []) ⟨hx, hb, hml, hown, hg⟩ (c_M_checkLabel l hlf dC dI s.heap.size x f zx zf n k) (cwV 2 hg (gw_giV cin_M_checkLabel tw_661 tw_663 sw_M_checkLabel tw_1) rfl rfl rfl (by decide +kernel) ⟨Nat.le_of_ble_eq_true rfl, Nat.le_of_ble_eq_true rfl⟩) ⟨fun a U g mk q => by obtain ⟨q0, q1, qP, qK, qG⟩ := q; exact ⟨q0, q1, qP, va_K.moved (u := U) (U := U.calling g mk a) (Vm.Alike.refl U.vm) qK, tx_G.same (U := U.calling g mk a) rfl rfl qG⟩, va_recv hKc hPc (ci := 0) (q0 := 0) rfl rfl, fun U hU hW => ⟨rfl, by rw [hU], by rw [hU]; exact hPc, va_K.moved hW.alike hKc, hG.to hW (fun a h1 h2 => (congrArg (fun (h : Heap) => h[a]?) hU).trans (hS.2.1 a h1 h2)) (tx_pF hS hA)⟩⟩ rfl rfl hl.1 rfl (lv_room (Nat.le_of_ble_eq_true rfl)) d_M_cost_3 ⟨Nat.le_of_ble_eq_true rfl, Nat.le_of_ble_eq_true rfl⟩) hS (fun q h1 h => (tx_pA h1 h).elim) (tx_pF hS hA) (fun v_k_1 H_2 l_k_1 hv_k_1 hz1 hk1 hS => ?_) (fun x_k_1 X_k_1 H_2 l_k_1 hX_k_1 hx_k_1 hz1 hk1 hS => ?_)
  · exact hv_k_1.elim
  · exact tx_leave rfl rfl rfl hlocks hout (fun t ht hW => ⟨Or.inr ⟨x_k_1, X_k_1, rfl, hX_k_1, by rw [ht]; exact tx_X.moved hW.alike hx_k_1⟩, hS.F ht⟩) hS.2.2
set_option maxHeartbeats 4000000 in
set_option maxRecDepth 100000 in
theorem c_M_ruleAt (l : Launch) (hlf : l.flags = flags0) (dC : Nat → ClassId) (dI : Nat → Nat → Nat) (sz : Nat) (x f : Nat) (zx : Nat → Value) (zf : Nat → Value) (n k : Int32) : tx_Met l y_M_ruleAt ws_M_ruleAt ({ frames := 7, cells := 1, slots := 6, locals := 112 }) (va_Pc [.ref x, .int n, .int k] (fun U => U.heap.size = sz ∧ va_P (dC, dI) kcl [(x, .inr (0, [(zx 0), .ref f, (zx 2), (zx 3)])), (f, .inr (2, [(zf 0), (zf 1), (zf 2), (zf 3), (zf 4), (zf 5), (zf 6), (zf 7), (zf 8), .int 0, (zf 10), (zf 11), (zf 12), (zf 13)]))] U.heap ∧ va_K (dC, dI) kcl [] U ∧ tx_G (va_A [] sz) U)) (tx_Q (fun _ => False) (fun X => X = "java/lang/IndexOutOfBoundsException") (va_A [] sz)) 1 6 (va_A [] sz) := by
  refine tx_ofW (cc := b_M_ruleAt) (maxL := 3) (ret := (Option.some Jvm.ClassFile.FieldType.int)) (by decide) rfl ?_
  intro p e s m args below meth c s₁ B hml hout hadm hv
  obtain ⟨rfl, hsz, hP, hK, hG⟩ := hv
  have hP0 := hP
  have hx := B.exec
  have hb := B.bytes
  have hr := B.returns
  have hlocks := B.notSynchronized
  have hg : ∀ w ∈ gw, w.before _ s = true := fun w h => atoms_spec (ws := ws_M_ruleAt) B.pre w (List.mem_cons_of_mem _ h)
  have hown : s.vm.findClass "TreeMatcher" = some m.cls := findClass_of_methodNamed B.named
  subst hsz
  have hA : ∀ q : Nat, s.heap.size ≤ q → va_A ([] : va_W) s.heap.size q := fun q h => Or.inr h
  generalize hAe : va_A ([] : va_W) s.heap.size = A at hG hA ⊢
  have hN : tx_N s := hG.1
  have hS : va_S A s.heap s.heap [] := va_S.rf
  have hl := lv_entry ([.ref x, .int n, .int k] : List Value) (n := 3) (Nat.le_of_ble_eq_true rfl)
  rw [lg_entry_eq]
  generalize (lg_sl ([.ref x, .int n, .int k] : List Value) ++ List.replicate (3 - (lg_sl ([.ref x, .int n, .int k] : List Value)).length) Slot.unset).toArray = ls at hl ⊢
  have hl : lv_has ls 3 [(0, .ref x), (1, .int n), (2, .int k)] := hl
  refine lv_aload_n hx hb d_M_ruleAt_0 rfl (lv_at hl 0 rfl) ?_
  refine lv_iload_n hx hb d_M_ruleAt_1 rfl (lv_at hl 1 rfl) ?_
  refine lv_iload_n hx hb d_M_ruleAt_2 rfl (lv_at hl 2 rfl) ?_
  have hPc := hP.sub (ws' := [(x, .inr (0, [(zx 0), .ref f, (zx 2), (zx 3)])), (f, .inr (2, [(zf 0), (zf 1), (zf 2), (zf 3), (zf 4), (zf 5), (zf 6), (zf 7), (zf 8), .int 0, (zf 10), (zf 11), (zf 12), (zf 13)]))]) [0, 1] rfl
  have hKc := hK.sub (tys' := []) [] rfl
  refine tx_call (tx_runV (As := [.int n, .int k]) (rest := []) ⟨hx, hb, hml, hown, hg⟩ (c_M_checkLabel l hlf dC dI s.heap.size x f zx zf n k) (cwV 2 hg (gw_giV cin_M_checkLabel tw_661 tw_663 sw_M_checkLabel tw_1) rfl rfl rfl (by decide +kernel) ⟨Nat.le_of_ble_eq_true rfl, Nat.le_of_ble_eq_true rfl⟩) ⟨fun a U g mk q => by obtain ⟨q0, q1, qP, qK, qG⟩ := q; exact ⟨q0, q1, qP, va_K.moved (u := U) (U := U.calling g mk a) (Vm.Alike.refl U.vm) qK, tx_G.same (U := U.calling g mk a) rfl rfl qG⟩, va_recv hKc hPc (ci := 0) (q0 := 0) rfl rfl, fun U hU hW => ⟨rfl, by rw [hU], by rw [hU]; exact hPc, va_K.moved hW.alike hKc, hG.to hW (fun a h1 h2 => (congrArg (fun (h : Heap) => h[a]?) hU).trans (hS.2.1 a h1 h2)) (tx_pF hS hA)⟩⟩ rfl rfl hl.1 rfl (lv_room (Nat.le_of_ble_eq_true rfl)) d_M_ruleAt_3 ⟨Nat.le_of_ble_eq_true rfl, Nat.le_of_ble_eq_true rfl⟩) hS (fun q h1 h => (tx_pA h1 h).elim) (tx_pF hS hA) (fun v_k_1 H_2 l_k_1 hv_k_1 hz1 hk1 hS => ?_) (fun x_k_1 X_k_1 H_2 l_k_1 hX_k_1 hx_k_1 hz1 hk1 hS => ?_)
  · exact hv_k_1.elim
  · exact tx_leave rfl rfl rfl hlocks hout (fun t ht hW => ⟨Or.inr ⟨x_k_1, X_k_1, rfl, hX_k_1, by rw [ht]; exact tx_X.moved hW.alike hx_k_1⟩, hS.F ht⟩) hS.2.2
set_option maxHeartbeats 4000000 in
set_option maxRecDepth 100000 in
theorem c_M_cover (l : Launch) (hlf : l.flags = flags0) (dC : Nat → ClassId) (dI : Nat → Nat → Nat) (sz : Nat) (x f : Nat) (zx : Nat → Value) (zf : Nat → Value) (n k : Int32) : tx_Met l y_M_cover ws_M_cover ({ frames := 7, cells := 1, slots := 6, locals := 112 }) (va_Pc [.ref x, .int n, .int k] (fun U => U.heap.size = sz ∧ va_P (dC, dI) kcl [(x, .inr (0, [(zx 0), .ref f, (zx 2), (zx 3)])), (f, .inr (2, [(zf 0), (zf 1), (zf 2), (zf 3), (zf 4), (zf 5), (zf 6), (zf 7), (zf 8), .int 0, (zf 10), (zf 11), (zf 12), (zf 13)]))] U.heap ∧ va_K (dC, dI) kcl [] U ∧ tx_G (va_A [] sz) U)) (tx_Q (fun _ => False) (fun X => X = "java/lang/IndexOutOfBoundsException") (va_A [] sz)) 1 6 (va_A [] sz) := by
  refine tx_ofW (cc := b_M_cover) (maxL := 4) (ret := (Option.some Jvm.ClassFile.FieldType.int)) (by decide) rfl ?_
  intro p e s m args below meth c s₁ B hml hout hadm hv
  obtain ⟨rfl, hsz, hP, hK, hG⟩ := hv
  have hP0 := hP
  have hx := B.exec
  have hb := B.bytes
  have hr := B.returns
  have hlocks := B.notSynchronized
  have hg : ∀ w ∈ gw, w.before _ s = true := fun w h => atoms_spec (ws := ws_M_cover) B.pre w (List.mem_cons_of_mem _ h)
  have hown : s.vm.findClass "TreeMatcher" = some m.cls := findClass_of_methodNamed B.named
  subst hsz
  have hA : ∀ q : Nat, s.heap.size ≤ q → va_A ([] : va_W) s.heap.size q := fun q h => Or.inr h
  generalize hAe : va_A ([] : va_W) s.heap.size = A at hG hA ⊢
  have hN : tx_N s := hG.1
  have hS : va_S A s.heap s.heap [] := va_S.rf
  have hl := lv_entry ([.ref x, .int n, .int k] : List Value) (n := 4) (Nat.le_of_ble_eq_true rfl)
  rw [lg_entry_eq]
  generalize (lg_sl ([.ref x, .int n, .int k] : List Value) ++ List.replicate (4 - (lg_sl ([.ref x, .int n, .int k] : List Value)).length) Slot.unset).toArray = ls at hl ⊢
  have hl : lv_has ls 4 [(0, .ref x), (1, .int n), (2, .int k)] := hl
  refine lv_aload_n hx hb d_M_cover_0 rfl (lv_at hl 0 rfl) ?_
  refine lv_iload_n hx hb d_M_cover_1 rfl (lv_at hl 1 rfl) ?_
  refine lv_iload_n hx hb d_M_cover_2 rfl (lv_at hl 2 rfl) ?_
  have hPc := hP.sub (ws' := [(x, .inr (0, [(zx 0), .ref f, (zx 2), (zx 3)])), (f, .inr (2, [(zf 0), (zf 1), (zf 2), (zf 3), (zf 4), (zf 5), (zf 6), (zf 7), (zf 8), .int 0, (zf 10), (zf 11), (zf 12), (zf 13)]))]) [0, 1] rfl
  have hKc := hK.sub (tys' := []) [] rfl
  refine tx_call (tx_runV (As := [.int n, .int k]) (rest := []) ⟨hx, hb, hml, hown, hg⟩ (c_M_checkLabel l hlf dC dI s.heap.size x f zx zf n k) (cwV 2 hg (gw_giV cin_M_checkLabel tw_661 tw_663 sw_M_checkLabel tw_1) rfl rfl rfl (by decide +kernel) ⟨Nat.le_of_ble_eq_true rfl, Nat.le_of_ble_eq_true rfl⟩) ⟨fun a U g mk q => by obtain ⟨q0, q1, qP, qK, qG⟩ := q; exact ⟨q0, q1, qP, va_K.moved (u := U) (U := U.calling g mk a) (Vm.Alike.refl U.vm) qK, tx_G.same (U := U.calling g mk a) rfl rfl qG⟩, va_recv hKc hPc (ci := 0) (q0 := 0) rfl rfl, fun U hU hW => ⟨rfl, by rw [hU], by rw [hU]; exact hPc, va_K.moved hW.alike hKc, hG.to hW (fun a h1 h2 => (congrArg (fun (h : Heap) => h[a]?) hU).trans (hS.2.1 a h1 h2)) (tx_pF hS hA)⟩⟩ rfl rfl hl.1 rfl (lv_room (Nat.le_of_ble_eq_true rfl)) d_M_cover_3 ⟨Nat.le_of_ble_eq_true rfl, Nat.le_of_ble_eq_true rfl⟩) hS (fun q h1 h => (tx_pA h1 h).elim) (tx_pF hS hA) (fun v_k_1 H_2 l_k_1 hv_k_1 hz1 hk1 hS => ?_) (fun x_k_1 X_k_1 H_2 l_k_1 hX_k_1 hx_k_1 hz1 hk1 hS => ?_)
  · exact hv_k_1.elim
  · exact tx_leave rfl rfl rfl hlocks hout (fun t ht hW => ⟨Or.inr ⟨x_k_1, X_k_1, rfl, hX_k_1, by rw [ht]; exact tx_X.moved hW.alike hx_k_1⟩, hS.F ht⟩) hS.2.2
set_option maxHeartbeats 4000000 in
set_option maxRecDepth 100000 in
theorem c_M_pair (l : Launch) (hlf : l.flags = flags0) (dC : Nat → ClassId) (dI : Nat → Nat → Nat) (sz : Nat) (x cq : Nat) (zx : Nat → Value) (zcq : Nat → Value) (n k : Int32) : tx_Met l y_M_pair ws_M_pair ({ frames := 6, cells := 1, slots := 6, locals := 90 }) (va_Pc [.ref x, .int n, .int k] (fun U => U.heap.size = sz ∧ va_P (dC, dI) kcl [(x, .inr (0, [(zx 0), (zx 1), .ref cq, (zx 3)])), (cq, .inr (3, [(zcq 0), (zcq 1), (zcq 2), (zcq 3), (zcq 4), (zcq 5), .int 0]))] U.heap ∧ va_K (dC, dI) kcl [] U ∧ tx_G (va_A [] sz) U)) (tx_Q (fun _ => False) (fun X => X = "java/lang/IndexOutOfBoundsException") (va_A [] sz)) 1 6 (va_A [] sz) := by
  refine tx_ofW (cc := b_M_pair) (maxL := 4) (ret := (Option.some Jvm.ClassFile.FieldType.int)) (by decide) rfl ?_
  intro p e s m args below meth c s₁ B hml hout hadm hv
  obtain ⟨rfl, hsz, hP, hK, hG⟩ := hv
  have hP0 := hP
  have hx := B.exec
  have hb := B.bytes
  have hr := B.returns
  have hlocks := B.notSynchronized
  have hg : ∀ w ∈ gw, w.before _ s = true := fun w h => atoms_spec (ws := ws_M_pair) B.pre w (List.mem_cons_of_mem _ h)
  have hown : s.vm.findClass "TreeMatcher" = some m.cls := findClass_of_methodNamed B.named
  subst hsz
  have hA : ∀ q : Nat, s.heap.size ≤ q → va_A ([] : va_W) s.heap.size q := fun q h => Or.inr h
  generalize hAe : va_A ([] : va_W) s.heap.size = A at hG hA ⊢
  have hN : tx_N s := hG.1
  have hS : va_S A s.heap s.heap [] := va_S.rf
  have hl := lv_entry ([.ref x, .int n, .int k] : List Value) (n := 4) (Nat.le_of_ble_eq_true rfl)
  rw [lg_entry_eq]
  generalize (lg_sl ([.ref x, .int n, .int k] : List Value) ++ List.replicate (4 - (lg_sl ([.ref x, .int n, .int k] : List Value)).length) Slot.unset).toArray = ls at hl ⊢
  have hl : lv_has ls 4 [(0, .ref x), (1, .int n), (2, .int k)] := hl
  refine lv_iload_n hx hb d_M_pair_0 rfl (lv_at hl 1 rfl) ?_
  refine lv_aload_n hx hb d_M_pair_1 rfl (lv_at hl 0 rfl) ?_
  refine va_get (D := (dC, dI)) (ci := 0) (v := .ref cq) (C := kR_M) (T := kT_M) (N := 4) hx hb hg kin_M hown hK hP 0 rfl rfl 2 (by decide) (hg _ tw_285) (fun _ h9 => h9) rfl d_M_pair_2 ?_
  have hPc := hP.sub (ws' := [(cq, .inr (3, [(zcq 0), (zcq 1), (zcq 2), (zcq 3), (zcq 4), (zcq 5), .int 0]))]) [1] rfl
  have hKc := hK.sub (tys' := []) [] rfl
  refine va_calli (va_runV (As := []) (rest := [.int n]) ⟨hx, hb, hml, hown, hg⟩ (c_C_size l dC dI s.heap.size cq zcq 0) (cwV 0 hg (gw_giV cin_C_size tw_729 tw_730 tw_731 tw_9) rfl rfl rfl (by decide +kernel) ⟨Nat.le_of_ble_eq_true rfl, Nat.le_of_ble_eq_true rfl⟩) ⟨fun a U g mk q => by obtain ⟨q0, q1, qP, qK⟩ := q; exact ⟨q0, q1, qP, va_K.moved (u := U) (U := U.calling g mk a) (Vm.Alike.refl U.vm) qK⟩, va_recv hKc hPc (ci := 3) (q0 := 0) rfl rfl, fun U hU hW => ⟨rfl, by rw [hU], by rw [hU]; exact hPc, va_K.moved hW.alike hKc⟩⟩ rfl rfl hl.1 rfl (lv_room (Nat.le_of_ble_eq_true rfl)) d_M_pair_5 ⟨Nat.le_of_ble_eq_true rfl, Nat.le_of_ble_eq_true rfl⟩) hS (fun q h1 h => (tx_pA h1 h).elim) (tx_pF hS hA) (fun r_k_1 u_k_1 t_k_1 H_2 l_k_1 ht hvm hw_k_1 hB hz1 hk1 hS => ?_)
  have hw_k_1 : 0 = r_k_1 := Eq.symm hw_k_1
  subst hw_k_1
  have hP := tx_keep hP hk1
  have hPc := hP.sub (ws' := []) [] rfl
  have hKc := hK.sub (tys' := []) [] rfl
  refine va_calli (va_runS (As := [.int n, .int 0]) (rest := []) ⟨hx, hb, hml, hown, hg⟩ (c_M_isWithin l dC dI H_2.size n 0) (va_cwS 2 hg (gw_giS cin_M_isWithin tw_321 tw_322 tw_1) rfl rfl rfl (by decide +kernel) ⟨Nat.le_of_ble_eq_true rfl, Nat.le_of_ble_eq_true rfl⟩) ⟨fun a U g mk q => by obtain ⟨q0, q1, qP, qK⟩ := q; exact ⟨q0, q1, qP, va_K.moved (u := U) (U := U.calling g mk a) (Vm.Alike.refl U.vm) qK⟩, fun U hU hW => ⟨rfl, by rw [hU], by rw [hU]; exact hPc, va_K.moved hW.alike hKc⟩⟩ rfl rfl hl.1 rfl (lv_room (Nat.le_of_ble_eq_true rfl)) d_M_pair_8 ⟨Nat.le_of_ble_eq_true rfl, Nat.le_of_ble_eq_true rfl⟩) hS (fun q h1 h => (tx_pA h1 h).elim) (tx_pF hS hA) (fun r_k_3 u_k_3 t_k_3 H_4 l_k_3 ht hvm hw_k_3 hB hz1 hk1 hS => ?_)
  have hw_k_3 : (if 0 ≤ n ∧ n < 0 then 1 else 0) = r_k_3 := Eq.symm hw_k_3
  subst hw_k_3
  have hP := tx_keep hP hk1
  refine lv_if_eq (tgt := 22) hx hb d_M_pair_11 (by decide) (fun c_5 => ?_) (fun c_5 => ?_)
  · obtain ⟨qs, hqs⟩ := tx_str130 hG.2.1
    exact tx_throwNew (names := tx_nm) hx hb hlf hout hlocks hown (hg _ tw_665) (hg _ tw_666) (hg _ tw_19) (tx_ownIOB hg hG) (by decide +kernel) (by decide +kernel) hqs (tx_loc (D := (dC, dI)) (cl := kcl) (ws := []) (fun k q h => by simp at h) (by rw [hAe]; exact hS)) (hl.1.trans hml.symm) hS (Nat.le_of_ble_eq_true rfl) (Nat.le_of_ble_eq_true rfl) (Nat.le_of_ble_eq_true rfl) (Nat.le_of_ble_eq_true rfl) d_M_pair_22 d_M_pair_25 d_M_pair_26 d_M_pair_28 d_M_pair_31 rfl
  · exact (tx_none (tx_if1 c_5)).elim
set_option maxHeartbeats 4000000 in
set_option maxRecDepth 100000 in
theorem c_M_same (l : Launch) (hlf : l.flags = flags0) (dC : Nat → ClassId) (dI : Nat → Nat → Nat) (sz : Nat) (x f : Nat) (zx : Nat → Value) (zf : Nat → Value) (n k : Int32) : tx_Met l y_M_same ws_M_same ({ frames := 6, cells := 1, slots := 6, locals := 90 }) (va_Pc [.ref x, .int n, .int k] (fun U => U.heap.size = sz ∧ va_P (dC, dI) kcl [(x, .inr (0, [(zx 0), .ref f, (zx 2), (zx 3)])), (f, .inr (2, [(zf 0), (zf 1), (zf 2), (zf 3), (zf 4), (zf 5), (zf 6), (zf 7), (zf 8), .int 0, (zf 10), (zf 11), (zf 12), (zf 13)]))] U.heap ∧ va_K (dC, dI) kcl [] U ∧ tx_G (va_A [] sz) U)) (tx_Q (fun _ => False) (fun X => X = "java/lang/IndexOutOfBoundsException") (va_A [] sz)) 1 6 (va_A [] sz) := by
  refine tx_ofW (cc := b_M_same) (maxL := 3) (ret := (Option.some Jvm.ClassFile.FieldType.boolean)) (by decide) rfl ?_
  intro p e s m args below meth c s₁ B hml hout hadm hv
  obtain ⟨rfl, hsz, hP, hK, hG⟩ := hv
  have hP0 := hP
  have hx := B.exec
  have hb := B.bytes
  have hr := B.returns
  have hlocks := B.notSynchronized
  have hg : ∀ w ∈ gw, w.before _ s = true := fun w h => atoms_spec (ws := ws_M_same) B.pre w (List.mem_cons_of_mem _ h)
  have hown : s.vm.findClass "TreeMatcher" = some m.cls := findClass_of_methodNamed B.named
  subst hsz
  have hA : ∀ q : Nat, s.heap.size ≤ q → va_A ([] : va_W) s.heap.size q := fun q h => Or.inr h
  generalize hAe : va_A ([] : va_W) s.heap.size = A at hG hA ⊢
  have hN : tx_N s := hG.1
  have hS : va_S A s.heap s.heap [] := va_S.rf
  have hl := lv_entry ([.ref x, .int n, .int k] : List Value) (n := 3) (Nat.le_of_ble_eq_true rfl)
  rw [lg_entry_eq]
  generalize (lg_sl ([.ref x, .int n, .int k] : List Value) ++ List.replicate (3 - (lg_sl ([.ref x, .int n, .int k] : List Value)).length) Slot.unset).toArray = ls at hl ⊢
  have hl : lv_has ls 3 [(0, .ref x), (1, .int n), (2, .int k)] := hl
  refine lv_iload_n hx hb d_M_same_0 rfl (lv_at hl 1 rfl) ?_
  refine lv_aload_n hx hb d_M_same_1 rfl (lv_at hl 0 rfl) ?_
  refine va_get (D := (dC, dI)) (ci := 0) (v := .ref f) (C := kR_M) (T := kT_M) (N := 4) hx hb hg kin_M hown hK hP 0 rfl rfl 1 (by decide) (hg _ tw_284) (fun _ h9 => h9) rfl d_M_same_2 ?_
  have hPc := hP.sub (ws' := [(f, .inr (2, [(zf 0), (zf 1), (zf 2), (zf 3), (zf 4), (zf 5), (zf 6), (zf 7), (zf 8), .int 0, (zf 10), (zf 11), (zf 12), (zf 13)]))]) [1] rfl
  have hKc := hK.sub (tys' := []) [] rfl
  refine va_calli (va_runV (As := []) (rest := [.int n]) ⟨hx, hb, hml, hown, hg⟩ (c_F_size l dC dI s.heap.size f zf 0) (cwV 0 hg (gw_giV cin_F_size tw_445 tw_446 tw_447 tw_6) rfl rfl rfl (by decide +kernel) ⟨Nat.le_of_ble_eq_true rfl, Nat.le_of_ble_eq_true rfl⟩) ⟨fun a U g mk q => by obtain ⟨q0, q1, qP, qK⟩ := q; exact ⟨q0, q1, qP, va_K.moved (u := U) (U := U.calling g mk a) (Vm.Alike.refl U.vm) qK⟩, va_recv hKc hPc (ci := 2) (q0 := 0) rfl rfl, fun U hU hW => ⟨rfl, by rw [hU], by rw [hU]; exact hPc, va_K.moved hW.alike hKc⟩⟩ rfl rfl hl.1 rfl (lv_room (Nat.le_of_ble_eq_true rfl)) d_M_same_5 ⟨Nat.le_of_ble_eq_true rfl, Nat.le_of_ble_eq_true rfl⟩) hS (fun q h1 h => (tx_pA h1 h).elim) (tx_pF hS hA) (fun r_k_1 u_k_1 t_k_1 H_2 l_k_1 ht hvm hw_k_1 hB hz1 hk1 hS => ?_)
  have hw_k_1 : 0 = r_k_1 := Eq.symm hw_k_1
  subst hw_k_1
  have hP := tx_keep hP hk1
  have hPc := hP.sub (ws' := []) [] rfl
  have hKc := hK.sub (tys' := []) [] rfl
  refine va_calli (va_runS (As := [.int n, .int 0]) (rest := []) ⟨hx, hb, hml, hown, hg⟩ (c_M_isWithin l dC dI H_2.size n 0) (va_cwS 2 hg (gw_giS cin_M_isWithin tw_321 tw_322 tw_1) rfl rfl rfl (by decide +kernel) ⟨Nat.le_of_ble_eq_true rfl, Nat.le_of_ble_eq_true rfl⟩) ⟨fun a U g mk q => by obtain ⟨q0, q1, qP, qK⟩ := q; exact ⟨q0, q1, qP, va_K.moved (u := U) (U := U.calling g mk a) (Vm.Alike.refl U.vm) qK⟩, fun U hU hW => ⟨rfl, by rw [hU], by rw [hU]; exact hPc, va_K.moved hW.alike hKc⟩⟩ rfl rfl hl.1 rfl (lv_room (Nat.le_of_ble_eq_true rfl)) d_M_same_8 ⟨Nat.le_of_ble_eq_true rfl, Nat.le_of_ble_eq_true rfl⟩) hS (fun q h1 h => (tx_pA h1 h).elim) (tx_pF hS hA) (fun r_k_3 u_k_3 t_k_3 H_4 l_k_3 ht hvm hw_k_3 hB hz1 hk1 hS => ?_)
  have hw_k_3 : (if 0 ≤ n ∧ n < 0 then 1 else 0) = r_k_3 := Eq.symm hw_k_3
  subst hw_k_3
  have hP := tx_keep hP hk1
  refine lv_if_eq (tgt := 28) hx hb d_M_same_11 (by decide) (fun c_5 => ?_) (fun c_5 => ?_)
  · obtain ⟨qs, hqs⟩ := tx_str150 hG.2.1
    exact tx_throwNew (names := tx_nm) hx hb hlf hout hlocks hown (hg _ tw_665) (hg _ tw_666) (hg _ tw_19) (tx_ownIOB hg hG) (by decide +kernel) (by decide +kernel) hqs (tx_loc (D := (dC, dI)) (cl := kcl) (ws := []) (fun k q h => by simp at h) (by rw [hAe]; exact hS)) (hl.1.trans hml.symm) hS (Nat.le_of_ble_eq_true rfl) (Nat.le_of_ble_eq_true rfl) (Nat.le_of_ble_eq_true rfl) (Nat.le_of_ble_eq_true rfl) d_M_same_28 d_M_same_31 d_M_same_32 d_M_same_34 d_M_same_37 rfl
  · exact (tx_none (tx_if1 c_5)).elim
set_option maxHeartbeats 4000000 in
set_option maxRecDepth 100000 in
theorem c_M_states (l : Launch) (dC : Nat → ClassId) (dI : Nat → Nat → Nat) (sz : Nat) (x g y v : Nat) (zx : Nat → Value) (zg : Nat → Value) (zy : Nat → Value) (zv : Nat → Value) : Met l y_M_states ws_M_states ({ frames := 2, cells := 0, slots := 0, locals := 42 }) (va_Pc [.ref x] (fun U => U.heap.size = sz ∧ va_P (dC, dI) kcl [(x, .inr (0, [.ref g, (zx 1), (zx 2), .ref y])), (g, .inr (1, [(zg 0), .int 0, (zg 2), (zg 3), (zg 4), (zg 5), (zg 6), (zg 7), (zg 8), (zg 9), (zg 10), .int 0, .int 0, (zg 13)])), (y, .inr (4, [.ref g, .ref v, .int 0, .int 0])), (v, .inr (5, [(zv 0), (zv 1), (zv 2), (zv 3), (zv 4), (zv 5), (zv 6), .int 0]))] U.heap ∧ va_K (dC, dI) kcl [] U)) (va_Qi (fun (r : Int32) (_ : Unit) => r = 0) (fun (_ : Unit) (_ : State) => True) (va_A [] sz)) 0 0 (va_A [] sz) := by
  refine Met.ofW (cc := b_M_states) (maxL := 1) (ret := (Option.some Jvm.ClassFile.FieldType.int)) (by decide) rfl ?_
  intro p e s m args below meth c s₁ B hml hv
  obtain ⟨rfl, hsz, hP, hK⟩ := hv
  have hx := B.exec
  have hb := B.bytes
  have hr := B.returns
  have hlocks := B.notSynchronized
  have hg : ∀ w ∈ gw, w.before _ s = true := fun w h => atoms_spec (ws := ws_M_states) B.pre w (List.mem_cons_of_mem _ h)
  have hown : s.vm.findClass "TreeMatcher" = some m.cls := findClass_of_methodNamed B.named
  subst hsz
  have hA : ∀ q : Nat, s.heap.size ≤ q → va_A ([] : va_W) s.heap.size q := fun q h => Or.inr h
  generalize hAe : va_A ([] : va_W) s.heap.size = A at hA ⊢
  have hS : va_S A s.heap s.heap [] := va_S.rf
  have hl := lv_entry ([.ref x] : List Value) (n := 1) (Nat.le_of_ble_eq_true rfl)
  rw [lg_entry_eq]
  generalize (lg_sl ([.ref x] : List Value) ++ List.replicate (1 - (lg_sl ([.ref x] : List Value)).length) Slot.unset).toArray = ls at hl ⊢
  have hl : lv_has ls 1 [(0, .ref x)] := hl
  refine lv_aload_n hx hb d_M_states_0 rfl (lv_at hl 0 rfl) ?_
  refine va_get (D := (dC, dI)) (ci := 0) (v := .ref g) (C := kR_M) (T := kT_M) (N := 4) hx hb hg kin_M hown hK hP 0 rfl rfl 0 (by decide) (hg _ tw_283) (fun _ h9 => h9) rfl d_M_states_1 ?_
  have hPc := hP.sub (ws' := [(g, .inr (1, [(zg 0), .int 0, (zg 2), (zg 3), (zg 4), (zg 5), (zg 6), (zg 7), (zg 8), (zg 9), (zg 10), .int 0, .int 0, (zg 13)]))]) [1] rfl
  have hKc := hK.sub (tys' := []) [] rfl
  refine va_calli (va_runV (As := []) (rest := []) ⟨hx, hb, hml, hown, hg⟩ (c_G_hasLimits l dC dI s.heap.size g (fun i => if i = 11 then .int 0 else if i = 1 then .int 0 else zg i) 0 (Or.inl rfl)) (cwV 0 hg (gw_giV cin_G_hasLimits tw_753 tw_754 tw_755 tw_2) rfl rfl rfl (by decide +kernel) ⟨Nat.le_of_ble_eq_true rfl, Nat.le_of_ble_eq_true rfl⟩) ⟨fun a U g mk q => by obtain ⟨q0, q1, qP, qK⟩ := q; exact ⟨q0, q1, qP, va_K.moved (u := U) (U := U.calling g mk a) (Vm.Alike.refl U.vm) qK⟩, va_recv hKc hPc (ci := 1) (q0 := 0) rfl rfl, fun U hU hW => ⟨rfl, by rw [hU], by rw [hU]; exact hPc, va_K.moved hW.alike hKc⟩⟩ rfl rfl hl.1 rfl (lv_room (Nat.le_of_ble_eq_true rfl)) d_M_states_4 ⟨Nat.le_of_ble_eq_true rfl, Nat.le_of_ble_eq_true rfl⟩) hS (fun q h1 h => (tx_pA h1 h).elim) (tx_pF hS hA) (fun r_k_1 u_k_1 t_k_1 H_2 l_k_1 ht hvm hw_k_1 hB hz1 hk1 hS => ?_)
  have hw_k_1 : 0 = r_k_1 := Eq.symm hw_k_1
  subst hw_k_1
  have hP := tx_keep hP hk1
  refine lv_if_eq (tgt := 20) hx hb d_M_states_7 (by decide) (fun c_3 => ?_) (fun c_3 => ?_)
  · refine lv_aload_n hx hb d_M_states_20 rfl (lv_at hl 0 rfl) ?_
    refine va_get (D := (dC, dI)) (ci := 0) (v := .ref y) (C := kR_M) (T := kT_M) (N := 4) hx hb hg kin_M hown hK hP 0 rfl rfl 3 (by decide) (hg _ tw_286) (fun _ h9 => h9) rfl d_M_states_21 ?_
    have hPc := hP.sub (ws' := [(y, .inr (4, [.ref g, .ref v, .int 0, .int 0])), (g, .inr (1, [(zg 0), .int 0, (zg 2), (zg 3), (zg 4), (zg 5), (zg 6), (zg 7), (zg 8), (zg 9), (zg 10), .int 0, .int 0, (zg 13)]))]) [2, 1] rfl
    have hKc := hK.sub (tys' := []) [] rfl
    refine va_callv (va_runV (As := []) (rest := []) ⟨hx, hb, hml, hown, hg⟩ (c_Y_refresh l dC dI H_2.size y g (fun i => if i = 1 then .ref v else zy i) (fun i => if i = 12 then .int 0 else zg i)) (cwV 0 hg (gw_giV cin_Y_refresh tw_758 tw_759 tw_760 tw_10) rfl rfl rfl (by decide +kernel) ⟨Nat.le_of_ble_eq_true rfl, Nat.le_of_ble_eq_true rfl⟩) ⟨fun a U g mk q => by obtain ⟨q0, q1, qP, qK⟩ := q; exact ⟨q0, q1, qP, va_K.moved (u := U) (U := U.calling g mk a) (Vm.Alike.refl U.vm) qK⟩, va_recv hKc hPc (ci := 4) (q0 := 0) rfl rfl, fun U hU hW => ⟨rfl, by rw [hU], by rw [hU]; exact hPc, va_K.moved hW.alike hKc⟩⟩ rfl rfl hl.1 rfl (lv_room (Nat.le_of_ble_eq_true rfl)) d_M_states_24 ⟨Nat.le_of_ble_eq_true rfl, Nat.le_of_ble_eq_true rfl⟩) hS (fun q h1 h => (tx_pA h1 h).elim) (tx_pF hS hA) (fun u_k_4 t_k_4 H_5 l_k_4 ht hvm hw_k_4 hB hz1 hk1 hS => ?_)
    have hP := tx_keep hP hk1
    refine lv_aload_n hx hb d_M_states_27 rfl (lv_at hl 0 rfl) ?_
    refine va_get (D := (dC, dI)) (ci := 0) (v := .ref y) (C := kR_M) (T := kT_M) (N := 4) hx hb hg kin_M hown hK hP 0 rfl rfl 3 (by decide) (hg _ tw_286) (fun _ h9 => h9) rfl d_M_states_28 ?_
    have hPc := hP.sub (ws' := [(y, .inr (4, [.ref g, .ref v, .int 0, .int 0])), (v, .inr (5, [(zv 0), (zv 1), (zv 2), (zv 3), (zv 4), (zv 5), (zv 6), .int 0]))]) [2, 3] rfl
    have hKc := hK.sub (tys' := []) [] rfl
    refine va_calli (va_runV (As := []) (rest := []) ⟨hx, hb, hml, hown, hg⟩ (c_Y_size l dC dI H_5.size y v (fun i => if i = 3 then .int 0 else if i = 2 then .int 0 else if i = 0 then .ref g else zy i) zv 0) (cwV 0 hg (gw_giV cin_Y_size tw_778 tw_779 tw_780 tw_10) rfl rfl rfl (by decide +kernel) ⟨Nat.le_of_ble_eq_true rfl, Nat.le_of_ble_eq_true rfl⟩) ⟨fun a U g mk q => by obtain ⟨q0, q1, qP, qK⟩ := q; exact ⟨q0, q1, qP, va_K.moved (u := U) (U := U.calling g mk a) (Vm.Alike.refl U.vm) qK⟩, va_recv hKc hPc (ci := 4) (q0 := 0) rfl rfl, fun U hU hW => ⟨rfl, by rw [hU], by rw [hU]; exact hPc, va_K.moved hW.alike hKc⟩⟩ rfl rfl hl.1 rfl (lv_room (Nat.le_of_ble_eq_true rfl)) d_M_states_31 ⟨Nat.le_of_ble_eq_true rfl, Nat.le_of_ble_eq_true rfl⟩) hS (fun q h1 h => (tx_pA h1 h).elim) (tx_pF hS hA) (fun r_k_6 u_k_6 t_k_6 H_7 l_k_6 ht hvm hw_k_6 hB hz1 hk1 hS => ?_)
    have hw_k_6 : 0 = r_k_6 := Eq.symm hw_k_6
    subst hw_k_6
    have hP := tx_keep hP hk1
    refine lv_bipush (v := 60) hx hb d_M_states_34 (by decide) ?_
    refine lv_icmp_le (tgt := 49) hx hb d_M_states_36 (by decide) (fun c_8 => ?_) (fun c_8 => ?_)
    · refine lv_aload_n hx hb d_M_states_49 rfl (lv_at hl 0 rfl) ?_
      refine va_get (D := (dC, dI)) (ci := 0) (v := .ref y) (C := kR_M) (T := kT_M) (N := 4) hx hb hg kin_M hown hK hP 0 rfl rfl 3 (by decide) (hg _ tw_286) (fun _ h9 => h9) rfl d_M_states_50 ?_
      have hPc := hP.sub (ws' := [(y, .inr (4, [.ref g, .ref v, .int 0, .int 0])), (v, .inr (5, [(zv 0), (zv 1), (zv 2), (zv 3), (zv 4), (zv 5), (zv 6), .int 0]))]) [2, 3] rfl
      have hKc := hK.sub (tys' := []) [] rfl
      refine va_calli (va_runV (As := []) (rest := []) ⟨hx, hb, hml, hown, hg⟩ (c_Y_size l dC dI H_7.size y v (fun i => if i = 3 then .int 0 else if i = 2 then .int 0 else if i = 0 then .ref g else zy i) zv 0) (cwV 0 hg (gw_giV cin_Y_size tw_778 tw_779 tw_780 tw_10) rfl rfl rfl (by decide +kernel) ⟨Nat.le_of_ble_eq_true rfl, Nat.le_of_ble_eq_true rfl⟩) ⟨fun a U g mk q => by obtain ⟨q0, q1, qP, qK⟩ := q; exact ⟨q0, q1, qP, va_K.moved (u := U) (U := U.calling g mk a) (Vm.Alike.refl U.vm) qK⟩, va_recv hKc hPc (ci := 4) (q0 := 0) rfl rfl, fun U hU hW => ⟨rfl, by rw [hU], by rw [hU]; exact hPc, va_K.moved hW.alike hKc⟩⟩ rfl rfl hl.1 rfl (lv_room (Nat.le_of_ble_eq_true rfl)) d_M_states_53 ⟨Nat.le_of_ble_eq_true rfl, Nat.le_of_ble_eq_true rfl⟩) hS (fun q h1 h => (tx_pA h1 h).elim) (tx_pF hS hA) (fun r_k_9 u_k_9 t_k_9 H_10 l_k_9 ht hvm hw_k_9 hB hz1 hk1 hS => ?_)
      have hw_k_9 : 0 = r_k_9 := Eq.symm hw_k_9
      subst hw_k_9
      have hP := tx_keep hP hk1
      exact W.iret (v := 0) hx hb hr (fun t ht hW => ⟨⟨0, (), rfl, rfl, trivial⟩, hS.F ht⟩) hS.2.2 d_M_states_56
    · exact absurd (by decide) c_8
  · exact absurd rfl c_3
set_option maxHeartbeats 4000000 in
set_option maxRecDepth 100000 in
theorem c_M_clear (l : Launch) (dC : Nat → ClassId) (dI : Nat → Nat → Nat) (sz : Nat) (x cq f v : Nat) (zx : Nat → Value) (zcq : Nat → Value) (zf : Nat → Value) (zv : Nat → Value) : Met l y_M_clear ws_M_clear ({ frames := 2, cells := 0, slots := 0, locals := 41 }) (va_Pc [.ref x] (fun U => U.heap.size = sz ∧ va_P (dC, dI) kcl [(x, .inr (0, [(zx 0), .ref f, .ref cq, (zx 3)])), (cq, .inr (3, [(zcq 0), (zcq 1), (zcq 2), (zcq 3), (zcq 4), (zcq 5), .int 0])), (f, .inr (2, [(zf 0), (zf 1), (zf 2), (zf 3), (zf 4), (zf 5), (zf 6), (zf 7), (zf 8), .int 0, (zf 10), .ref v, (zf 12), (zf 13)])), (v, .inr (5, [(zv 0), (zv 1), (zv 2), (zv 3), (zv 4), (zv 5), (zv 6), .int 0]))] U.heap ∧ va_K (dC, dI) kcl [] U ∧ va_D (fun _ => True) [(x, .inr (0, [(zx 0), .ref f, .ref cq, (zx 3)])), (cq, .inr (3, [(zcq 0), (zcq 1), (zcq 2), (zcq 3), (zcq 4), (zcq 5), .int 0])), (f, .inr (2, [(zf 0), (zf 1), (zf 2), (zf 3), (zf 4), (zf 5), (zf 6), (zf 7), (zf 8), .int 0, (zf 10), .ref v, (zf 12), (zf 13)])), (v, .inr (5, [(zv 0), (zv 1), (zv 2), (zv 3), (zv 4), (zv 5), (zv 6), .int 0]))])) (va_Qi (fun (r : Int32) (_ : Unit) => r = 0) (fun (_ : Unit) (_ : State) => True) (va_A [(x, .inr (0, [(zx 0), .ref f, .ref cq, (zx 3)])), (cq, .inr (3, [(zcq 0), (zcq 1), (zcq 2), (zcq 3), (zcq 4), (zcq 5), .int 0])), (f, .inr (2, [(zf 0), (zf 1), (zf 2), (zf 3), (zf 4), (zf 5), (zf 6), (zf 7), (zf 8), .int 0, (zf 10), .ref v, (zf 12), (zf 13)])), (v, .inr (5, [(zv 0), (zv 1), (zv 2), (zv 3), (zv 4), (zv 5), (zv 6), .int 0]))] sz)) 0 0 (va_A [(x, .inr (0, [(zx 0), .ref f, .ref cq, (zx 3)])), (cq, .inr (3, [(zcq 0), (zcq 1), (zcq 2), (zcq 3), (zcq 4), (zcq 5), .int 0])), (f, .inr (2, [(zf 0), (zf 1), (zf 2), (zf 3), (zf 4), (zf 5), (zf 6), (zf 7), (zf 8), .int 0, (zf 10), .ref v, (zf 12), (zf 13)])), (v, .inr (5, [(zv 0), (zv 1), (zv 2), (zv 3), (zv 4), (zv 5), (zv 6), .int 0]))] sz) := by
  refine Met.ofW (cc := b_M_clear) (maxL := 1) (ret := (Option.some Jvm.ClassFile.FieldType.int)) (by decide) rfl ?_
  intro p e s m args below meth c s₁ B hml hv
  obtain ⟨rfl, hsz, hP, hK, hD0⟩ := hv
  have hx := B.exec
  have hb := B.bytes
  have hr := B.returns
  have hlocks := B.notSynchronized
  have hg : ∀ w ∈ gw, w.before _ s = true := fun w h => atoms_spec (ws := ws_M_clear) B.pre w (List.mem_cons_of_mem _ h)
  have hown : s.vm.findClass "TreeMatcher" = some m.cls := findClass_of_methodNamed B.named
  subst hsz
  have hD := hD0.self (sz := s.heap.size)
  have hA : ∀ q : Nat, s.heap.size ≤ q → va_A [(x, .inr (0, [(zx 0), .ref f, .ref cq, (zx 3)])), (cq, .inr (3, [(zcq 0), (zcq 1), (zcq 2), (zcq 3), (zcq 4), (zcq 5), .int 0])), (f, .inr (2, [(zf 0), (zf 1), (zf 2), (zf 3), (zf 4), (zf 5), (zf 6), (zf 7), (zf 8), .int 0, (zf 10), .ref v, (zf 12), (zf 13)])), (v, .inr (5, [(zv 0), (zv 1), (zv 2), (zv 3), (zv 4), (zv 5), (zv 6), .int 0]))] s.heap.size q := fun q h => Or.inr h
  generalize hAe : va_A [(x, .inr (0, [(zx 0), .ref f, .ref cq, (zx 3)])), (cq, .inr (3, [(zcq 0), (zcq 1), (zcq 2), (zcq 3), (zcq 4), (zcq 5), .int 0])), (f, .inr (2, [(zf 0), (zf 1), (zf 2), (zf 3), (zf 4), (zf 5), (zf 6), (zf 7), (zf 8), .int 0, (zf 10), .ref v, (zf 12), (zf 13)])), (v, .inr (5, [(zv 0), (zv 1), (zv 2), (zv 3), (zv 4), (zv 5), (zv 6), .int 0]))] s.heap.size = A at hD hA ⊢
  have hS : va_S A s.heap s.heap [] := va_S.rf
  have hl := lv_entry ([.ref x] : List Value) (n := 1) (Nat.le_of_ble_eq_true rfl)
  rw [lg_entry_eq]
  generalize (lg_sl ([.ref x] : List Value) ++ List.replicate (1 - (lg_sl ([.ref x] : List Value)).length) Slot.unset).toArray = ls at hl ⊢
  have hl : lv_has ls 1 [(0, .ref x)] := hl
  refine lv_aload_n hx hb d_M_clear_0 rfl (lv_at hl 0 rfl) ?_
  refine va_get (D := (dC, dI)) (ci := 0) (v := .ref cq) (C := kR_M) (T := kT_M) (N := 4) hx hb hg kin_M hown hK hP 0 rfl rfl 2 (by decide) (hg _ tw_285) (fun _ h9 => h9) rfl d_M_clear_1 ?_
  have hPc := hP.sub (ws' := [(cq, .inr (3, [(zcq 0), (zcq 1), (zcq 2), (zcq 3), (zcq 4), (zcq 5), .int 0]))]) [1] rfl
  have hKc := hK.sub (tys' := []) [] rfl
  have hDc := hD.sub (ws' := [(cq, .inr (3, [(zcq 0), (zcq 1), (zcq 2), (zcq 3), (zcq 4), (zcq 5), .int 0]))]) [1] (by decide) rfl
  have hFc := va_free (wc := [(cq, .inr (3, [(zcq 0), (zcq 1), (zcq 2), (zcq 3), (zcq 4), (zcq 5), .int 0]))]) hD hS hA [1] rfl
  refine va_callv (va_runV (As := []) (rest := []) ⟨hx, hb, hml, hown, hg⟩ (c_C_forget l dC dI s.heap.size cq zcq 0) (cwV 0 hg (gw_giV cin_C_forget tw_300 tw_301 tw_302 tw_9) rfl rfl rfl (by decide +kernel) ⟨Nat.le_of_ble_eq_true rfl, Nat.le_of_ble_eq_true rfl⟩) ⟨fun a U g mk q => by obtain ⟨q0, q1, qP, qK, qD⟩ := q; exact ⟨q0, q1, qP, va_K.moved (u := U) (U := U.calling g mk a) (Vm.Alike.refl U.vm) qK, qD⟩, va_recv hKc hPc (ci := 3) (q0 := 0) rfl rfl, fun U hU hW => ⟨rfl, by rw [hU], by rw [hU]; exact hPc, va_K.moved hW.alike hKc, hDc.weaken (fun _ _ _ _ => trivial)⟩⟩ rfl rfl hl.1 rfl (lv_room (Nat.le_of_ble_eq_true rfl)) d_M_clear_4 ⟨Nat.le_of_ble_eq_true rfl, Nat.le_of_ble_eq_true rfl⟩) hS (fun q _ h => hFc q h) hFc (fun u_k_1 t_k_1 H_2 l_k_1 ht hvm hw_k_1 hB hz1 hk1 hS => ?_)
  obtain ⟨hP, hD⟩ := tx_rest (wc := [(cq, .inr (3, [(zcq 0), (zcq 1), (zcq 2), (zcq 3), (zcq 4), (zcq 5), .int 0]))]) (wr := [(x, .inr (0, [(zx 0), .ref f, .ref cq, (zx 3)])), (f, .inr (2, [(zf 0), (zf 1), (zf 2), (zf 3), (zf 4), (zf 5), (zf 6), (zf 7), (zf 8), .int 0, (zf 10), .ref v, (zf 12), (zf 13)])), (v, .inr (5, [(zv 0), (zv 1), (zv 2), (zv 3), (zv 4), (zv 5), (zv 6), .int 0]))]) hP hD [1] [0, 2, 3] rfl rfl (by decide) (by decide) hk1 hFc
  have hK := hK.sub (tys' := []) [] rfl
  refine lv_aload_n hx hb d_M_clear_7 rfl (lv_at hl 0 rfl) ?_
  refine va_get (D := (dC, dI)) (ci := 0) (v := .ref f) (C := kR_M) (T := kT_M) (N := 4) hx hb hg kin_M hown hK hP 0 rfl rfl 1 (by decide) (hg _ tw_284) (fun _ h9 => h9) rfl d_M_clear_8 ?_
  have hPc := hP.sub (ws' := [(f, .inr (2, [(zf 0), (zf 1), (zf 2), (zf 3), (zf 4), (zf 5), (zf 6), (zf 7), (zf 8), .int 0, (zf 10), .ref v, (zf 12), (zf 13)])), (v, .inr (5, [(zv 0), (zv 1), (zv 2), (zv 3), (zv 4), (zv 5), (zv 6), .int 0]))]) [1, 2] rfl
  have hKc := hK.sub (tys' := []) [] rfl
  have hDc := hD.sub (ws' := [(f, .inr (2, [(zf 0), (zf 1), (zf 2), (zf 3), (zf 4), (zf 5), (zf 6), (zf 7), (zf 8), .int 0, (zf 10), .ref v, (zf 12), (zf 13)])), (v, .inr (5, [(zv 0), (zv 1), (zv 2), (zv 3), (zv 4), (zv 5), (zv 6), .int 0]))]) [1, 2] (by decide) rfl
  have hFc := va_free (wc := [(f, .inr (2, [(zf 0), (zf 1), (zf 2), (zf 3), (zf 4), (zf 5), (zf 6), (zf 7), (zf 8), .int 0, (zf 10), .ref v, (zf 12), (zf 13)])), (v, .inr (5, [(zv 0), (zv 1), (zv 2), (zv 3), (zv 4), (zv 5), (zv 6), .int 0]))]) hD hS hA [1, 2] rfl
  refine va_calli (va_runV (As := []) (rest := []) ⟨hx, hb, hml, hown, hg⟩ (c_F_forget l dC dI H_2.size f v zf zv 0 0) (cwV 0 hg (gw_giV cin_F_forget tw_304 tw_305 tw_306 tw_6) rfl rfl rfl (by decide +kernel) ⟨Nat.le_of_ble_eq_true rfl, Nat.le_of_ble_eq_true rfl⟩) ⟨fun a U g mk q => by obtain ⟨q0, q1, qP, qK, qD⟩ := q; exact ⟨q0, q1, qP, va_K.moved (u := U) (U := U.calling g mk a) (Vm.Alike.refl U.vm) qK, qD⟩, va_recv hKc hPc (ci := 2) (q0 := 0) rfl rfl, fun U hU hW => ⟨rfl, by rw [hU], by rw [hU]; exact hPc, va_K.moved hW.alike hKc, hDc.weaken (fun _ _ _ _ => trivial)⟩⟩ rfl rfl hl.1 rfl (lv_room (Nat.le_of_ble_eq_true rfl)) d_M_clear_11 ⟨Nat.le_of_ble_eq_true rfl, Nat.le_of_ble_eq_true rfl⟩) hS (fun q _ h => hFc q h) hFc (fun r_k_3 u_k_3 t_k_3 H_4 l_k_3 ht hvm hw_k_3 hB hz1 hk1 hS => ?_)
  have hw_k_3 : 0 = r_k_3 := Eq.symm hw_k_3
  subst hw_k_3
  obtain ⟨hP, hD⟩ := tx_rest (wc := [(f, .inr (2, [(zf 0), (zf 1), (zf 2), (zf 3), (zf 4), (zf 5), (zf 6), (zf 7), (zf 8), .int 0, (zf 10), .ref v, (zf 12), (zf 13)])), (v, .inr (5, [(zv 0), (zv 1), (zv 2), (zv 3), (zv 4), (zv 5), (zv 6), .int 0]))]) (wr := [(x, .inr (0, [(zx 0), .ref f, .ref cq, (zx 3)]))]) hP hD [1, 2] [0] rfl rfl (by decide) (by decide) hk1 hFc
  have hK := hK.sub (tys' := []) [] rfl
  exact W.iret (v := 0) hx hb hr (fun t ht hW => ⟨⟨0, (), rfl, rfl, trivial⟩, hS.F ht⟩) hS.2.2 d_M_clear_14
end
section
set_option maxRecDepth 100000 in
theorem tw_801 : (Jvm.Cond.code ({ cls := "TreeMatcher", name := "count", desc := "(I)I" } : Jvm.MethodName) prog_1_method_13_code (2 : Nat) (Option.some Jvm.ClassFile.FieldType.int)) ∈ gw := gw_of (List.mem_of_getElem? (i := 801) rfl) rfl
set_option maxRecDepth 100000 in
theorem tw_802 : (Jvm.Cond.methodLink "TreeMatcher" (160 : Nat) ({ cls := "TreeMatcher$Grammar", name := "operatorCount", desc := "()I" } : Jvm.MethodName)) ∈ gw := gw_of (List.mem_of_getElem? (i := 802) rfl) rfl
set_option maxRecDepth 100000 in
theorem tw_803 : (Jvm.Cond.methodLink "TreeMatcher" (163 : Nat) ({ cls := "TreeMatcher$Grammar", name := "partCount", desc := "()I" } : Jvm.MethodName)) ∈ gw := gw_of (List.mem_of_getElem? (i := 803) rfl) rfl
set_option maxRecDepth 100000 in
theorem tw_804 : (Jvm.Cond.instanceMethod ({ cls := "TreeMatcher$Grammar", name := "partCount", desc := "()I" } : Jvm.MethodName)) ∈ gw := gw_of (List.mem_of_getElem? (i := 804) rfl) rfl
set_option maxRecDepth 100000 in
theorem tw_805 : (Jvm.Cond.selects "TreeMatcher$Grammar" ({ cls := "TreeMatcher$Grammar", name := "partCount", desc := "()I" } : Jvm.MethodName) ({ cls := "TreeMatcher$Grammar", name := "partCount", desc := "()I" } : Jvm.MethodName)) ∈ gw := gw_of (List.mem_of_getElem? (i := 805) rfl) rfl
abbrev b_M_count : ByteArray := prog_1_method_13_code
def y_M_count : MethodName := ⟨"TreeMatcher", "count", "(I)I"⟩
def ws_M_count : List Cond := Cond.code y_M_count b_M_count 2 (Option.some Jvm.ClassFile.FieldType.int) :: gw
theorem cin_M_count : Cond.code y_M_count b_M_count 2 (Option.some Jvm.ClassFile.FieldType.int) ∈ gw := tw_801
theorem d_M_count_0 : decode b_M_count 0 = .ok (.iload_n 1, 1) := by decide +kernel
theorem d_M_count_1 : decode b_M_count 1 = .ok (.tableswitch 87 0 5 #[39, 47, 55, 63, 71, 79], 39) := by decide +kernel
theorem d_M_count_40 : decode b_M_count 40 = .ok (.aload_n 0, 1) := by decide +kernel
theorem d_M_count_41 : decode b_M_count 41 = .ok (.getfield 12, 3) := by decide +kernel
theorem d_M_count_44 : decode b_M_count 44 = .ok (.invokevirtual 160, 3) := by decide +kernel
theorem d_M_count_47 : decode b_M_count 47 = .ok (.ireturn, 1) := by decide +kernel
theorem d_M_count_48 : decode b_M_count 48 = .ok (.aload_n 0, 1) := by decide +kernel
theorem d_M_count_49 : decode b_M_count 49 = .ok (.getfield 12, 3) := by decide +kernel
theorem d_M_count_52 : decode b_M_count 52 = .ok (.invokevirtual 77, 3) := by decide +kernel
theorem d_M_count_55 : decode b_M_count 55 = .ok (.ireturn, 1) := by decide +kernel
theorem d_M_count_56 : decode b_M_count 56 = .ok (.aload_n 0, 1) := by decide +kernel
theorem d_M_count_57 : decode b_M_count 57 = .ok (.getfield 21, 3) := by decide +kernel
theorem d_M_count_60 : decode b_M_count 60 = .ok (.invokevirtual 80, 3) := by decide +kernel
theorem d_M_count_63 : decode b_M_count 63 = .ok (.ireturn, 1) := by decide +kernel
theorem d_M_count_64 : decode b_M_count 64 = .ok (.aload_n 0, 1) := by decide +kernel
theorem d_M_count_65 : decode b_M_count 65 = .ok (.getfield 12, 3) := by decide +kernel
theorem d_M_count_68 : decode b_M_count 68 = .ok (.invokevirtual 67, 3) := by decide +kernel
theorem d_M_count_71 : decode b_M_count 71 = .ok (.ireturn, 1) := by decide +kernel
theorem d_M_count_72 : decode b_M_count 72 = .ok (.aload_n 0, 1) := by decide +kernel
theorem d_M_count_73 : decode b_M_count 73 = .ok (.getfield 12, 3) := by decide +kernel
theorem d_M_count_76 : decode b_M_count 76 = .ok (.invokevirtual 163, 3) := by decide +kernel
theorem d_M_count_79 : decode b_M_count 79 = .ok (.ireturn, 1) := by decide +kernel
theorem d_M_count_80 : decode b_M_count 80 = .ok (.aload_n 0, 1) := by decide +kernel
theorem d_M_count_81 : decode b_M_count 81 = .ok (.getfield 30, 3) := by decide +kernel
theorem d_M_count_84 : decode b_M_count 84 = .ok (.invokevirtual 127, 3) := by decide +kernel
theorem d_M_count_87 : decode b_M_count 87 = .ok (.ireturn, 1) := by decide +kernel
theorem d_M_count_88 : decode b_M_count 88 = .ok (.new 128, 3) := by decide +kernel
theorem d_M_count_91 : decode b_M_count 91 = .ok (.dup, 1) := by decide +kernel
theorem d_M_count_92 : decode b_M_count 92 = .ok (.ldc 166, 2) := by decide +kernel
theorem d_M_count_94 : decode b_M_count 94 = .ok (.invokespecial 132, 3) := by decide +kernel
theorem d_M_count_97 : decode b_M_count 97 = .ok (.athrow, 1) := by decide +kernel
theorem tx_i32 {n : Int32} {k : Int32} {z : Int} (h : ¬ n = k) (hk : k.toInt = z) : ¬ n.toInt = z := fun e => h (Int32.toInt_inj.mp (e.trans hk.symm))
theorem tx_out6 {n : Int32} (h0 : ¬ n = 0) (h1 : ¬ n = 1) (h2 : ¬ n = 2) (h3 : ¬ n = 3) (h4 : ¬ n = 4) (h5 : ¬ n = 5) : n.toInt < 0 ∨ 5 < n.toInt := by
  have g0 := tx_i32 (z := 0) h0 (by decide)
  have g1 := tx_i32 (z := 1) h1 (by decide)
  have g2 := tx_i32 (z := 2) h2 (by decide)
  have g3 := tx_i32 (z := 3) h3 (by decide)
  have g4 := tx_i32 (z := 4) h4 (by decide)
  have g5 := tx_i32 (z := 5) h5 (by decide)
  omega
theorem tx_out6b {n : Int32} (h0 : ¬ n = 0) (h1 : ¬ n = 1) (h2 : ¬ n = 2) (h3 : ¬ n = 3) (h4 : ¬ n = 4) (h5 : ¬ n = 5) : ¬ (0 ≤ n ∧ n < 6) := by
  intro h
  have a := Int32.le_iff_toInt_le.mp h.1
  have b := Int32.lt_iff_toInt_lt.mp h.2
  have a' : (0 : Int) ≤ n.toInt := a
  have b' : n.toInt < 6 := b
  rcases tx_out6 h0 h1 h2 h3 h4 h5 with q | q <;> omega
set_option maxHeartbeats 4000000 in
set_option maxRecDepth 100000 in
theorem c_M_count (l : Launch) (hlf : l.flags = flags0) (dC : Nat → ClassId) (dI : Nat → Nat → Nat) (sz : Nat) (x g f cq pq : Nat) (zx : Nat → Value) (zg : Nat → Value) (zf : Nat → Value) (zcq : Nat → Value) (zpq : Nat → Value) (n : Int32) : tx_Met l y_M_count ws_M_count ({ frames := 6, cells := 1, slots := 6, locals := 90 }) (va_Pc [.ref x, .int n] (fun U => U.heap.size = sz ∧ va_P (dC, dI) kcl [(x, .inr (0, [.ref g, .ref f, .ref cq, (zx 3)])), (g, .inr (1, [(zg 0), .int 0, (zg 2), .int 0, (zg 4), (zg 5), (zg 6), (zg 7), (zg 8), (zg 9), (zg 10), .int 0, (zg 12), .ref pq])), (f, .inr (2, [(zf 0), (zf 1), (zf 2), (zf 3), (zf 4), (zf 5), (zf 6), (zf 7), (zf 8), .int 0, (zf 10), (zf 11), (zf 12), (zf 13)])), (cq, .inr (3, [(zcq 0), (zcq 1), (zcq 2), (zcq 3), (zcq 4), (zcq 5), .int 0])), (pq, .inr (6, [(zpq 0), (zpq 1), (zpq 2), (zpq 3), (zpq 4), .int 16]))] U.heap ∧ va_K (dC, dI) kcl [] U ∧ tx_G (va_A [] sz) U)) (tx_Q (fun v => (0 ≤ n ∧ n < 6) ∧ v = some (.int (if n = 4 then 16 else 0))) (fun X => ¬ (0 ≤ n ∧ n < 6) ∧ X = "java/lang/IndexOutOfBoundsException") (va_A [] sz)) 1 6 (va_A [] sz) := by
  refine tx_ofW (cc := b_M_count) (maxL := 2) (ret := (Option.some Jvm.ClassFile.FieldType.int)) (by decide) rfl ?_
  intro p e s m args below meth c s₁ B hml hout hadm hv
  obtain ⟨rfl, hsz, hP, hK, hG⟩ := hv
  have hP0 := hP
  have hx := B.exec
  have hb := B.bytes
  have hr := B.returns
  have hlocks := B.notSynchronized
  have hg : ∀ w ∈ gw, w.before _ s = true := fun w h => atoms_spec (ws := ws_M_count) B.pre w (List.mem_cons_of_mem _ h)
  have hown : s.vm.findClass "TreeMatcher" = some m.cls := findClass_of_methodNamed B.named
  subst hsz
  have hA : ∀ q : Nat, s.heap.size ≤ q → va_A ([] : va_W) s.heap.size q := fun q h => Or.inr h
  generalize hAe : va_A ([] : va_W) s.heap.size = A at hG hA ⊢
  have hN : tx_N s := hG.1
  have hS : va_S A s.heap s.heap [] := va_S.rf
  have hl := lv_entry ([.ref x, .int n] : List Value) (n := 2) (Nat.le_of_ble_eq_true rfl)
  rw [lg_entry_eq]
  generalize (lg_sl ([.ref x, .int n] : List Value) ++ List.replicate (2 - (lg_sl ([.ref x, .int n] : List Value)).length) Slot.unset).toArray = ls at hl ⊢
  have hl : lv_has ls 2 [(0, .ref x), (1, .int n)] := hl
  refine lv_iload_n hx hb d_M_count_0 rfl (lv_at hl 1 rfl) ?_
  by_cases hn_0 : n = 0
  · subst hn_0
    refine lv_tableIn (tgt := 40) hx hb d_M_count_1 (by decide) (by decide) rfl (by decide) ?_
    refine lv_aload_n hx hb d_M_count_40 rfl (lv_at hl 0 rfl) ?_
    refine va_get (D := (dC, dI)) (ci := 0) (v := .ref g) (C := kR_M) (T := kT_M) (N := 4) hx hb hg kin_M hown hK hP 0 rfl rfl 0 (by decide) (hg _ tw_283) (fun _ h9 => h9) rfl d_M_count_41 ?_
    have hPc := hP.sub (ws' := [(g, .inr (1, [(zg 0), .int 0, (zg 2), .int 0, (zg 4), (zg 5), (zg 6), (zg 7), (zg 8), (zg 9), (zg 10), .int 0, (zg 12), .ref pq]))]) [1] rfl
    have hKc := hK.sub (tys' := []) [] rfl
    refine va_calli (va_runV (As := []) (rest := []) ⟨hx, hb, hml, hown, hg⟩ (c_G_operatorCount l dC dI s.heap.size g (fun i => if i = 13 then .ref pq else if i = 11 then .int 0 else if i = 3 then .int 0 else zg i) 0) (cwV 0 hg (gw_giV cin_G_operatorCount tw_802 tw_763 tw_764 tw_2) rfl rfl rfl (by decide +kernel) ⟨Nat.le_of_ble_eq_true rfl, Nat.le_of_ble_eq_true rfl⟩) ⟨fun a U g mk q => by obtain ⟨q0, q1, qP, qK⟩ := q; exact ⟨q0, q1, qP, va_K.moved (u := U) (U := U.calling g mk a) (Vm.Alike.refl U.vm) qK⟩, va_recv hKc hPc (ci := 1) (q0 := 0) rfl rfl, fun U hU hW => ⟨rfl, by rw [hU], by rw [hU]; exact hPc, va_K.moved hW.alike hKc⟩⟩ rfl rfl hl.1 rfl (lv_room (Nat.le_of_ble_eq_true rfl)) d_M_count_44 ⟨Nat.le_of_ble_eq_true rfl, Nat.le_of_ble_eq_true rfl⟩) hS (fun q h1 h => (tx_pA h1 h).elim) (tx_pF hS hA) (fun r_k_1 u_k_1 t_k_1 H_2 l_k_1 ht hvm hw_k_1 hB hz1 hk1 hS => ?_)
    have hw_k_1 : 0 = r_k_1 := Eq.symm hw_k_1
    subst hw_k_1
    have hP := tx_keep hP hk1
    refine W.widen (k := 1) (n := 6) (Nat.le_of_ble_eq_true rfl) (Nat.le_of_ble_eq_true rfl) ?_
    exact tx_ret (W.iret (v := 0) hx hb hr (fun t ht hW => ⟨Or.inl ⟨_, rfl, ⟨⟨by decide, by decide⟩, rfl⟩⟩, hS.F ht⟩) hS.2.2 d_M_count_47)
  by_cases hn_1 : n = 1
  · subst hn_1
    refine lv_tableIn (tgt := 48) hx hb d_M_count_1 (by decide) (by decide) rfl (by decide) ?_
    refine lv_aload_n hx hb d_M_count_48 rfl (lv_at hl 0 rfl) ?_
    refine va_get (D := (dC, dI)) (ci := 0) (v := .ref g) (C := kR_M) (T := kT_M) (N := 4) hx hb hg kin_M hown hK hP 0 rfl rfl 0 (by decide) (hg _ tw_283) (fun _ h9 => h9) rfl d_M_count_49 ?_
    have hPc := hP.sub (ws' := [(g, .inr (1, [(zg 0), .int 0, (zg 2), .int 0, (zg 4), (zg 5), (zg 6), (zg 7), (zg 8), (zg 9), (zg 10), .int 0, (zg 12), .ref pq]))]) [1] rfl
    have hKc := hK.sub (tys' := []) [] rfl
    refine va_calli (va_runV (As := []) (rest := []) ⟨hx, hb, hml, hown, hg⟩ (c_G_ruleCount l dC dI s.heap.size g (fun i => if i = 13 then .ref pq else if i = 3 then .int 0 else if i = 1 then .int 0 else zg i) 0) (cwV 0 hg (gw_giV cin_G_ruleCount tw_441 tw_442 tw_443 tw_2) rfl rfl rfl (by decide +kernel) ⟨Nat.le_of_ble_eq_true rfl, Nat.le_of_ble_eq_true rfl⟩) ⟨fun a U g mk q => by obtain ⟨q0, q1, qP, qK⟩ := q; exact ⟨q0, q1, qP, va_K.moved (u := U) (U := U.calling g mk a) (Vm.Alike.refl U.vm) qK⟩, va_recv hKc hPc (ci := 1) (q0 := 0) rfl rfl, fun U hU hW => ⟨rfl, by rw [hU], by rw [hU]; exact hPc, va_K.moved hW.alike hKc⟩⟩ rfl rfl hl.1 rfl (lv_room (Nat.le_of_ble_eq_true rfl)) d_M_count_52 ⟨Nat.le_of_ble_eq_true rfl, Nat.le_of_ble_eq_true rfl⟩) hS (fun q h1 h => (tx_pA h1 h).elim) (tx_pF hS hA) (fun r_k_3 u_k_3 t_k_3 H_4 l_k_3 ht hvm hw_k_3 hB hz1 hk1 hS => ?_)
    have hw_k_3 : 0 = r_k_3 := Eq.symm hw_k_3
    subst hw_k_3
    have hP := tx_keep hP hk1
    refine W.widen (k := 1) (n := 6) (Nat.le_of_ble_eq_true rfl) (Nat.le_of_ble_eq_true rfl) ?_
    exact tx_ret (W.iret (v := 0) hx hb hr (fun t ht hW => ⟨Or.inl ⟨_, rfl, ⟨⟨by decide, by decide⟩, rfl⟩⟩, hS.F ht⟩) hS.2.2 d_M_count_55)
  by_cases hn_2 : n = 2
  · subst hn_2
    refine lv_tableIn (tgt := 56) hx hb d_M_count_1 (by decide) (by decide) rfl (by decide) ?_
    refine lv_aload_n hx hb d_M_count_56 rfl (lv_at hl 0 rfl) ?_
    refine va_get (D := (dC, dI)) (ci := 0) (v := .ref f) (C := kR_M) (T := kT_M) (N := 4) hx hb hg kin_M hown hK hP 0 rfl rfl 1 (by decide) (hg _ tw_284) (fun _ h9 => h9) rfl d_M_count_57 ?_
    have hPc := hP.sub (ws' := [(f, .inr (2, [(zf 0), (zf 1), (zf 2), (zf 3), (zf 4), (zf 5), (zf 6), (zf 7), (zf 8), .int 0, (zf 10), (zf 11), (zf 12), (zf 13)]))]) [2] rfl
    have hKc := hK.sub (tys' := []) [] rfl
    refine va_calli (va_runV (As := []) (rest := []) ⟨hx, hb, hml, hown, hg⟩ (c_F_size l dC dI s.heap.size f zf 0) (cwV 0 hg (gw_giV cin_F_size tw_445 tw_446 tw_447 tw_6) rfl rfl rfl (by decide +kernel) ⟨Nat.le_of_ble_eq_true rfl, Nat.le_of_ble_eq_true rfl⟩) ⟨fun a U g mk q => by obtain ⟨q0, q1, qP, qK⟩ := q; exact ⟨q0, q1, qP, va_K.moved (u := U) (U := U.calling g mk a) (Vm.Alike.refl U.vm) qK⟩, va_recv hKc hPc (ci := 2) (q0 := 0) rfl rfl, fun U hU hW => ⟨rfl, by rw [hU], by rw [hU]; exact hPc, va_K.moved hW.alike hKc⟩⟩ rfl rfl hl.1 rfl (lv_room (Nat.le_of_ble_eq_true rfl)) d_M_count_60 ⟨Nat.le_of_ble_eq_true rfl, Nat.le_of_ble_eq_true rfl⟩) hS (fun q h1 h => (tx_pA h1 h).elim) (tx_pF hS hA) (fun r_k_5 u_k_5 t_k_5 H_6 l_k_5 ht hvm hw_k_5 hB hz1 hk1 hS => ?_)
    have hw_k_5 : 0 = r_k_5 := Eq.symm hw_k_5
    subst hw_k_5
    have hP := tx_keep hP hk1
    refine W.widen (k := 1) (n := 6) (Nat.le_of_ble_eq_true rfl) (Nat.le_of_ble_eq_true rfl) ?_
    exact tx_ret (W.iret (v := 0) hx hb hr (fun t ht hW => ⟨Or.inl ⟨_, rfl, ⟨⟨by decide, by decide⟩, rfl⟩⟩, hS.F ht⟩) hS.2.2 d_M_count_63)
  by_cases hn_3 : n = 3
  · subst hn_3
    refine lv_tableIn (tgt := 64) hx hb d_M_count_1 (by decide) (by decide) rfl (by decide) ?_
    refine lv_aload_n hx hb d_M_count_64 rfl (lv_at hl 0 rfl) ?_
    refine va_get (D := (dC, dI)) (ci := 0) (v := .ref g) (C := kR_M) (T := kT_M) (N := 4) hx hb hg kin_M hown hK hP 0 rfl rfl 0 (by decide) (hg _ tw_283) (fun _ h9 => h9) rfl d_M_count_65 ?_
    have hPc := hP.sub (ws' := [(g, .inr (1, [(zg 0), .int 0, (zg 2), .int 0, (zg 4), (zg 5), (zg 6), (zg 7), (zg 8), (zg 9), (zg 10), .int 0, (zg 12), .ref pq]))]) [1] rfl
    have hKc := hK.sub (tys' := []) [] rfl
    refine va_calli (va_runV (As := []) (rest := []) ⟨hx, hb, hml, hown, hg⟩ (c_G_handSize l dC dI s.heap.size g (fun i => if i = 13 then .ref pq else if i = 11 then .int 0 else if i = 1 then .int 0 else zg i) 0) (cwV 0 hg (gw_giV cin_G_handSize tw_425 tw_426 tw_427 tw_2) rfl rfl rfl (by decide +kernel) ⟨Nat.le_of_ble_eq_true rfl, Nat.le_of_ble_eq_true rfl⟩) ⟨fun a U g mk q => by obtain ⟨q0, q1, qP, qK⟩ := q; exact ⟨q0, q1, qP, va_K.moved (u := U) (U := U.calling g mk a) (Vm.Alike.refl U.vm) qK⟩, va_recv hKc hPc (ci := 1) (q0 := 0) rfl rfl, fun U hU hW => ⟨rfl, by rw [hU], by rw [hU]; exact hPc, va_K.moved hW.alike hKc⟩⟩ rfl rfl hl.1 rfl (lv_room (Nat.le_of_ble_eq_true rfl)) d_M_count_68 ⟨Nat.le_of_ble_eq_true rfl, Nat.le_of_ble_eq_true rfl⟩) hS (fun q h1 h => (tx_pA h1 h).elim) (tx_pF hS hA) (fun r_k_7 u_k_7 t_k_7 H_8 l_k_7 ht hvm hw_k_7 hB hz1 hk1 hS => ?_)
    have hw_k_7 : 0 = r_k_7 := Eq.symm hw_k_7
    subst hw_k_7
    have hP := tx_keep hP hk1
    refine W.widen (k := 1) (n := 6) (Nat.le_of_ble_eq_true rfl) (Nat.le_of_ble_eq_true rfl) ?_
    exact tx_ret (W.iret (v := 0) hx hb hr (fun t ht hW => ⟨Or.inl ⟨_, rfl, ⟨⟨by decide, by decide⟩, rfl⟩⟩, hS.F ht⟩) hS.2.2 d_M_count_71)
  by_cases hn_4 : n = 4
  · subst hn_4
    refine lv_tableIn (tgt := 72) hx hb d_M_count_1 (by decide) (by decide) rfl (by decide) ?_
    refine lv_aload_n hx hb d_M_count_72 rfl (lv_at hl 0 rfl) ?_
    refine va_get (D := (dC, dI)) (ci := 0) (v := .ref g) (C := kR_M) (T := kT_M) (N := 4) hx hb hg kin_M hown hK hP 0 rfl rfl 0 (by decide) (hg _ tw_283) (fun _ h9 => h9) rfl d_M_count_73 ?_
    have hPc := hP.sub (ws' := [(g, .inr (1, [(zg 0), .int 0, (zg 2), .int 0, (zg 4), (zg 5), (zg 6), (zg 7), (zg 8), (zg 9), (zg 10), .int 0, (zg 12), .ref pq])), (pq, .inr (6, [(zpq 0), (zpq 1), (zpq 2), (zpq 3), (zpq 4), .int 16]))]) [1, 4] rfl
    have hKc := hK.sub (tys' := []) [] rfl
    refine va_calli (va_runV (As := []) (rest := []) ⟨hx, hb, hml, hown, hg⟩ (c_G_partCount l dC dI s.heap.size g pq (fun i => if i = 11 then .int 0 else if i = 3 then .int 0 else if i = 1 then .int 0 else zg i) zpq 16) (cwV 0 hg (gw_giV cin_G_partCount tw_803 tw_804 tw_805 tw_2) rfl rfl rfl (by decide +kernel) ⟨Nat.le_of_ble_eq_true rfl, Nat.le_of_ble_eq_true rfl⟩) ⟨fun a U g mk q => by obtain ⟨q0, q1, qP, qK⟩ := q; exact ⟨q0, q1, qP, va_K.moved (u := U) (U := U.calling g mk a) (Vm.Alike.refl U.vm) qK⟩, va_recv hKc hPc (ci := 1) (q0 := 0) rfl rfl, fun U hU hW => ⟨rfl, by rw [hU], by rw [hU]; exact hPc, va_K.moved hW.alike hKc⟩⟩ rfl rfl hl.1 rfl (lv_room (Nat.le_of_ble_eq_true rfl)) d_M_count_76 ⟨Nat.le_of_ble_eq_true rfl, Nat.le_of_ble_eq_true rfl⟩) hS (fun q h1 h => (tx_pA h1 h).elim) (tx_pF hS hA) (fun r_k_9 u_k_9 t_k_9 H_10 l_k_9 ht hvm hw_k_9 hB hz1 hk1 hS => ?_)
    have hw_k_9 : 16 = r_k_9 := Eq.symm hw_k_9
    subst hw_k_9
    have hP := tx_keep hP hk1
    refine W.widen (k := 1) (n := 6) (Nat.le_of_ble_eq_true rfl) (Nat.le_of_ble_eq_true rfl) ?_
    exact tx_ret (W.iret (v := 16) hx hb hr (fun t ht hW => ⟨Or.inl ⟨_, rfl, ⟨⟨by decide, by decide⟩, rfl⟩⟩, hS.F ht⟩) hS.2.2 d_M_count_79)
  by_cases hn_5 : n = 5
  · subst hn_5
    refine lv_tableIn (tgt := 80) hx hb d_M_count_1 (by decide) (by decide) rfl (by decide) ?_
    refine lv_aload_n hx hb d_M_count_80 rfl (lv_at hl 0 rfl) ?_
    refine va_get (D := (dC, dI)) (ci := 0) (v := .ref cq) (C := kR_M) (T := kT_M) (N := 4) hx hb hg kin_M hown hK hP 0 rfl rfl 2 (by decide) (hg _ tw_285) (fun _ h9 => h9) rfl d_M_count_81 ?_
    have hPc := hP.sub (ws' := [(cq, .inr (3, [(zcq 0), (zcq 1), (zcq 2), (zcq 3), (zcq 4), (zcq 5), .int 0]))]) [3] rfl
    have hKc := hK.sub (tys' := []) [] rfl
    refine va_calli (va_runV (As := []) (rest := []) ⟨hx, hb, hml, hown, hg⟩ (c_C_size l dC dI s.heap.size cq zcq 0) (cwV 0 hg (gw_giV cin_C_size tw_729 tw_730 tw_731 tw_9) rfl rfl rfl (by decide +kernel) ⟨Nat.le_of_ble_eq_true rfl, Nat.le_of_ble_eq_true rfl⟩) ⟨fun a U g mk q => by obtain ⟨q0, q1, qP, qK⟩ := q; exact ⟨q0, q1, qP, va_K.moved (u := U) (U := U.calling g mk a) (Vm.Alike.refl U.vm) qK⟩, va_recv hKc hPc (ci := 3) (q0 := 0) rfl rfl, fun U hU hW => ⟨rfl, by rw [hU], by rw [hU]; exact hPc, va_K.moved hW.alike hKc⟩⟩ rfl rfl hl.1 rfl (lv_room (Nat.le_of_ble_eq_true rfl)) d_M_count_84 ⟨Nat.le_of_ble_eq_true rfl, Nat.le_of_ble_eq_true rfl⟩) hS (fun q h1 h => (tx_pA h1 h).elim) (tx_pF hS hA) (fun r_k_11 u_k_11 t_k_11 H_12 l_k_11 ht hvm hw_k_11 hB hz1 hk1 hS => ?_)
    have hw_k_11 : 0 = r_k_11 := Eq.symm hw_k_11
    subst hw_k_11
    have hP := tx_keep hP hk1
    refine W.widen (k := 1) (n := 6) (Nat.le_of_ble_eq_true rfl) (Nat.le_of_ble_eq_true rfl) ?_
    exact tx_ret (W.iret (v := 0) hx hb hr (fun t ht hW => ⟨Or.inl ⟨_, rfl, ⟨⟨by decide, by decide⟩, rfl⟩⟩, hS.F ht⟩) hS.2.2 d_M_count_87)
  refine lv_tableOut (tgt := 88) hx hb d_M_count_1 (tx_out6 hn_0 hn_1 hn_2 hn_3 hn_4 hn_5) (by decide) ?_
  obtain ⟨qs, hqs⟩ := tx_str166 hG.2.1
  exact tx_throwNew (names := tx_nm) hx hb hlf hout hlocks hown (hg _ tw_665) (hg _ tw_666) (hg _ tw_19) (tx_ownIOB hg hG) (by decide +kernel) (by decide +kernel) hqs (fun x h => by cases h) (hl.1.trans hml.symm) hS (Nat.le_of_ble_eq_true rfl) (Nat.le_of_ble_eq_true rfl) (Nat.le_of_ble_eq_true rfl) (Nat.le_of_ble_eq_true rfl) d_M_count_88 d_M_count_91 d_M_count_92 d_M_count_94 d_M_count_97 ⟨tx_out6b hn_0 hn_1 hn_2 hn_3 hn_4 hn_5, rfl⟩
end
section
set_option maxRecDepth 100000 in
theorem tw_3 : (Jvm.Cond.initialized "TreeMatcher$Groups") ∈ gw := gw_of (List.mem_of_getElem? (i := 3) rfl) rfl
set_option maxRecDepth 100000 in
theorem tw_26 : (Jvm.Cond.instanceMethod ({ cls := "java/lang/Object", name := "<init>", desc := "()V" } : Jvm.MethodName)) ∈ gw := gw_of (List.mem_of_getElem? (i := 26) rfl) rfl
set_option maxRecDepth 100000 in
theorem tw_27 : (Jvm.Cond.code ({ cls := "java/lang/Object", name := "<init>", desc := "()V" } : Jvm.MethodName) object_method_1_code (1 : Nat) (Option.none : Option Jvm.ClassFile.FieldType)) ∈ gw := gw_of (List.mem_of_getElem? (i := 27) rfl) rfl
set_option maxRecDepth 100000 in
theorem tw_35 : (Jvm.Cond.instantiable "TreeMatcher$Groups" (3 : Nat)) ∈ gw := gw_of (List.mem_of_getElem? (i := 35) rfl) rfl
set_option maxRecDepth 100000 in
theorem tw_37 : (Jvm.Cond.instanceMethod ({ cls := "TreeMatcher$Groups", name := "<init>", desc := "(II)V" } : Jvm.MethodName)) ∈ gw := gw_of (List.mem_of_getElem? (i := 37) rfl) rfl
set_option maxRecDepth 100000 in
theorem tw_38 : (Jvm.Cond.code ({ cls := "TreeMatcher$Groups", name := "<init>", desc := "(II)V" } : Jvm.MethodName) prog_5_method_1_code (3 : Nat) (Option.none : Option Jvm.ClassFile.FieldType)) ∈ gw := gw_of (List.mem_of_getElem? (i := 38) rfl) rfl
set_option maxRecDepth 100000 in
theorem tw_39 : (Jvm.Cond.methodLink "TreeMatcher$Groups" (1 : Nat) ({ cls := "java/lang/Object", name := "<init>", desc := "()V" } : Jvm.MethodName)) ∈ gw := gw_of (List.mem_of_getElem? (i := 39) rfl) rfl
set_option maxRecDepth 100000 in
theorem tw_40 : (Jvm.Cond.fieldLink "TreeMatcher$Groups" (7 : Nat) "TreeMatcher$Groups" "groups" "I") ∈ gw := gw_of (List.mem_of_getElem? (i := 40) rfl) rfl
set_option maxRecDepth 100000 in
theorem tw_41 : (Jvm.Cond.fieldLink "TreeMatcher$Groups" (13 : Nat) "TreeMatcher$Groups" "starts" "[I") ∈ gw := gw_of (List.mem_of_getElem? (i := 41) rfl) rfl
set_option maxRecDepth 100000 in
theorem tw_42 : (Jvm.Cond.fieldLink "TreeMatcher$Groups" (17 : Nat) "TreeMatcher$Groups" "members" "[I") ∈ gw := gw_of (List.mem_of_getElem? (i := 42) rfl) rfl
set_option maxRecDepth 100000 in
theorem tw_50 : (Jvm.Cond.arrayClass Jvm.ClassFile.FieldType.int) ∈ gw := gw_of (List.mem_of_getElem? (i := 50) rfl) rfl
set_option maxRecDepth 100000 in
theorem tw_55 : (Jvm.Cond.code ({ cls := "TreeMatcher$Parts", name := "<init>", desc := "()V" } : Jvm.MethodName) prog_7_method_1_code (1 : Nat) (Option.none : Option Jvm.ClassFile.FieldType)) ∈ gw := gw_of (List.mem_of_getElem? (i := 55) rfl) rfl
set_option maxRecDepth 100000 in
theorem tw_56 : (Jvm.Cond.methodLink "TreeMatcher$Parts" (3 : Nat) ({ cls := "java/lang/Object", name := "<init>", desc := "()V" } : Jvm.MethodName)) ∈ gw := gw_of (List.mem_of_getElem? (i := 56) rfl) rfl
set_option maxRecDepth 100000 in
theorem tw_57 : (Jvm.Cond.classLink "TreeMatcher$Parts" (24 : Nat) "TreeMatcher$Groups") ∈ gw := gw_of (List.mem_of_getElem? (i := 57) rfl) rfl
set_option maxRecDepth 100000 in
theorem tw_58 : (Jvm.Cond.methodLink "TreeMatcher$Parts" (26 : Nat) ({ cls := "TreeMatcher$Groups", name := "<init>", desc := "(II)V" } : Jvm.MethodName)) ∈ gw := gw_of (List.mem_of_getElem? (i := 58) rfl) rfl
set_option maxRecDepth 100000 in
theorem tw_59 : (Jvm.Cond.fieldLink "TreeMatcher$Parts" (11 : Nat) "TreeMatcher$Parts" "lefts" "[I") ∈ gw := gw_of (List.mem_of_getElem? (i := 59) rfl) rfl
set_option maxRecDepth 100000 in
theorem tw_60 : (Jvm.Cond.fieldLink "TreeMatcher$Parts" (15 : Nat) "TreeMatcher$Parts" "rights" "[I") ∈ gw := gw_of (List.mem_of_getElem? (i := 60) rfl) rfl
set_option maxRecDepth 100000 in
theorem tw_61 : (Jvm.Cond.fieldLink "TreeMatcher$Parts" (18 : Nat) "TreeMatcher$Parts" "rules" "[I") ∈ gw := gw_of (List.mem_of_getElem? (i := 61) rfl) rfl
set_option maxRecDepth 100000 in
theorem tw_62 : (Jvm.Cond.fieldLink "TreeMatcher$Parts" (21 : Nat) "TreeMatcher$Parts" "open" "[I") ∈ gw := gw_of (List.mem_of_getElem? (i := 62) rfl) rfl
set_option maxRecDepth 100000 in
theorem tw_63 : (Jvm.Cond.fieldLink "TreeMatcher$Parts" (29 : Nat) "TreeMatcher$Parts" "byOperator" "LTreeMatcher$Groups;") ∈ gw := gw_of (List.mem_of_getElem? (i := 63) rfl) rfl
set_option maxRecDepth 100000 in
theorem tw_134 : (Jvm.Cond.code ({ cls := "TreeMatcher$Labels", name := "<init>", desc := "(LTreeMatcher$Grammar;)V" } : Jvm.MethodName) prog_6_method_1_code (2 : Nat) (Option.none : Option Jvm.ClassFile.FieldType)) ∈ gw := gw_of (List.mem_of_getElem? (i := 134) rfl) rfl
set_option maxRecDepth 100000 in
theorem tw_135 : (Jvm.Cond.methodLink "TreeMatcher$Labels" (3 : Nat) ({ cls := "java/lang/Object", name := "<init>", desc := "()V" } : Jvm.MethodName)) ∈ gw := gw_of (List.mem_of_getElem? (i := 135) rfl) rfl
set_option maxRecDepth 100000 in
theorem tw_136 : (Jvm.Cond.fieldLink "TreeMatcher$Labels" (19 : Nat) "TreeMatcher$Labels" "grammar" "LTreeMatcher$Grammar;") ∈ gw := gw_of (List.mem_of_getElem? (i := 136) rfl) rfl
set_option maxRecDepth 100000 in
theorem tw_137 : (Jvm.Cond.fieldLink "TreeMatcher$Labels" (9 : Nat) "TreeMatcher$Labels" "costs" "[J") ∈ gw := gw_of (List.mem_of_getElem? (i := 137) rfl) rfl
set_option maxRecDepth 100000 in
theorem tw_138 : (Jvm.Cond.fieldLink "TreeMatcher$Labels" (15 : Nat) "TreeMatcher$Labels" "rules" "[I") ∈ gw := gw_of (List.mem_of_getElem? (i := 138) rfl) rfl
set_option maxRecDepth 100000 in
theorem tw_147 : (Jvm.Cond.arrayClass Jvm.ClassFile.FieldType.long) ∈ gw := gw_of (List.mem_of_getElem? (i := 147) rfl) rfl
abbrev b_U_init : ByteArray := prog_5_method_1_code
def y_U_init : MethodName := ⟨"TreeMatcher$Groups", "<init>", "(II)V"⟩
def ws_U_init : List Cond := Cond.code y_U_init b_U_init 3 (Option.none : Option Jvm.ClassFile.FieldType) :: gw
theorem cin_U_init : Cond.code y_U_init b_U_init 3 (Option.none : Option Jvm.ClassFile.FieldType) ∈ gw := tw_38
abbrev b_P_init : ByteArray := prog_7_method_1_code
def y_P_init : MethodName := ⟨"TreeMatcher$Parts", "<init>", "()V"⟩
def ws_P_init : List Cond := Cond.code y_P_init b_P_init 1 (Option.none : Option Jvm.ClassFile.FieldType) :: gw
theorem cin_P_init : Cond.code y_P_init b_P_init 1 (Option.none : Option Jvm.ClassFile.FieldType) ∈ gw := tw_55
abbrev b_L_init : ByteArray := prog_6_method_1_code
def y_L_init : MethodName := ⟨"TreeMatcher$Labels", "<init>", "(LTreeMatcher$Grammar;)V"⟩
def ws_L_init : List Cond := Cond.code y_L_init b_L_init 2 (Option.none : Option Jvm.ClassFile.FieldType) :: gw
theorem cin_L_init : Cond.code y_L_init b_L_init 2 (Option.none : Option Jvm.ClassFile.FieldType) ∈ gw := tw_134
theorem d_U_init_0 : decode b_U_init 0 = .ok (.aload_n 0, 1) := by decide +kernel
theorem d_U_init_1 : decode b_U_init 1 = .ok (.invokespecial 1, 3) := by decide +kernel
theorem d_U_init_4 : decode b_U_init 4 = .ok (.aload_n 0, 1) := by decide +kernel
theorem d_U_init_5 : decode b_U_init 5 = .ok (.iload_n 1, 1) := by decide +kernel
theorem d_U_init_6 : decode b_U_init 6 = .ok (.putfield 7, 3) := by decide +kernel
theorem d_U_init_9 : decode b_U_init 9 = .ok (.aload_n 0, 1) := by decide +kernel
theorem d_U_init_10 : decode b_U_init 10 = .ok (.iload_n 1, 1) := by decide +kernel
theorem d_U_init_11 : decode b_U_init 11 = .ok (.iconst 1, 1) := by decide +kernel
theorem d_U_init_12 : decode b_U_init 12 = .ok (.iadd, 1) := by decide +kernel
theorem d_U_init_13 : decode b_U_init 13 = .ok (.newarray .int, 2) := by decide +kernel
theorem d_U_init_15 : decode b_U_init 15 = .ok (.putfield 13, 3) := by decide +kernel
theorem d_U_init_18 : decode b_U_init 18 = .ok (.aload_n 0, 1) := by decide +kernel
theorem d_U_init_19 : decode b_U_init 19 = .ok (.iload_n 2, 1) := by decide +kernel
theorem d_U_init_20 : decode b_U_init 20 = .ok (.newarray .int, 2) := by decide +kernel
theorem d_U_init_22 : decode b_U_init 22 = .ok (.putfield 17, 3) := by decide +kernel
theorem d_U_init_25 : decode b_U_init 25 = .ok (.return_, 1) := by decide +kernel
theorem d_P_init_0 : decode b_P_init 0 = .ok (.aload_n 0, 1) := by decide +kernel
theorem d_P_init_1 : decode b_P_init 1 = .ok (.invokespecial 3, 3) := by decide +kernel
theorem d_P_init_4 : decode b_P_init 4 = .ok (.aload_n 0, 1) := by decide +kernel
theorem d_P_init_5 : decode b_P_init 5 = .ok (.sipush 784, 3) := by decide +kernel
theorem d_P_init_8 : decode b_P_init 8 = .ok (.newarray .int, 2) := by decide +kernel
theorem d_P_init_10 : decode b_P_init 10 = .ok (.putfield 11, 3) := by decide +kernel
theorem d_P_init_13 : decode b_P_init 13 = .ok (.aload_n 0, 1) := by decide +kernel
theorem d_P_init_14 : decode b_P_init 14 = .ok (.sipush 784, 3) := by decide +kernel
theorem d_P_init_17 : decode b_P_init 17 = .ok (.newarray .int, 2) := by decide +kernel
theorem d_P_init_19 : decode b_P_init 19 = .ok (.putfield 15, 3) := by decide +kernel
theorem d_P_init_22 : decode b_P_init 22 = .ok (.aload_n 0, 1) := by decide +kernel
theorem d_P_init_23 : decode b_P_init 23 = .ok (.sipush 784, 3) := by decide +kernel
theorem d_P_init_26 : decode b_P_init 26 = .ok (.newarray .int, 2) := by decide +kernel
theorem d_P_init_28 : decode b_P_init 28 = .ok (.putfield 18, 3) := by decide +kernel
theorem d_P_init_31 : decode b_P_init 31 = .ok (.aload_n 0, 1) := by decide +kernel
theorem d_P_init_32 : decode b_P_init 32 = .ok (.bipush 12, 2) := by decide +kernel
theorem d_P_init_34 : decode b_P_init 34 = .ok (.newarray .int, 2) := by decide +kernel
theorem d_P_init_36 : decode b_P_init 36 = .ok (.putfield 21, 3) := by decide +kernel
theorem d_P_init_39 : decode b_P_init 39 = .ok (.aload_n 0, 1) := by decide +kernel
theorem d_P_init_40 : decode b_P_init 40 = .ok (.new 24, 3) := by decide +kernel
theorem d_P_init_43 : decode b_P_init 43 = .ok (.dup, 1) := by decide +kernel
theorem d_P_init_44 : decode b_P_init 44 = .ok (.bipush 32, 2) := by decide +kernel
theorem d_P_init_46 : decode b_P_init 46 = .ok (.sipush 768, 3) := by decide +kernel
theorem d_P_init_49 : decode b_P_init 49 = .ok (.invokespecial 26, 3) := by decide +kernel
theorem d_P_init_52 : decode b_P_init 52 = .ok (.putfield 29, 3) := by decide +kernel
theorem d_P_init_55 : decode b_P_init 55 = .ok (.aload_n 0, 1) := by decide +kernel
theorem d_P_init_56 : decode b_P_init 56 = .ok (.bipush 16, 2) := by decide +kernel
theorem d_P_init_58 : decode b_P_init 58 = .ok (.putfield 33, 3) := by decide +kernel
theorem d_P_init_61 : decode b_P_init 61 = .ok (.return_, 1) := by decide +kernel
theorem d_L_init_0 : decode b_L_init 0 = .ok (.aload_n 0, 1) := by decide +kernel
theorem d_L_init_1 : decode b_L_init 1 = .ok (.invokespecial 3, 3) := by decide +kernel
theorem d_L_init_4 : decode b_L_init 4 = .ok (.aload_n 0, 1) := by decide +kernel
theorem d_L_init_5 : decode b_L_init 5 = .ok (.bipush 16, 2) := by decide +kernel
theorem d_L_init_7 : decode b_L_init 7 = .ok (.newarray .long, 2) := by decide +kernel
theorem d_L_init_9 : decode b_L_init 9 = .ok (.putfield 9, 3) := by decide +kernel
theorem d_L_init_12 : decode b_L_init 12 = .ok (.aload_n 0, 1) := by decide +kernel
theorem d_L_init_13 : decode b_L_init 13 = .ok (.bipush 16, 2) := by decide +kernel
theorem d_L_init_15 : decode b_L_init 15 = .ok (.newarray .int, 2) := by decide +kernel
theorem d_L_init_17 : decode b_L_init 17 = .ok (.putfield 15, 3) := by decide +kernel
theorem d_L_init_20 : decode b_L_init 20 = .ok (.aload_n 0, 1) := by decide +kernel
theorem d_L_init_21 : decode b_L_init 21 = .ok (.aload_n 1, 1) := by decide +kernel
theorem d_L_init_22 : decode b_L_init 22 = .ok (.putfield 19, 3) := by decide +kernel
theorem d_L_init_25 : decode b_L_init 25 = .ok (.return_, 1) := by decide +kernel
set_option maxHeartbeats 4000000 in
set_option maxRecDepth 100000 in
theorem c_U_init_17 (l : Launch) (dC : Nat → ClassId) (dI : Nat → Nat → Nat) (sz : Nat) (u : Nat) : Met l y_U_init ws_U_init ({ frames := 1, cells := 2, slots := 82, locals := 12 }) (va_Pc [.ref u, .int 17, .int 64] (fun U => U.heap.size = sz ∧ va_P (dC, dI) kcl [(u, .inr (7, [.int 0, .null, .null]))] U.heap ∧ va_K (dC, dI) kcl [] U ∧ va_D (fun _ => True) [(u, .inr (7, [.int 0, .null, .null]))])) (va_Qv (fun (_ : Unit) => True) (fun (_ : Unit) (_ : State) => True) (va_A [(u, .inr (7, [.int 0, .null, .null]))] sz)) 2 82 (va_A [(u, .inr (7, [.int 0, .null, .null]))] sz) := by
  refine Met.ofW (cc := b_U_init) (maxL := 3) (ret := (Option.none : Option Jvm.ClassFile.FieldType)) (by decide) rfl ?_
  intro p e s m args below meth c s₁ B hml hv
  obtain ⟨rfl, hsz, hP, hK, hD0⟩ := hv
  have hx := B.exec
  have hb := B.bytes
  have hr := B.returns
  have hlocks := B.notSynchronized
  have hg : ∀ w ∈ gw, w.before _ s = true := fun w h => atoms_spec (ws := ws_U_init) B.pre w (List.mem_cons_of_mem _ h)
  have hown : s.vm.findClass "TreeMatcher$Groups" = some m.cls := findClass_of_methodNamed B.named
  have hin : meth.name = "<init>" := (name_of_methodNamed B.named B.method).1
  subst hsz
  have hD := hD0.self (sz := s.heap.size)
  have hA : ∀ q : Nat, s.heap.size ≤ q → va_A [(u, .inr (7, [.int 0, .null, .null]))] s.heap.size q := fun q h => Or.inr h
  generalize hAe : va_A [(u, .inr (7, [.int 0, .null, .null]))] s.heap.size = A at hD hA ⊢
  have hS : va_S A s.heap s.heap [] := va_S.rf
  have hl := lv_entry ([.ref u, .int 17, .int 64] : List Value) (n := 3) (Nat.le_of_ble_eq_true rfl)
  rw [lg_entry_eq]
  generalize (lg_sl ([.ref u, .int 17, .int 64] : List Value) ++ List.replicate (3 - (lg_sl ([.ref u, .int 17, .int 64] : List Value)).length) Slot.unset).toArray = ls at hl ⊢
  have hl : lv_has ls 3 [(0, .ref u), (1, .int 17), (2, .int 64)] := hl
  refine lv_aload_n hx hb d_U_init_0 rfl (lv_at hl 0 rfl) ?_
  refine W.objInit hx hb hown (hg _ tw_39) (hg _ tw_26) (hg _ tw_27) rfl (by rw [hml]; exact hl.1) rfl d_U_init_1 (Nat.le_of_ble_eq_true rfl) (Nat.le_of_ble_eq_true rfl) ?_
  refine W.eq (g2 := F0 m 4 ls []) rfl ?_
  refine lv_aload_n hx hb d_U_init_4 rfl (lv_at hl 0 rfl) ?_
  refine lv_iload_n hx hb d_U_init_5 rfl (lv_at hl 1 rfl) ?_
  refine va_putF (D := (dC, dI)) (ci := 7) (v := .int 17) (ty := .int) (C := kR_U) (T := kT_U) (N := 3) hx hb hg kin_U kt_U kty_U knm_U hown hK hP hD hS 0 rfl rfl 0 (by decide) (hg _ tw_40) (fun _ h9 => h9) rfl hin rfl (by decide +kernel) rfl rfl (Nat.le_of_ble_eq_true rfl) d_U_init_6 (fun H_1 lo_2 hP hD hS => ?_)
  have hP : va_P (dC, dI) kcl [(u, .inr (7, [.int 17, .null, .null]))] H_1 := hP
  have hD : va_D A [(u, .inr (7, [.int 17, .null, .null]))] := hD
  refine lv_aload_n hx hb d_U_init_9 rfl (lv_at hl 0 rfl) ?_
  refine lv_iload_n hx hb d_U_init_10 rfl (lv_at hl 1 rfl) ?_
  refine lv_iconst (v := 1) hx hb d_U_init_11 (by decide) ?_
  refine lv_iadd hx hb d_U_init_12 ?_
  refine va_newa (atype := .int) (ty := .int) (a0 := (18, .inl (fun _ => 0))) (N' := 18) hx hb (hg _ tw_50) rfl hK hP hD hS hA (fun _ => rfl) (by decide) (by decide +kernel) (by decide) (Nat.le_of_ble_eq_true rfl) (Nat.le_of_ble_eq_true rfl) d_U_init_13 (fun q_4 cq_4 H_3 hK hP hD hS => ?_)
  have hP := hP.sub (ws' := [(u, .inr (7, [.int 17, .null, .null]))]) [0] rfl
  have hD := hD.sub (ws' := [(u, .inr (7, [.int 17, .null, .null]))]) [0] (by decide) rfl
  have hK := hK.sub (tys' := []) [] rfl
  refine va_putF (D := (dC, dI)) (ci := 7) (v := .ref q_4) (ty := .array .int) (C := kR_U) (T := kT_U) (N := 3) hx hb hg kin_U kt_U kty_U knm_U hown hK hP hD hS 0 rfl rfl 1 (by decide) (hg _ tw_41) (fun _ h9 => h9) rfl hin rfl (by decide +kernel) rfl rfl (Nat.le_of_ble_eq_true rfl) d_U_init_15 (fun H_5 lo_6 hP hD hS => ?_)
  have hP : va_P (dC, dI) kcl [(u, .inr (7, [.int 17, .ref q_4, .null]))] H_5 := hP
  have hD : va_D A [(u, .inr (7, [.int 17, .ref q_4, .null]))] := hD
  refine lv_aload_n hx hb d_U_init_18 rfl (lv_at hl 0 rfl) ?_
  refine lv_iload_n hx hb d_U_init_19 rfl (lv_at hl 2 rfl) ?_
  refine va_newa (atype := .int) (ty := .int) (a0 := (64, .inl (fun _ => 0))) (N' := 64) hx hb (hg _ tw_50) rfl hK hP hD hS hA (fun _ => rfl) (by decide) (by decide +kernel) (by decide) (Nat.le_of_ble_eq_true rfl) (Nat.le_of_ble_eq_true rfl) d_U_init_20 (fun q_8 cq_8 H_7 hK hP hD hS => ?_)
  have hP := hP.sub (ws' := [(u, .inr (7, [.int 17, .ref q_4, .null]))]) [0] rfl
  have hD := hD.sub (ws' := [(u, .inr (7, [.int 17, .ref q_4, .null]))]) [0] (by decide) rfl
  have hK := hK.sub (tys' := []) [] rfl
  refine va_putF (D := (dC, dI)) (ci := 7) (v := .ref q_8) (ty := .array .int) (C := kR_U) (T := kT_U) (N := 3) hx hb hg kin_U kt_U kty_U knm_U hown hK hP hD hS 0 rfl rfl 2 (by decide) (hg _ tw_42) (fun _ h9 => h9) rfl hin rfl (by decide +kernel) rfl rfl (Nat.le_of_ble_eq_true rfl) d_U_init_22 (fun H_9 lo_10 hP hD hS => ?_)
  have hP : va_P (dC, dI) kcl [(u, .inr (7, [.int 17, .ref q_4, .ref q_8]))] H_9 := hP
  have hD : va_D A [(u, .inr (7, [.int 17, .ref q_4, .ref q_8]))] := hD
  exact W.vret hx hb hr (fun t ht hW => ⟨⟨(), rfl, trivial, trivial⟩, hS.F ht⟩) hS.2.2 d_U_init_25
set_option maxHeartbeats 4000000 in
set_option maxRecDepth 100000 in
theorem c_U_init_32 (l : Launch) (dC : Nat → ClassId) (dI : Nat → Nat → Nat) (sz : Nat) (u : Nat) : Met l y_U_init ws_U_init ({ frames := 1, cells := 2, slots := 801, locals := 12 }) (va_Pc [.ref u, .int 32, .int 768] (fun U => U.heap.size = sz ∧ va_P (dC, dI) kcl [(u, .inr (7, [.int 0, .null, .null]))] U.heap ∧ va_K (dC, dI) kcl [] U ∧ va_D (fun _ => True) [(u, .inr (7, [.int 0, .null, .null]))])) (va_Qv (fun (_ : Unit) => True) (fun (_ : Unit) (_ : State) => True) (va_A [(u, .inr (7, [.int 0, .null, .null]))] sz)) 2 801 (va_A [(u, .inr (7, [.int 0, .null, .null]))] sz) := by
  refine Met.ofW (cc := b_U_init) (maxL := 3) (ret := (Option.none : Option Jvm.ClassFile.FieldType)) (by decide) rfl ?_
  intro p e s m args below meth c s₁ B hml hv
  obtain ⟨rfl, hsz, hP, hK, hD0⟩ := hv
  have hx := B.exec
  have hb := B.bytes
  have hr := B.returns
  have hlocks := B.notSynchronized
  have hg : ∀ w ∈ gw, w.before _ s = true := fun w h => atoms_spec (ws := ws_U_init) B.pre w (List.mem_cons_of_mem _ h)
  have hown : s.vm.findClass "TreeMatcher$Groups" = some m.cls := findClass_of_methodNamed B.named
  have hin : meth.name = "<init>" := (name_of_methodNamed B.named B.method).1
  subst hsz
  have hD := hD0.self (sz := s.heap.size)
  have hA : ∀ q : Nat, s.heap.size ≤ q → va_A [(u, .inr (7, [.int 0, .null, .null]))] s.heap.size q := fun q h => Or.inr h
  generalize hAe : va_A [(u, .inr (7, [.int 0, .null, .null]))] s.heap.size = A at hD hA ⊢
  have hS : va_S A s.heap s.heap [] := va_S.rf
  have hl := lv_entry ([.ref u, .int 32, .int 768] : List Value) (n := 3) (Nat.le_of_ble_eq_true rfl)
  rw [lg_entry_eq]
  generalize (lg_sl ([.ref u, .int 32, .int 768] : List Value) ++ List.replicate (3 - (lg_sl ([.ref u, .int 32, .int 768] : List Value)).length) Slot.unset).toArray = ls at hl ⊢
  have hl : lv_has ls 3 [(0, .ref u), (1, .int 32), (2, .int 768)] := hl
  refine lv_aload_n hx hb d_U_init_0 rfl (lv_at hl 0 rfl) ?_
  refine W.objInit hx hb hown (hg _ tw_39) (hg _ tw_26) (hg _ tw_27) rfl (by rw [hml]; exact hl.1) rfl d_U_init_1 (Nat.le_of_ble_eq_true rfl) (Nat.le_of_ble_eq_true rfl) ?_
  refine W.eq (g2 := F0 m 4 ls []) rfl ?_
  refine lv_aload_n hx hb d_U_init_4 rfl (lv_at hl 0 rfl) ?_
  refine lv_iload_n hx hb d_U_init_5 rfl (lv_at hl 1 rfl) ?_
  refine va_putF (D := (dC, dI)) (ci := 7) (v := .int 32) (ty := .int) (C := kR_U) (T := kT_U) (N := 3) hx hb hg kin_U kt_U kty_U knm_U hown hK hP hD hS 0 rfl rfl 0 (by decide) (hg _ tw_40) (fun _ h9 => h9) rfl hin rfl (by decide +kernel) rfl rfl (Nat.le_of_ble_eq_true rfl) d_U_init_6 (fun H_1 lo_2 hP hD hS => ?_)
  have hP : va_P (dC, dI) kcl [(u, .inr (7, [.int 32, .null, .null]))] H_1 := hP
  have hD : va_D A [(u, .inr (7, [.int 32, .null, .null]))] := hD
  refine lv_aload_n hx hb d_U_init_9 rfl (lv_at hl 0 rfl) ?_
  refine lv_iload_n hx hb d_U_init_10 rfl (lv_at hl 1 rfl) ?_
  refine lv_iconst (v := 1) hx hb d_U_init_11 (by decide) ?_
  refine lv_iadd hx hb d_U_init_12 ?_
  refine va_newa (atype := .int) (ty := .int) (a0 := (33, .inl (fun _ => 0))) (N' := 33) hx hb (hg _ tw_50) rfl hK hP hD hS hA (fun _ => rfl) (by decide) (by decide +kernel) (by decide) (Nat.le_of_ble_eq_true rfl) (Nat.le_of_ble_eq_true rfl) d_U_init_13 (fun q_4 cq_4 H_3 hK hP hD hS => ?_)
  have hP := hP.sub (ws' := [(u, .inr (7, [.int 32, .null, .null]))]) [0] rfl
  have hD := hD.sub (ws' := [(u, .inr (7, [.int 32, .null, .null]))]) [0] (by decide) rfl
  have hK := hK.sub (tys' := []) [] rfl
  refine va_putF (D := (dC, dI)) (ci := 7) (v := .ref q_4) (ty := .array .int) (C := kR_U) (T := kT_U) (N := 3) hx hb hg kin_U kt_U kty_U knm_U hown hK hP hD hS 0 rfl rfl 1 (by decide) (hg _ tw_41) (fun _ h9 => h9) rfl hin rfl (by decide +kernel) rfl rfl (Nat.le_of_ble_eq_true rfl) d_U_init_15 (fun H_5 lo_6 hP hD hS => ?_)
  have hP : va_P (dC, dI) kcl [(u, .inr (7, [.int 32, .ref q_4, .null]))] H_5 := hP
  have hD : va_D A [(u, .inr (7, [.int 32, .ref q_4, .null]))] := hD
  refine lv_aload_n hx hb d_U_init_18 rfl (lv_at hl 0 rfl) ?_
  refine lv_iload_n hx hb d_U_init_19 rfl (lv_at hl 2 rfl) ?_
  refine va_newa (atype := .int) (ty := .int) (a0 := (768, .inl (fun _ => 0))) (N' := 768) hx hb (hg _ tw_50) rfl hK hP hD hS hA (fun _ => rfl) (by decide) (by decide +kernel) (by decide) (Nat.le_of_ble_eq_true rfl) (Nat.le_of_ble_eq_true rfl) d_U_init_20 (fun q_8 cq_8 H_7 hK hP hD hS => ?_)
  have hP := hP.sub (ws' := [(u, .inr (7, [.int 32, .ref q_4, .null]))]) [0] rfl
  have hD := hD.sub (ws' := [(u, .inr (7, [.int 32, .ref q_4, .null]))]) [0] (by decide) rfl
  have hK := hK.sub (tys' := []) [] rfl
  refine va_putF (D := (dC, dI)) (ci := 7) (v := .ref q_8) (ty := .array .int) (C := kR_U) (T := kT_U) (N := 3) hx hb hg kin_U kt_U kty_U knm_U hown hK hP hD hS 0 rfl rfl 2 (by decide) (hg _ tw_42) (fun _ h9 => h9) rfl hin rfl (by decide +kernel) rfl rfl (Nat.le_of_ble_eq_true rfl) d_U_init_22 (fun H_9 lo_10 hP hD hS => ?_)
  have hP : va_P (dC, dI) kcl [(u, .inr (7, [.int 32, .ref q_4, .ref q_8]))] H_9 := hP
  have hD : va_D A [(u, .inr (7, [.int 32, .ref q_4, .ref q_8]))] := hD
  exact W.vret hx hb hr (fun t ht hW => ⟨⟨(), rfl, trivial, trivial⟩, hS.F ht⟩) hS.2.2 d_U_init_25
set_option maxHeartbeats 4000000 in
set_option maxRecDepth 100000 in
theorem c_L_init (l : Launch) (dC : Nat → ClassId) (dI : Nat → Nat → Nat) (sz : Nat) (lq g : Nat) : Met l y_L_init ws_L_init ({ frames := 1, cells := 2, slots := 32, locals := 12 }) (va_Pc [.ref lq, .ref g] (fun U => U.heap.size = sz ∧ va_P (dC, dI) kcl [(lq, .inr (8, [.null, .null, .null]))] U.heap ∧ va_K (dC, dI) kcl [] U ∧ va_D (fun _ => True) [(lq, .inr (8, [.null, .null, .null]))])) (va_Qv (fun (_ : Unit) => True) (fun (_ : Unit) (_ : State) => True) (va_A [(lq, .inr (8, [.null, .null, .null]))] sz)) 2 32 (va_A [(lq, .inr (8, [.null, .null, .null]))] sz) := by
  refine Met.ofW (cc := b_L_init) (maxL := 2) (ret := (Option.none : Option Jvm.ClassFile.FieldType)) (by decide) rfl ?_
  intro p e s m args below meth c s₁ B hml hv
  obtain ⟨rfl, hsz, hP, hK, hD0⟩ := hv
  have hx := B.exec
  have hb := B.bytes
  have hr := B.returns
  have hlocks := B.notSynchronized
  have hg : ∀ w ∈ gw, w.before _ s = true := fun w h => atoms_spec (ws := ws_L_init) B.pre w (List.mem_cons_of_mem _ h)
  have hown : s.vm.findClass "TreeMatcher$Labels" = some m.cls := findClass_of_methodNamed B.named
  have hin : meth.name = "<init>" := (name_of_methodNamed B.named B.method).1
  subst hsz
  have hD := hD0.self (sz := s.heap.size)
  have hA : ∀ q : Nat, s.heap.size ≤ q → va_A [(lq, .inr (8, [.null, .null, .null]))] s.heap.size q := fun q h => Or.inr h
  generalize hAe : va_A [(lq, .inr (8, [.null, .null, .null]))] s.heap.size = A at hD hA ⊢
  have hS : va_S A s.heap s.heap [] := va_S.rf
  have hl := lv_entry ([.ref lq, .ref g] : List Value) (n := 2) (Nat.le_of_ble_eq_true rfl)
  rw [lg_entry_eq]
  generalize (lg_sl ([.ref lq, .ref g] : List Value) ++ List.replicate (2 - (lg_sl ([.ref lq, .ref g] : List Value)).length) Slot.unset).toArray = ls at hl ⊢
  have hl : lv_has ls 2 [(0, .ref lq), (1, .ref g)] := hl
  refine lv_aload_n hx hb d_L_init_0 rfl (lv_at hl 0 rfl) ?_
  refine W.objInit hx hb hown (hg _ tw_135) (hg _ tw_26) (hg _ tw_27) rfl (by rw [hml]; exact hl.1) rfl d_L_init_1 (Nat.le_of_ble_eq_true rfl) (Nat.le_of_ble_eq_true rfl) ?_
  refine W.eq (g2 := F0 m 4 ls []) rfl ?_
  refine lv_aload_n hx hb d_L_init_4 rfl (lv_at hl 0 rfl) ?_
  refine lv_bipush (v := 16) hx hb d_L_init_5 (by decide) ?_
  refine va_newa (atype := .long) (ty := .long) (a0 := (16, .inr (.inl (fun _ => 0)))) (N' := 16) hx hb (hg _ tw_147) rfl hK hP hD hS hA (fun _ => rfl) (by decide) (by decide +kernel) (by decide) (Nat.le_of_ble_eq_true rfl) (Nat.le_of_ble_eq_true rfl) d_L_init_7 (fun q_2 cq_2 H_1 hK hP hD hS => ?_)
  have hP := hP.sub (ws' := [(lq, .inr (8, [.null, .null, .null]))]) [0] rfl
  have hD := hD.sub (ws' := [(lq, .inr (8, [.null, .null, .null]))]) [0] (by decide) rfl
  have hK := hK.sub (tys' := []) [] rfl
  refine va_putF (D := (dC, dI)) (ci := 8) (v := .ref q_2) (ty := .array .long) (C := kR_L) (T := kT_L) (N := 3) hx hb hg kin_L kt_L kty_L knm_L hown hK hP hD hS 0 rfl rfl 1 (by decide) (hg _ tw_137) (fun _ h9 => h9) rfl hin rfl (by decide +kernel) rfl rfl (Nat.le_of_ble_eq_true rfl) d_L_init_9 (fun H_3 lo_4 hP hD hS => ?_)
  have hP : va_P (dC, dI) kcl [(lq, .inr (8, [.null, .ref q_2, .null]))] H_3 := hP
  have hD : va_D A [(lq, .inr (8, [.null, .ref q_2, .null]))] := hD
  refine lv_aload_n hx hb d_L_init_12 rfl (lv_at hl 0 rfl) ?_
  refine lv_bipush (v := 16) hx hb d_L_init_13 (by decide) ?_
  refine va_newa (atype := .int) (ty := .int) (a0 := (16, .inl (fun _ => 0))) (N' := 16) hx hb (hg _ tw_50) rfl hK hP hD hS hA (fun _ => rfl) (by decide) (by decide +kernel) (by decide) (Nat.le_of_ble_eq_true rfl) (Nat.le_of_ble_eq_true rfl) d_L_init_15 (fun q_6 cq_6 H_5 hK hP hD hS => ?_)
  have hP := hP.sub (ws' := [(lq, .inr (8, [.null, .ref q_2, .null]))]) [0] rfl
  have hD := hD.sub (ws' := [(lq, .inr (8, [.null, .ref q_2, .null]))]) [0] (by decide) rfl
  have hK := hK.sub (tys' := []) [] rfl
  refine va_putF (D := (dC, dI)) (ci := 8) (v := .ref q_6) (ty := .array .int) (C := kR_L) (T := kT_L) (N := 3) hx hb hg kin_L kt_L kty_L knm_L hown hK hP hD hS 0 rfl rfl 2 (by decide) (hg _ tw_138) (fun _ h9 => h9) rfl hin rfl (by decide +kernel) rfl rfl (Nat.le_of_ble_eq_true rfl) d_L_init_17 (fun H_7 lo_8 hP hD hS => ?_)
  have hP : va_P (dC, dI) kcl [(lq, .inr (8, [.null, .ref q_2, .ref q_6]))] H_7 := hP
  have hD : va_D A [(lq, .inr (8, [.null, .ref q_2, .ref q_6]))] := hD
  refine lv_aload_n hx hb d_L_init_20 rfl (lv_at hl 0 rfl) ?_
  refine lv_aload_n hx hb d_L_init_21 rfl (lv_at hl 1 rfl) ?_
  refine va_putF (D := (dC, dI)) (ci := 8) (v := .ref g) (ty := .object "TreeMatcher$Grammar") (C := kR_L) (T := kT_L) (N := 3) hx hb hg kin_L kt_L kty_L knm_L hown hK hP hD hS 0 rfl rfl 0 (by decide) (hg _ tw_136) (fun _ h9 => h9) rfl hin rfl (by decide +kernel) rfl rfl (Nat.le_of_ble_eq_true rfl) d_L_init_22 (fun H_9 lo_10 hP hD hS => ?_)
  have hP : va_P (dC, dI) kcl [(lq, .inr (8, [.ref g, .ref q_2, .ref q_6]))] H_9 := hP
  have hD : va_D A [(lq, .inr (8, [.ref g, .ref q_2, .ref q_6]))] := hD
  exact W.vret hx hb hr (fun t ht hW => ⟨⟨(), rfl, trivial, trivial⟩, hS.F ht⟩) hS.2.2 d_L_init_25
set_option maxHeartbeats 4000000 in
set_option maxRecDepth 100000 in
theorem c_P_init (l : Launch) (dC : Nat → ClassId) (dI : Nat → Nat → Nat) (sz : Nat) (pq : Nat) : Met l y_P_init ws_P_init ({ frames := 2, cells := 7, slots := 3168, locals := 34 }) (va_Pc [.ref pq] (fun U => U.heap.size = sz ∧ va_P (dC, dI) kcl [(pq, .inr (6, [.null, .null, .null, .null, .null, .int 0]))] U.heap ∧ va_K (dC, dI) kcl [] U ∧ va_D (fun _ => True) [(pq, .inr (6, [.null, .null, .null, .null, .null, .int 0]))])) (va_Qv (fun (_ : Unit) => True) (fun (_ : Unit) (t : State) => ∃ (bq : Nat) (zpq : Nat → Value), va_P (dC, dI) kcl [(pq, .inr (6, [(zpq 0), (zpq 1), (zpq 2), (zpq 3), .ref bq, .int 16]))] t.heap ∧ va_K (dC, dI) kcl [] t ∧ va_D (va_A [(pq, .inr (6, [.null, .null, .null, .null, .null, .int 0]))] sz) [(pq, .inr (6, [(zpq 0), (zpq 1), (zpq 2), (zpq 3), .ref bq, .int 16]))]) (va_A [(pq, .inr (6, [.null, .null, .null, .null, .null, .int 0]))] sz)) 7 3168 (va_A [(pq, .inr (6, [.null, .null, .null, .null, .null, .int 0]))] sz) := by
  refine Met.ofW (cc := b_P_init) (maxL := 1) (ret := (Option.none : Option Jvm.ClassFile.FieldType)) (by decide) rfl ?_
  intro p e s m args below meth c s₁ B hml hv
  obtain ⟨rfl, hsz, hP, hK, hD0⟩ := hv
  have hx := B.exec
  have hb := B.bytes
  have hr := B.returns
  have hlocks := B.notSynchronized
  have hg : ∀ w ∈ gw, w.before _ s = true := fun w h => atoms_spec (ws := ws_P_init) B.pre w (List.mem_cons_of_mem _ h)
  have hown : s.vm.findClass "TreeMatcher$Parts" = some m.cls := findClass_of_methodNamed B.named
  have hin : meth.name = "<init>" := (name_of_methodNamed B.named B.method).1
  subst hsz
  have hD := hD0.self (sz := s.heap.size)
  have hA : ∀ q : Nat, s.heap.size ≤ q → va_A [(pq, .inr (6, [.null, .null, .null, .null, .null, .int 0]))] s.heap.size q := fun q h => Or.inr h
  generalize hAe : va_A [(pq, .inr (6, [.null, .null, .null, .null, .null, .int 0]))] s.heap.size = A at hD hA ⊢
  have hS : va_S A s.heap s.heap [] := va_S.rf
  have hl := lv_entry ([.ref pq] : List Value) (n := 1) (Nat.le_of_ble_eq_true rfl)
  rw [lg_entry_eq]
  generalize (lg_sl ([.ref pq] : List Value) ++ List.replicate (1 - (lg_sl ([.ref pq] : List Value)).length) Slot.unset).toArray = ls at hl ⊢
  have hl : lv_has ls 1 [(0, .ref pq)] := hl
  refine lv_aload_n hx hb d_P_init_0 rfl (lv_at hl 0 rfl) ?_
  refine W.objInit hx hb hown (hg _ tw_56) (hg _ tw_26) (hg _ tw_27) rfl (by rw [hml]; exact hl.1) rfl d_P_init_1 (Nat.le_of_ble_eq_true rfl) (Nat.le_of_ble_eq_true rfl) ?_
  refine W.eq (g2 := F0 m 4 ls []) rfl ?_
  refine lv_aload_n hx hb d_P_init_4 rfl (lv_at hl 0 rfl) ?_
  refine lv_sipush (v := 784) hx hb d_P_init_5 (by decide) ?_
  refine va_newa (atype := .int) (ty := .int) (a0 := (784, .inl (fun _ => 0))) (N' := 784) hx hb (hg _ tw_50) rfl hK hP hD hS hA (fun _ => rfl) (by decide) (by decide +kernel) (by decide) (Nat.le_of_ble_eq_true rfl) (Nat.le_of_ble_eq_true rfl) d_P_init_8 (fun q_2 cq_2 H_1 hK hP hD hS => ?_)
  have hP := hP.sub (ws' := [(pq, .inr (6, [.null, .null, .null, .null, .null, .int 0]))]) [0] rfl
  have hD := hD.sub (ws' := [(pq, .inr (6, [.null, .null, .null, .null, .null, .int 0]))]) [0] (by decide) rfl
  have hK := hK.sub (tys' := []) [] rfl
  refine va_putF (D := (dC, dI)) (ci := 6) (v := .ref q_2) (ty := .array .int) (C := kR_P) (T := kT_P) (N := 6) hx hb hg kin_P kt_P kty_P knm_P hown hK hP hD hS 0 rfl rfl 0 (by decide) (hg _ tw_59) (fun _ h9 => h9) rfl hin rfl (by decide +kernel) rfl rfl (Nat.le_of_ble_eq_true rfl) d_P_init_10 (fun H_3 lo_4 hP hD hS => ?_)
  have hP : va_P (dC, dI) kcl [(pq, .inr (6, [.ref q_2, .null, .null, .null, .null, .int 0]))] H_3 := hP
  have hD : va_D A [(pq, .inr (6, [.ref q_2, .null, .null, .null, .null, .int 0]))] := hD
  refine lv_aload_n hx hb d_P_init_13 rfl (lv_at hl 0 rfl) ?_
  refine lv_sipush (v := 784) hx hb d_P_init_14 (by decide) ?_
  refine va_newa (atype := .int) (ty := .int) (a0 := (784, .inl (fun _ => 0))) (N' := 784) hx hb (hg _ tw_50) rfl hK hP hD hS hA (fun _ => rfl) (by decide) (by decide +kernel) (by decide) (Nat.le_of_ble_eq_true rfl) (Nat.le_of_ble_eq_true rfl) d_P_init_17 (fun q_6 cq_6 H_5 hK hP hD hS => ?_)
  have hP := hP.sub (ws' := [(pq, .inr (6, [.ref q_2, .null, .null, .null, .null, .int 0]))]) [0] rfl
  have hD := hD.sub (ws' := [(pq, .inr (6, [.ref q_2, .null, .null, .null, .null, .int 0]))]) [0] (by decide) rfl
  have hK := hK.sub (tys' := []) [] rfl
  refine va_putF (D := (dC, dI)) (ci := 6) (v := .ref q_6) (ty := .array .int) (C := kR_P) (T := kT_P) (N := 6) hx hb hg kin_P kt_P kty_P knm_P hown hK hP hD hS 0 rfl rfl 1 (by decide) (hg _ tw_60) (fun _ h9 => h9) rfl hin rfl (by decide +kernel) rfl rfl (Nat.le_of_ble_eq_true rfl) d_P_init_19 (fun H_7 lo_8 hP hD hS => ?_)
  have hP : va_P (dC, dI) kcl [(pq, .inr (6, [.ref q_2, .ref q_6, .null, .null, .null, .int 0]))] H_7 := hP
  have hD : va_D A [(pq, .inr (6, [.ref q_2, .ref q_6, .null, .null, .null, .int 0]))] := hD
  refine lv_aload_n hx hb d_P_init_22 rfl (lv_at hl 0 rfl) ?_
  refine lv_sipush (v := 784) hx hb d_P_init_23 (by decide) ?_
  refine va_newa (atype := .int) (ty := .int) (a0 := (784, .inl (fun _ => 0))) (N' := 784) hx hb (hg _ tw_50) rfl hK hP hD hS hA (fun _ => rfl) (by decide) (by decide +kernel) (by decide) (Nat.le_of_ble_eq_true rfl) (Nat.le_of_ble_eq_true rfl) d_P_init_26 (fun q_10 cq_10 H_9 hK hP hD hS => ?_)
  have hP := hP.sub (ws' := [(pq, .inr (6, [.ref q_2, .ref q_6, .null, .null, .null, .int 0]))]) [0] rfl
  have hD := hD.sub (ws' := [(pq, .inr (6, [.ref q_2, .ref q_6, .null, .null, .null, .int 0]))]) [0] (by decide) rfl
  have hK := hK.sub (tys' := []) [] rfl
  refine va_putF (D := (dC, dI)) (ci := 6) (v := .ref q_10) (ty := .array .int) (C := kR_P) (T := kT_P) (N := 6) hx hb hg kin_P kt_P kty_P knm_P hown hK hP hD hS 0 rfl rfl 2 (by decide) (hg _ tw_61) (fun _ h9 => h9) rfl hin rfl (by decide +kernel) rfl rfl (Nat.le_of_ble_eq_true rfl) d_P_init_28 (fun H_11 lo_12 hP hD hS => ?_)
  have hP : va_P (dC, dI) kcl [(pq, .inr (6, [.ref q_2, .ref q_6, .ref q_10, .null, .null, .int 0]))] H_11 := hP
  have hD : va_D A [(pq, .inr (6, [.ref q_2, .ref q_6, .ref q_10, .null, .null, .int 0]))] := hD
  refine lv_aload_n hx hb d_P_init_31 rfl (lv_at hl 0 rfl) ?_
  refine lv_bipush (v := 12) hx hb d_P_init_32 (by decide) ?_
  refine va_newa (atype := .int) (ty := .int) (a0 := (12, .inl (fun _ => 0))) (N' := 12) hx hb (hg _ tw_50) rfl hK hP hD hS hA (fun _ => rfl) (by decide) (by decide +kernel) (by decide) (Nat.le_of_ble_eq_true rfl) (Nat.le_of_ble_eq_true rfl) d_P_init_34 (fun q_14 cq_14 H_13 hK hP hD hS => ?_)
  have hP := hP.sub (ws' := [(pq, .inr (6, [.ref q_2, .ref q_6, .ref q_10, .null, .null, .int 0]))]) [0] rfl
  have hD := hD.sub (ws' := [(pq, .inr (6, [.ref q_2, .ref q_6, .ref q_10, .null, .null, .int 0]))]) [0] (by decide) rfl
  have hK := hK.sub (tys' := []) [] rfl
  refine va_putF (D := (dC, dI)) (ci := 6) (v := .ref q_14) (ty := .array .int) (C := kR_P) (T := kT_P) (N := 6) hx hb hg kin_P kt_P kty_P knm_P hown hK hP hD hS 0 rfl rfl 3 (by decide) (hg _ tw_62) (fun _ h9 => h9) rfl hin rfl (by decide +kernel) rfl rfl (Nat.le_of_ble_eq_true rfl) d_P_init_36 (fun H_15 lo_16 hP hD hS => ?_)
  have hP : va_P (dC, dI) kcl [(pq, .inr (6, [.ref q_2, .ref q_6, .ref q_10, .ref q_14, .null, .int 0]))] H_15 := hP
  have hD : va_D A [(pq, .inr (6, [.ref q_2, .ref q_6, .ref q_10, .ref q_14, .null, .int 0]))] := hD
  refine lv_aload_n hx hb d_P_init_39 rfl (lv_at hl 0 rfl) ?_
  refine va_new (ci := 7) (fs := [.int 0, .null, .null]) (C := kR_U) (T := kT_U) (N := 3) hx hb hg kin_U kt_U kty_U hown (hg _ tw_57) (hg _ tw_35) (hg _ tw_3) hK hP hD hS hA rfl kdf_U (Nat.le_of_ble_eq_true rfl) (Nat.le_of_ble_eq_true rfl) d_P_init_40 (fun bq H_17 hP hD hS => ?_)
  have hP : va_P (dC, dI) kcl [(pq, .inr (6, [.ref q_2, .ref q_6, .ref q_10, .ref q_14, .null, .int 0])), (bq, .inr (7, [.int 0, .null, .null]))] H_17 := hP
  have hD : va_D A [(pq, .inr (6, [.ref q_2, .ref q_6, .ref q_10, .ref q_14, .null, .int 0])), (bq, .inr (7, [.int 0, .null, .null]))] := hD
  refine lv_dup hx hb d_P_init_43 rfl ?_
  refine lv_bipush (v := 32) hx hb d_P_init_44 (by decide) ?_
  refine lv_sipush (v := 768) hx hb d_P_init_46 (by decide) ?_
  have hPc := hP.sub (ws' := [(bq, .inr (7, [.int 0, .null, .null]))]) [1] rfl
  have hKc := hK.sub (tys' := []) [] rfl
  have hDc := hD.sub (ws' := [(bq, .inr (7, [.int 0, .null, .null]))]) [1] (by decide) rfl
  have hFc := va_free (wc := [(bq, .inr (7, [.int 0, .null, .null]))]) hD hS hA [1] rfl
  refine va_callv (va_runI (As := [.int 32, .int 768]) (rest := [.ref bq, .ref pq]) ⟨hx, hb, hml, hown, hg⟩ (c_U_init_32 l dC dI H_17.size bq) (cwI 2 hg (gw_gi cin_U_init) rfl rfl rfl (hg _ tw_3) (hg _ tw_58) (hg _ tw_37) rfl (by decide +kernel) ⟨Nat.le_of_ble_eq_true rfl, Nat.le_of_ble_eq_true rfl⟩) ⟨fun a U g mk q => by obtain ⟨q0, q1, qP, qK, qD⟩ := q; exact ⟨q0, q1, qP, va_K.moved (u := U) (U := U.calling g mk a) (Vm.Alike.refl U.vm) qK, qD⟩, fun U hU hW => ⟨rfl, by rw [hU], by rw [hU]; exact hPc, va_K.moved hW.alike hKc, hDc.weaken (fun _ _ _ _ => trivial)⟩⟩ rfl rfl hl.1 rfl (lv_room (Nat.le_of_ble_eq_true rfl)) d_P_init_49 ⟨Nat.le_of_ble_eq_true rfl, Nat.le_of_ble_eq_true rfl⟩) hS (fun q _ h => hFc q h) hFc (fun u_k_18 t_k_18 H_19 l_k_18 ht hvm hw_k_18 hB hz1 hk1 hS => ?_)
  obtain ⟨hP, hD⟩ := tx_rest (wc := [(bq, .inr (7, [.int 0, .null, .null]))]) (wr := [(pq, .inr (6, [.ref q_2, .ref q_6, .ref q_10, .ref q_14, .null, .int 0]))]) hP hD [1] [0] rfl rfl (by decide) (by decide) hk1 hFc
  have hK := hK.sub (tys' := []) [] rfl
  refine va_putF (D := (dC, dI)) (ci := 6) (v := .ref bq) (ty := .object "TreeMatcher$Groups") (C := kR_P) (T := kT_P) (N := 6) hx hb hg kin_P kt_P kty_P knm_P hown hK hP hD hS 0 rfl rfl 4 (by decide) (hg _ tw_63) (fun _ h9 => h9) rfl hin rfl (by decide +kernel) rfl rfl (Nat.le_of_ble_eq_true rfl) d_P_init_52 (fun H_20 lo_21 hP hD hS => ?_)
  have hP : va_P (dC, dI) kcl [(pq, .inr (6, [.ref q_2, .ref q_6, .ref q_10, .ref q_14, .ref bq, .int 0]))] H_20 := hP
  have hD : va_D A [(pq, .inr (6, [.ref q_2, .ref q_6, .ref q_10, .ref q_14, .ref bq, .int 0]))] := hD
  refine lv_aload_n hx hb d_P_init_55 rfl (lv_at hl 0 rfl) ?_
  refine lv_bipush (v := 16) hx hb d_P_init_56 (by decide) ?_
  refine va_put (D := (dC, dI)) (ci := 6) (v := .int 16) (ty := .int) (C := kR_P) (T := kT_P) (N := 6) hx hb hg kin_P kt_P kty_P knm_P hown hK hP hD hS 0 rfl rfl 5 (by decide) (hg _ tw_64) (fun _ h9 => h9) rfl (by decide +kernel) rfl rfl (Nat.le_of_ble_eq_true rfl) d_P_init_58 (fun H_22 lo_23 hP hD hS => ?_)
  have hP : va_P (dC, dI) kcl [(pq, .inr (6, [.ref q_2, .ref q_6, .ref q_10, .ref q_14, .ref bq, .int 16]))] H_22 := hP
  have hD : va_D A [(pq, .inr (6, [.ref q_2, .ref q_6, .ref q_10, .ref q_14, .ref bq, .int 16]))] := hD
  have hP9 := hP.sub (ws' := [(pq, .inr (6, [.ref q_2, .ref q_6, .ref q_10, .ref q_14, .ref bq, .int 16]))]) [0] rfl
  have hD9 := hD.sub (ws' := [(pq, .inr (6, [.ref q_2, .ref q_6, .ref q_10, .ref q_14, .ref bq, .int 16]))]) [0] (by decide) rfl
  have hK9 := hK.sub (tys' := []) [] rfl
  exact W.vret hx hb hr (fun t ht hW => ⟨⟨(), rfl, trivial, ⟨bq, (fun i => List.getD [Value.ref q_2, Value.ref q_6, Value.ref q_10, Value.ref q_14, Value.ref bq, Value.int (16 : Int32)] i Value.null), by rw [ht]; exact hP9, va_K.moved hW.alike hK9, hD9⟩⟩, hS.F ht⟩) hS.2.2 d_P_init_61
end
section
set_option maxRecDepth 100000 in
theorem tw_7 : (Jvm.Cond.initialized "TreeMatcher$Labels") ∈ gw := gw_of (List.mem_of_getElem? (i := 7) rfl) rfl
set_option maxRecDepth 100000 in
theorem tw_128 : (Jvm.Cond.code ({ cls := "TreeMatcher$Forest", name := "<init>", desc := "(LTreeMatcher$Grammar;)V" } : Jvm.MethodName) prog_3_method_1_code (2 : Nat) (Option.none : Option Jvm.ClassFile.FieldType)) ∈ gw := gw_of (List.mem_of_getElem? (i := 128) rfl) rfl
set_option maxRecDepth 100000 in
theorem tw_129 : (Jvm.Cond.methodLink "TreeMatcher$Forest" (3 : Nat) ({ cls := "java/lang/Object", name := "<init>", desc := "()V" } : Jvm.MethodName)) ∈ gw := gw_of (List.mem_of_getElem? (i := 129) rfl) rfl
set_option maxRecDepth 100000 in
theorem tw_130 : (Jvm.Cond.classLink "TreeMatcher$Forest" (51 : Nat) "TreeMatcher$Labels") ∈ gw := gw_of (List.mem_of_getElem? (i := 130) rfl) rfl
set_option maxRecDepth 100000 in
theorem tw_131 : (Jvm.Cond.instantiable "TreeMatcher$Labels" (3 : Nat)) ∈ gw := gw_of (List.mem_of_getElem? (i := 131) rfl) rfl
set_option maxRecDepth 100000 in
theorem tw_132 : (Jvm.Cond.methodLink "TreeMatcher$Forest" (53 : Nat) ({ cls := "TreeMatcher$Labels", name := "<init>", desc := "(LTreeMatcher$Grammar;)V" } : Jvm.MethodName)) ∈ gw := gw_of (List.mem_of_getElem? (i := 132) rfl) rfl
set_option maxRecDepth 100000 in
theorem tw_133 : (Jvm.Cond.instanceMethod ({ cls := "TreeMatcher$Labels", name := "<init>", desc := "(LTreeMatcher$Grammar;)V" } : Jvm.MethodName)) ∈ gw := gw_of (List.mem_of_getElem? (i := 133) rfl) rfl
set_option maxRecDepth 100000 in
theorem tw_146 : (Jvm.Cond.arrayClass Jvm.ClassFile.FieldType.boolean) ∈ gw := gw_of (List.mem_of_getElem? (i := 146) rfl) rfl
set_option maxRecDepth 100000 in
theorem tw_148 : (Jvm.Cond.classLink "TreeMatcher$Forest" (60 : Nat) "TreeMatcher$Vectors") ∈ gw := gw_of (List.mem_of_getElem? (i := 148) rfl) rfl
set_option maxRecDepth 100000 in
theorem tw_149 : (Jvm.Cond.instantiable "TreeMatcher$Vectors" (8 : Nat)) ∈ gw := gw_of (List.mem_of_getElem? (i := 149) rfl) rfl
set_option maxRecDepth 100000 in
theorem tw_150 : (Jvm.Cond.methodLink "TreeMatcher$Forest" (62 : Nat) ({ cls := "TreeMatcher$Vectors", name := "<init>", desc := "(LTreeMatcher$Grammar;I)V" } : Jvm.MethodName)) ∈ gw := gw_of (List.mem_of_getElem? (i := 150) rfl) rfl
set_option maxRecDepth 100000 in
theorem tw_151 : (Jvm.Cond.instanceMethod ({ cls := "TreeMatcher$Vectors", name := "<init>", desc := "(LTreeMatcher$Grammar;I)V" } : Jvm.MethodName)) ∈ gw := gw_of (List.mem_of_getElem? (i := 151) rfl) rfl
set_option maxRecDepth 100000 in
theorem tw_152 : (Jvm.Cond.code ({ cls := "TreeMatcher$Vectors", name := "<init>", desc := "(LTreeMatcher$Grammar;I)V" } : Jvm.MethodName) prog_9_method_1_code (3 : Nat) (Option.none : Option Jvm.ClassFile.FieldType)) ∈ gw := gw_of (List.mem_of_getElem? (i := 152) rfl) rfl
set_option maxRecDepth 100000 in
theorem tw_153 : (Jvm.Cond.methodLink "TreeMatcher$Vectors" (3 : Nat) ({ cls := "java/lang/Object", name := "<init>", desc := "()V" } : Jvm.MethodName)) ∈ gw := gw_of (List.mem_of_getElem? (i := 153) rfl) rfl
set_option maxRecDepth 100000 in
theorem tw_154 : (Jvm.Cond.methodLink "TreeMatcher$Vectors" (25 : Nat) ({ cls := "TreeMatcher$Grammar", name := "parts", desc := "()LTreeMatcher$Parts;" } : Jvm.MethodName)) ∈ gw := gw_of (List.mem_of_getElem? (i := 154) rfl) rfl
set_option maxRecDepth 100000 in
theorem tw_155 : (Jvm.Cond.instanceMethod ({ cls := "TreeMatcher$Grammar", name := "parts", desc := "()LTreeMatcher$Parts;" } : Jvm.MethodName)) ∈ gw := gw_of (List.mem_of_getElem? (i := 155) rfl) rfl
set_option maxRecDepth 100000 in
theorem tw_156 : (Jvm.Cond.selects "TreeMatcher$Grammar" ({ cls := "TreeMatcher$Grammar", name := "parts", desc := "()LTreeMatcher$Parts;" } : Jvm.MethodName) ({ cls := "TreeMatcher$Grammar", name := "parts", desc := "()LTreeMatcher$Parts;" } : Jvm.MethodName)) ∈ gw := gw_of (List.mem_of_getElem? (i := 156) rfl) rfl
set_option maxRecDepth 100000 in
theorem tw_157 : (Jvm.Cond.code ({ cls := "TreeMatcher$Grammar", name := "parts", desc := "()LTreeMatcher$Parts;" } : Jvm.MethodName) prog_4_method_19_code (1 : Nat) (Option.some (Jvm.ClassFile.FieldType.object "TreeMatcher$Parts"))) ∈ gw := gw_of (List.mem_of_getElem? (i := 157) rfl) rfl
set_option maxRecDepth 100000 in
theorem tw_158 : (Jvm.Cond.methodLink "TreeMatcher$Vectors" (34 : Nat) ({ cls := "TreeMatcher$Parts", name := "byOperator", desc := "()LTreeMatcher$Groups;" } : Jvm.MethodName)) ∈ gw := gw_of (List.mem_of_getElem? (i := 158) rfl) rfl
set_option maxRecDepth 100000 in
theorem tw_159 : (Jvm.Cond.instanceMethod ({ cls := "TreeMatcher$Parts", name := "byOperator", desc := "()LTreeMatcher$Groups;" } : Jvm.MethodName)) ∈ gw := gw_of (List.mem_of_getElem? (i := 159) rfl) rfl
set_option maxRecDepth 100000 in
theorem tw_160 : (Jvm.Cond.selects "TreeMatcher$Parts" ({ cls := "TreeMatcher$Parts", name := "byOperator", desc := "()LTreeMatcher$Groups;" } : Jvm.MethodName) ({ cls := "TreeMatcher$Parts", name := "byOperator", desc := "()LTreeMatcher$Groups;" } : Jvm.MethodName)) ∈ gw := gw_of (List.mem_of_getElem? (i := 160) rfl) rfl
set_option maxRecDepth 100000 in
theorem tw_161 : (Jvm.Cond.code ({ cls := "TreeMatcher$Parts", name := "byOperator", desc := "()LTreeMatcher$Groups;" } : Jvm.MethodName) prog_7_method_8_code (1 : Nat) (Option.some (Jvm.ClassFile.FieldType.object "TreeMatcher$Groups"))) ∈ gw := gw_of (List.mem_of_getElem? (i := 161) rfl) rfl
set_option maxRecDepth 100000 in
theorem tw_162 : (Jvm.Cond.classLink "TreeMatcher$Vectors" (41 : Nat) "TreeMatcher$Labels") ∈ gw := gw_of (List.mem_of_getElem? (i := 162) rfl) rfl
set_option maxRecDepth 100000 in
theorem tw_163 : (Jvm.Cond.methodLink "TreeMatcher$Vectors" (43 : Nat) ({ cls := "TreeMatcher$Labels", name := "<init>", desc := "(LTreeMatcher$Grammar;)V" } : Jvm.MethodName)) ∈ gw := gw_of (List.mem_of_getElem? (i := 163) rfl) rfl
set_option maxRecDepth 100000 in
theorem tw_164 : (Jvm.Cond.classLink "TreeMatcher$Vectors" (50 : Nat) "[J") ∈ gw := gw_of (List.mem_of_getElem? (i := 164) rfl) rfl
set_option maxRecDepth 100000 in
theorem tw_166 : (Jvm.Cond.fieldLink "TreeMatcher$Vectors" (21 : Nat) "TreeMatcher$Vectors" "grammar" "LTreeMatcher$Grammar;") ∈ gw := gw_of (List.mem_of_getElem? (i := 166) rfl) rfl
set_option maxRecDepth 100000 in
theorem tw_167 : (Jvm.Cond.fieldLink "TreeMatcher$Vectors" (31 : Nat) "TreeMatcher$Vectors" "parts" "LTreeMatcher$Parts;") ∈ gw := gw_of (List.mem_of_getElem? (i := 167) rfl) rfl
set_option maxRecDepth 100000 in
theorem tw_168 : (Jvm.Cond.fieldLink "TreeMatcher$Vectors" (38 : Nat) "TreeMatcher$Vectors" "byOperator" "LTreeMatcher$Groups;") ∈ gw := gw_of (List.mem_of_getElem? (i := 168) rfl) rfl
set_option maxRecDepth 100000 in
theorem tw_169 : (Jvm.Cond.fieldLink "TreeMatcher$Vectors" (46 : Nat) "TreeMatcher$Vectors" "labels" "LTreeMatcher$Labels;") ∈ gw := gw_of (List.mem_of_getElem? (i := 169) rfl) rfl
set_option maxRecDepth 100000 in
theorem tw_170 : (Jvm.Cond.fieldLink "TreeMatcher$Vectors" (51 : Nat) "TreeMatcher$Vectors" "rows" "[[J") ∈ gw := gw_of (List.mem_of_getElem? (i := 170) rfl) rfl
set_option maxRecDepth 100000 in
theorem tw_171 : (Jvm.Cond.fieldLink "TreeMatcher$Vectors" (55 : Nat) "TreeMatcher$Vectors" "roots" "[I") ∈ gw := gw_of (List.mem_of_getElem? (i := 171) rfl) rfl
set_option maxRecDepth 100000 in
theorem tw_172 : (Jvm.Cond.fieldLink "TreeMatcher$Vectors" (11 : Nat) "TreeMatcher$Vectors" "fresh" "[J") ∈ gw := gw_of (List.mem_of_getElem? (i := 172) rfl) rfl
set_option maxRecDepth 100000 in
theorem tw_191 : (Jvm.Cond.fieldLink "TreeMatcher$Forest" (47 : Nat) "TreeMatcher$Forest" "grammar" "LTreeMatcher$Grammar;") ∈ gw := gw_of (List.mem_of_getElem? (i := 191) rfl) rfl
set_option maxRecDepth 100000 in
theorem tw_192 : (Jvm.Cond.fieldLink "TreeMatcher$Forest" (9 : Nat) "TreeMatcher$Forest" "operators" "[I") ∈ gw := gw_of (List.mem_of_getElem? (i := 192) rfl) rfl
set_option maxRecDepth 100000 in
theorem tw_193 : (Jvm.Cond.fieldLink "TreeMatcher$Forest" (15 : Nat) "TreeMatcher$Forest" "values" "[I") ∈ gw := gw_of (List.mem_of_getElem? (i := 193) rfl) rfl
set_option maxRecDepth 100000 in
theorem tw_194 : (Jvm.Cond.fieldLink "TreeMatcher$Forest" (18 : Nat) "TreeMatcher$Forest" "lefts" "[I") ∈ gw := gw_of (List.mem_of_getElem? (i := 194) rfl) rfl
set_option maxRecDepth 100000 in
theorem tw_195 : (Jvm.Cond.fieldLink "TreeMatcher$Forest" (21 : Nat) "TreeMatcher$Forest" "rights" "[I") ∈ gw := gw_of (List.mem_of_getElem? (i := 195) rfl) rfl
set_option maxRecDepth 100000 in
theorem tw_196 : (Jvm.Cond.fieldLink "TreeMatcher$Forest" (24 : Nat) "TreeMatcher$Forest" "isKid" "[Z") ∈ gw := gw_of (List.mem_of_getElem? (i := 196) rfl) rfl
set_option maxRecDepth 100000 in
theorem tw_197 : (Jvm.Cond.fieldLink "TreeMatcher$Forest" (28 : Nat) "TreeMatcher$Forest" "costs" "[I") ∈ gw := gw_of (List.mem_of_getElem? (i := 197) rfl) rfl
set_option maxRecDepth 100000 in
theorem tw_198 : (Jvm.Cond.fieldLink "TreeMatcher$Forest" (31 : Nat) "TreeMatcher$Forest" "rules" "[I") ∈ gw := gw_of (List.mem_of_getElem? (i := 198) rfl) rfl
set_option maxRecDepth 100000 in
theorem tw_199 : (Jvm.Cond.fieldLink "TreeMatcher$Forest" (34 : Nat) "TreeMatcher$Forest" "vectorRows" "[I") ∈ gw := gw_of (List.mem_of_getElem? (i := 199) rfl) rfl
set_option maxRecDepth 100000 in
theorem tw_201 : (Jvm.Cond.fieldLink "TreeMatcher$Forest" (56 : Nat) "TreeMatcher$Forest" "labels" "LTreeMatcher$Labels;") ∈ gw := gw_of (List.mem_of_getElem? (i := 201) rfl) rfl
set_option maxRecDepth 100000 in
theorem tw_203 : (Jvm.Cond.fieldLink "TreeMatcher$Forest" (41 : Nat) "TreeMatcher$Forest" "places" "[I") ∈ gw := gw_of (List.mem_of_getElem? (i := 203) rfl) rfl
set_option maxRecDepth 100000 in
theorem tw_204 : (Jvm.Cond.fieldLink "TreeMatcher$Forest" (44 : Nat) "TreeMatcher$Forest" "open" "[I") ∈ gw := gw_of (List.mem_of_getElem? (i := 204) rfl) rfl
set_option maxRecDepth 100000 in
theorem tw_238 : (Jvm.Cond.code ({ cls := "TreeMatcher$Covering", name := "<init>", desc := "(LTreeMatcher$Grammar;LTreeMatcher$Forest;)V" } : Jvm.MethodName) prog_2_method_1_code (3 : Nat) (Option.none : Option Jvm.ClassFile.FieldType)) ∈ gw := gw_of (List.mem_of_getElem? (i := 238) rfl) rfl
set_option maxRecDepth 100000 in
theorem tw_239 : (Jvm.Cond.methodLink "TreeMatcher$Covering" (3 : Nat) ({ cls := "java/lang/Object", name := "<init>", desc := "()V" } : Jvm.MethodName)) ∈ gw := gw_of (List.mem_of_getElem? (i := 239) rfl) rfl
set_option maxRecDepth 100000 in
theorem tw_240 : (Jvm.Cond.fieldLink "TreeMatcher$Covering" (28 : Nat) "TreeMatcher$Covering" "grammar" "LTreeMatcher$Grammar;") ∈ gw := gw_of (List.mem_of_getElem? (i := 240) rfl) rfl
set_option maxRecDepth 100000 in
theorem tw_241 : (Jvm.Cond.fieldLink "TreeMatcher$Covering" (32 : Nat) "TreeMatcher$Covering" "forest" "LTreeMatcher$Forest;") ∈ gw := gw_of (List.mem_of_getElem? (i := 241) rfl) rfl
set_option maxRecDepth 100000 in
theorem tw_242 : (Jvm.Cond.fieldLink "TreeMatcher$Covering" (9 : Nat) "TreeMatcher$Covering" "labels" "[I") ∈ gw := gw_of (List.mem_of_getElem? (i := 242) rfl) rfl
set_option maxRecDepth 100000 in
theorem tw_243 : (Jvm.Cond.fieldLink "TreeMatcher$Covering" (15 : Nat) "TreeMatcher$Covering" "backwards" "[I") ∈ gw := gw_of (List.mem_of_getElem? (i := 243) rfl) rfl
set_option maxRecDepth 100000 in
theorem tw_244 : (Jvm.Cond.fieldLink "TreeMatcher$Covering" (18 : Nat) "TreeMatcher$Covering" "open" "[I") ∈ gw := gw_of (List.mem_of_getElem? (i := 244) rfl) rfl
set_option maxRecDepth 100000 in
theorem tw_245 : (Jvm.Cond.fieldLink "TreeMatcher$Covering" (21 : Nat) "TreeMatcher$Covering" "top" "I") ∈ gw := gw_of (List.mem_of_getElem? (i := 245) rfl) rfl
set_option maxRecDepth 100000 in
theorem tw_266 : (Jvm.Cond.code ({ cls := "TreeMatcher$Tally", name := "<init>", desc := "(LTreeMatcher$Grammar;)V" } : Jvm.MethodName) prog_8_method_1_code (2 : Nat) (Option.none : Option Jvm.ClassFile.FieldType)) ∈ gw := gw_of (List.mem_of_getElem? (i := 266) rfl) rfl
set_option maxRecDepth 100000 in
theorem tw_267 : (Jvm.Cond.methodLink "TreeMatcher$Tally" (3 : Nat) ({ cls := "java/lang/Object", name := "<init>", desc := "()V" } : Jvm.MethodName)) ∈ gw := gw_of (List.mem_of_getElem? (i := 267) rfl) rfl
set_option maxRecDepth 100000 in
theorem tw_268 : (Jvm.Cond.classLink "TreeMatcher$Tally" (22 : Nat) "TreeMatcher$Vectors") ∈ gw := gw_of (List.mem_of_getElem? (i := 268) rfl) rfl
set_option maxRecDepth 100000 in
theorem tw_269 : (Jvm.Cond.methodLink "TreeMatcher$Tally" (24 : Nat) ({ cls := "TreeMatcher$Vectors", name := "<init>", desc := "(LTreeMatcher$Grammar;I)V" } : Jvm.MethodName)) ∈ gw := gw_of (List.mem_of_getElem? (i := 269) rfl) rfl
abbrev b_F_init : ByteArray := prog_3_method_1_code
def y_F_init : MethodName := ⟨"TreeMatcher$Forest", "<init>", "(LTreeMatcher$Grammar;)V"⟩
def ws_F_init : List Cond := Cond.code y_F_init b_F_init 2 (Option.none : Option Jvm.ClassFile.FieldType) :: gw
theorem cin_F_init : Cond.code y_F_init b_F_init 2 (Option.none : Option Jvm.ClassFile.FieldType) ∈ gw := tw_128
abbrev b_V_init : ByteArray := prog_9_method_1_code
def y_V_init : MethodName := ⟨"TreeMatcher$Vectors", "<init>", "(LTreeMatcher$Grammar;I)V"⟩
def ws_V_init : List Cond := Cond.code y_V_init b_V_init 3 (Option.none : Option Jvm.ClassFile.FieldType) :: gw
theorem cin_V_init : Cond.code y_V_init b_V_init 3 (Option.none : Option Jvm.ClassFile.FieldType) ∈ gw := tw_152
abbrev b_G_parts : ByteArray := prog_4_method_19_code
def y_G_parts : MethodName := ⟨"TreeMatcher$Grammar", "parts", "()LTreeMatcher$Parts;"⟩
def ws_G_parts : List Cond := Cond.code y_G_parts b_G_parts 1 (Option.some (Jvm.ClassFile.FieldType.object "TreeMatcher$Parts")) :: gw
theorem cin_G_parts : Cond.code y_G_parts b_G_parts 1 (Option.some (Jvm.ClassFile.FieldType.object "TreeMatcher$Parts")) ∈ gw := tw_157
abbrev b_P_byOperator : ByteArray := prog_7_method_8_code
def y_P_byOperator : MethodName := ⟨"TreeMatcher$Parts", "byOperator", "()LTreeMatcher$Groups;"⟩
def ws_P_byOperator : List Cond := Cond.code y_P_byOperator b_P_byOperator 1 (Option.some (Jvm.ClassFile.FieldType.object "TreeMatcher$Groups")) :: gw
theorem cin_P_byOperator : Cond.code y_P_byOperator b_P_byOperator 1 (Option.some (Jvm.ClassFile.FieldType.object "TreeMatcher$Groups")) ∈ gw := tw_161
abbrev b_C_init : ByteArray := prog_2_method_1_code
def y_C_init : MethodName := ⟨"TreeMatcher$Covering", "<init>", "(LTreeMatcher$Grammar;LTreeMatcher$Forest;)V"⟩
def ws_C_init : List Cond := Cond.code y_C_init b_C_init 3 (Option.none : Option Jvm.ClassFile.FieldType) :: gw
theorem cin_C_init : Cond.code y_C_init b_C_init 3 (Option.none : Option Jvm.ClassFile.FieldType) ∈ gw := tw_238
abbrev b_Y_init : ByteArray := prog_8_method_1_code
def y_Y_init : MethodName := ⟨"TreeMatcher$Tally", "<init>", "(LTreeMatcher$Grammar;)V"⟩
def ws_Y_init : List Cond := Cond.code y_Y_init b_Y_init 2 (Option.none : Option Jvm.ClassFile.FieldType) :: gw
theorem cin_Y_init : Cond.code y_Y_init b_Y_init 2 (Option.none : Option Jvm.ClassFile.FieldType) ∈ gw := tw_266
theorem d_F_init_0 : decode b_F_init 0 = .ok (.aload_n 0, 1) := by decide +kernel
theorem d_F_init_1 : decode b_F_init 1 = .ok (.invokespecial 3, 3) := by decide +kernel
theorem d_F_init_4 : decode b_F_init 4 = .ok (.aload_n 0, 1) := by decide +kernel
theorem d_F_init_5 : decode b_F_init 5 = .ok (.sipush 200, 3) := by decide +kernel
theorem d_F_init_8 : decode b_F_init 8 = .ok (.newarray .int, 2) := by decide +kernel
theorem d_F_init_10 : decode b_F_init 10 = .ok (.putfield 9, 3) := by decide +kernel
theorem d_F_init_13 : decode b_F_init 13 = .ok (.aload_n 0, 1) := by decide +kernel
theorem d_F_init_14 : decode b_F_init 14 = .ok (.sipush 200, 3) := by decide +kernel
theorem d_F_init_17 : decode b_F_init 17 = .ok (.newarray .int, 2) := by decide +kernel
theorem d_F_init_19 : decode b_F_init 19 = .ok (.putfield 15, 3) := by decide +kernel
theorem d_F_init_22 : decode b_F_init 22 = .ok (.aload_n 0, 1) := by decide +kernel
theorem d_F_init_23 : decode b_F_init 23 = .ok (.sipush 200, 3) := by decide +kernel
theorem d_F_init_26 : decode b_F_init 26 = .ok (.newarray .int, 2) := by decide +kernel
theorem d_F_init_28 : decode b_F_init 28 = .ok (.putfield 18, 3) := by decide +kernel
theorem d_F_init_31 : decode b_F_init 31 = .ok (.aload_n 0, 1) := by decide +kernel
theorem d_F_init_32 : decode b_F_init 32 = .ok (.sipush 200, 3) := by decide +kernel
theorem d_F_init_35 : decode b_F_init 35 = .ok (.newarray .int, 2) := by decide +kernel
theorem d_F_init_37 : decode b_F_init 37 = .ok (.putfield 21, 3) := by decide +kernel
theorem d_F_init_40 : decode b_F_init 40 = .ok (.aload_n 0, 1) := by decide +kernel
theorem d_F_init_41 : decode b_F_init 41 = .ok (.sipush 200, 3) := by decide +kernel
theorem d_F_init_44 : decode b_F_init 44 = .ok (.newarray .boolean, 2) := by decide +kernel
theorem d_F_init_46 : decode b_F_init 46 = .ok (.putfield 24, 3) := by decide +kernel
theorem d_F_init_49 : decode b_F_init 49 = .ok (.aload_n 0, 1) := by decide +kernel
theorem d_F_init_50 : decode b_F_init 50 = .ok (.sipush 3200, 3) := by decide +kernel
theorem d_F_init_53 : decode b_F_init 53 = .ok (.newarray .int, 2) := by decide +kernel
theorem d_F_init_55 : decode b_F_init 55 = .ok (.putfield 28, 3) := by decide +kernel
theorem d_F_init_58 : decode b_F_init 58 = .ok (.aload_n 0, 1) := by decide +kernel
theorem d_F_init_59 : decode b_F_init 59 = .ok (.sipush 3200, 3) := by decide +kernel
theorem d_F_init_62 : decode b_F_init 62 = .ok (.newarray .int, 2) := by decide +kernel
theorem d_F_init_64 : decode b_F_init 64 = .ok (.putfield 31, 3) := by decide +kernel
theorem d_F_init_67 : decode b_F_init 67 = .ok (.aload_n 0, 1) := by decide +kernel
theorem d_F_init_68 : decode b_F_init 68 = .ok (.sipush 200, 3) := by decide +kernel
theorem d_F_init_71 : decode b_F_init 71 = .ok (.newarray .int, 2) := by decide +kernel
theorem d_F_init_73 : decode b_F_init 73 = .ok (.putfield 34, 3) := by decide +kernel
theorem d_F_init_76 : decode b_F_init 76 = .ok (.aload_n 0, 1) := by decide +kernel
theorem d_F_init_77 : decode b_F_init 77 = .ok (.iconst 0, 1) := by decide +kernel
theorem d_F_init_78 : decode b_F_init 78 = .ok (.putfield 37, 3) := by decide +kernel
theorem d_F_init_81 : decode b_F_init 81 = .ok (.aload_n 0, 1) := by decide +kernel
theorem d_F_init_82 : decode b_F_init 82 = .ok (.bipush 12, 2) := by decide +kernel
theorem d_F_init_84 : decode b_F_init 84 = .ok (.newarray .int, 2) := by decide +kernel
theorem d_F_init_86 : decode b_F_init 86 = .ok (.putfield 41, 3) := by decide +kernel
theorem d_F_init_89 : decode b_F_init 89 = .ok (.aload_n 0, 1) := by decide +kernel
theorem d_F_init_90 : decode b_F_init 90 = .ok (.bipush 13, 2) := by decide +kernel
theorem d_F_init_92 : decode b_F_init 92 = .ok (.newarray .int, 2) := by decide +kernel
theorem d_F_init_94 : decode b_F_init 94 = .ok (.putfield 44, 3) := by decide +kernel
theorem d_F_init_97 : decode b_F_init 97 = .ok (.aload_n 0, 1) := by decide +kernel
theorem d_F_init_98 : decode b_F_init 98 = .ok (.aload_n 1, 1) := by decide +kernel
theorem d_F_init_99 : decode b_F_init 99 = .ok (.putfield 47, 3) := by decide +kernel
theorem d_F_init_102 : decode b_F_init 102 = .ok (.aload_n 0, 1) := by decide +kernel
theorem d_F_init_103 : decode b_F_init 103 = .ok (.new 51, 3) := by decide +kernel
theorem d_F_init_106 : decode b_F_init 106 = .ok (.dup, 1) := by decide +kernel
theorem d_F_init_107 : decode b_F_init 107 = .ok (.aload_n 1, 1) := by decide +kernel
theorem d_F_init_108 : decode b_F_init 108 = .ok (.invokespecial 53, 3) := by decide +kernel
theorem d_F_init_111 : decode b_F_init 111 = .ok (.putfield 56, 3) := by decide +kernel
theorem d_F_init_114 : decode b_F_init 114 = .ok (.aload_n 0, 1) := by decide +kernel
theorem d_F_init_115 : decode b_F_init 115 = .ok (.new 60, 3) := by decide +kernel
theorem d_F_init_118 : decode b_F_init 118 = .ok (.dup, 1) := by decide +kernel
theorem d_F_init_119 : decode b_F_init 119 = .ok (.aload_n 1, 1) := by decide +kernel
theorem d_F_init_120 : decode b_F_init 120 = .ok (.sipush 200, 3) := by decide +kernel
theorem d_F_init_123 : decode b_F_init 123 = .ok (.invokespecial 62, 3) := by decide +kernel
theorem d_F_init_126 : decode b_F_init 126 = .ok (.putfield 65, 3) := by decide +kernel
theorem d_F_init_129 : decode b_F_init 129 = .ok (.return_, 1) := by decide +kernel
theorem d_V_init_0 : decode b_V_init 0 = .ok (.aload_n 0, 1) := by decide +kernel
theorem d_V_init_1 : decode b_V_init 1 = .ok (.invokespecial 3, 3) := by decide +kernel
theorem d_V_init_4 : decode b_V_init 4 = .ok (.aload_n 0, 1) := by decide +kernel
theorem d_V_init_5 : decode b_V_init 5 = .ok (.sipush 784, 3) := by decide +kernel
theorem d_V_init_8 : decode b_V_init 8 = .ok (.newarray .long, 2) := by decide +kernel
theorem d_V_init_10 : decode b_V_init 10 = .ok (.putfield 11, 3) := by decide +kernel
theorem d_V_init_13 : decode b_V_init 13 = .ok (.aload_n 0, 1) := by decide +kernel
theorem d_V_init_14 : decode b_V_init 14 = .ok (.iconst 0, 1) := by decide +kernel
theorem d_V_init_15 : decode b_V_init 15 = .ok (.putfield 17, 3) := by decide +kernel
theorem d_V_init_18 : decode b_V_init 18 = .ok (.aload_n 0, 1) := by decide +kernel
theorem d_V_init_19 : decode b_V_init 19 = .ok (.aload_n 1, 1) := by decide +kernel
theorem d_V_init_20 : decode b_V_init 20 = .ok (.putfield 21, 3) := by decide +kernel
theorem d_V_init_23 : decode b_V_init 23 = .ok (.aload_n 0, 1) := by decide +kernel
theorem d_V_init_24 : decode b_V_init 24 = .ok (.aload_n 1, 1) := by decide +kernel
theorem d_V_init_25 : decode b_V_init 25 = .ok (.invokevirtual 25, 3) := by decide +kernel
theorem d_V_init_28 : decode b_V_init 28 = .ok (.putfield 31, 3) := by decide +kernel
theorem d_V_init_31 : decode b_V_init 31 = .ok (.aload_n 0, 1) := by decide +kernel
theorem d_V_init_32 : decode b_V_init 32 = .ok (.aload_n 0, 1) := by decide +kernel
theorem d_V_init_33 : decode b_V_init 33 = .ok (.getfield 31, 3) := by decide +kernel
theorem d_V_init_36 : decode b_V_init 36 = .ok (.invokevirtual 34, 3) := by decide +kernel
theorem d_V_init_39 : decode b_V_init 39 = .ok (.putfield 38, 3) := by decide +kernel
theorem d_V_init_42 : decode b_V_init 42 = .ok (.aload_n 0, 1) := by decide +kernel
theorem d_V_init_43 : decode b_V_init 43 = .ok (.new 41, 3) := by decide +kernel
theorem d_V_init_46 : decode b_V_init 46 = .ok (.dup, 1) := by decide +kernel
theorem d_V_init_47 : decode b_V_init 47 = .ok (.aload_n 1, 1) := by decide +kernel
theorem d_V_init_48 : decode b_V_init 48 = .ok (.invokespecial 43, 3) := by decide +kernel
theorem d_V_init_51 : decode b_V_init 51 = .ok (.putfield 46, 3) := by decide +kernel
theorem d_V_init_54 : decode b_V_init 54 = .ok (.aload_n 0, 1) := by decide +kernel
theorem d_V_init_55 : decode b_V_init 55 = .ok (.iload_n 2, 1) := by decide +kernel
theorem d_V_init_56 : decode b_V_init 56 = .ok (.anewarray 50, 3) := by decide +kernel
theorem d_V_init_59 : decode b_V_init 59 = .ok (.putfield 51, 3) := by decide +kernel
theorem d_V_init_62 : decode b_V_init 62 = .ok (.aload_n 0, 1) := by decide +kernel
theorem d_V_init_63 : decode b_V_init 63 = .ok (.iload_n 2, 1) := by decide +kernel
theorem d_V_init_64 : decode b_V_init 64 = .ok (.newarray .int, 2) := by decide +kernel
theorem d_V_init_66 : decode b_V_init 66 = .ok (.putfield 55, 3) := by decide +kernel
theorem d_V_init_69 : decode b_V_init 69 = .ok (.return_, 1) := by decide +kernel
theorem d_G_parts_0 : decode b_G_parts 0 = .ok (.aload_n 0, 1) := by decide +kernel
theorem d_G_parts_1 : decode b_G_parts 1 = .ok (.getfield 62, 3) := by decide +kernel
theorem d_G_parts_4 : decode b_G_parts 4 = .ok (.areturn, 1) := by decide +kernel
theorem d_P_byOperator_0 : decode b_P_byOperator 0 = .ok (.aload_n 0, 1) := by decide +kernel
theorem d_P_byOperator_1 : decode b_P_byOperator 1 = .ok (.getfield 29, 3) := by decide +kernel
theorem d_P_byOperator_4 : decode b_P_byOperator 4 = .ok (.areturn, 1) := by decide +kernel
theorem d_C_init_0 : decode b_C_init 0 = .ok (.aload_n 0, 1) := by decide +kernel
theorem d_C_init_1 : decode b_C_init 1 = .ok (.invokespecial 3, 3) := by decide +kernel
theorem d_C_init_4 : decode b_C_init 4 = .ok (.aload_n 0, 1) := by decide +kernel
theorem d_C_init_5 : decode b_C_init 5 = .ok (.sipush 2000, 3) := by decide +kernel
theorem d_C_init_8 : decode b_C_init 8 = .ok (.newarray .int, 2) := by decide +kernel
theorem d_C_init_10 : decode b_C_init 10 = .ok (.putfield 9, 3) := by decide +kernel
theorem d_C_init_13 : decode b_C_init 13 = .ok (.aload_n 0, 1) := by decide +kernel
theorem d_C_init_14 : decode b_C_init 14 = .ok (.sipush 2000, 3) := by decide +kernel
theorem d_C_init_17 : decode b_C_init 17 = .ok (.newarray .int, 2) := by decide +kernel
theorem d_C_init_19 : decode b_C_init 19 = .ok (.putfield 15, 3) := by decide +kernel
theorem d_C_init_22 : decode b_C_init 22 = .ok (.aload_n 0, 1) := by decide +kernel
theorem d_C_init_23 : decode b_C_init 23 = .ok (.sipush 200, 3) := by decide +kernel
theorem d_C_init_26 : decode b_C_init 26 = .ok (.newarray .int, 2) := by decide +kernel
theorem d_C_init_28 : decode b_C_init 28 = .ok (.putfield 18, 3) := by decide +kernel
theorem d_C_init_31 : decode b_C_init 31 = .ok (.aload_n 0, 1) := by decide +kernel
theorem d_C_init_32 : decode b_C_init 32 = .ok (.iconst 0, 1) := by decide +kernel
theorem d_C_init_33 : decode b_C_init 33 = .ok (.putfield 21, 3) := by decide +kernel
theorem d_C_init_36 : decode b_C_init 36 = .ok (.aload_n 0, 1) := by decide +kernel
theorem d_C_init_37 : decode b_C_init 37 = .ok (.iconst 0, 1) := by decide +kernel
theorem d_C_init_38 : decode b_C_init 38 = .ok (.putfield 25, 3) := by decide +kernel
theorem d_C_init_41 : decode b_C_init 41 = .ok (.aload_n 0, 1) := by decide +kernel
theorem d_C_init_42 : decode b_C_init 42 = .ok (.aload_n 1, 1) := by decide +kernel
theorem d_C_init_43 : decode b_C_init 43 = .ok (.putfield 28, 3) := by decide +kernel
theorem d_C_init_46 : decode b_C_init 46 = .ok (.aload_n 0, 1) := by decide +kernel
theorem d_C_init_47 : decode b_C_init 47 = .ok (.aload_n 2, 1) := by decide +kernel
theorem d_C_init_48 : decode b_C_init 48 = .ok (.putfield 32, 3) := by decide +kernel
theorem d_C_init_51 : decode b_C_init 51 = .ok (.return_, 1) := by decide +kernel
theorem d_Y_init_0 : decode b_Y_init 0 = .ok (.aload_n 0, 1) := by decide +kernel
theorem d_Y_init_1 : decode b_Y_init 1 = .ok (.invokespecial 3, 3) := by decide +kernel
theorem d_Y_init_4 : decode b_Y_init 4 = .ok (.aload_n 0, 1) := by decide +kernel
theorem d_Y_init_5 : decode b_Y_init 5 = .ok (.iconst 0, 1) := by decide +kernel
theorem d_Y_init_6 : decode b_Y_init 6 = .ok (.putfield 9, 3) := by decide +kernel
theorem d_Y_init_9 : decode b_Y_init 9 = .ok (.aload_n 0, 1) := by decide +kernel
theorem d_Y_init_10 : decode b_Y_init 10 = .ok (.iconst 0, 1) := by decide +kernel
theorem d_Y_init_11 : decode b_Y_init 11 = .ok (.putfield 15, 3) := by decide +kernel
theorem d_Y_init_14 : decode b_Y_init 14 = .ok (.aload_n 0, 1) := by decide +kernel
theorem d_Y_init_15 : decode b_Y_init 15 = .ok (.aload_n 1, 1) := by decide +kernel
theorem d_Y_init_16 : decode b_Y_init 16 = .ok (.putfield 18, 3) := by decide +kernel
theorem d_Y_init_19 : decode b_Y_init 19 = .ok (.aload_n 0, 1) := by decide +kernel
theorem d_Y_init_20 : decode b_Y_init 20 = .ok (.new 22, 3) := by decide +kernel
theorem d_Y_init_23 : decode b_Y_init 23 = .ok (.dup, 1) := by decide +kernel
theorem d_Y_init_24 : decode b_Y_init 24 = .ok (.aload_n 1, 1) := by decide +kernel
theorem d_Y_init_25 : decode b_Y_init 25 = .ok (.bipush 61, 2) := by decide +kernel
theorem d_Y_init_27 : decode b_Y_init 27 = .ok (.invokespecial 24, 3) := by decide +kernel
theorem d_Y_init_30 : decode b_Y_init 30 = .ok (.putfield 27, 3) := by decide +kernel
theorem d_Y_init_33 : decode b_Y_init 33 = .ok (.return_, 1) := by decide +kernel
set_option maxHeartbeats 4000000 in
set_option maxRecDepth 100000 in
theorem c_G_parts (l : Launch) (dC : Nat → ClassId) (dI : Nat → Nat → Nat) (sz : Nat) (a v : Nat) (za : Nat → Value) : Met l y_G_parts ws_G_parts ({ frames := 0, cells := 0, slots := 0, locals := 0 }) (va_Pc [.ref a] (fun U => U.heap.size = sz ∧ va_P (dC, dI) kcl [(a, .inr (1, [(za 0), (za 1), (za 2), (za 3), (za 4), (za 5), (za 6), (za 7), (za 8), (za 9), (za 10), (za 11), (za 12), .ref v]))] U.heap ∧ va_K (dC, dI) kcl [] U)) (va_Qr (fun (_ : Unit) => True) (fun (_ : Unit) (ra : Nat) (_ : State) => ra = v) (va_A [] sz)) 0 0 (va_A [] sz) := by
  refine Met.ofW (cc := b_G_parts) (maxL := 1) (ret := (Option.some (Jvm.ClassFile.FieldType.object "TreeMatcher$Parts"))) (by decide) rfl ?_
  intro p e s m args below meth c s₁ B hml hv
  obtain ⟨rfl, hsz, hP, hK⟩ := hv
  have hx := B.exec
  have hb := B.bytes
  have hr := B.returns
  have hlocks := B.notSynchronized
  have hg : ∀ w ∈ gw, w.before _ s = true := fun w h => atoms_spec (ws := ws_G_parts) B.pre w (List.mem_cons_of_mem _ h)
  have hown : s.vm.findClass "TreeMatcher$Grammar" = some m.cls := findClass_of_methodNamed B.named
  subst hsz
  have hA : ∀ q : Nat, s.heap.size ≤ q → va_A ([] : va_W) s.heap.size q := fun q h => Or.inr h
  generalize hAe : va_A ([] : va_W) s.heap.size = A at hA ⊢
  have hS : va_S A s.heap s.heap [] := va_S.rf
  have hl := lv_entry ([.ref a] : List Value) (n := 1) (Nat.le_of_ble_eq_true rfl)
  rw [lg_entry_eq]
  generalize (lg_sl ([.ref a] : List Value) ++ List.replicate (1 - (lg_sl ([.ref a] : List Value)).length) Slot.unset).toArray = ls at hl ⊢
  have hl : lv_has ls 1 [(0, .ref a)] := hl
  refine lv_aload_n hx hb d_G_parts_0 rfl (lv_at hl 0 rfl) ?_
  refine va_get (D := (dC, dI)) (ci := 1) (v := .ref v) (C := kR_G) (T := kT_G) (N := 14) hx hb hg kin_G hown hK hP 0 rfl rfl 13 (by decide) (hg _ tw_94) (fun _ h9 => h9) rfl d_G_parts_1 ?_
  exact W.aret (v := .ref v) hx hb hr (Or.inl ⟨_, rfl⟩) (Or.inr ⟨_, rfl⟩) (fun t ht hW => ⟨⟨(), v, rfl, trivial, rfl⟩, hS.F ht⟩) hS.2.2 d_G_parts_4
set_option maxHeartbeats 4000000 in
set_option maxRecDepth 100000 in
theorem c_P_byOperator (l : Launch) (dC : Nat → ClassId) (dI : Nat → Nat → Nat) (sz : Nat) (a v : Nat) (za : Nat → Value) : Met l y_P_byOperator ws_P_byOperator ({ frames := 0, cells := 0, slots := 0, locals := 0 }) (va_Pc [.ref a] (fun U => U.heap.size = sz ∧ va_P (dC, dI) kcl [(a, .inr (6, [(za 0), (za 1), (za 2), (za 3), .ref v, (za 5)]))] U.heap ∧ va_K (dC, dI) kcl [] U)) (va_Qr (fun (_ : Unit) => True) (fun (_ : Unit) (ra : Nat) (_ : State) => ra = v) (va_A [] sz)) 0 0 (va_A [] sz) := by
  refine Met.ofW (cc := b_P_byOperator) (maxL := 1) (ret := (Option.some (Jvm.ClassFile.FieldType.object "TreeMatcher$Groups"))) (by decide) rfl ?_
  intro p e s m args below meth c s₁ B hml hv
  obtain ⟨rfl, hsz, hP, hK⟩ := hv
  have hx := B.exec
  have hb := B.bytes
  have hr := B.returns
  have hlocks := B.notSynchronized
  have hg : ∀ w ∈ gw, w.before _ s = true := fun w h => atoms_spec (ws := ws_P_byOperator) B.pre w (List.mem_cons_of_mem _ h)
  have hown : s.vm.findClass "TreeMatcher$Parts" = some m.cls := findClass_of_methodNamed B.named
  subst hsz
  have hA : ∀ q : Nat, s.heap.size ≤ q → va_A ([] : va_W) s.heap.size q := fun q h => Or.inr h
  generalize hAe : va_A ([] : va_W) s.heap.size = A at hA ⊢
  have hS : va_S A s.heap s.heap [] := va_S.rf
  have hl := lv_entry ([.ref a] : List Value) (n := 1) (Nat.le_of_ble_eq_true rfl)
  rw [lg_entry_eq]
  generalize (lg_sl ([.ref a] : List Value) ++ List.replicate (1 - (lg_sl ([.ref a] : List Value)).length) Slot.unset).toArray = ls at hl ⊢
  have hl : lv_has ls 1 [(0, .ref a)] := hl
  refine lv_aload_n hx hb d_P_byOperator_0 rfl (lv_at hl 0 rfl) ?_
  refine va_get (D := (dC, dI)) (ci := 6) (v := .ref v) (C := kR_P) (T := kT_P) (N := 6) hx hb hg kin_P hown hK hP 0 rfl rfl 4 (by decide) (hg _ tw_63) (fun _ h9 => h9) rfl d_P_byOperator_1 ?_
  exact W.aret (v := .ref v) hx hb hr (Or.inl ⟨_, rfl⟩) (Or.inr ⟨_, rfl⟩) (fun t ht hW => ⟨⟨(), v, rfl, trivial, rfl⟩, hS.F ht⟩) hS.2.2 d_P_byOperator_4
set_option maxHeartbeats 4000000 in
set_option maxRecDepth 100000 in
theorem c_V_init_200 (l : Launch) (dC : Nat → ClassId) (dI : Nat → Nat → Nat) (sz : Nat) (v g pq bq : Nat) (zg : Nat → Value) (zpq : Nat → Value) : Met l y_V_init ws_V_init ({ frames := 2, cells := 6, slots := 1219, locals := 33 }) (va_Pc [.ref v, .ref g, .int 200] (fun U => U.heap.size = sz ∧ va_P (dC, dI) kcl [(v, .inr (5, [.null, .null, .null, .null, .null, .null, .null, .int 0])), (g, .inr (1, [(zg 0), (zg 1), (zg 2), (zg 3), (zg 4), (zg 5), (zg 6), (zg 7), (zg 8), (zg 9), (zg 10), (zg 11), (zg 12), .ref pq])), (pq, .inr (6, [(zpq 0), (zpq 1), (zpq 2), (zpq 3), .ref bq, .int 16]))] U.heap ∧ va_K (dC, dI) kcl [] U ∧ va_D (fun _ => True) [(v, .inr (5, [.null, .null, .null, .null, .null, .null, .null, .int 0])), (g, .inr (1, [(zg 0), (zg 1), (zg 2), (zg 3), (zg 4), (zg 5), (zg 6), (zg 7), (zg 8), (zg 9), (zg 10), (zg 11), (zg 12), .ref pq])), (pq, .inr (6, [(zpq 0), (zpq 1), (zpq 2), (zpq 3), .ref bq, .int 16]))] ∧ tx_C U)) (va_Qv (fun (_ : Unit) => True) (fun (_ : Unit) (t : State) => ∃ (zv : Nat → Value), va_P (dC, dI) kcl [(v, .inr (5, [(zv 0), (zv 1), (zv 2), (zv 3), (zv 4), (zv 5), (zv 6), .int 0])), (g, .inr (1, [(zg 0), (zg 1), (zg 2), (zg 3), (zg 4), (zg 5), (zg 6), (zg 7), (zg 8), (zg 9), (zg 10), (zg 11), (zg 12), .ref pq])), (pq, .inr (6, [(zpq 0), (zpq 1), (zpq 2), (zpq 3), .ref bq, .int 16]))] t.heap ∧ va_K (dC, dI) kcl [] t ∧ va_D (va_A [(v, .inr (5, [.null, .null, .null, .null, .null, .null, .null, .int 0])), (g, .inr (1, [(zg 0), (zg 1), (zg 2), (zg 3), (zg 4), (zg 5), (zg 6), (zg 7), (zg 8), (zg 9), (zg 10), (zg 11), (zg 12), .ref pq])), (pq, .inr (6, [(zpq 0), (zpq 1), (zpq 2), (zpq 3), .ref bq, .int 16]))] sz) [(v, .inr (5, [(zv 0), (zv 1), (zv 2), (zv 3), (zv 4), (zv 5), (zv 6), .int 0])), (g, .inr (1, [(zg 0), (zg 1), (zg 2), (zg 3), (zg 4), (zg 5), (zg 6), (zg 7), (zg 8), (zg 9), (zg 10), (zg 11), (zg 12), .ref pq])), (pq, .inr (6, [(zpq 0), (zpq 1), (zpq 2), (zpq 3), .ref bq, .int 16]))]) (va_A [(v, .inr (5, [.null, .null, .null, .null, .null, .null, .null, .int 0])), (g, .inr (1, [(zg 0), (zg 1), (zg 2), (zg 3), (zg 4), (zg 5), (zg 6), (zg 7), (zg 8), (zg 9), (zg 10), (zg 11), (zg 12), .ref pq])), (pq, .inr (6, [(zpq 0), (zpq 1), (zpq 2), (zpq 3), .ref bq, .int 16]))] sz)) 6 1219 (va_A [(v, .inr (5, [.null, .null, .null, .null, .null, .null, .null, .int 0])), (g, .inr (1, [(zg 0), (zg 1), (zg 2), (zg 3), (zg 4), (zg 5), (zg 6), (zg 7), (zg 8), (zg 9), (zg 10), (zg 11), (zg 12), .ref pq])), (pq, .inr (6, [(zpq 0), (zpq 1), (zpq 2), (zpq 3), .ref bq, .int 16]))] sz) := by
  refine Met.ofW (cc := b_V_init) (maxL := 3) (ret := (Option.none : Option Jvm.ClassFile.FieldType)) (by decide) rfl ?_
  intro p e s m args below meth c s₁ B hml hv
  obtain ⟨rfl, hsz, hP, hK, hD0, hG⟩ := hv
  have hx := B.exec
  have hb := B.bytes
  have hr := B.returns
  have hlocks := B.notSynchronized
  have hg : ∀ w ∈ gw, w.before _ s = true := fun w h => atoms_spec (ws := ws_V_init) B.pre w (List.mem_cons_of_mem _ h)
  have hown : s.vm.findClass "TreeMatcher$Vectors" = some m.cls := findClass_of_methodNamed B.named
  have hin : meth.name = "<init>" := (name_of_methodNamed B.named B.method).1
  subst hsz
  have hD := hD0.self (sz := s.heap.size)
  have hA : ∀ q : Nat, s.heap.size ≤ q → va_A [(v, .inr (5, [.null, .null, .null, .null, .null, .null, .null, .int 0])), (g, .inr (1, [(zg 0), (zg 1), (zg 2), (zg 3), (zg 4), (zg 5), (zg 6), (zg 7), (zg 8), (zg 9), (zg 10), (zg 11), (zg 12), .ref pq])), (pq, .inr (6, [(zpq 0), (zpq 1), (zpq 2), (zpq 3), .ref bq, .int 16]))] s.heap.size q := fun q h => Or.inr h
  generalize hAe : va_A [(v, .inr (5, [.null, .null, .null, .null, .null, .null, .null, .int 0])), (g, .inr (1, [(zg 0), (zg 1), (zg 2), (zg 3), (zg 4), (zg 5), (zg 6), (zg 7), (zg 8), (zg 9), (zg 10), (zg 11), (zg 12), .ref pq])), (pq, .inr (6, [(zpq 0), (zpq 1), (zpq 2), (zpq 3), .ref bq, .int 16]))] s.heap.size = A at hD hA ⊢
  have hN : tx_N s := hG.1
  have hS : va_S A s.heap s.heap [] := va_S.rf
  have hl := lv_entry ([.ref v, .ref g, .int 200] : List Value) (n := 3) (Nat.le_of_ble_eq_true rfl)
  rw [lg_entry_eq]
  generalize (lg_sl ([.ref v, .ref g, .int 200] : List Value) ++ List.replicate (3 - (lg_sl ([.ref v, .ref g, .int 200] : List Value)).length) Slot.unset).toArray = ls at hl ⊢
  have hl : lv_has ls 3 [(0, .ref v), (1, .ref g), (2, .int 200)] := hl
  refine lv_aload_n hx hb d_V_init_0 rfl (lv_at hl 0 rfl) ?_
  refine W.objInit hx hb hown (hg _ tw_153) (hg _ tw_26) (hg _ tw_27) rfl (by rw [hml]; exact hl.1) rfl d_V_init_1 (Nat.le_of_ble_eq_true rfl) (Nat.le_of_ble_eq_true rfl) ?_
  refine W.eq (g2 := F0 m 4 ls []) rfl ?_
  refine lv_aload_n hx hb d_V_init_4 rfl (lv_at hl 0 rfl) ?_
  refine lv_sipush (v := 784) hx hb d_V_init_5 (by decide) ?_
  refine va_newa (atype := .long) (ty := .long) (a0 := (784, .inr (.inl (fun _ => 0)))) (N' := 784) hx hb (hg _ tw_147) rfl hK hP hD hS hA (fun _ => rfl) (by decide) (by decide +kernel) (by decide) (Nat.le_of_ble_eq_true rfl) (Nat.le_of_ble_eq_true rfl) d_V_init_8 (fun q_2 cq_2 H_1 hK hP hD hS => ?_)
  have hP := hP.sub (ws' := [(v, .inr (5, [.null, .null, .null, .null, .null, .null, .null, .int 0])), (g, .inr (1, [(zg 0), (zg 1), (zg 2), (zg 3), (zg 4), (zg 5), (zg 6), (zg 7), (zg 8), (zg 9), (zg 10), (zg 11), (zg 12), .ref pq])), (pq, .inr (6, [(zpq 0), (zpq 1), (zpq 2), (zpq 3), .ref bq, .int 16]))]) [0, 1, 2] rfl
  have hD := hD.sub (ws' := [(v, .inr (5, [.null, .null, .null, .null, .null, .null, .null, .int 0])), (g, .inr (1, [(zg 0), (zg 1), (zg 2), (zg 3), (zg 4), (zg 5), (zg 6), (zg 7), (zg 8), (zg 9), (zg 10), (zg 11), (zg 12), .ref pq])), (pq, .inr (6, [(zpq 0), (zpq 1), (zpq 2), (zpq 3), .ref bq, .int 16]))]) [0, 1, 2] (by decide) rfl
  have hK := hK.sub (tys' := []) [] rfl
  refine va_putF (D := (dC, dI)) (ci := 5) (v := .ref q_2) (ty := .array .long) (C := kR_V) (T := kT_V) (N := 8) hx hb hg kin_V kt_V kty_V knm_V hown hK hP hD hS 0 rfl rfl 6 (by decide) (hg _ tw_172) (fun _ h9 => h9) rfl hin rfl (by decide +kernel) rfl rfl (Nat.le_of_ble_eq_true rfl) d_V_init_10 (fun H_3 lo_4 hP hD hS => ?_)
  have hP : va_P (dC, dI) kcl [(v, .inr (5, [.null, .null, .null, .null, .null, .null, .ref q_2, .int 0])), (g, .inr (1, [(zg 0), (zg 1), (zg 2), (zg 3), (zg 4), (zg 5), (zg 6), (zg 7), (zg 8), (zg 9), (zg 10), (zg 11), (zg 12), .ref pq])), (pq, .inr (6, [(zpq 0), (zpq 1), (zpq 2), (zpq 3), .ref bq, .int 16]))] H_3 := hP
  have hD : va_D A [(v, .inr (5, [.null, .null, .null, .null, .null, .null, .ref q_2, .int 0])), (g, .inr (1, [(zg 0), (zg 1), (zg 2), (zg 3), (zg 4), (zg 5), (zg 6), (zg 7), (zg 8), (zg 9), (zg 10), (zg 11), (zg 12), .ref pq])), (pq, .inr (6, [(zpq 0), (zpq 1), (zpq 2), (zpq 3), .ref bq, .int 16]))] := hD
  refine lv_aload_n hx hb d_V_init_13 rfl (lv_at hl 0 rfl) ?_
  refine lv_iconst (v := 0) hx hb d_V_init_14 (by decide) ?_
  refine va_put (D := (dC, dI)) (ci := 5) (v := .int 0) (ty := .int) (C := kR_V) (T := kT_V) (N := 8) hx hb hg kin_V kt_V kty_V knm_V hown hK hP hD hS 0 rfl rfl 7 (by decide) (hg _ tw_173) (fun _ h9 => h9) rfl (by decide +kernel) rfl rfl (Nat.le_of_ble_eq_true rfl) d_V_init_15 (fun H_5 lo_6 hP hD hS => ?_)
  have hP : va_P (dC, dI) kcl [(v, .inr (5, [.null, .null, .null, .null, .null, .null, .ref q_2, .int 0])), (g, .inr (1, [(zg 0), (zg 1), (zg 2), (zg 3), (zg 4), (zg 5), (zg 6), (zg 7), (zg 8), (zg 9), (zg 10), (zg 11), (zg 12), .ref pq])), (pq, .inr (6, [(zpq 0), (zpq 1), (zpq 2), (zpq 3), .ref bq, .int 16]))] H_5 := hP
  have hD : va_D A [(v, .inr (5, [.null, .null, .null, .null, .null, .null, .ref q_2, .int 0])), (g, .inr (1, [(zg 0), (zg 1), (zg 2), (zg 3), (zg 4), (zg 5), (zg 6), (zg 7), (zg 8), (zg 9), (zg 10), (zg 11), (zg 12), .ref pq])), (pq, .inr (6, [(zpq 0), (zpq 1), (zpq 2), (zpq 3), .ref bq, .int 16]))] := hD
  refine lv_aload_n hx hb d_V_init_18 rfl (lv_at hl 0 rfl) ?_
  refine lv_aload_n hx hb d_V_init_19 rfl (lv_at hl 1 rfl) ?_
  refine va_putF (D := (dC, dI)) (ci := 5) (v := .ref g) (ty := .object "TreeMatcher$Grammar") (C := kR_V) (T := kT_V) (N := 8) hx hb hg kin_V kt_V kty_V knm_V hown hK hP hD hS 0 rfl rfl 0 (by decide) (hg _ tw_166) (fun _ h9 => h9) rfl hin rfl (by decide +kernel) rfl rfl (Nat.le_of_ble_eq_true rfl) d_V_init_20 (fun H_7 lo_8 hP hD hS => ?_)
  have hP : va_P (dC, dI) kcl [(v, .inr (5, [.ref g, .null, .null, .null, .null, .null, .ref q_2, .int 0])), (g, .inr (1, [(zg 0), (zg 1), (zg 2), (zg 3), (zg 4), (zg 5), (zg 6), (zg 7), (zg 8), (zg 9), (zg 10), (zg 11), (zg 12), .ref pq])), (pq, .inr (6, [(zpq 0), (zpq 1), (zpq 2), (zpq 3), .ref bq, .int 16]))] H_7 := hP
  have hD : va_D A [(v, .inr (5, [.ref g, .null, .null, .null, .null, .null, .ref q_2, .int 0])), (g, .inr (1, [(zg 0), (zg 1), (zg 2), (zg 3), (zg 4), (zg 5), (zg 6), (zg 7), (zg 8), (zg 9), (zg 10), (zg 11), (zg 12), .ref pq])), (pq, .inr (6, [(zpq 0), (zpq 1), (zpq 2), (zpq 3), .ref bq, .int 16]))] := hD
  refine lv_aload_n hx hb d_V_init_23 rfl (lv_at hl 0 rfl) ?_
  refine lv_aload_n hx hb d_V_init_24 rfl (lv_at hl 1 rfl) ?_
  have hPc := hP.sub (ws' := [(g, .inr (1, [(zg 0), (zg 1), (zg 2), (zg 3), (zg 4), (zg 5), (zg 6), (zg 7), (zg 8), (zg 9), (zg 10), (zg 11), (zg 12), .ref pq]))]) [1] rfl
  have hKc := hK.sub (tys' := []) [] rfl
  refine va_callr (va_runV (As := []) (rest := [.ref v]) ⟨hx, hb, hml, hown, hg⟩ (c_G_parts l dC dI H_7.size g pq zg) (cwV 0 hg (gw_giV cin_G_parts tw_154 tw_155 tw_156 tw_2) rfl rfl rfl (by decide +kernel) ⟨Nat.le_of_ble_eq_true rfl, Nat.le_of_ble_eq_true rfl⟩) ⟨fun a U g mk q => by obtain ⟨q0, q1, qP, qK⟩ := q; exact ⟨q0, q1, qP, va_K.moved (u := U) (U := U.calling g mk a) (Vm.Alike.refl U.vm) qK⟩, va_recv hKc hPc (ci := 1) (q0 := 0) rfl rfl, fun U hU hW => ⟨rfl, by rw [hU], by rw [hU]; exact hPc, va_K.moved hW.alike hKc⟩⟩ rfl rfl hl.1 rfl (lv_room (Nat.le_of_ble_eq_true rfl)) d_V_init_25 ⟨Nat.le_of_ble_eq_true rfl, Nat.le_of_ble_eq_true rfl⟩) hS (fun q h1 h => (tx_pA h1 h).elim) (tx_pF hS hA) (fun u_k_9 a_k_9 t_k_9 H_10 l_k_9 ht hvm hw_k_9 hB hz1 hk1 hS => ?_)
  have hB : pq = a_k_9 := Eq.symm hB
  subst hB
  have hP := tx_keep hP hk1
  refine va_putF (D := (dC, dI)) (ci := 5) (v := .ref pq) (ty := .object "TreeMatcher$Parts") (C := kR_V) (T := kT_V) (N := 8) hx hb hg kin_V kt_V kty_V knm_V hown hK hP hD hS 0 rfl rfl 1 (by decide) (hg _ tw_167) (fun _ h9 => h9) rfl hin rfl (by decide +kernel) rfl rfl (Nat.le_of_ble_eq_true rfl) d_V_init_28 (fun H_11 lo_12 hP hD hS => ?_)
  have hP : va_P (dC, dI) kcl [(v, .inr (5, [.ref g, .ref pq, .null, .null, .null, .null, .ref q_2, .int 0])), (g, .inr (1, [(zg 0), (zg 1), (zg 2), (zg 3), (zg 4), (zg 5), (zg 6), (zg 7), (zg 8), (zg 9), (zg 10), (zg 11), (zg 12), .ref pq])), (pq, .inr (6, [(zpq 0), (zpq 1), (zpq 2), (zpq 3), .ref bq, .int 16]))] H_11 := hP
  have hD : va_D A [(v, .inr (5, [.ref g, .ref pq, .null, .null, .null, .null, .ref q_2, .int 0])), (g, .inr (1, [(zg 0), (zg 1), (zg 2), (zg 3), (zg 4), (zg 5), (zg 6), (zg 7), (zg 8), (zg 9), (zg 10), (zg 11), (zg 12), .ref pq])), (pq, .inr (6, [(zpq 0), (zpq 1), (zpq 2), (zpq 3), .ref bq, .int 16]))] := hD
  refine lv_aload_n hx hb d_V_init_31 rfl (lv_at hl 0 rfl) ?_
  refine lv_aload_n hx hb d_V_init_32 rfl (lv_at hl 0 rfl) ?_
  refine va_get (D := (dC, dI)) (ci := 5) (v := .ref pq) (C := kR_V) (T := kT_V) (N := 8) hx hb hg kin_V hown hK hP 0 rfl rfl 1 (by decide) (hg _ tw_167) (fun _ h9 => h9) rfl d_V_init_33 ?_
  have hPc := hP.sub (ws' := [(pq, .inr (6, [(zpq 0), (zpq 1), (zpq 2), (zpq 3), .ref bq, .int 16]))]) [2] rfl
  have hKc := hK.sub (tys' := []) [] rfl
  refine va_callr (va_runV (As := []) (rest := [.ref v]) ⟨hx, hb, hml, hown, hg⟩ (c_P_byOperator l dC dI H_11.size pq bq (fun i => if i = 5 then .int 16 else zpq i)) (cwV 0 hg (gw_giV cin_P_byOperator tw_158 tw_159 tw_160 tw_4) rfl rfl rfl (by decide +kernel) ⟨Nat.le_of_ble_eq_true rfl, Nat.le_of_ble_eq_true rfl⟩) ⟨fun a U g mk q => by obtain ⟨q0, q1, qP, qK⟩ := q; exact ⟨q0, q1, qP, va_K.moved (u := U) (U := U.calling g mk a) (Vm.Alike.refl U.vm) qK⟩, va_recv hKc hPc (ci := 6) (q0 := 0) rfl rfl, fun U hU hW => ⟨rfl, by rw [hU], by rw [hU]; exact hPc, va_K.moved hW.alike hKc⟩⟩ rfl rfl hl.1 rfl (lv_room (Nat.le_of_ble_eq_true rfl)) d_V_init_36 ⟨Nat.le_of_ble_eq_true rfl, Nat.le_of_ble_eq_true rfl⟩) hS (fun q h1 h => (tx_pA h1 h).elim) (tx_pF hS hA) (fun u_k_13 a_k_13 t_k_13 H_14 l_k_13 ht hvm hw_k_13 hB hz1 hk1 hS => ?_)
  have hB : bq = a_k_13 := Eq.symm hB
  subst hB
  have hP := tx_keep hP hk1
  refine va_putF (D := (dC, dI)) (ci := 5) (v := .ref bq) (ty := .object "TreeMatcher$Groups") (C := kR_V) (T := kT_V) (N := 8) hx hb hg kin_V kt_V kty_V knm_V hown hK hP hD hS 0 rfl rfl 2 (by decide) (hg _ tw_168) (fun _ h9 => h9) rfl hin rfl (by decide +kernel) rfl rfl (Nat.le_of_ble_eq_true rfl) d_V_init_39 (fun H_15 lo_16 hP hD hS => ?_)
  have hP : va_P (dC, dI) kcl [(v, .inr (5, [.ref g, .ref pq, .ref bq, .null, .null, .null, .ref q_2, .int 0])), (g, .inr (1, [(zg 0), (zg 1), (zg 2), (zg 3), (zg 4), (zg 5), (zg 6), (zg 7), (zg 8), (zg 9), (zg 10), (zg 11), (zg 12), .ref pq])), (pq, .inr (6, [(zpq 0), (zpq 1), (zpq 2), (zpq 3), .ref bq, .int 16]))] H_15 := hP
  have hD : va_D A [(v, .inr (5, [.ref g, .ref pq, .ref bq, .null, .null, .null, .ref q_2, .int 0])), (g, .inr (1, [(zg 0), (zg 1), (zg 2), (zg 3), (zg 4), (zg 5), (zg 6), (zg 7), (zg 8), (zg 9), (zg 10), (zg 11), (zg 12), .ref pq])), (pq, .inr (6, [(zpq 0), (zpq 1), (zpq 2), (zpq 3), .ref bq, .int 16]))] := hD
  refine lv_aload_n hx hb d_V_init_42 rfl (lv_at hl 0 rfl) ?_
  refine va_new (ci := 8) (fs := [.null, .null, .null]) (C := kR_L) (T := kT_L) (N := 3) hx hb hg kin_L kt_L kty_L hown (hg _ tw_162) (hg _ tw_131) (hg _ tw_7) hK hP hD hS hA rfl kdf_L (Nat.le_of_ble_eq_true rfl) (Nat.le_of_ble_eq_true rfl) d_V_init_43 (fun lq H_17 hP hD hS => ?_)
  have hP : va_P (dC, dI) kcl [(v, .inr (5, [.ref g, .ref pq, .ref bq, .null, .null, .null, .ref q_2, .int 0])), (g, .inr (1, [(zg 0), (zg 1), (zg 2), (zg 3), (zg 4), (zg 5), (zg 6), (zg 7), (zg 8), (zg 9), (zg 10), (zg 11), (zg 12), .ref pq])), (pq, .inr (6, [(zpq 0), (zpq 1), (zpq 2), (zpq 3), .ref bq, .int 16])), (lq, .inr (8, [.null, .null, .null]))] H_17 := hP
  have hD : va_D A [(v, .inr (5, [.ref g, .ref pq, .ref bq, .null, .null, .null, .ref q_2, .int 0])), (g, .inr (1, [(zg 0), (zg 1), (zg 2), (zg 3), (zg 4), (zg 5), (zg 6), (zg 7), (zg 8), (zg 9), (zg 10), (zg 11), (zg 12), .ref pq])), (pq, .inr (6, [(zpq 0), (zpq 1), (zpq 2), (zpq 3), .ref bq, .int 16])), (lq, .inr (8, [.null, .null, .null]))] := hD
  refine lv_dup hx hb d_V_init_46 rfl ?_
  refine lv_aload_n hx hb d_V_init_47 rfl (lv_at hl 1 rfl) ?_
  have hPc := hP.sub (ws' := [(lq, .inr (8, [.null, .null, .null]))]) [3] rfl
  have hKc := hK.sub (tys' := []) [] rfl
  have hDc := hD.sub (ws' := [(lq, .inr (8, [.null, .null, .null]))]) [3] (by decide) rfl
  have hFc := va_free (wc := [(lq, .inr (8, [.null, .null, .null]))]) hD hS hA [3] rfl
  refine va_callv (va_runI (As := [.ref g]) (rest := [.ref lq, .ref v]) ⟨hx, hb, hml, hown, hg⟩ (c_L_init l dC dI H_17.size lq g) (cwI 1 hg (gw_gi cin_L_init) rfl rfl rfl (hg _ tw_7) (hg _ tw_163) (hg _ tw_133) rfl (by decide +kernel) ⟨Nat.le_of_ble_eq_true rfl, Nat.le_of_ble_eq_true rfl⟩) ⟨fun a U g mk q => by obtain ⟨q0, q1, qP, qK, qD⟩ := q; exact ⟨q0, q1, qP, va_K.moved (u := U) (U := U.calling g mk a) (Vm.Alike.refl U.vm) qK, qD⟩, fun U hU hW => ⟨rfl, by rw [hU], by rw [hU]; exact hPc, va_K.moved hW.alike hKc, hDc.weaken (fun _ _ _ _ => trivial)⟩⟩ rfl rfl hl.1 rfl (lv_room (Nat.le_of_ble_eq_true rfl)) d_V_init_48 ⟨Nat.le_of_ble_eq_true rfl, Nat.le_of_ble_eq_true rfl⟩) hS (fun q _ h => hFc q h) hFc (fun u_k_18 t_k_18 H_19 l_k_18 ht hvm hw_k_18 hB hz1 hk1 hS => ?_)
  obtain ⟨hP, hD⟩ := tx_rest (wc := [(lq, .inr (8, [.null, .null, .null]))]) (wr := [(v, .inr (5, [.ref g, .ref pq, .ref bq, .null, .null, .null, .ref q_2, .int 0])), (g, .inr (1, [(zg 0), (zg 1), (zg 2), (zg 3), (zg 4), (zg 5), (zg 6), (zg 7), (zg 8), (zg 9), (zg 10), (zg 11), (zg 12), .ref pq])), (pq, .inr (6, [(zpq 0), (zpq 1), (zpq 2), (zpq 3), .ref bq, .int 16]))]) hP hD [3] [0, 1, 2] rfl rfl (by decide) (by decide) hk1 hFc
  have hK := hK.sub (tys' := []) [] rfl
  refine va_putF (D := (dC, dI)) (ci := 5) (v := .ref lq) (ty := .object "TreeMatcher$Labels") (C := kR_V) (T := kT_V) (N := 8) hx hb hg kin_V kt_V kty_V knm_V hown hK hP hD hS 0 rfl rfl 3 (by decide) (hg _ tw_169) (fun _ h9 => h9) rfl hin rfl (by decide +kernel) rfl rfl (Nat.le_of_ble_eq_true rfl) d_V_init_51 (fun H_20 lo_21 hP hD hS => ?_)
  have hP : va_P (dC, dI) kcl [(v, .inr (5, [.ref g, .ref pq, .ref bq, .ref lq, .null, .null, .ref q_2, .int 0])), (g, .inr (1, [(zg 0), (zg 1), (zg 2), (zg 3), (zg 4), (zg 5), (zg 6), (zg 7), (zg 8), (zg 9), (zg 10), (zg 11), (zg 12), .ref pq])), (pq, .inr (6, [(zpq 0), (zpq 1), (zpq 2), (zpq 3), .ref bq, .int 16]))] H_20 := hP
  have hD : va_D A [(v, .inr (5, [.ref g, .ref pq, .ref bq, .ref lq, .null, .null, .ref q_2, .int 0])), (g, .inr (1, [(zg 0), (zg 1), (zg 2), (zg 3), (zg 4), (zg 5), (zg 6), (zg 7), (zg 8), (zg 9), (zg 10), (zg 11), (zg 12), .ref pq])), (pq, .inr (6, [(zpq 0), (zpq 1), (zpq 2), (zpq 3), .ref bq, .int 16]))] := hD
  refine lv_aload_n hx hb d_V_init_54 rfl (lv_at hl 0 rfl) ?_
  refine lv_iload_n hx hb d_V_init_55 rfl (lv_at hl 2 rfl) ?_
  refine tx_newrows (N' := 200) hx hb hown (hg _ tw_164) hG.2 hP hS (by decide) (by decide +kernel) (by decide) (Nat.le_of_ble_eq_true rfl) (Nat.le_of_ble_eq_true rfl) d_V_init_56 (fun q_22 H_23 hP hS => ?_)
  refine va_putF (D := (dC, dI)) (ci := 5) (v := .ref q_22) (ty := .array (.array .long)) (C := kR_V) (T := kT_V) (N := 8) hx hb hg kin_V kt_V kty_V knm_V hown hK hP hD hS 0 rfl rfl 4 (by decide) (hg _ tw_170) (fun _ h9 => h9) rfl hin rfl (by decide +kernel) rfl rfl (Nat.le_of_ble_eq_true rfl) d_V_init_59 (fun H_24 lo_25 hP hD hS => ?_)
  have hP : va_P (dC, dI) kcl [(v, .inr (5, [.ref g, .ref pq, .ref bq, .ref lq, .ref q_22, .null, .ref q_2, .int 0])), (g, .inr (1, [(zg 0), (zg 1), (zg 2), (zg 3), (zg 4), (zg 5), (zg 6), (zg 7), (zg 8), (zg 9), (zg 10), (zg 11), (zg 12), .ref pq])), (pq, .inr (6, [(zpq 0), (zpq 1), (zpq 2), (zpq 3), .ref bq, .int 16]))] H_24 := hP
  have hD : va_D A [(v, .inr (5, [.ref g, .ref pq, .ref bq, .ref lq, .ref q_22, .null, .ref q_2, .int 0])), (g, .inr (1, [(zg 0), (zg 1), (zg 2), (zg 3), (zg 4), (zg 5), (zg 6), (zg 7), (zg 8), (zg 9), (zg 10), (zg 11), (zg 12), .ref pq])), (pq, .inr (6, [(zpq 0), (zpq 1), (zpq 2), (zpq 3), .ref bq, .int 16]))] := hD
  refine lv_aload_n hx hb d_V_init_62 rfl (lv_at hl 0 rfl) ?_
  refine lv_iload_n hx hb d_V_init_63 rfl (lv_at hl 2 rfl) ?_
  refine va_newa (atype := .int) (ty := .int) (a0 := (200, .inl (fun _ => 0))) (N' := 200) hx hb (hg _ tw_50) rfl hK hP hD hS hA (fun _ => rfl) (by decide) (by decide +kernel) (by decide) (Nat.le_of_ble_eq_true rfl) (Nat.le_of_ble_eq_true rfl) d_V_init_64 (fun q_27 cq_27 H_26 hK hP hD hS => ?_)
  have hP := hP.sub (ws' := [(v, .inr (5, [.ref g, .ref pq, .ref bq, .ref lq, .ref q_22, .null, .ref q_2, .int 0])), (g, .inr (1, [(zg 0), (zg 1), (zg 2), (zg 3), (zg 4), (zg 5), (zg 6), (zg 7), (zg 8), (zg 9), (zg 10), (zg 11), (zg 12), .ref pq])), (pq, .inr (6, [(zpq 0), (zpq 1), (zpq 2), (zpq 3), .ref bq, .int 16]))]) [0, 1, 2] rfl
  have hD := hD.sub (ws' := [(v, .inr (5, [.ref g, .ref pq, .ref bq, .ref lq, .ref q_22, .null, .ref q_2, .int 0])), (g, .inr (1, [(zg 0), (zg 1), (zg 2), (zg 3), (zg 4), (zg 5), (zg 6), (zg 7), (zg 8), (zg 9), (zg 10), (zg 11), (zg 12), .ref pq])), (pq, .inr (6, [(zpq 0), (zpq 1), (zpq 2), (zpq 3), .ref bq, .int 16]))]) [0, 1, 2] (by decide) rfl
  have hK := hK.sub (tys' := []) [] rfl
  refine va_putF (D := (dC, dI)) (ci := 5) (v := .ref q_27) (ty := .array .int) (C := kR_V) (T := kT_V) (N := 8) hx hb hg kin_V kt_V kty_V knm_V hown hK hP hD hS 0 rfl rfl 5 (by decide) (hg _ tw_171) (fun _ h9 => h9) rfl hin rfl (by decide +kernel) rfl rfl (Nat.le_of_ble_eq_true rfl) d_V_init_66 (fun H_28 lo_29 hP hD hS => ?_)
  have hP : va_P (dC, dI) kcl [(v, .inr (5, [.ref g, .ref pq, .ref bq, .ref lq, .ref q_22, .ref q_27, .ref q_2, .int 0])), (g, .inr (1, [(zg 0), (zg 1), (zg 2), (zg 3), (zg 4), (zg 5), (zg 6), (zg 7), (zg 8), (zg 9), (zg 10), (zg 11), (zg 12), .ref pq])), (pq, .inr (6, [(zpq 0), (zpq 1), (zpq 2), (zpq 3), .ref bq, .int 16]))] H_28 := hP
  have hD : va_D A [(v, .inr (5, [.ref g, .ref pq, .ref bq, .ref lq, .ref q_22, .ref q_27, .ref q_2, .int 0])), (g, .inr (1, [(zg 0), (zg 1), (zg 2), (zg 3), (zg 4), (zg 5), (zg 6), (zg 7), (zg 8), (zg 9), (zg 10), (zg 11), (zg 12), .ref pq])), (pq, .inr (6, [(zpq 0), (zpq 1), (zpq 2), (zpq 3), .ref bq, .int 16]))] := hD
  have hP9 := hP.sub (ws' := [(v, .inr (5, [.ref g, .ref pq, .ref bq, .ref lq, .ref q_22, .ref q_27, .ref q_2, .int 0])), (g, .inr (1, [(zg 0), (zg 1), (zg 2), (zg 3), (zg 4), (zg 5), (zg 6), (zg 7), (zg 8), (zg 9), (zg 10), (zg 11), (zg 12), .ref pq])), (pq, .inr (6, [(zpq 0), (zpq 1), (zpq 2), (zpq 3), .ref bq, .int 16]))]) [0, 1, 2] rfl
  have hD9 := hD.sub (ws' := [(v, .inr (5, [.ref g, .ref pq, .ref bq, .ref lq, .ref q_22, .ref q_27, .ref q_2, .int 0])), (g, .inr (1, [(zg 0), (zg 1), (zg 2), (zg 3), (zg 4), (zg 5), (zg 6), (zg 7), (zg 8), (zg 9), (zg 10), (zg 11), (zg 12), .ref pq])), (pq, .inr (6, [(zpq 0), (zpq 1), (zpq 2), (zpq 3), .ref bq, .int 16]))]) [0, 1, 2] (by decide) rfl
  have hK9 := hK.sub (tys' := []) [] rfl
  exact W.vret hx hb hr (fun t ht hW => ⟨⟨(), rfl, trivial, ⟨(fun i => List.getD [Value.ref g, Value.ref pq, Value.ref bq, Value.ref lq, Value.ref q_22, Value.ref q_27, Value.ref q_2, Value.int (0 : Int32)] i Value.null), by rw [ht]; exact hP9, va_K.moved hW.alike hK9, hD9⟩⟩, hS.F ht⟩) hS.2.2 d_V_init_69
set_option maxHeartbeats 4000000 in
set_option maxRecDepth 100000 in
theorem c_V_init_61 (l : Launch) (dC : Nat → ClassId) (dI : Nat → Nat → Nat) (sz : Nat) (v g pq bq : Nat) (zg : Nat → Value) (zpq : Nat → Value) : Met l y_V_init ws_V_init ({ frames := 2, cells := 6, slots := 941, locals := 33 }) (va_Pc [.ref v, .ref g, .int 61] (fun U => U.heap.size = sz ∧ va_P (dC, dI) kcl [(v, .inr (5, [.null, .null, .null, .null, .null, .null, .null, .int 0])), (g, .inr (1, [(zg 0), (zg 1), (zg 2), (zg 3), (zg 4), (zg 5), (zg 6), (zg 7), (zg 8), (zg 9), (zg 10), (zg 11), (zg 12), .ref pq])), (pq, .inr (6, [(zpq 0), (zpq 1), (zpq 2), (zpq 3), .ref bq, .int 16]))] U.heap ∧ va_K (dC, dI) kcl [] U ∧ va_D (fun _ => True) [(v, .inr (5, [.null, .null, .null, .null, .null, .null, .null, .int 0])), (g, .inr (1, [(zg 0), (zg 1), (zg 2), (zg 3), (zg 4), (zg 5), (zg 6), (zg 7), (zg 8), (zg 9), (zg 10), (zg 11), (zg 12), .ref pq])), (pq, .inr (6, [(zpq 0), (zpq 1), (zpq 2), (zpq 3), .ref bq, .int 16]))] ∧ tx_C U)) (va_Qv (fun (_ : Unit) => True) (fun (_ : Unit) (t : State) => ∃ (zv : Nat → Value), va_P (dC, dI) kcl [(v, .inr (5, [(zv 0), (zv 1), (zv 2), (zv 3), (zv 4), (zv 5), (zv 6), .int 0])), (g, .inr (1, [(zg 0), (zg 1), (zg 2), (zg 3), (zg 4), (zg 5), (zg 6), (zg 7), (zg 8), (zg 9), (zg 10), (zg 11), (zg 12), .ref pq])), (pq, .inr (6, [(zpq 0), (zpq 1), (zpq 2), (zpq 3), .ref bq, .int 16]))] t.heap ∧ va_K (dC, dI) kcl [] t ∧ va_D (va_A [(v, .inr (5, [.null, .null, .null, .null, .null, .null, .null, .int 0])), (g, .inr (1, [(zg 0), (zg 1), (zg 2), (zg 3), (zg 4), (zg 5), (zg 6), (zg 7), (zg 8), (zg 9), (zg 10), (zg 11), (zg 12), .ref pq])), (pq, .inr (6, [(zpq 0), (zpq 1), (zpq 2), (zpq 3), .ref bq, .int 16]))] sz) [(v, .inr (5, [(zv 0), (zv 1), (zv 2), (zv 3), (zv 4), (zv 5), (zv 6), .int 0])), (g, .inr (1, [(zg 0), (zg 1), (zg 2), (zg 3), (zg 4), (zg 5), (zg 6), (zg 7), (zg 8), (zg 9), (zg 10), (zg 11), (zg 12), .ref pq])), (pq, .inr (6, [(zpq 0), (zpq 1), (zpq 2), (zpq 3), .ref bq, .int 16]))]) (va_A [(v, .inr (5, [.null, .null, .null, .null, .null, .null, .null, .int 0])), (g, .inr (1, [(zg 0), (zg 1), (zg 2), (zg 3), (zg 4), (zg 5), (zg 6), (zg 7), (zg 8), (zg 9), (zg 10), (zg 11), (zg 12), .ref pq])), (pq, .inr (6, [(zpq 0), (zpq 1), (zpq 2), (zpq 3), .ref bq, .int 16]))] sz)) 6 941 (va_A [(v, .inr (5, [.null, .null, .null, .null, .null, .null, .null, .int 0])), (g, .inr (1, [(zg 0), (zg 1), (zg 2), (zg 3), (zg 4), (zg 5), (zg 6), (zg 7), (zg 8), (zg 9), (zg 10), (zg 11), (zg 12), .ref pq])), (pq, .inr (6, [(zpq 0), (zpq 1), (zpq 2), (zpq 3), .ref bq, .int 16]))] sz) := by
  refine Met.ofW (cc := b_V_init) (maxL := 3) (ret := (Option.none : Option Jvm.ClassFile.FieldType)) (by decide) rfl ?_
  intro p e s m args below meth c s₁ B hml hv
  obtain ⟨rfl, hsz, hP, hK, hD0, hG⟩ := hv
  have hx := B.exec
  have hb := B.bytes
  have hr := B.returns
  have hlocks := B.notSynchronized
  have hg : ∀ w ∈ gw, w.before _ s = true := fun w h => atoms_spec (ws := ws_V_init) B.pre w (List.mem_cons_of_mem _ h)
  have hown : s.vm.findClass "TreeMatcher$Vectors" = some m.cls := findClass_of_methodNamed B.named
  have hin : meth.name = "<init>" := (name_of_methodNamed B.named B.method).1
  subst hsz
  have hD := hD0.self (sz := s.heap.size)
  have hA : ∀ q : Nat, s.heap.size ≤ q → va_A [(v, .inr (5, [.null, .null, .null, .null, .null, .null, .null, .int 0])), (g, .inr (1, [(zg 0), (zg 1), (zg 2), (zg 3), (zg 4), (zg 5), (zg 6), (zg 7), (zg 8), (zg 9), (zg 10), (zg 11), (zg 12), .ref pq])), (pq, .inr (6, [(zpq 0), (zpq 1), (zpq 2), (zpq 3), .ref bq, .int 16]))] s.heap.size q := fun q h => Or.inr h
  generalize hAe : va_A [(v, .inr (5, [.null, .null, .null, .null, .null, .null, .null, .int 0])), (g, .inr (1, [(zg 0), (zg 1), (zg 2), (zg 3), (zg 4), (zg 5), (zg 6), (zg 7), (zg 8), (zg 9), (zg 10), (zg 11), (zg 12), .ref pq])), (pq, .inr (6, [(zpq 0), (zpq 1), (zpq 2), (zpq 3), .ref bq, .int 16]))] s.heap.size = A at hD hA ⊢
  have hN : tx_N s := hG.1
  have hS : va_S A s.heap s.heap [] := va_S.rf
  have hl := lv_entry ([.ref v, .ref g, .int 61] : List Value) (n := 3) (Nat.le_of_ble_eq_true rfl)
  rw [lg_entry_eq]
  generalize (lg_sl ([.ref v, .ref g, .int 61] : List Value) ++ List.replicate (3 - (lg_sl ([.ref v, .ref g, .int 61] : List Value)).length) Slot.unset).toArray = ls at hl ⊢
  have hl : lv_has ls 3 [(0, .ref v), (1, .ref g), (2, .int 61)] := hl
  refine lv_aload_n hx hb d_V_init_0 rfl (lv_at hl 0 rfl) ?_
  refine W.objInit hx hb hown (hg _ tw_153) (hg _ tw_26) (hg _ tw_27) rfl (by rw [hml]; exact hl.1) rfl d_V_init_1 (Nat.le_of_ble_eq_true rfl) (Nat.le_of_ble_eq_true rfl) ?_
  refine W.eq (g2 := F0 m 4 ls []) rfl ?_
  refine lv_aload_n hx hb d_V_init_4 rfl (lv_at hl 0 rfl) ?_
  refine lv_sipush (v := 784) hx hb d_V_init_5 (by decide) ?_
  refine va_newa (atype := .long) (ty := .long) (a0 := (784, .inr (.inl (fun _ => 0)))) (N' := 784) hx hb (hg _ tw_147) rfl hK hP hD hS hA (fun _ => rfl) (by decide) (by decide +kernel) (by decide) (Nat.le_of_ble_eq_true rfl) (Nat.le_of_ble_eq_true rfl) d_V_init_8 (fun q_2 cq_2 H_1 hK hP hD hS => ?_)
  have hP := hP.sub (ws' := [(v, .inr (5, [.null, .null, .null, .null, .null, .null, .null, .int 0])), (g, .inr (1, [(zg 0), (zg 1), (zg 2), (zg 3), (zg 4), (zg 5), (zg 6), (zg 7), (zg 8), (zg 9), (zg 10), (zg 11), (zg 12), .ref pq])), (pq, .inr (6, [(zpq 0), (zpq 1), (zpq 2), (zpq 3), .ref bq, .int 16]))]) [0, 1, 2] rfl
  have hD := hD.sub (ws' := [(v, .inr (5, [.null, .null, .null, .null, .null, .null, .null, .int 0])), (g, .inr (1, [(zg 0), (zg 1), (zg 2), (zg 3), (zg 4), (zg 5), (zg 6), (zg 7), (zg 8), (zg 9), (zg 10), (zg 11), (zg 12), .ref pq])), (pq, .inr (6, [(zpq 0), (zpq 1), (zpq 2), (zpq 3), .ref bq, .int 16]))]) [0, 1, 2] (by decide) rfl
  have hK := hK.sub (tys' := []) [] rfl
  refine va_putF (D := (dC, dI)) (ci := 5) (v := .ref q_2) (ty := .array .long) (C := kR_V) (T := kT_V) (N := 8) hx hb hg kin_V kt_V kty_V knm_V hown hK hP hD hS 0 rfl rfl 6 (by decide) (hg _ tw_172) (fun _ h9 => h9) rfl hin rfl (by decide +kernel) rfl rfl (Nat.le_of_ble_eq_true rfl) d_V_init_10 (fun H_3 lo_4 hP hD hS => ?_)
  have hP : va_P (dC, dI) kcl [(v, .inr (5, [.null, .null, .null, .null, .null, .null, .ref q_2, .int 0])), (g, .inr (1, [(zg 0), (zg 1), (zg 2), (zg 3), (zg 4), (zg 5), (zg 6), (zg 7), (zg 8), (zg 9), (zg 10), (zg 11), (zg 12), .ref pq])), (pq, .inr (6, [(zpq 0), (zpq 1), (zpq 2), (zpq 3), .ref bq, .int 16]))] H_3 := hP
  have hD : va_D A [(v, .inr (5, [.null, .null, .null, .null, .null, .null, .ref q_2, .int 0])), (g, .inr (1, [(zg 0), (zg 1), (zg 2), (zg 3), (zg 4), (zg 5), (zg 6), (zg 7), (zg 8), (zg 9), (zg 10), (zg 11), (zg 12), .ref pq])), (pq, .inr (6, [(zpq 0), (zpq 1), (zpq 2), (zpq 3), .ref bq, .int 16]))] := hD
  refine lv_aload_n hx hb d_V_init_13 rfl (lv_at hl 0 rfl) ?_
  refine lv_iconst (v := 0) hx hb d_V_init_14 (by decide) ?_
  refine va_put (D := (dC, dI)) (ci := 5) (v := .int 0) (ty := .int) (C := kR_V) (T := kT_V) (N := 8) hx hb hg kin_V kt_V kty_V knm_V hown hK hP hD hS 0 rfl rfl 7 (by decide) (hg _ tw_173) (fun _ h9 => h9) rfl (by decide +kernel) rfl rfl (Nat.le_of_ble_eq_true rfl) d_V_init_15 (fun H_5 lo_6 hP hD hS => ?_)
  have hP : va_P (dC, dI) kcl [(v, .inr (5, [.null, .null, .null, .null, .null, .null, .ref q_2, .int 0])), (g, .inr (1, [(zg 0), (zg 1), (zg 2), (zg 3), (zg 4), (zg 5), (zg 6), (zg 7), (zg 8), (zg 9), (zg 10), (zg 11), (zg 12), .ref pq])), (pq, .inr (6, [(zpq 0), (zpq 1), (zpq 2), (zpq 3), .ref bq, .int 16]))] H_5 := hP
  have hD : va_D A [(v, .inr (5, [.null, .null, .null, .null, .null, .null, .ref q_2, .int 0])), (g, .inr (1, [(zg 0), (zg 1), (zg 2), (zg 3), (zg 4), (zg 5), (zg 6), (zg 7), (zg 8), (zg 9), (zg 10), (zg 11), (zg 12), .ref pq])), (pq, .inr (6, [(zpq 0), (zpq 1), (zpq 2), (zpq 3), .ref bq, .int 16]))] := hD
  refine lv_aload_n hx hb d_V_init_18 rfl (lv_at hl 0 rfl) ?_
  refine lv_aload_n hx hb d_V_init_19 rfl (lv_at hl 1 rfl) ?_
  refine va_putF (D := (dC, dI)) (ci := 5) (v := .ref g) (ty := .object "TreeMatcher$Grammar") (C := kR_V) (T := kT_V) (N := 8) hx hb hg kin_V kt_V kty_V knm_V hown hK hP hD hS 0 rfl rfl 0 (by decide) (hg _ tw_166) (fun _ h9 => h9) rfl hin rfl (by decide +kernel) rfl rfl (Nat.le_of_ble_eq_true rfl) d_V_init_20 (fun H_7 lo_8 hP hD hS => ?_)
  have hP : va_P (dC, dI) kcl [(v, .inr (5, [.ref g, .null, .null, .null, .null, .null, .ref q_2, .int 0])), (g, .inr (1, [(zg 0), (zg 1), (zg 2), (zg 3), (zg 4), (zg 5), (zg 6), (zg 7), (zg 8), (zg 9), (zg 10), (zg 11), (zg 12), .ref pq])), (pq, .inr (6, [(zpq 0), (zpq 1), (zpq 2), (zpq 3), .ref bq, .int 16]))] H_7 := hP
  have hD : va_D A [(v, .inr (5, [.ref g, .null, .null, .null, .null, .null, .ref q_2, .int 0])), (g, .inr (1, [(zg 0), (zg 1), (zg 2), (zg 3), (zg 4), (zg 5), (zg 6), (zg 7), (zg 8), (zg 9), (zg 10), (zg 11), (zg 12), .ref pq])), (pq, .inr (6, [(zpq 0), (zpq 1), (zpq 2), (zpq 3), .ref bq, .int 16]))] := hD
  refine lv_aload_n hx hb d_V_init_23 rfl (lv_at hl 0 rfl) ?_
  refine lv_aload_n hx hb d_V_init_24 rfl (lv_at hl 1 rfl) ?_
  have hPc := hP.sub (ws' := [(g, .inr (1, [(zg 0), (zg 1), (zg 2), (zg 3), (zg 4), (zg 5), (zg 6), (zg 7), (zg 8), (zg 9), (zg 10), (zg 11), (zg 12), .ref pq]))]) [1] rfl
  have hKc := hK.sub (tys' := []) [] rfl
  refine va_callr (va_runV (As := []) (rest := [.ref v]) ⟨hx, hb, hml, hown, hg⟩ (c_G_parts l dC dI H_7.size g pq zg) (cwV 0 hg (gw_giV cin_G_parts tw_154 tw_155 tw_156 tw_2) rfl rfl rfl (by decide +kernel) ⟨Nat.le_of_ble_eq_true rfl, Nat.le_of_ble_eq_true rfl⟩) ⟨fun a U g mk q => by obtain ⟨q0, q1, qP, qK⟩ := q; exact ⟨q0, q1, qP, va_K.moved (u := U) (U := U.calling g mk a) (Vm.Alike.refl U.vm) qK⟩, va_recv hKc hPc (ci := 1) (q0 := 0) rfl rfl, fun U hU hW => ⟨rfl, by rw [hU], by rw [hU]; exact hPc, va_K.moved hW.alike hKc⟩⟩ rfl rfl hl.1 rfl (lv_room (Nat.le_of_ble_eq_true rfl)) d_V_init_25 ⟨Nat.le_of_ble_eq_true rfl, Nat.le_of_ble_eq_true rfl⟩) hS (fun q h1 h => (tx_pA h1 h).elim) (tx_pF hS hA) (fun u_k_9 a_k_9 t_k_9 H_10 l_k_9 ht hvm hw_k_9 hB hz1 hk1 hS => ?_)
  have hB : pq = a_k_9 := Eq.symm hB
  subst hB
  have hP := tx_keep hP hk1
  refine va_putF (D := (dC, dI)) (ci := 5) (v := .ref pq) (ty := .object "TreeMatcher$Parts") (C := kR_V) (T := kT_V) (N := 8) hx hb hg kin_V kt_V kty_V knm_V hown hK hP hD hS 0 rfl rfl 1 (by decide) (hg _ tw_167) (fun _ h9 => h9) rfl hin rfl (by decide +kernel) rfl rfl (Nat.le_of_ble_eq_true rfl) d_V_init_28 (fun H_11 lo_12 hP hD hS => ?_)
  have hP : va_P (dC, dI) kcl [(v, .inr (5, [.ref g, .ref pq, .null, .null, .null, .null, .ref q_2, .int 0])), (g, .inr (1, [(zg 0), (zg 1), (zg 2), (zg 3), (zg 4), (zg 5), (zg 6), (zg 7), (zg 8), (zg 9), (zg 10), (zg 11), (zg 12), .ref pq])), (pq, .inr (6, [(zpq 0), (zpq 1), (zpq 2), (zpq 3), .ref bq, .int 16]))] H_11 := hP
  have hD : va_D A [(v, .inr (5, [.ref g, .ref pq, .null, .null, .null, .null, .ref q_2, .int 0])), (g, .inr (1, [(zg 0), (zg 1), (zg 2), (zg 3), (zg 4), (zg 5), (zg 6), (zg 7), (zg 8), (zg 9), (zg 10), (zg 11), (zg 12), .ref pq])), (pq, .inr (6, [(zpq 0), (zpq 1), (zpq 2), (zpq 3), .ref bq, .int 16]))] := hD
  refine lv_aload_n hx hb d_V_init_31 rfl (lv_at hl 0 rfl) ?_
  refine lv_aload_n hx hb d_V_init_32 rfl (lv_at hl 0 rfl) ?_
  refine va_get (D := (dC, dI)) (ci := 5) (v := .ref pq) (C := kR_V) (T := kT_V) (N := 8) hx hb hg kin_V hown hK hP 0 rfl rfl 1 (by decide) (hg _ tw_167) (fun _ h9 => h9) rfl d_V_init_33 ?_
  have hPc := hP.sub (ws' := [(pq, .inr (6, [(zpq 0), (zpq 1), (zpq 2), (zpq 3), .ref bq, .int 16]))]) [2] rfl
  have hKc := hK.sub (tys' := []) [] rfl
  refine va_callr (va_runV (As := []) (rest := [.ref v]) ⟨hx, hb, hml, hown, hg⟩ (c_P_byOperator l dC dI H_11.size pq bq (fun i => if i = 5 then .int 16 else zpq i)) (cwV 0 hg (gw_giV cin_P_byOperator tw_158 tw_159 tw_160 tw_4) rfl rfl rfl (by decide +kernel) ⟨Nat.le_of_ble_eq_true rfl, Nat.le_of_ble_eq_true rfl⟩) ⟨fun a U g mk q => by obtain ⟨q0, q1, qP, qK⟩ := q; exact ⟨q0, q1, qP, va_K.moved (u := U) (U := U.calling g mk a) (Vm.Alike.refl U.vm) qK⟩, va_recv hKc hPc (ci := 6) (q0 := 0) rfl rfl, fun U hU hW => ⟨rfl, by rw [hU], by rw [hU]; exact hPc, va_K.moved hW.alike hKc⟩⟩ rfl rfl hl.1 rfl (lv_room (Nat.le_of_ble_eq_true rfl)) d_V_init_36 ⟨Nat.le_of_ble_eq_true rfl, Nat.le_of_ble_eq_true rfl⟩) hS (fun q h1 h => (tx_pA h1 h).elim) (tx_pF hS hA) (fun u_k_13 a_k_13 t_k_13 H_14 l_k_13 ht hvm hw_k_13 hB hz1 hk1 hS => ?_)
  have hB : bq = a_k_13 := Eq.symm hB
  subst hB
  have hP := tx_keep hP hk1
  refine va_putF (D := (dC, dI)) (ci := 5) (v := .ref bq) (ty := .object "TreeMatcher$Groups") (C := kR_V) (T := kT_V) (N := 8) hx hb hg kin_V kt_V kty_V knm_V hown hK hP hD hS 0 rfl rfl 2 (by decide) (hg _ tw_168) (fun _ h9 => h9) rfl hin rfl (by decide +kernel) rfl rfl (Nat.le_of_ble_eq_true rfl) d_V_init_39 (fun H_15 lo_16 hP hD hS => ?_)
  have hP : va_P (dC, dI) kcl [(v, .inr (5, [.ref g, .ref pq, .ref bq, .null, .null, .null, .ref q_2, .int 0])), (g, .inr (1, [(zg 0), (zg 1), (zg 2), (zg 3), (zg 4), (zg 5), (zg 6), (zg 7), (zg 8), (zg 9), (zg 10), (zg 11), (zg 12), .ref pq])), (pq, .inr (6, [(zpq 0), (zpq 1), (zpq 2), (zpq 3), .ref bq, .int 16]))] H_15 := hP
  have hD : va_D A [(v, .inr (5, [.ref g, .ref pq, .ref bq, .null, .null, .null, .ref q_2, .int 0])), (g, .inr (1, [(zg 0), (zg 1), (zg 2), (zg 3), (zg 4), (zg 5), (zg 6), (zg 7), (zg 8), (zg 9), (zg 10), (zg 11), (zg 12), .ref pq])), (pq, .inr (6, [(zpq 0), (zpq 1), (zpq 2), (zpq 3), .ref bq, .int 16]))] := hD
  refine lv_aload_n hx hb d_V_init_42 rfl (lv_at hl 0 rfl) ?_
  refine va_new (ci := 8) (fs := [.null, .null, .null]) (C := kR_L) (T := kT_L) (N := 3) hx hb hg kin_L kt_L kty_L hown (hg _ tw_162) (hg _ tw_131) (hg _ tw_7) hK hP hD hS hA rfl kdf_L (Nat.le_of_ble_eq_true rfl) (Nat.le_of_ble_eq_true rfl) d_V_init_43 (fun lq H_17 hP hD hS => ?_)
  have hP : va_P (dC, dI) kcl [(v, .inr (5, [.ref g, .ref pq, .ref bq, .null, .null, .null, .ref q_2, .int 0])), (g, .inr (1, [(zg 0), (zg 1), (zg 2), (zg 3), (zg 4), (zg 5), (zg 6), (zg 7), (zg 8), (zg 9), (zg 10), (zg 11), (zg 12), .ref pq])), (pq, .inr (6, [(zpq 0), (zpq 1), (zpq 2), (zpq 3), .ref bq, .int 16])), (lq, .inr (8, [.null, .null, .null]))] H_17 := hP
  have hD : va_D A [(v, .inr (5, [.ref g, .ref pq, .ref bq, .null, .null, .null, .ref q_2, .int 0])), (g, .inr (1, [(zg 0), (zg 1), (zg 2), (zg 3), (zg 4), (zg 5), (zg 6), (zg 7), (zg 8), (zg 9), (zg 10), (zg 11), (zg 12), .ref pq])), (pq, .inr (6, [(zpq 0), (zpq 1), (zpq 2), (zpq 3), .ref bq, .int 16])), (lq, .inr (8, [.null, .null, .null]))] := hD
  refine lv_dup hx hb d_V_init_46 rfl ?_
  refine lv_aload_n hx hb d_V_init_47 rfl (lv_at hl 1 rfl) ?_
  have hPc := hP.sub (ws' := [(lq, .inr (8, [.null, .null, .null]))]) [3] rfl
  have hKc := hK.sub (tys' := []) [] rfl
  have hDc := hD.sub (ws' := [(lq, .inr (8, [.null, .null, .null]))]) [3] (by decide) rfl
  have hFc := va_free (wc := [(lq, .inr (8, [.null, .null, .null]))]) hD hS hA [3] rfl
  refine va_callv (va_runI (As := [.ref g]) (rest := [.ref lq, .ref v]) ⟨hx, hb, hml, hown, hg⟩ (c_L_init l dC dI H_17.size lq g) (cwI 1 hg (gw_gi cin_L_init) rfl rfl rfl (hg _ tw_7) (hg _ tw_163) (hg _ tw_133) rfl (by decide +kernel) ⟨Nat.le_of_ble_eq_true rfl, Nat.le_of_ble_eq_true rfl⟩) ⟨fun a U g mk q => by obtain ⟨q0, q1, qP, qK, qD⟩ := q; exact ⟨q0, q1, qP, va_K.moved (u := U) (U := U.calling g mk a) (Vm.Alike.refl U.vm) qK, qD⟩, fun U hU hW => ⟨rfl, by rw [hU], by rw [hU]; exact hPc, va_K.moved hW.alike hKc, hDc.weaken (fun _ _ _ _ => trivial)⟩⟩ rfl rfl hl.1 rfl (lv_room (Nat.le_of_ble_eq_true rfl)) d_V_init_48 ⟨Nat.le_of_ble_eq_true rfl, Nat.le_of_ble_eq_true rfl⟩) hS (fun q _ h => hFc q h) hFc (fun u_k_18 t_k_18 H_19 l_k_18 ht hvm hw_k_18 hB hz1 hk1 hS => ?_)
  obtain ⟨hP, hD⟩ := tx_rest (wc := [(lq, .inr (8, [.null, .null, .null]))]) (wr := [(v, .inr (5, [.ref g, .ref pq, .ref bq, .null, .null, .null, .ref q_2, .int 0])), (g, .inr (1, [(zg 0), (zg 1), (zg 2), (zg 3), (zg 4), (zg 5), (zg 6), (zg 7), (zg 8), (zg 9), (zg 10), (zg 11), (zg 12), .ref pq])), (pq, .inr (6, [(zpq 0), (zpq 1), (zpq 2), (zpq 3), .ref bq, .int 16]))]) hP hD [3] [0, 1, 2] rfl rfl (by decide) (by decide) hk1 hFc
  have hK := hK.sub (tys' := []) [] rfl
  refine va_putF (D := (dC, dI)) (ci := 5) (v := .ref lq) (ty := .object "TreeMatcher$Labels") (C := kR_V) (T := kT_V) (N := 8) hx hb hg kin_V kt_V kty_V knm_V hown hK hP hD hS 0 rfl rfl 3 (by decide) (hg _ tw_169) (fun _ h9 => h9) rfl hin rfl (by decide +kernel) rfl rfl (Nat.le_of_ble_eq_true rfl) d_V_init_51 (fun H_20 lo_21 hP hD hS => ?_)
  have hP : va_P (dC, dI) kcl [(v, .inr (5, [.ref g, .ref pq, .ref bq, .ref lq, .null, .null, .ref q_2, .int 0])), (g, .inr (1, [(zg 0), (zg 1), (zg 2), (zg 3), (zg 4), (zg 5), (zg 6), (zg 7), (zg 8), (zg 9), (zg 10), (zg 11), (zg 12), .ref pq])), (pq, .inr (6, [(zpq 0), (zpq 1), (zpq 2), (zpq 3), .ref bq, .int 16]))] H_20 := hP
  have hD : va_D A [(v, .inr (5, [.ref g, .ref pq, .ref bq, .ref lq, .null, .null, .ref q_2, .int 0])), (g, .inr (1, [(zg 0), (zg 1), (zg 2), (zg 3), (zg 4), (zg 5), (zg 6), (zg 7), (zg 8), (zg 9), (zg 10), (zg 11), (zg 12), .ref pq])), (pq, .inr (6, [(zpq 0), (zpq 1), (zpq 2), (zpq 3), .ref bq, .int 16]))] := hD
  refine lv_aload_n hx hb d_V_init_54 rfl (lv_at hl 0 rfl) ?_
  refine lv_iload_n hx hb d_V_init_55 rfl (lv_at hl 2 rfl) ?_
  refine tx_newrows (N' := 61) hx hb hown (hg _ tw_164) hG.2 hP hS (by decide) (by decide +kernel) (by decide) (Nat.le_of_ble_eq_true rfl) (Nat.le_of_ble_eq_true rfl) d_V_init_56 (fun q_22 H_23 hP hS => ?_)
  refine va_putF (D := (dC, dI)) (ci := 5) (v := .ref q_22) (ty := .array (.array .long)) (C := kR_V) (T := kT_V) (N := 8) hx hb hg kin_V kt_V kty_V knm_V hown hK hP hD hS 0 rfl rfl 4 (by decide) (hg _ tw_170) (fun _ h9 => h9) rfl hin rfl (by decide +kernel) rfl rfl (Nat.le_of_ble_eq_true rfl) d_V_init_59 (fun H_24 lo_25 hP hD hS => ?_)
  have hP : va_P (dC, dI) kcl [(v, .inr (5, [.ref g, .ref pq, .ref bq, .ref lq, .ref q_22, .null, .ref q_2, .int 0])), (g, .inr (1, [(zg 0), (zg 1), (zg 2), (zg 3), (zg 4), (zg 5), (zg 6), (zg 7), (zg 8), (zg 9), (zg 10), (zg 11), (zg 12), .ref pq])), (pq, .inr (6, [(zpq 0), (zpq 1), (zpq 2), (zpq 3), .ref bq, .int 16]))] H_24 := hP
  have hD : va_D A [(v, .inr (5, [.ref g, .ref pq, .ref bq, .ref lq, .ref q_22, .null, .ref q_2, .int 0])), (g, .inr (1, [(zg 0), (zg 1), (zg 2), (zg 3), (zg 4), (zg 5), (zg 6), (zg 7), (zg 8), (zg 9), (zg 10), (zg 11), (zg 12), .ref pq])), (pq, .inr (6, [(zpq 0), (zpq 1), (zpq 2), (zpq 3), .ref bq, .int 16]))] := hD
  refine lv_aload_n hx hb d_V_init_62 rfl (lv_at hl 0 rfl) ?_
  refine lv_iload_n hx hb d_V_init_63 rfl (lv_at hl 2 rfl) ?_
  refine va_newa (atype := .int) (ty := .int) (a0 := (61, .inl (fun _ => 0))) (N' := 61) hx hb (hg _ tw_50) rfl hK hP hD hS hA (fun _ => rfl) (by decide) (by decide +kernel) (by decide) (Nat.le_of_ble_eq_true rfl) (Nat.le_of_ble_eq_true rfl) d_V_init_64 (fun q_27 cq_27 H_26 hK hP hD hS => ?_)
  have hP := hP.sub (ws' := [(v, .inr (5, [.ref g, .ref pq, .ref bq, .ref lq, .ref q_22, .null, .ref q_2, .int 0])), (g, .inr (1, [(zg 0), (zg 1), (zg 2), (zg 3), (zg 4), (zg 5), (zg 6), (zg 7), (zg 8), (zg 9), (zg 10), (zg 11), (zg 12), .ref pq])), (pq, .inr (6, [(zpq 0), (zpq 1), (zpq 2), (zpq 3), .ref bq, .int 16]))]) [0, 1, 2] rfl
  have hD := hD.sub (ws' := [(v, .inr (5, [.ref g, .ref pq, .ref bq, .ref lq, .ref q_22, .null, .ref q_2, .int 0])), (g, .inr (1, [(zg 0), (zg 1), (zg 2), (zg 3), (zg 4), (zg 5), (zg 6), (zg 7), (zg 8), (zg 9), (zg 10), (zg 11), (zg 12), .ref pq])), (pq, .inr (6, [(zpq 0), (zpq 1), (zpq 2), (zpq 3), .ref bq, .int 16]))]) [0, 1, 2] (by decide) rfl
  have hK := hK.sub (tys' := []) [] rfl
  refine va_putF (D := (dC, dI)) (ci := 5) (v := .ref q_27) (ty := .array .int) (C := kR_V) (T := kT_V) (N := 8) hx hb hg kin_V kt_V kty_V knm_V hown hK hP hD hS 0 rfl rfl 5 (by decide) (hg _ tw_171) (fun _ h9 => h9) rfl hin rfl (by decide +kernel) rfl rfl (Nat.le_of_ble_eq_true rfl) d_V_init_66 (fun H_28 lo_29 hP hD hS => ?_)
  have hP : va_P (dC, dI) kcl [(v, .inr (5, [.ref g, .ref pq, .ref bq, .ref lq, .ref q_22, .ref q_27, .ref q_2, .int 0])), (g, .inr (1, [(zg 0), (zg 1), (zg 2), (zg 3), (zg 4), (zg 5), (zg 6), (zg 7), (zg 8), (zg 9), (zg 10), (zg 11), (zg 12), .ref pq])), (pq, .inr (6, [(zpq 0), (zpq 1), (zpq 2), (zpq 3), .ref bq, .int 16]))] H_28 := hP
  have hD : va_D A [(v, .inr (5, [.ref g, .ref pq, .ref bq, .ref lq, .ref q_22, .ref q_27, .ref q_2, .int 0])), (g, .inr (1, [(zg 0), (zg 1), (zg 2), (zg 3), (zg 4), (zg 5), (zg 6), (zg 7), (zg 8), (zg 9), (zg 10), (zg 11), (zg 12), .ref pq])), (pq, .inr (6, [(zpq 0), (zpq 1), (zpq 2), (zpq 3), .ref bq, .int 16]))] := hD
  have hP9 := hP.sub (ws' := [(v, .inr (5, [.ref g, .ref pq, .ref bq, .ref lq, .ref q_22, .ref q_27, .ref q_2, .int 0])), (g, .inr (1, [(zg 0), (zg 1), (zg 2), (zg 3), (zg 4), (zg 5), (zg 6), (zg 7), (zg 8), (zg 9), (zg 10), (zg 11), (zg 12), .ref pq])), (pq, .inr (6, [(zpq 0), (zpq 1), (zpq 2), (zpq 3), .ref bq, .int 16]))]) [0, 1, 2] rfl
  have hD9 := hD.sub (ws' := [(v, .inr (5, [.ref g, .ref pq, .ref bq, .ref lq, .ref q_22, .ref q_27, .ref q_2, .int 0])), (g, .inr (1, [(zg 0), (zg 1), (zg 2), (zg 3), (zg 4), (zg 5), (zg 6), (zg 7), (zg 8), (zg 9), (zg 10), (zg 11), (zg 12), .ref pq])), (pq, .inr (6, [(zpq 0), (zpq 1), (zpq 2), (zpq 3), .ref bq, .int 16]))]) [0, 1, 2] (by decide) rfl
  have hK9 := hK.sub (tys' := []) [] rfl
  exact W.vret hx hb hr (fun t ht hW => ⟨⟨(), rfl, trivial, ⟨(fun i => List.getD [Value.ref g, Value.ref pq, Value.ref bq, Value.ref lq, Value.ref q_22, Value.ref q_27, Value.ref q_2, Value.int (0 : Int32)] i Value.null), by rw [ht]; exact hP9, va_K.moved hW.alike hK9, hD9⟩⟩, hS.F ht⟩) hS.2.2 d_V_init_69
set_option maxHeartbeats 4000000 in
set_option maxRecDepth 100000 in
theorem c_C_init (l : Launch) (dC : Nat → ClassId) (dI : Nat → Nat → Nat) (sz : Nat) (cq g f : Nat) : Met l y_C_init ws_C_init ({ frames := 1, cells := 3, slots := 4200, locals := 12 }) (va_Pc [.ref cq, .ref g, .ref f] (fun U => U.heap.size = sz ∧ va_P (dC, dI) kcl [(cq, .inr (3, [.null, .null, .null, .null, .null, .int 0, .int 0]))] U.heap ∧ va_K (dC, dI) kcl [] U ∧ va_D (fun _ => True) [(cq, .inr (3, [.null, .null, .null, .null, .null, .int 0, .int 0]))])) (va_Qv (fun (_ : Unit) => True) (fun (_ : Unit) (t : State) => ∃ (zcq : Nat → Value), va_P (dC, dI) kcl [(cq, .inr (3, [(zcq 0), (zcq 1), (zcq 2), (zcq 3), (zcq 4), (zcq 5), .int 0]))] t.heap ∧ va_K (dC, dI) kcl [] t ∧ va_D (va_A [(cq, .inr (3, [.null, .null, .null, .null, .null, .int 0, .int 0]))] sz) [(cq, .inr (3, [(zcq 0), (zcq 1), (zcq 2), (zcq 3), (zcq 4), (zcq 5), .int 0]))]) (va_A [(cq, .inr (3, [.null, .null, .null, .null, .null, .int 0, .int 0]))] sz)) 3 4200 (va_A [(cq, .inr (3, [.null, .null, .null, .null, .null, .int 0, .int 0]))] sz) := by
  refine Met.ofW (cc := b_C_init) (maxL := 3) (ret := (Option.none : Option Jvm.ClassFile.FieldType)) (by decide) rfl ?_
  intro p e s m args below meth c s₁ B hml hv
  obtain ⟨rfl, hsz, hP, hK, hD0⟩ := hv
  have hx := B.exec
  have hb := B.bytes
  have hr := B.returns
  have hlocks := B.notSynchronized
  have hg : ∀ w ∈ gw, w.before _ s = true := fun w h => atoms_spec (ws := ws_C_init) B.pre w (List.mem_cons_of_mem _ h)
  have hown : s.vm.findClass "TreeMatcher$Covering" = some m.cls := findClass_of_methodNamed B.named
  have hin : meth.name = "<init>" := (name_of_methodNamed B.named B.method).1
  subst hsz
  have hD := hD0.self (sz := s.heap.size)
  have hA : ∀ q : Nat, s.heap.size ≤ q → va_A [(cq, .inr (3, [.null, .null, .null, .null, .null, .int 0, .int 0]))] s.heap.size q := fun q h => Or.inr h
  generalize hAe : va_A [(cq, .inr (3, [.null, .null, .null, .null, .null, .int 0, .int 0]))] s.heap.size = A at hD hA ⊢
  have hS : va_S A s.heap s.heap [] := va_S.rf
  have hl := lv_entry ([.ref cq, .ref g, .ref f] : List Value) (n := 3) (Nat.le_of_ble_eq_true rfl)
  rw [lg_entry_eq]
  generalize (lg_sl ([.ref cq, .ref g, .ref f] : List Value) ++ List.replicate (3 - (lg_sl ([.ref cq, .ref g, .ref f] : List Value)).length) Slot.unset).toArray = ls at hl ⊢
  have hl : lv_has ls 3 [(0, .ref cq), (1, .ref g), (2, .ref f)] := hl
  refine lv_aload_n hx hb d_C_init_0 rfl (lv_at hl 0 rfl) ?_
  refine W.objInit hx hb hown (hg _ tw_239) (hg _ tw_26) (hg _ tw_27) rfl (by rw [hml]; exact hl.1) rfl d_C_init_1 (Nat.le_of_ble_eq_true rfl) (Nat.le_of_ble_eq_true rfl) ?_
  refine W.eq (g2 := F0 m 4 ls []) rfl ?_
  refine lv_aload_n hx hb d_C_init_4 rfl (lv_at hl 0 rfl) ?_
  refine lv_sipush (v := 2000) hx hb d_C_init_5 (by decide) ?_
  refine va_newa (atype := .int) (ty := .int) (a0 := (2000, .inl (fun _ => 0))) (N' := 2000) hx hb (hg _ tw_50) rfl hK hP hD hS hA (fun _ => rfl) (by decide) (by decide +kernel) (by decide) (Nat.le_of_ble_eq_true rfl) (Nat.le_of_ble_eq_true rfl) d_C_init_8 (fun q_2 cq_2 H_1 hK hP hD hS => ?_)
  have hP := hP.sub (ws' := [(cq, .inr (3, [.null, .null, .null, .null, .null, .int 0, .int 0]))]) [0] rfl
  have hD := hD.sub (ws' := [(cq, .inr (3, [.null, .null, .null, .null, .null, .int 0, .int 0]))]) [0] (by decide) rfl
  have hK := hK.sub (tys' := []) [] rfl
  refine va_putF (D := (dC, dI)) (ci := 3) (v := .ref q_2) (ty := .array .int) (C := kR_C) (T := kT_C) (N := 7) hx hb hg kin_C kt_C kty_C knm_C hown hK hP hD hS 0 rfl rfl 2 (by decide) (hg _ tw_242) (fun _ h9 => h9) rfl hin rfl (by decide +kernel) rfl rfl (Nat.le_of_ble_eq_true rfl) d_C_init_10 (fun H_3 lo_4 hP hD hS => ?_)
  have hP : va_P (dC, dI) kcl [(cq, .inr (3, [.null, .null, .ref q_2, .null, .null, .int 0, .int 0]))] H_3 := hP
  have hD : va_D A [(cq, .inr (3, [.null, .null, .ref q_2, .null, .null, .int 0, .int 0]))] := hD
  refine lv_aload_n hx hb d_C_init_13 rfl (lv_at hl 0 rfl) ?_
  refine lv_sipush (v := 2000) hx hb d_C_init_14 (by decide) ?_
  refine va_newa (atype := .int) (ty := .int) (a0 := (2000, .inl (fun _ => 0))) (N' := 2000) hx hb (hg _ tw_50) rfl hK hP hD hS hA (fun _ => rfl) (by decide) (by decide +kernel) (by decide) (Nat.le_of_ble_eq_true rfl) (Nat.le_of_ble_eq_true rfl) d_C_init_17 (fun q_6 cq_6 H_5 hK hP hD hS => ?_)
  have hP := hP.sub (ws' := [(cq, .inr (3, [.null, .null, .ref q_2, .null, .null, .int 0, .int 0]))]) [0] rfl
  have hD := hD.sub (ws' := [(cq, .inr (3, [.null, .null, .ref q_2, .null, .null, .int 0, .int 0]))]) [0] (by decide) rfl
  have hK := hK.sub (tys' := []) [] rfl
  refine va_putF (D := (dC, dI)) (ci := 3) (v := .ref q_6) (ty := .array .int) (C := kR_C) (T := kT_C) (N := 7) hx hb hg kin_C kt_C kty_C knm_C hown hK hP hD hS 0 rfl rfl 3 (by decide) (hg _ tw_243) (fun _ h9 => h9) rfl hin rfl (by decide +kernel) rfl rfl (Nat.le_of_ble_eq_true rfl) d_C_init_19 (fun H_7 lo_8 hP hD hS => ?_)
  have hP : va_P (dC, dI) kcl [(cq, .inr (3, [.null, .null, .ref q_2, .ref q_6, .null, .int 0, .int 0]))] H_7 := hP
  have hD : va_D A [(cq, .inr (3, [.null, .null, .ref q_2, .ref q_6, .null, .int 0, .int 0]))] := hD
  refine lv_aload_n hx hb d_C_init_22 rfl (lv_at hl 0 rfl) ?_
  refine lv_sipush (v := 200) hx hb d_C_init_23 (by decide) ?_
  refine va_newa (atype := .int) (ty := .int) (a0 := (200, .inl (fun _ => 0))) (N' := 200) hx hb (hg _ tw_50) rfl hK hP hD hS hA (fun _ => rfl) (by decide) (by decide +kernel) (by decide) (Nat.le_of_ble_eq_true rfl) (Nat.le_of_ble_eq_true rfl) d_C_init_26 (fun q_10 cq_10 H_9 hK hP hD hS => ?_)
  have hP := hP.sub (ws' := [(cq, .inr (3, [.null, .null, .ref q_2, .ref q_6, .null, .int 0, .int 0]))]) [0] rfl
  have hD := hD.sub (ws' := [(cq, .inr (3, [.null, .null, .ref q_2, .ref q_6, .null, .int 0, .int 0]))]) [0] (by decide) rfl
  have hK := hK.sub (tys' := []) [] rfl
  refine va_putF (D := (dC, dI)) (ci := 3) (v := .ref q_10) (ty := .array .int) (C := kR_C) (T := kT_C) (N := 7) hx hb hg kin_C kt_C kty_C knm_C hown hK hP hD hS 0 rfl rfl 4 (by decide) (hg _ tw_244) (fun _ h9 => h9) rfl hin rfl (by decide +kernel) rfl rfl (Nat.le_of_ble_eq_true rfl) d_C_init_28 (fun H_11 lo_12 hP hD hS => ?_)
  have hP : va_P (dC, dI) kcl [(cq, .inr (3, [.null, .null, .ref q_2, .ref q_6, .ref q_10, .int 0, .int 0]))] H_11 := hP
  have hD : va_D A [(cq, .inr (3, [.null, .null, .ref q_2, .ref q_6, .ref q_10, .int 0, .int 0]))] := hD
  refine lv_aload_n hx hb d_C_init_31 rfl (lv_at hl 0 rfl) ?_
  refine lv_iconst (v := 0) hx hb d_C_init_32 (by decide) ?_
  refine va_put (D := (dC, dI)) (ci := 3) (v := .int 0) (ty := .int) (C := kR_C) (T := kT_C) (N := 7) hx hb hg kin_C kt_C kty_C knm_C hown hK hP hD hS 0 rfl rfl 5 (by decide) (hg _ tw_245) (fun _ h9 => h9) rfl (by decide +kernel) rfl rfl (Nat.le_of_ble_eq_true rfl) d_C_init_33 (fun H_13 lo_14 hP hD hS => ?_)
  have hP : va_P (dC, dI) kcl [(cq, .inr (3, [.null, .null, .ref q_2, .ref q_6, .ref q_10, .int 0, .int 0]))] H_13 := hP
  have hD : va_D A [(cq, .inr (3, [.null, .null, .ref q_2, .ref q_6, .ref q_10, .int 0, .int 0]))] := hD
  refine lv_aload_n hx hb d_C_init_36 rfl (lv_at hl 0 rfl) ?_
  refine lv_iconst (v := 0) hx hb d_C_init_37 (by decide) ?_
  refine va_put (D := (dC, dI)) (ci := 3) (v := .int 0) (ty := .int) (C := kR_C) (T := kT_C) (N := 7) hx hb hg kin_C kt_C kty_C knm_C hown hK hP hD hS 0 rfl rfl 6 (by decide) (hg _ tw_246) (fun _ h9 => h9) rfl (by decide +kernel) rfl rfl (Nat.le_of_ble_eq_true rfl) d_C_init_38 (fun H_15 lo_16 hP hD hS => ?_)
  have hP : va_P (dC, dI) kcl [(cq, .inr (3, [.null, .null, .ref q_2, .ref q_6, .ref q_10, .int 0, .int 0]))] H_15 := hP
  have hD : va_D A [(cq, .inr (3, [.null, .null, .ref q_2, .ref q_6, .ref q_10, .int 0, .int 0]))] := hD
  refine lv_aload_n hx hb d_C_init_41 rfl (lv_at hl 0 rfl) ?_
  refine lv_aload_n hx hb d_C_init_42 rfl (lv_at hl 1 rfl) ?_
  refine va_putF (D := (dC, dI)) (ci := 3) (v := .ref g) (ty := .object "TreeMatcher$Grammar") (C := kR_C) (T := kT_C) (N := 7) hx hb hg kin_C kt_C kty_C knm_C hown hK hP hD hS 0 rfl rfl 0 (by decide) (hg _ tw_240) (fun _ h9 => h9) rfl hin rfl (by decide +kernel) rfl rfl (Nat.le_of_ble_eq_true rfl) d_C_init_43 (fun H_17 lo_18 hP hD hS => ?_)
  have hP : va_P (dC, dI) kcl [(cq, .inr (3, [.ref g, .null, .ref q_2, .ref q_6, .ref q_10, .int 0, .int 0]))] H_17 := hP
  have hD : va_D A [(cq, .inr (3, [.ref g, .null, .ref q_2, .ref q_6, .ref q_10, .int 0, .int 0]))] := hD
  refine lv_aload_n hx hb d_C_init_46 rfl (lv_at hl 0 rfl) ?_
  refine lv_aload_n hx hb d_C_init_47 rfl (lv_at hl 2 rfl) ?_
  refine va_putF (D := (dC, dI)) (ci := 3) (v := .ref f) (ty := .object "TreeMatcher$Forest") (C := kR_C) (T := kT_C) (N := 7) hx hb hg kin_C kt_C kty_C knm_C hown hK hP hD hS 0 rfl rfl 1 (by decide) (hg _ tw_241) (fun _ h9 => h9) rfl hin rfl (by decide +kernel) rfl rfl (Nat.le_of_ble_eq_true rfl) d_C_init_48 (fun H_19 lo_20 hP hD hS => ?_)
  have hP : va_P (dC, dI) kcl [(cq, .inr (3, [.ref g, .ref f, .ref q_2, .ref q_6, .ref q_10, .int 0, .int 0]))] H_19 := hP
  have hD : va_D A [(cq, .inr (3, [.ref g, .ref f, .ref q_2, .ref q_6, .ref q_10, .int 0, .int 0]))] := hD
  have hP9 := hP.sub (ws' := [(cq, .inr (3, [.ref g, .ref f, .ref q_2, .ref q_6, .ref q_10, .int 0, .int 0]))]) [0] rfl
  have hD9 := hD.sub (ws' := [(cq, .inr (3, [.ref g, .ref f, .ref q_2, .ref q_6, .ref q_10, .int 0, .int 0]))]) [0] (by decide) rfl
  have hK9 := hK.sub (tys' := []) [] rfl
  exact W.vret hx hb hr (fun t ht hW => ⟨⟨(), rfl, trivial, ⟨(fun i => List.getD [Value.ref g, Value.ref f, Value.ref q_2, Value.ref q_6, Value.ref q_10, Value.int (0 : Int32), Value.int (0 : Int32)] i Value.null), by rw [ht]; exact hP9, va_K.moved hW.alike hK9, hD9⟩⟩, hS.F ht⟩) hS.2.2 d_C_init_51
set_option maxHeartbeats 4000000 in
set_option maxRecDepth 100000 in
theorem c_Y_init (l : Launch) (dC : Nat → ClassId) (dI : Nat → Nat → Nat) (sz : Nat) (y g pq bq : Nat) (zg : Nat → Value) (zpq : Nat → Value) : Met l y_Y_init ws_Y_init ({ frames := 3, cells := 7, slots := 949, locals := 55 }) (va_Pc [.ref y, .ref g] (fun U => U.heap.size = sz ∧ va_P (dC, dI) kcl [(y, .inr (4, [.null, .null, .int 0, .int 0])), (g, .inr (1, [(zg 0), (zg 1), (zg 2), (zg 3), (zg 4), (zg 5), (zg 6), (zg 7), (zg 8), (zg 9), (zg 10), (zg 11), (zg 12), .ref pq])), (pq, .inr (6, [(zpq 0), (zpq 1), (zpq 2), (zpq 3), .ref bq, .int 16]))] U.heap ∧ va_K (dC, dI) kcl [] U ∧ va_D (fun _ => True) [(y, .inr (4, [.null, .null, .int 0, .int 0])), (g, .inr (1, [(zg 0), (zg 1), (zg 2), (zg 3), (zg 4), (zg 5), (zg 6), (zg 7), (zg 8), (zg 9), (zg 10), (zg 11), (zg 12), .ref pq])), (pq, .inr (6, [(zpq 0), (zpq 1), (zpq 2), (zpq 3), .ref bq, .int 16]))] ∧ tx_C U)) (va_Qv (fun (_ : Unit) => True) (fun (_ : Unit) (t : State) => ∃ (v : Nat) (zv : Nat → Value), va_P (dC, dI) kcl [(y, .inr (4, [.ref g, .ref v, .int 0, .int 0])), (v, .inr (5, [(zv 0), (zv 1), (zv 2), (zv 3), (zv 4), (zv 5), (zv 6), .int 0])), (g, .inr (1, [(zg 0), (zg 1), (zg 2), (zg 3), (zg 4), (zg 5), (zg 6), (zg 7), (zg 8), (zg 9), (zg 10), (zg 11), (zg 12), .ref pq])), (pq, .inr (6, [(zpq 0), (zpq 1), (zpq 2), (zpq 3), .ref bq, .int 16]))] t.heap ∧ va_K (dC, dI) kcl [] t ∧ va_D (va_A [(y, .inr (4, [.null, .null, .int 0, .int 0])), (g, .inr (1, [(zg 0), (zg 1), (zg 2), (zg 3), (zg 4), (zg 5), (zg 6), (zg 7), (zg 8), (zg 9), (zg 10), (zg 11), (zg 12), .ref pq])), (pq, .inr (6, [(zpq 0), (zpq 1), (zpq 2), (zpq 3), .ref bq, .int 16]))] sz) [(y, .inr (4, [.ref g, .ref v, .int 0, .int 0])), (v, .inr (5, [(zv 0), (zv 1), (zv 2), (zv 3), (zv 4), (zv 5), (zv 6), .int 0])), (g, .inr (1, [(zg 0), (zg 1), (zg 2), (zg 3), (zg 4), (zg 5), (zg 6), (zg 7), (zg 8), (zg 9), (zg 10), (zg 11), (zg 12), .ref pq])), (pq, .inr (6, [(zpq 0), (zpq 1), (zpq 2), (zpq 3), .ref bq, .int 16]))]) (va_A [(y, .inr (4, [.null, .null, .int 0, .int 0])), (g, .inr (1, [(zg 0), (zg 1), (zg 2), (zg 3), (zg 4), (zg 5), (zg 6), (zg 7), (zg 8), (zg 9), (zg 10), (zg 11), (zg 12), .ref pq])), (pq, .inr (6, [(zpq 0), (zpq 1), (zpq 2), (zpq 3), .ref bq, .int 16]))] sz)) 7 949 (va_A [(y, .inr (4, [.null, .null, .int 0, .int 0])), (g, .inr (1, [(zg 0), (zg 1), (zg 2), (zg 3), (zg 4), (zg 5), (zg 6), (zg 7), (zg 8), (zg 9), (zg 10), (zg 11), (zg 12), .ref pq])), (pq, .inr (6, [(zpq 0), (zpq 1), (zpq 2), (zpq 3), .ref bq, .int 16]))] sz) := by
  refine Met.ofW (cc := b_Y_init) (maxL := 2) (ret := (Option.none : Option Jvm.ClassFile.FieldType)) (by decide) rfl ?_
  intro p e s m args below meth c s₁ B hml hv
  obtain ⟨rfl, hsz, hP, hK, hD0, hG⟩ := hv
  have hx := B.exec
  have hb := B.bytes
  have hr := B.returns
  have hlocks := B.notSynchronized
  have hg : ∀ w ∈ gw, w.before _ s = true := fun w h => atoms_spec (ws := ws_Y_init) B.pre w (List.mem_cons_of_mem _ h)
  have hown : s.vm.findClass "TreeMatcher$Tally" = some m.cls := findClass_of_methodNamed B.named
  have hin : meth.name = "<init>" := (name_of_methodNamed B.named B.method).1
  subst hsz
  have hD := hD0.self (sz := s.heap.size)
  have hA : ∀ q : Nat, s.heap.size ≤ q → va_A [(y, .inr (4, [.null, .null, .int 0, .int 0])), (g, .inr (1, [(zg 0), (zg 1), (zg 2), (zg 3), (zg 4), (zg 5), (zg 6), (zg 7), (zg 8), (zg 9), (zg 10), (zg 11), (zg 12), .ref pq])), (pq, .inr (6, [(zpq 0), (zpq 1), (zpq 2), (zpq 3), .ref bq, .int 16]))] s.heap.size q := fun q h => Or.inr h
  generalize hAe : va_A [(y, .inr (4, [.null, .null, .int 0, .int 0])), (g, .inr (1, [(zg 0), (zg 1), (zg 2), (zg 3), (zg 4), (zg 5), (zg 6), (zg 7), (zg 8), (zg 9), (zg 10), (zg 11), (zg 12), .ref pq])), (pq, .inr (6, [(zpq 0), (zpq 1), (zpq 2), (zpq 3), .ref bq, .int 16]))] s.heap.size = A at hD hA ⊢
  have hN : tx_N s := hG.1
  have hS : va_S A s.heap s.heap [] := va_S.rf
  have hl := lv_entry ([.ref y, .ref g] : List Value) (n := 2) (Nat.le_of_ble_eq_true rfl)
  rw [lg_entry_eq]
  generalize (lg_sl ([.ref y, .ref g] : List Value) ++ List.replicate (2 - (lg_sl ([.ref y, .ref g] : List Value)).length) Slot.unset).toArray = ls at hl ⊢
  have hl : lv_has ls 2 [(0, .ref y), (1, .ref g)] := hl
  refine lv_aload_n hx hb d_Y_init_0 rfl (lv_at hl 0 rfl) ?_
  refine W.objInit hx hb hown (hg _ tw_267) (hg _ tw_26) (hg _ tw_27) rfl (by rw [hml]; exact hl.1) rfl d_Y_init_1 (Nat.le_of_ble_eq_true rfl) (Nat.le_of_ble_eq_true rfl) ?_
  refine W.eq (g2 := F0 m 4 ls []) rfl ?_
  refine lv_aload_n hx hb d_Y_init_4 rfl (lv_at hl 0 rfl) ?_
  refine lv_iconst (v := 0) hx hb d_Y_init_5 (by decide) ?_
  refine va_put (D := (dC, dI)) (ci := 4) (v := .int 0) (ty := .int) (C := kR_Y) (T := kT_Y) (N := 4) hx hb hg kin_Y kt_Y kty_Y knm_Y hown hK hP hD hS 0 rfl rfl 2 (by decide) (hg _ tw_272) (fun _ h9 => h9) rfl (by decide +kernel) rfl rfl (Nat.le_of_ble_eq_true rfl) d_Y_init_6 (fun H_1 lo_2 hP hD hS => ?_)
  have hP : va_P (dC, dI) kcl [(y, .inr (4, [.null, .null, .int 0, .int 0])), (g, .inr (1, [(zg 0), (zg 1), (zg 2), (zg 3), (zg 4), (zg 5), (zg 6), (zg 7), (zg 8), (zg 9), (zg 10), (zg 11), (zg 12), .ref pq])), (pq, .inr (6, [(zpq 0), (zpq 1), (zpq 2), (zpq 3), .ref bq, .int 16]))] H_1 := hP
  have hD : va_D A [(y, .inr (4, [.null, .null, .int 0, .int 0])), (g, .inr (1, [(zg 0), (zg 1), (zg 2), (zg 3), (zg 4), (zg 5), (zg 6), (zg 7), (zg 8), (zg 9), (zg 10), (zg 11), (zg 12), .ref pq])), (pq, .inr (6, [(zpq 0), (zpq 1), (zpq 2), (zpq 3), .ref bq, .int 16]))] := hD
  refine lv_aload_n hx hb d_Y_init_9 rfl (lv_at hl 0 rfl) ?_
  refine lv_iconst (v := 0) hx hb d_Y_init_10 (by decide) ?_
  refine va_put (D := (dC, dI)) (ci := 4) (v := .int 0) (ty := .int) (C := kR_Y) (T := kT_Y) (N := 4) hx hb hg kin_Y kt_Y kty_Y knm_Y hown hK hP hD hS 0 rfl rfl 3 (by decide) (hg _ tw_273) (fun _ h9 => h9) rfl (by decide +kernel) rfl rfl (Nat.le_of_ble_eq_true rfl) d_Y_init_11 (fun H_3 lo_4 hP hD hS => ?_)
  have hP : va_P (dC, dI) kcl [(y, .inr (4, [.null, .null, .int 0, .int 0])), (g, .inr (1, [(zg 0), (zg 1), (zg 2), (zg 3), (zg 4), (zg 5), (zg 6), (zg 7), (zg 8), (zg 9), (zg 10), (zg 11), (zg 12), .ref pq])), (pq, .inr (6, [(zpq 0), (zpq 1), (zpq 2), (zpq 3), .ref bq, .int 16]))] H_3 := hP
  have hD : va_D A [(y, .inr (4, [.null, .null, .int 0, .int 0])), (g, .inr (1, [(zg 0), (zg 1), (zg 2), (zg 3), (zg 4), (zg 5), (zg 6), (zg 7), (zg 8), (zg 9), (zg 10), (zg 11), (zg 12), .ref pq])), (pq, .inr (6, [(zpq 0), (zpq 1), (zpq 2), (zpq 3), .ref bq, .int 16]))] := hD
  refine lv_aload_n hx hb d_Y_init_14 rfl (lv_at hl 0 rfl) ?_
  refine lv_aload_n hx hb d_Y_init_15 rfl (lv_at hl 1 rfl) ?_
  refine va_putF (D := (dC, dI)) (ci := 4) (v := .ref g) (ty := .object "TreeMatcher$Grammar") (C := kR_Y) (T := kT_Y) (N := 4) hx hb hg kin_Y kt_Y kty_Y knm_Y hown hK hP hD hS 0 rfl rfl 0 (by decide) (hg _ tw_270) (fun _ h9 => h9) rfl hin rfl (by decide +kernel) rfl rfl (Nat.le_of_ble_eq_true rfl) d_Y_init_16 (fun H_5 lo_6 hP hD hS => ?_)
  have hP : va_P (dC, dI) kcl [(y, .inr (4, [.ref g, .null, .int 0, .int 0])), (g, .inr (1, [(zg 0), (zg 1), (zg 2), (zg 3), (zg 4), (zg 5), (zg 6), (zg 7), (zg 8), (zg 9), (zg 10), (zg 11), (zg 12), .ref pq])), (pq, .inr (6, [(zpq 0), (zpq 1), (zpq 2), (zpq 3), .ref bq, .int 16]))] H_5 := hP
  have hD : va_D A [(y, .inr (4, [.ref g, .null, .int 0, .int 0])), (g, .inr (1, [(zg 0), (zg 1), (zg 2), (zg 3), (zg 4), (zg 5), (zg 6), (zg 7), (zg 8), (zg 9), (zg 10), (zg 11), (zg 12), .ref pq])), (pq, .inr (6, [(zpq 0), (zpq 1), (zpq 2), (zpq 3), .ref bq, .int 16]))] := hD
  refine lv_aload_n hx hb d_Y_init_19 rfl (lv_at hl 0 rfl) ?_
  refine va_new (ci := 5) (fs := [.null, .null, .null, .null, .null, .null, .null, .int 0]) (C := kR_V) (T := kT_V) (N := 8) hx hb hg kin_V kt_V kty_V hown (hg _ tw_268) (hg _ tw_149) (hg _ tw_8) hK hP hD hS hA rfl kdf_V (Nat.le_of_ble_eq_true rfl) (Nat.le_of_ble_eq_true rfl) d_Y_init_20 (fun v H_7 hP hD hS => ?_)
  have hP : va_P (dC, dI) kcl [(y, .inr (4, [.ref g, .null, .int 0, .int 0])), (g, .inr (1, [(zg 0), (zg 1), (zg 2), (zg 3), (zg 4), (zg 5), (zg 6), (zg 7), (zg 8), (zg 9), (zg 10), (zg 11), (zg 12), .ref pq])), (pq, .inr (6, [(zpq 0), (zpq 1), (zpq 2), (zpq 3), .ref bq, .int 16])), (v, .inr (5, [.null, .null, .null, .null, .null, .null, .null, .int 0]))] H_7 := hP
  have hD : va_D A [(y, .inr (4, [.ref g, .null, .int 0, .int 0])), (g, .inr (1, [(zg 0), (zg 1), (zg 2), (zg 3), (zg 4), (zg 5), (zg 6), (zg 7), (zg 8), (zg 9), (zg 10), (zg 11), (zg 12), .ref pq])), (pq, .inr (6, [(zpq 0), (zpq 1), (zpq 2), (zpq 3), .ref bq, .int 16])), (v, .inr (5, [.null, .null, .null, .null, .null, .null, .null, .int 0]))] := hD
  refine lv_dup hx hb d_Y_init_23 rfl ?_
  refine lv_aload_n hx hb d_Y_init_24 rfl (lv_at hl 1 rfl) ?_
  refine lv_bipush (v := 61) hx hb d_Y_init_25 (by decide) ?_
  have hPc := hP.sub (ws' := [(v, .inr (5, [.null, .null, .null, .null, .null, .null, .null, .int 0])), (g, .inr (1, [(zg 0), (zg 1), (zg 2), (zg 3), (zg 4), (zg 5), (zg 6), (zg 7), (zg 8), (zg 9), (zg 10), (zg 11), (zg 12), .ref pq])), (pq, .inr (6, [(zpq 0), (zpq 1), (zpq 2), (zpq 3), .ref bq, .int 16]))]) [3, 1, 2] rfl
  have hKc := hK.sub (tys' := []) [] rfl
  have hDc := hD.sub (ws' := [(v, .inr (5, [.null, .null, .null, .null, .null, .null, .null, .int 0])), (g, .inr (1, [(zg 0), (zg 1), (zg 2), (zg 3), (zg 4), (zg 5), (zg 6), (zg 7), (zg 8), (zg 9), (zg 10), (zg 11), (zg 12), .ref pq])), (pq, .inr (6, [(zpq 0), (zpq 1), (zpq 2), (zpq 3), .ref bq, .int 16]))]) [3, 1, 2] (by decide) rfl
  have hFc := va_free (wc := [(v, .inr (5, [.null, .null, .null, .null, .null, .null, .null, .int 0])), (g, .inr (1, [(zg 0), (zg 1), (zg 2), (zg 3), (zg 4), (zg 5), (zg 6), (zg 7), (zg 8), (zg 9), (zg 10), (zg 11), (zg 12), .ref pq])), (pq, .inr (6, [(zpq 0), (zpq 1), (zpq 2), (zpq 3), .ref bq, .int 16]))]) hD hS hA [3, 1, 2] rfl
  refine va_callv (va_runI (As := [.ref g, .int 61]) (rest := [.ref v, .ref y]) ⟨hx, hb, hml, hown, hg⟩ (c_V_init_61 l dC dI H_7.size v g pq bq zg zpq) (cwI 2 hg (gw_gi cin_V_init) rfl rfl rfl (hg _ tw_8) (hg _ tw_269) (hg _ tw_151) rfl (by decide +kernel) ⟨Nat.le_of_ble_eq_true rfl, Nat.le_of_ble_eq_true rfl⟩) ⟨fun a U g mk q => by obtain ⟨q0, q1, qP, qK, qD, qG⟩ := q; exact ⟨q0, q1, qP, va_K.moved (u := U) (U := U.calling g mk a) (Vm.Alike.refl U.vm) qK, qD, tx_C.same (U := U.calling g mk a) rfl qG⟩, fun U hU hW => ⟨rfl, by rw [hU], by rw [hU]; exact hPc, va_K.moved hW.alike hKc, hDc.weaken (fun _ _ _ _ => trivial), hG.warm hW⟩⟩ rfl rfl hl.1 rfl (lv_room (Nat.le_of_ble_eq_true rfl)) d_Y_init_27 ⟨Nat.le_of_ble_eq_true rfl, Nat.le_of_ble_eq_true rfl⟩) hS (fun q _ h => hFc q h) hFc (fun u_k_8 t_k_8 H_9 l_k_8 ht hvm hw_k_8 hB hz1 hk1 hS => ?_)
  obtain ⟨zv, hP1, hK1, hD1⟩ := hB
  rw [ht] at hP1
  have hK1 := va_K.moved hvm.symm hK1
  obtain ⟨hP, hD⟩ := va_join (wr := [(y, .inr (4, [.ref g, .null, .int 0, .int 0]))]) (w1 := [(v, .inr (5, [(zv 0), (zv 1), (zv 2), (zv 3), (zv 4), (zv 5), (zv 6), .int 0])), (g, .inr (1, [(zg 0), (zg 1), (zg 2), (zg 3), (zg 4), (zg 5), (zg 6), (zg 7), (zg 8), (zg 9), (zg 10), (zg 11), (zg 12), .ref pq])), (pq, .inr (6, [(zpq 0), (zpq 1), (zpq 2), (zpq 3), .ref bq, .int 16]))]) hP hD [3, 1, 2] [0] rfl rfl (by decide) (by decide) hk1 hFc hP1 hD1
  have hK := (hK.sub (tys' := []) [] rfl).app hK1
  have hP : va_P (dC, dI) kcl [(y, .inr (4, [.ref g, .null, .int 0, .int 0])), (v, .inr (5, [(zv 0), (zv 1), (zv 2), (zv 3), (zv 4), (zv 5), (zv 6), .int 0])), (g, .inr (1, [(zg 0), (zg 1), (zg 2), (zg 3), (zg 4), (zg 5), (zg 6), (zg 7), (zg 8), (zg 9), (zg 10), (zg 11), (zg 12), .ref pq])), (pq, .inr (6, [(zpq 0), (zpq 1), (zpq 2), (zpq 3), .ref bq, .int 16]))] H_9 := hP
  have hD : va_D A [(y, .inr (4, [.ref g, .null, .int 0, .int 0])), (v, .inr (5, [(zv 0), (zv 1), (zv 2), (zv 3), (zv 4), (zv 5), (zv 6), .int 0])), (g, .inr (1, [(zg 0), (zg 1), (zg 2), (zg 3), (zg 4), (zg 5), (zg 6), (zg 7), (zg 8), (zg 9), (zg 10), (zg 11), (zg 12), .ref pq])), (pq, .inr (6, [(zpq 0), (zpq 1), (zpq 2), (zpq 3), .ref bq, .int 16]))] := hD
  have hK : va_K (dC, dI) kcl [] s := hK
  refine va_putF (D := (dC, dI)) (ci := 4) (v := .ref v) (ty := .object "TreeMatcher$Vectors") (C := kR_Y) (T := kT_Y) (N := 4) hx hb hg kin_Y kt_Y kty_Y knm_Y hown hK hP hD hS 0 rfl rfl 1 (by decide) (hg _ tw_271) (fun _ h9 => h9) rfl hin rfl (by decide +kernel) rfl rfl (Nat.le_of_ble_eq_true rfl) d_Y_init_30 (fun H_10 lo_11 hP hD hS => ?_)
  have hP : va_P (dC, dI) kcl [(y, .inr (4, [.ref g, .ref v, .int 0, .int 0])), (v, .inr (5, [(zv 0), (zv 1), (zv 2), (zv 3), (zv 4), (zv 5), (zv 6), .int 0])), (g, .inr (1, [(zg 0), (zg 1), (zg 2), (zg 3), (zg 4), (zg 5), (zg 6), (zg 7), (zg 8), (zg 9), (zg 10), (zg 11), (zg 12), .ref pq])), (pq, .inr (6, [(zpq 0), (zpq 1), (zpq 2), (zpq 3), .ref bq, .int 16]))] H_10 := hP
  have hD : va_D A [(y, .inr (4, [.ref g, .ref v, .int 0, .int 0])), (v, .inr (5, [(zv 0), (zv 1), (zv 2), (zv 3), (zv 4), (zv 5), (zv 6), .int 0])), (g, .inr (1, [(zg 0), (zg 1), (zg 2), (zg 3), (zg 4), (zg 5), (zg 6), (zg 7), (zg 8), (zg 9), (zg 10), (zg 11), (zg 12), .ref pq])), (pq, .inr (6, [(zpq 0), (zpq 1), (zpq 2), (zpq 3), .ref bq, .int 16]))] := hD
  have hP9 := hP.sub (ws' := [(y, .inr (4, [.ref g, .ref v, .int 0, .int 0])), (v, .inr (5, [(zv 0), (zv 1), (zv 2), (zv 3), (zv 4), (zv 5), (zv 6), .int 0])), (g, .inr (1, [(zg 0), (zg 1), (zg 2), (zg 3), (zg 4), (zg 5), (zg 6), (zg 7), (zg 8), (zg 9), (zg 10), (zg 11), (zg 12), .ref pq])), (pq, .inr (6, [(zpq 0), (zpq 1), (zpq 2), (zpq 3), .ref bq, .int 16]))]) [0, 1, 2, 3] rfl
  have hD9 := hD.sub (ws' := [(y, .inr (4, [.ref g, .ref v, .int 0, .int 0])), (v, .inr (5, [(zv 0), (zv 1), (zv 2), (zv 3), (zv 4), (zv 5), (zv 6), .int 0])), (g, .inr (1, [(zg 0), (zg 1), (zg 2), (zg 3), (zg 4), (zg 5), (zg 6), (zg 7), (zg 8), (zg 9), (zg 10), (zg 11), (zg 12), .ref pq])), (pq, .inr (6, [(zpq 0), (zpq 1), (zpq 2), (zpq 3), .ref bq, .int 16]))]) [0, 1, 2, 3] (by decide) rfl
  have hK9 := hK.sub (tys' := []) [] rfl
  exact W.vret hx hb hr (fun t ht hW => ⟨⟨(), rfl, trivial, ⟨v, zv, by rw [ht]; exact hP9, va_K.moved hW.alike hK9, hD9⟩⟩, hS.F ht⟩) hS.2.2 d_Y_init_33
set_option maxHeartbeats 4000000 in
set_option maxRecDepth 100000 in
theorem c_F_init (l : Launch) (dC : Nat → ClassId) (dI : Nat → Nat → Nat) (sz : Nat) (f g pq bq : Nat) (zg : Nat → Value) (zpq : Nat → Value) : Met l y_F_init ws_F_init ({ frames := 3, cells := 20, slots := 8887, locals := 55 }) (va_Pc [.ref f, .ref g] (fun U => U.heap.size = sz ∧ va_P (dC, dI) kcl [(f, .inr (2, [.null, .null, .null, .null, .null, .null, .null, .null, .null, .int 0, .null, .null, .null, .null])), (g, .inr (1, [(zg 0), (zg 1), (zg 2), (zg 3), (zg 4), (zg 5), (zg 6), (zg 7), (zg 8), (zg 9), (zg 10), (zg 11), (zg 12), .ref pq])), (pq, .inr (6, [(zpq 0), (zpq 1), (zpq 2), (zpq 3), .ref bq, .int 16]))] U.heap ∧ va_K (dC, dI) kcl [] U ∧ va_D (fun _ => True) [(f, .inr (2, [.null, .null, .null, .null, .null, .null, .null, .null, .null, .int 0, .null, .null, .null, .null])), (g, .inr (1, [(zg 0), (zg 1), (zg 2), (zg 3), (zg 4), (zg 5), (zg 6), (zg 7), (zg 8), (zg 9), (zg 10), (zg 11), (zg 12), .ref pq])), (pq, .inr (6, [(zpq 0), (zpq 1), (zpq 2), (zpq 3), .ref bq, .int 16]))] ∧ tx_C U)) (va_Qv (fun (_ : Unit) => True) (fun (_ : Unit) (t : State) => ∃ (v : Nat) (zf zv : Nat → Value), va_P (dC, dI) kcl [(f, .inr (2, [(zf 0), (zf 1), (zf 2), (zf 3), (zf 4), (zf 5), (zf 6), (zf 7), (zf 8), .int 0, (zf 10), .ref v, (zf 12), (zf 13)])), (v, .inr (5, [(zv 0), (zv 1), (zv 2), (zv 3), (zv 4), (zv 5), (zv 6), .int 0])), (g, .inr (1, [(zg 0), (zg 1), (zg 2), (zg 3), (zg 4), (zg 5), (zg 6), (zg 7), (zg 8), (zg 9), (zg 10), (zg 11), (zg 12), .ref pq])), (pq, .inr (6, [(zpq 0), (zpq 1), (zpq 2), (zpq 3), .ref bq, .int 16]))] t.heap ∧ va_K (dC, dI) kcl [] t ∧ va_D (va_A [(f, .inr (2, [.null, .null, .null, .null, .null, .null, .null, .null, .null, .int 0, .null, .null, .null, .null])), (g, .inr (1, [(zg 0), (zg 1), (zg 2), (zg 3), (zg 4), (zg 5), (zg 6), (zg 7), (zg 8), (zg 9), (zg 10), (zg 11), (zg 12), .ref pq])), (pq, .inr (6, [(zpq 0), (zpq 1), (zpq 2), (zpq 3), .ref bq, .int 16]))] sz) [(f, .inr (2, [(zf 0), (zf 1), (zf 2), (zf 3), (zf 4), (zf 5), (zf 6), (zf 7), (zf 8), .int 0, (zf 10), .ref v, (zf 12), (zf 13)])), (v, .inr (5, [(zv 0), (zv 1), (zv 2), (zv 3), (zv 4), (zv 5), (zv 6), .int 0])), (g, .inr (1, [(zg 0), (zg 1), (zg 2), (zg 3), (zg 4), (zg 5), (zg 6), (zg 7), (zg 8), (zg 9), (zg 10), (zg 11), (zg 12), .ref pq])), (pq, .inr (6, [(zpq 0), (zpq 1), (zpq 2), (zpq 3), .ref bq, .int 16]))]) (va_A [(f, .inr (2, [.null, .null, .null, .null, .null, .null, .null, .null, .null, .int 0, .null, .null, .null, .null])), (g, .inr (1, [(zg 0), (zg 1), (zg 2), (zg 3), (zg 4), (zg 5), (zg 6), (zg 7), (zg 8), (zg 9), (zg 10), (zg 11), (zg 12), .ref pq])), (pq, .inr (6, [(zpq 0), (zpq 1), (zpq 2), (zpq 3), .ref bq, .int 16]))] sz)) 20 8887 (va_A [(f, .inr (2, [.null, .null, .null, .null, .null, .null, .null, .null, .null, .int 0, .null, .null, .null, .null])), (g, .inr (1, [(zg 0), (zg 1), (zg 2), (zg 3), (zg 4), (zg 5), (zg 6), (zg 7), (zg 8), (zg 9), (zg 10), (zg 11), (zg 12), .ref pq])), (pq, .inr (6, [(zpq 0), (zpq 1), (zpq 2), (zpq 3), .ref bq, .int 16]))] sz) := by
  refine Met.ofW (cc := b_F_init) (maxL := 2) (ret := (Option.none : Option Jvm.ClassFile.FieldType)) (by decide) rfl ?_
  intro p e s m args below meth c s₁ B hml hv
  obtain ⟨rfl, hsz, hP, hK, hD0, hG⟩ := hv
  have hx := B.exec
  have hb := B.bytes
  have hr := B.returns
  have hlocks := B.notSynchronized
  have hg : ∀ w ∈ gw, w.before _ s = true := fun w h => atoms_spec (ws := ws_F_init) B.pre w (List.mem_cons_of_mem _ h)
  have hown : s.vm.findClass "TreeMatcher$Forest" = some m.cls := findClass_of_methodNamed B.named
  have hin : meth.name = "<init>" := (name_of_methodNamed B.named B.method).1
  subst hsz
  have hD := hD0.self (sz := s.heap.size)
  have hA : ∀ q : Nat, s.heap.size ≤ q → va_A [(f, .inr (2, [.null, .null, .null, .null, .null, .null, .null, .null, .null, .int 0, .null, .null, .null, .null])), (g, .inr (1, [(zg 0), (zg 1), (zg 2), (zg 3), (zg 4), (zg 5), (zg 6), (zg 7), (zg 8), (zg 9), (zg 10), (zg 11), (zg 12), .ref pq])), (pq, .inr (6, [(zpq 0), (zpq 1), (zpq 2), (zpq 3), .ref bq, .int 16]))] s.heap.size q := fun q h => Or.inr h
  generalize hAe : va_A [(f, .inr (2, [.null, .null, .null, .null, .null, .null, .null, .null, .null, .int 0, .null, .null, .null, .null])), (g, .inr (1, [(zg 0), (zg 1), (zg 2), (zg 3), (zg 4), (zg 5), (zg 6), (zg 7), (zg 8), (zg 9), (zg 10), (zg 11), (zg 12), .ref pq])), (pq, .inr (6, [(zpq 0), (zpq 1), (zpq 2), (zpq 3), .ref bq, .int 16]))] s.heap.size = A at hD hA ⊢
  have hN : tx_N s := hG.1
  have hS : va_S A s.heap s.heap [] := va_S.rf
  have hl := lv_entry ([.ref f, .ref g] : List Value) (n := 2) (Nat.le_of_ble_eq_true rfl)
  rw [lg_entry_eq]
  generalize (lg_sl ([.ref f, .ref g] : List Value) ++ List.replicate (2 - (lg_sl ([.ref f, .ref g] : List Value)).length) Slot.unset).toArray = ls at hl ⊢
  have hl : lv_has ls 2 [(0, .ref f), (1, .ref g)] := hl
  refine lv_aload_n hx hb d_F_init_0 rfl (lv_at hl 0 rfl) ?_
  refine W.objInit hx hb hown (hg _ tw_129) (hg _ tw_26) (hg _ tw_27) rfl (by rw [hml]; exact hl.1) rfl d_F_init_1 (Nat.le_of_ble_eq_true rfl) (Nat.le_of_ble_eq_true rfl) ?_
  refine W.eq (g2 := F0 m 4 ls []) rfl ?_
  refine lv_aload_n hx hb d_F_init_4 rfl (lv_at hl 0 rfl) ?_
  refine lv_sipush (v := 200) hx hb d_F_init_5 (by decide) ?_
  refine va_newa (atype := .int) (ty := .int) (a0 := (200, .inl (fun _ => 0))) (N' := 200) hx hb (hg _ tw_50) rfl hK hP hD hS hA (fun _ => rfl) (by decide) (by decide +kernel) (by decide) (Nat.le_of_ble_eq_true rfl) (Nat.le_of_ble_eq_true rfl) d_F_init_8 (fun q_2 cq_2 H_1 hK hP hD hS => ?_)
  have hP := hP.sub (ws' := [(f, .inr (2, [.null, .null, .null, .null, .null, .null, .null, .null, .null, .int 0, .null, .null, .null, .null])), (g, .inr (1, [(zg 0), (zg 1), (zg 2), (zg 3), (zg 4), (zg 5), (zg 6), (zg 7), (zg 8), (zg 9), (zg 10), (zg 11), (zg 12), .ref pq])), (pq, .inr (6, [(zpq 0), (zpq 1), (zpq 2), (zpq 3), .ref bq, .int 16]))]) [0, 1, 2] rfl
  have hD := hD.sub (ws' := [(f, .inr (2, [.null, .null, .null, .null, .null, .null, .null, .null, .null, .int 0, .null, .null, .null, .null])), (g, .inr (1, [(zg 0), (zg 1), (zg 2), (zg 3), (zg 4), (zg 5), (zg 6), (zg 7), (zg 8), (zg 9), (zg 10), (zg 11), (zg 12), .ref pq])), (pq, .inr (6, [(zpq 0), (zpq 1), (zpq 2), (zpq 3), .ref bq, .int 16]))]) [0, 1, 2] (by decide) rfl
  have hK := hK.sub (tys' := []) [] rfl
  refine va_putF (D := (dC, dI)) (ci := 2) (v := .ref q_2) (ty := .array .int) (C := kR_F) (T := kT_F) (N := 14) hx hb hg kin_F kt_F kty_F knm_F hown hK hP hD hS 0 rfl rfl 1 (by decide) (hg _ tw_192) (fun _ h9 => h9) rfl hin rfl (by decide +kernel) rfl rfl (Nat.le_of_ble_eq_true rfl) d_F_init_10 (fun H_3 lo_4 hP hD hS => ?_)
  have hP : va_P (dC, dI) kcl [(f, .inr (2, [.null, .ref q_2, .null, .null, .null, .null, .null, .null, .null, .int 0, .null, .null, .null, .null])), (g, .inr (1, [(zg 0), (zg 1), (zg 2), (zg 3), (zg 4), (zg 5), (zg 6), (zg 7), (zg 8), (zg 9), (zg 10), (zg 11), (zg 12), .ref pq])), (pq, .inr (6, [(zpq 0), (zpq 1), (zpq 2), (zpq 3), .ref bq, .int 16]))] H_3 := hP
  have hD : va_D A [(f, .inr (2, [.null, .ref q_2, .null, .null, .null, .null, .null, .null, .null, .int 0, .null, .null, .null, .null])), (g, .inr (1, [(zg 0), (zg 1), (zg 2), (zg 3), (zg 4), (zg 5), (zg 6), (zg 7), (zg 8), (zg 9), (zg 10), (zg 11), (zg 12), .ref pq])), (pq, .inr (6, [(zpq 0), (zpq 1), (zpq 2), (zpq 3), .ref bq, .int 16]))] := hD
  refine lv_aload_n hx hb d_F_init_13 rfl (lv_at hl 0 rfl) ?_
  refine lv_sipush (v := 200) hx hb d_F_init_14 (by decide) ?_
  refine va_newa (atype := .int) (ty := .int) (a0 := (200, .inl (fun _ => 0))) (N' := 200) hx hb (hg _ tw_50) rfl hK hP hD hS hA (fun _ => rfl) (by decide) (by decide +kernel) (by decide) (Nat.le_of_ble_eq_true rfl) (Nat.le_of_ble_eq_true rfl) d_F_init_17 (fun q_6 cq_6 H_5 hK hP hD hS => ?_)
  have hP := hP.sub (ws' := [(f, .inr (2, [.null, .ref q_2, .null, .null, .null, .null, .null, .null, .null, .int 0, .null, .null, .null, .null])), (g, .inr (1, [(zg 0), (zg 1), (zg 2), (zg 3), (zg 4), (zg 5), (zg 6), (zg 7), (zg 8), (zg 9), (zg 10), (zg 11), (zg 12), .ref pq])), (pq, .inr (6, [(zpq 0), (zpq 1), (zpq 2), (zpq 3), .ref bq, .int 16]))]) [0, 1, 2] rfl
  have hD := hD.sub (ws' := [(f, .inr (2, [.null, .ref q_2, .null, .null, .null, .null, .null, .null, .null, .int 0, .null, .null, .null, .null])), (g, .inr (1, [(zg 0), (zg 1), (zg 2), (zg 3), (zg 4), (zg 5), (zg 6), (zg 7), (zg 8), (zg 9), (zg 10), (zg 11), (zg 12), .ref pq])), (pq, .inr (6, [(zpq 0), (zpq 1), (zpq 2), (zpq 3), .ref bq, .int 16]))]) [0, 1, 2] (by decide) rfl
  have hK := hK.sub (tys' := []) [] rfl
  refine va_putF (D := (dC, dI)) (ci := 2) (v := .ref q_6) (ty := .array .int) (C := kR_F) (T := kT_F) (N := 14) hx hb hg kin_F kt_F kty_F knm_F hown hK hP hD hS 0 rfl rfl 2 (by decide) (hg _ tw_193) (fun _ h9 => h9) rfl hin rfl (by decide +kernel) rfl rfl (Nat.le_of_ble_eq_true rfl) d_F_init_19 (fun H_7 lo_8 hP hD hS => ?_)
  have hP : va_P (dC, dI) kcl [(f, .inr (2, [.null, .ref q_2, .ref q_6, .null, .null, .null, .null, .null, .null, .int 0, .null, .null, .null, .null])), (g, .inr (1, [(zg 0), (zg 1), (zg 2), (zg 3), (zg 4), (zg 5), (zg 6), (zg 7), (zg 8), (zg 9), (zg 10), (zg 11), (zg 12), .ref pq])), (pq, .inr (6, [(zpq 0), (zpq 1), (zpq 2), (zpq 3), .ref bq, .int 16]))] H_7 := hP
  have hD : va_D A [(f, .inr (2, [.null, .ref q_2, .ref q_6, .null, .null, .null, .null, .null, .null, .int 0, .null, .null, .null, .null])), (g, .inr (1, [(zg 0), (zg 1), (zg 2), (zg 3), (zg 4), (zg 5), (zg 6), (zg 7), (zg 8), (zg 9), (zg 10), (zg 11), (zg 12), .ref pq])), (pq, .inr (6, [(zpq 0), (zpq 1), (zpq 2), (zpq 3), .ref bq, .int 16]))] := hD
  refine lv_aload_n hx hb d_F_init_22 rfl (lv_at hl 0 rfl) ?_
  refine lv_sipush (v := 200) hx hb d_F_init_23 (by decide) ?_
  refine va_newa (atype := .int) (ty := .int) (a0 := (200, .inl (fun _ => 0))) (N' := 200) hx hb (hg _ tw_50) rfl hK hP hD hS hA (fun _ => rfl) (by decide) (by decide +kernel) (by decide) (Nat.le_of_ble_eq_true rfl) (Nat.le_of_ble_eq_true rfl) d_F_init_26 (fun q_10 cq_10 H_9 hK hP hD hS => ?_)
  have hP := hP.sub (ws' := [(f, .inr (2, [.null, .ref q_2, .ref q_6, .null, .null, .null, .null, .null, .null, .int 0, .null, .null, .null, .null])), (g, .inr (1, [(zg 0), (zg 1), (zg 2), (zg 3), (zg 4), (zg 5), (zg 6), (zg 7), (zg 8), (zg 9), (zg 10), (zg 11), (zg 12), .ref pq])), (pq, .inr (6, [(zpq 0), (zpq 1), (zpq 2), (zpq 3), .ref bq, .int 16]))]) [0, 1, 2] rfl
  have hD := hD.sub (ws' := [(f, .inr (2, [.null, .ref q_2, .ref q_6, .null, .null, .null, .null, .null, .null, .int 0, .null, .null, .null, .null])), (g, .inr (1, [(zg 0), (zg 1), (zg 2), (zg 3), (zg 4), (zg 5), (zg 6), (zg 7), (zg 8), (zg 9), (zg 10), (zg 11), (zg 12), .ref pq])), (pq, .inr (6, [(zpq 0), (zpq 1), (zpq 2), (zpq 3), .ref bq, .int 16]))]) [0, 1, 2] (by decide) rfl
  have hK := hK.sub (tys' := []) [] rfl
  refine va_putF (D := (dC, dI)) (ci := 2) (v := .ref q_10) (ty := .array .int) (C := kR_F) (T := kT_F) (N := 14) hx hb hg kin_F kt_F kty_F knm_F hown hK hP hD hS 0 rfl rfl 3 (by decide) (hg _ tw_194) (fun _ h9 => h9) rfl hin rfl (by decide +kernel) rfl rfl (Nat.le_of_ble_eq_true rfl) d_F_init_28 (fun H_11 lo_12 hP hD hS => ?_)
  have hP : va_P (dC, dI) kcl [(f, .inr (2, [.null, .ref q_2, .ref q_6, .ref q_10, .null, .null, .null, .null, .null, .int 0, .null, .null, .null, .null])), (g, .inr (1, [(zg 0), (zg 1), (zg 2), (zg 3), (zg 4), (zg 5), (zg 6), (zg 7), (zg 8), (zg 9), (zg 10), (zg 11), (zg 12), .ref pq])), (pq, .inr (6, [(zpq 0), (zpq 1), (zpq 2), (zpq 3), .ref bq, .int 16]))] H_11 := hP
  have hD : va_D A [(f, .inr (2, [.null, .ref q_2, .ref q_6, .ref q_10, .null, .null, .null, .null, .null, .int 0, .null, .null, .null, .null])), (g, .inr (1, [(zg 0), (zg 1), (zg 2), (zg 3), (zg 4), (zg 5), (zg 6), (zg 7), (zg 8), (zg 9), (zg 10), (zg 11), (zg 12), .ref pq])), (pq, .inr (6, [(zpq 0), (zpq 1), (zpq 2), (zpq 3), .ref bq, .int 16]))] := hD
  refine lv_aload_n hx hb d_F_init_31 rfl (lv_at hl 0 rfl) ?_
  refine lv_sipush (v := 200) hx hb d_F_init_32 (by decide) ?_
  refine va_newa (atype := .int) (ty := .int) (a0 := (200, .inl (fun _ => 0))) (N' := 200) hx hb (hg _ tw_50) rfl hK hP hD hS hA (fun _ => rfl) (by decide) (by decide +kernel) (by decide) (Nat.le_of_ble_eq_true rfl) (Nat.le_of_ble_eq_true rfl) d_F_init_35 (fun q_14 cq_14 H_13 hK hP hD hS => ?_)
  have hP := hP.sub (ws' := [(f, .inr (2, [.null, .ref q_2, .ref q_6, .ref q_10, .null, .null, .null, .null, .null, .int 0, .null, .null, .null, .null])), (g, .inr (1, [(zg 0), (zg 1), (zg 2), (zg 3), (zg 4), (zg 5), (zg 6), (zg 7), (zg 8), (zg 9), (zg 10), (zg 11), (zg 12), .ref pq])), (pq, .inr (6, [(zpq 0), (zpq 1), (zpq 2), (zpq 3), .ref bq, .int 16]))]) [0, 1, 2] rfl
  have hD := hD.sub (ws' := [(f, .inr (2, [.null, .ref q_2, .ref q_6, .ref q_10, .null, .null, .null, .null, .null, .int 0, .null, .null, .null, .null])), (g, .inr (1, [(zg 0), (zg 1), (zg 2), (zg 3), (zg 4), (zg 5), (zg 6), (zg 7), (zg 8), (zg 9), (zg 10), (zg 11), (zg 12), .ref pq])), (pq, .inr (6, [(zpq 0), (zpq 1), (zpq 2), (zpq 3), .ref bq, .int 16]))]) [0, 1, 2] (by decide) rfl
  have hK := hK.sub (tys' := []) [] rfl
  refine va_putF (D := (dC, dI)) (ci := 2) (v := .ref q_14) (ty := .array .int) (C := kR_F) (T := kT_F) (N := 14) hx hb hg kin_F kt_F kty_F knm_F hown hK hP hD hS 0 rfl rfl 4 (by decide) (hg _ tw_195) (fun _ h9 => h9) rfl hin rfl (by decide +kernel) rfl rfl (Nat.le_of_ble_eq_true rfl) d_F_init_37 (fun H_15 lo_16 hP hD hS => ?_)
  have hP : va_P (dC, dI) kcl [(f, .inr (2, [.null, .ref q_2, .ref q_6, .ref q_10, .ref q_14, .null, .null, .null, .null, .int 0, .null, .null, .null, .null])), (g, .inr (1, [(zg 0), (zg 1), (zg 2), (zg 3), (zg 4), (zg 5), (zg 6), (zg 7), (zg 8), (zg 9), (zg 10), (zg 11), (zg 12), .ref pq])), (pq, .inr (6, [(zpq 0), (zpq 1), (zpq 2), (zpq 3), .ref bq, .int 16]))] H_15 := hP
  have hD : va_D A [(f, .inr (2, [.null, .ref q_2, .ref q_6, .ref q_10, .ref q_14, .null, .null, .null, .null, .int 0, .null, .null, .null, .null])), (g, .inr (1, [(zg 0), (zg 1), (zg 2), (zg 3), (zg 4), (zg 5), (zg 6), (zg 7), (zg 8), (zg 9), (zg 10), (zg 11), (zg 12), .ref pq])), (pq, .inr (6, [(zpq 0), (zpq 1), (zpq 2), (zpq 3), .ref bq, .int 16]))] := hD
  refine lv_aload_n hx hb d_F_init_40 rfl (lv_at hl 0 rfl) ?_
  refine lv_sipush (v := 200) hx hb d_F_init_41 (by decide) ?_
  refine va_newa (atype := .boolean) (ty := .boolean) (a0 := (200, .inl (fun _ => 0))) (N' := 200) hx hb (hg _ tw_146) rfl hK hP hD hS hA (fun _ => rfl) (by decide) (by decide +kernel) (by decide) (Nat.le_of_ble_eq_true rfl) (Nat.le_of_ble_eq_true rfl) d_F_init_44 (fun q_18 cq_18 H_17 hK hP hD hS => ?_)
  have hP := hP.sub (ws' := [(f, .inr (2, [.null, .ref q_2, .ref q_6, .ref q_10, .ref q_14, .null, .null, .null, .null, .int 0, .null, .null, .null, .null])), (g, .inr (1, [(zg 0), (zg 1), (zg 2), (zg 3), (zg 4), (zg 5), (zg 6), (zg 7), (zg 8), (zg 9), (zg 10), (zg 11), (zg 12), .ref pq])), (pq, .inr (6, [(zpq 0), (zpq 1), (zpq 2), (zpq 3), .ref bq, .int 16]))]) [0, 1, 2] rfl
  have hD := hD.sub (ws' := [(f, .inr (2, [.null, .ref q_2, .ref q_6, .ref q_10, .ref q_14, .null, .null, .null, .null, .int 0, .null, .null, .null, .null])), (g, .inr (1, [(zg 0), (zg 1), (zg 2), (zg 3), (zg 4), (zg 5), (zg 6), (zg 7), (zg 8), (zg 9), (zg 10), (zg 11), (zg 12), .ref pq])), (pq, .inr (6, [(zpq 0), (zpq 1), (zpq 2), (zpq 3), .ref bq, .int 16]))]) [0, 1, 2] (by decide) rfl
  have hK := hK.sub (tys' := []) [] rfl
  refine va_putF (D := (dC, dI)) (ci := 2) (v := .ref q_18) (ty := .array .boolean) (C := kR_F) (T := kT_F) (N := 14) hx hb hg kin_F kt_F kty_F knm_F hown hK hP hD hS 0 rfl rfl 5 (by decide) (hg _ tw_196) (fun _ h9 => h9) rfl hin rfl (by decide +kernel) rfl rfl (Nat.le_of_ble_eq_true rfl) d_F_init_46 (fun H_19 lo_20 hP hD hS => ?_)
  have hP : va_P (dC, dI) kcl [(f, .inr (2, [.null, .ref q_2, .ref q_6, .ref q_10, .ref q_14, .ref q_18, .null, .null, .null, .int 0, .null, .null, .null, .null])), (g, .inr (1, [(zg 0), (zg 1), (zg 2), (zg 3), (zg 4), (zg 5), (zg 6), (zg 7), (zg 8), (zg 9), (zg 10), (zg 11), (zg 12), .ref pq])), (pq, .inr (6, [(zpq 0), (zpq 1), (zpq 2), (zpq 3), .ref bq, .int 16]))] H_19 := hP
  have hD : va_D A [(f, .inr (2, [.null, .ref q_2, .ref q_6, .ref q_10, .ref q_14, .ref q_18, .null, .null, .null, .int 0, .null, .null, .null, .null])), (g, .inr (1, [(zg 0), (zg 1), (zg 2), (zg 3), (zg 4), (zg 5), (zg 6), (zg 7), (zg 8), (zg 9), (zg 10), (zg 11), (zg 12), .ref pq])), (pq, .inr (6, [(zpq 0), (zpq 1), (zpq 2), (zpq 3), .ref bq, .int 16]))] := hD
  refine lv_aload_n hx hb d_F_init_49 rfl (lv_at hl 0 rfl) ?_
  refine lv_sipush (v := 3200) hx hb d_F_init_50 (by decide) ?_
  refine va_newa (atype := .int) (ty := .int) (a0 := (3200, .inl (fun _ => 0))) (N' := 3200) hx hb (hg _ tw_50) rfl hK hP hD hS hA (fun _ => rfl) (by decide) (by decide +kernel) (by decide) (Nat.le_of_ble_eq_true rfl) (Nat.le_of_ble_eq_true rfl) d_F_init_53 (fun q_22 cq_22 H_21 hK hP hD hS => ?_)
  have hP := hP.sub (ws' := [(f, .inr (2, [.null, .ref q_2, .ref q_6, .ref q_10, .ref q_14, .ref q_18, .null, .null, .null, .int 0, .null, .null, .null, .null])), (g, .inr (1, [(zg 0), (zg 1), (zg 2), (zg 3), (zg 4), (zg 5), (zg 6), (zg 7), (zg 8), (zg 9), (zg 10), (zg 11), (zg 12), .ref pq])), (pq, .inr (6, [(zpq 0), (zpq 1), (zpq 2), (zpq 3), .ref bq, .int 16]))]) [0, 1, 2] rfl
  have hD := hD.sub (ws' := [(f, .inr (2, [.null, .ref q_2, .ref q_6, .ref q_10, .ref q_14, .ref q_18, .null, .null, .null, .int 0, .null, .null, .null, .null])), (g, .inr (1, [(zg 0), (zg 1), (zg 2), (zg 3), (zg 4), (zg 5), (zg 6), (zg 7), (zg 8), (zg 9), (zg 10), (zg 11), (zg 12), .ref pq])), (pq, .inr (6, [(zpq 0), (zpq 1), (zpq 2), (zpq 3), .ref bq, .int 16]))]) [0, 1, 2] (by decide) rfl
  have hK := hK.sub (tys' := []) [] rfl
  refine va_putF (D := (dC, dI)) (ci := 2) (v := .ref q_22) (ty := .array .int) (C := kR_F) (T := kT_F) (N := 14) hx hb hg kin_F kt_F kty_F knm_F hown hK hP hD hS 0 rfl rfl 6 (by decide) (hg _ tw_197) (fun _ h9 => h9) rfl hin rfl (by decide +kernel) rfl rfl (Nat.le_of_ble_eq_true rfl) d_F_init_55 (fun H_23 lo_24 hP hD hS => ?_)
  have hP : va_P (dC, dI) kcl [(f, .inr (2, [.null, .ref q_2, .ref q_6, .ref q_10, .ref q_14, .ref q_18, .ref q_22, .null, .null, .int 0, .null, .null, .null, .null])), (g, .inr (1, [(zg 0), (zg 1), (zg 2), (zg 3), (zg 4), (zg 5), (zg 6), (zg 7), (zg 8), (zg 9), (zg 10), (zg 11), (zg 12), .ref pq])), (pq, .inr (6, [(zpq 0), (zpq 1), (zpq 2), (zpq 3), .ref bq, .int 16]))] H_23 := hP
  have hD : va_D A [(f, .inr (2, [.null, .ref q_2, .ref q_6, .ref q_10, .ref q_14, .ref q_18, .ref q_22, .null, .null, .int 0, .null, .null, .null, .null])), (g, .inr (1, [(zg 0), (zg 1), (zg 2), (zg 3), (zg 4), (zg 5), (zg 6), (zg 7), (zg 8), (zg 9), (zg 10), (zg 11), (zg 12), .ref pq])), (pq, .inr (6, [(zpq 0), (zpq 1), (zpq 2), (zpq 3), .ref bq, .int 16]))] := hD
  refine lv_aload_n hx hb d_F_init_58 rfl (lv_at hl 0 rfl) ?_
  refine lv_sipush (v := 3200) hx hb d_F_init_59 (by decide) ?_
  refine va_newa (atype := .int) (ty := .int) (a0 := (3200, .inl (fun _ => 0))) (N' := 3200) hx hb (hg _ tw_50) rfl hK hP hD hS hA (fun _ => rfl) (by decide) (by decide +kernel) (by decide) (Nat.le_of_ble_eq_true rfl) (Nat.le_of_ble_eq_true rfl) d_F_init_62 (fun q_26 cq_26 H_25 hK hP hD hS => ?_)
  have hP := hP.sub (ws' := [(f, .inr (2, [.null, .ref q_2, .ref q_6, .ref q_10, .ref q_14, .ref q_18, .ref q_22, .null, .null, .int 0, .null, .null, .null, .null])), (g, .inr (1, [(zg 0), (zg 1), (zg 2), (zg 3), (zg 4), (zg 5), (zg 6), (zg 7), (zg 8), (zg 9), (zg 10), (zg 11), (zg 12), .ref pq])), (pq, .inr (6, [(zpq 0), (zpq 1), (zpq 2), (zpq 3), .ref bq, .int 16]))]) [0, 1, 2] rfl
  have hD := hD.sub (ws' := [(f, .inr (2, [.null, .ref q_2, .ref q_6, .ref q_10, .ref q_14, .ref q_18, .ref q_22, .null, .null, .int 0, .null, .null, .null, .null])), (g, .inr (1, [(zg 0), (zg 1), (zg 2), (zg 3), (zg 4), (zg 5), (zg 6), (zg 7), (zg 8), (zg 9), (zg 10), (zg 11), (zg 12), .ref pq])), (pq, .inr (6, [(zpq 0), (zpq 1), (zpq 2), (zpq 3), .ref bq, .int 16]))]) [0, 1, 2] (by decide) rfl
  have hK := hK.sub (tys' := []) [] rfl
  refine va_putF (D := (dC, dI)) (ci := 2) (v := .ref q_26) (ty := .array .int) (C := kR_F) (T := kT_F) (N := 14) hx hb hg kin_F kt_F kty_F knm_F hown hK hP hD hS 0 rfl rfl 7 (by decide) (hg _ tw_198) (fun _ h9 => h9) rfl hin rfl (by decide +kernel) rfl rfl (Nat.le_of_ble_eq_true rfl) d_F_init_64 (fun H_27 lo_28 hP hD hS => ?_)
  have hP : va_P (dC, dI) kcl [(f, .inr (2, [.null, .ref q_2, .ref q_6, .ref q_10, .ref q_14, .ref q_18, .ref q_22, .ref q_26, .null, .int 0, .null, .null, .null, .null])), (g, .inr (1, [(zg 0), (zg 1), (zg 2), (zg 3), (zg 4), (zg 5), (zg 6), (zg 7), (zg 8), (zg 9), (zg 10), (zg 11), (zg 12), .ref pq])), (pq, .inr (6, [(zpq 0), (zpq 1), (zpq 2), (zpq 3), .ref bq, .int 16]))] H_27 := hP
  have hD : va_D A [(f, .inr (2, [.null, .ref q_2, .ref q_6, .ref q_10, .ref q_14, .ref q_18, .ref q_22, .ref q_26, .null, .int 0, .null, .null, .null, .null])), (g, .inr (1, [(zg 0), (zg 1), (zg 2), (zg 3), (zg 4), (zg 5), (zg 6), (zg 7), (zg 8), (zg 9), (zg 10), (zg 11), (zg 12), .ref pq])), (pq, .inr (6, [(zpq 0), (zpq 1), (zpq 2), (zpq 3), .ref bq, .int 16]))] := hD
  refine lv_aload_n hx hb d_F_init_67 rfl (lv_at hl 0 rfl) ?_
  refine lv_sipush (v := 200) hx hb d_F_init_68 (by decide) ?_
  refine va_newa (atype := .int) (ty := .int) (a0 := (200, .inl (fun _ => 0))) (N' := 200) hx hb (hg _ tw_50) rfl hK hP hD hS hA (fun _ => rfl) (by decide) (by decide +kernel) (by decide) (Nat.le_of_ble_eq_true rfl) (Nat.le_of_ble_eq_true rfl) d_F_init_71 (fun q_30 cq_30 H_29 hK hP hD hS => ?_)
  have hP := hP.sub (ws' := [(f, .inr (2, [.null, .ref q_2, .ref q_6, .ref q_10, .ref q_14, .ref q_18, .ref q_22, .ref q_26, .null, .int 0, .null, .null, .null, .null])), (g, .inr (1, [(zg 0), (zg 1), (zg 2), (zg 3), (zg 4), (zg 5), (zg 6), (zg 7), (zg 8), (zg 9), (zg 10), (zg 11), (zg 12), .ref pq])), (pq, .inr (6, [(zpq 0), (zpq 1), (zpq 2), (zpq 3), .ref bq, .int 16]))]) [0, 1, 2] rfl
  have hD := hD.sub (ws' := [(f, .inr (2, [.null, .ref q_2, .ref q_6, .ref q_10, .ref q_14, .ref q_18, .ref q_22, .ref q_26, .null, .int 0, .null, .null, .null, .null])), (g, .inr (1, [(zg 0), (zg 1), (zg 2), (zg 3), (zg 4), (zg 5), (zg 6), (zg 7), (zg 8), (zg 9), (zg 10), (zg 11), (zg 12), .ref pq])), (pq, .inr (6, [(zpq 0), (zpq 1), (zpq 2), (zpq 3), .ref bq, .int 16]))]) [0, 1, 2] (by decide) rfl
  have hK := hK.sub (tys' := []) [] rfl
  refine va_putF (D := (dC, dI)) (ci := 2) (v := .ref q_30) (ty := .array .int) (C := kR_F) (T := kT_F) (N := 14) hx hb hg kin_F kt_F kty_F knm_F hown hK hP hD hS 0 rfl rfl 8 (by decide) (hg _ tw_199) (fun _ h9 => h9) rfl hin rfl (by decide +kernel) rfl rfl (Nat.le_of_ble_eq_true rfl) d_F_init_73 (fun H_31 lo_32 hP hD hS => ?_)
  have hP : va_P (dC, dI) kcl [(f, .inr (2, [.null, .ref q_2, .ref q_6, .ref q_10, .ref q_14, .ref q_18, .ref q_22, .ref q_26, .ref q_30, .int 0, .null, .null, .null, .null])), (g, .inr (1, [(zg 0), (zg 1), (zg 2), (zg 3), (zg 4), (zg 5), (zg 6), (zg 7), (zg 8), (zg 9), (zg 10), (zg 11), (zg 12), .ref pq])), (pq, .inr (6, [(zpq 0), (zpq 1), (zpq 2), (zpq 3), .ref bq, .int 16]))] H_31 := hP
  have hD : va_D A [(f, .inr (2, [.null, .ref q_2, .ref q_6, .ref q_10, .ref q_14, .ref q_18, .ref q_22, .ref q_26, .ref q_30, .int 0, .null, .null, .null, .null])), (g, .inr (1, [(zg 0), (zg 1), (zg 2), (zg 3), (zg 4), (zg 5), (zg 6), (zg 7), (zg 8), (zg 9), (zg 10), (zg 11), (zg 12), .ref pq])), (pq, .inr (6, [(zpq 0), (zpq 1), (zpq 2), (zpq 3), .ref bq, .int 16]))] := hD
  refine lv_aload_n hx hb d_F_init_76 rfl (lv_at hl 0 rfl) ?_
  refine lv_iconst (v := 0) hx hb d_F_init_77 (by decide) ?_
  refine va_put (D := (dC, dI)) (ci := 2) (v := .int 0) (ty := .int) (C := kR_F) (T := kT_F) (N := 14) hx hb hg kin_F kt_F kty_F knm_F hown hK hP hD hS 0 rfl rfl 9 (by decide) (hg _ tw_200) (fun _ h9 => h9) rfl (by decide +kernel) rfl rfl (Nat.le_of_ble_eq_true rfl) d_F_init_78 (fun H_33 lo_34 hP hD hS => ?_)
  have hP : va_P (dC, dI) kcl [(f, .inr (2, [.null, .ref q_2, .ref q_6, .ref q_10, .ref q_14, .ref q_18, .ref q_22, .ref q_26, .ref q_30, .int 0, .null, .null, .null, .null])), (g, .inr (1, [(zg 0), (zg 1), (zg 2), (zg 3), (zg 4), (zg 5), (zg 6), (zg 7), (zg 8), (zg 9), (zg 10), (zg 11), (zg 12), .ref pq])), (pq, .inr (6, [(zpq 0), (zpq 1), (zpq 2), (zpq 3), .ref bq, .int 16]))] H_33 := hP
  have hD : va_D A [(f, .inr (2, [.null, .ref q_2, .ref q_6, .ref q_10, .ref q_14, .ref q_18, .ref q_22, .ref q_26, .ref q_30, .int 0, .null, .null, .null, .null])), (g, .inr (1, [(zg 0), (zg 1), (zg 2), (zg 3), (zg 4), (zg 5), (zg 6), (zg 7), (zg 8), (zg 9), (zg 10), (zg 11), (zg 12), .ref pq])), (pq, .inr (6, [(zpq 0), (zpq 1), (zpq 2), (zpq 3), .ref bq, .int 16]))] := hD
  refine lv_aload_n hx hb d_F_init_81 rfl (lv_at hl 0 rfl) ?_
  refine lv_bipush (v := 12) hx hb d_F_init_82 (by decide) ?_
  refine va_newa (atype := .int) (ty := .int) (a0 := (12, .inl (fun _ => 0))) (N' := 12) hx hb (hg _ tw_50) rfl hK hP hD hS hA (fun _ => rfl) (by decide) (by decide +kernel) (by decide) (Nat.le_of_ble_eq_true rfl) (Nat.le_of_ble_eq_true rfl) d_F_init_84 (fun q_36 cq_36 H_35 hK hP hD hS => ?_)
  have hP := hP.sub (ws' := [(f, .inr (2, [.null, .ref q_2, .ref q_6, .ref q_10, .ref q_14, .ref q_18, .ref q_22, .ref q_26, .ref q_30, .int 0, .null, .null, .null, .null])), (g, .inr (1, [(zg 0), (zg 1), (zg 2), (zg 3), (zg 4), (zg 5), (zg 6), (zg 7), (zg 8), (zg 9), (zg 10), (zg 11), (zg 12), .ref pq])), (pq, .inr (6, [(zpq 0), (zpq 1), (zpq 2), (zpq 3), .ref bq, .int 16]))]) [0, 1, 2] rfl
  have hD := hD.sub (ws' := [(f, .inr (2, [.null, .ref q_2, .ref q_6, .ref q_10, .ref q_14, .ref q_18, .ref q_22, .ref q_26, .ref q_30, .int 0, .null, .null, .null, .null])), (g, .inr (1, [(zg 0), (zg 1), (zg 2), (zg 3), (zg 4), (zg 5), (zg 6), (zg 7), (zg 8), (zg 9), (zg 10), (zg 11), (zg 12), .ref pq])), (pq, .inr (6, [(zpq 0), (zpq 1), (zpq 2), (zpq 3), .ref bq, .int 16]))]) [0, 1, 2] (by decide) rfl
  have hK := hK.sub (tys' := []) [] rfl
  refine va_putF (D := (dC, dI)) (ci := 2) (v := .ref q_36) (ty := .array .int) (C := kR_F) (T := kT_F) (N := 14) hx hb hg kin_F kt_F kty_F knm_F hown hK hP hD hS 0 rfl rfl 12 (by decide) (hg _ tw_203) (fun _ h9 => h9) rfl hin rfl (by decide +kernel) rfl rfl (Nat.le_of_ble_eq_true rfl) d_F_init_86 (fun H_37 lo_38 hP hD hS => ?_)
  have hP : va_P (dC, dI) kcl [(f, .inr (2, [.null, .ref q_2, .ref q_6, .ref q_10, .ref q_14, .ref q_18, .ref q_22, .ref q_26, .ref q_30, .int 0, .null, .null, .ref q_36, .null])), (g, .inr (1, [(zg 0), (zg 1), (zg 2), (zg 3), (zg 4), (zg 5), (zg 6), (zg 7), (zg 8), (zg 9), (zg 10), (zg 11), (zg 12), .ref pq])), (pq, .inr (6, [(zpq 0), (zpq 1), (zpq 2), (zpq 3), .ref bq, .int 16]))] H_37 := hP
  have hD : va_D A [(f, .inr (2, [.null, .ref q_2, .ref q_6, .ref q_10, .ref q_14, .ref q_18, .ref q_22, .ref q_26, .ref q_30, .int 0, .null, .null, .ref q_36, .null])), (g, .inr (1, [(zg 0), (zg 1), (zg 2), (zg 3), (zg 4), (zg 5), (zg 6), (zg 7), (zg 8), (zg 9), (zg 10), (zg 11), (zg 12), .ref pq])), (pq, .inr (6, [(zpq 0), (zpq 1), (zpq 2), (zpq 3), .ref bq, .int 16]))] := hD
  refine lv_aload_n hx hb d_F_init_89 rfl (lv_at hl 0 rfl) ?_
  refine lv_bipush (v := 13) hx hb d_F_init_90 (by decide) ?_
  refine va_newa (atype := .int) (ty := .int) (a0 := (13, .inl (fun _ => 0))) (N' := 13) hx hb (hg _ tw_50) rfl hK hP hD hS hA (fun _ => rfl) (by decide) (by decide +kernel) (by decide) (Nat.le_of_ble_eq_true rfl) (Nat.le_of_ble_eq_true rfl) d_F_init_92 (fun q_40 cq_40 H_39 hK hP hD hS => ?_)
  have hP := hP.sub (ws' := [(f, .inr (2, [.null, .ref q_2, .ref q_6, .ref q_10, .ref q_14, .ref q_18, .ref q_22, .ref q_26, .ref q_30, .int 0, .null, .null, .ref q_36, .null])), (g, .inr (1, [(zg 0), (zg 1), (zg 2), (zg 3), (zg 4), (zg 5), (zg 6), (zg 7), (zg 8), (zg 9), (zg 10), (zg 11), (zg 12), .ref pq])), (pq, .inr (6, [(zpq 0), (zpq 1), (zpq 2), (zpq 3), .ref bq, .int 16]))]) [0, 1, 2] rfl
  have hD := hD.sub (ws' := [(f, .inr (2, [.null, .ref q_2, .ref q_6, .ref q_10, .ref q_14, .ref q_18, .ref q_22, .ref q_26, .ref q_30, .int 0, .null, .null, .ref q_36, .null])), (g, .inr (1, [(zg 0), (zg 1), (zg 2), (zg 3), (zg 4), (zg 5), (zg 6), (zg 7), (zg 8), (zg 9), (zg 10), (zg 11), (zg 12), .ref pq])), (pq, .inr (6, [(zpq 0), (zpq 1), (zpq 2), (zpq 3), .ref bq, .int 16]))]) [0, 1, 2] (by decide) rfl
  have hK := hK.sub (tys' := []) [] rfl
  refine va_putF (D := (dC, dI)) (ci := 2) (v := .ref q_40) (ty := .array .int) (C := kR_F) (T := kT_F) (N := 14) hx hb hg kin_F kt_F kty_F knm_F hown hK hP hD hS 0 rfl rfl 13 (by decide) (hg _ tw_204) (fun _ h9 => h9) rfl hin rfl (by decide +kernel) rfl rfl (Nat.le_of_ble_eq_true rfl) d_F_init_94 (fun H_41 lo_42 hP hD hS => ?_)
  have hP : va_P (dC, dI) kcl [(f, .inr (2, [.null, .ref q_2, .ref q_6, .ref q_10, .ref q_14, .ref q_18, .ref q_22, .ref q_26, .ref q_30, .int 0, .null, .null, .ref q_36, .ref q_40])), (g, .inr (1, [(zg 0), (zg 1), (zg 2), (zg 3), (zg 4), (zg 5), (zg 6), (zg 7), (zg 8), (zg 9), (zg 10), (zg 11), (zg 12), .ref pq])), (pq, .inr (6, [(zpq 0), (zpq 1), (zpq 2), (zpq 3), .ref bq, .int 16]))] H_41 := hP
  have hD : va_D A [(f, .inr (2, [.null, .ref q_2, .ref q_6, .ref q_10, .ref q_14, .ref q_18, .ref q_22, .ref q_26, .ref q_30, .int 0, .null, .null, .ref q_36, .ref q_40])), (g, .inr (1, [(zg 0), (zg 1), (zg 2), (zg 3), (zg 4), (zg 5), (zg 6), (zg 7), (zg 8), (zg 9), (zg 10), (zg 11), (zg 12), .ref pq])), (pq, .inr (6, [(zpq 0), (zpq 1), (zpq 2), (zpq 3), .ref bq, .int 16]))] := hD
  refine lv_aload_n hx hb d_F_init_97 rfl (lv_at hl 0 rfl) ?_
  refine lv_aload_n hx hb d_F_init_98 rfl (lv_at hl 1 rfl) ?_
  refine va_putF (D := (dC, dI)) (ci := 2) (v := .ref g) (ty := .object "TreeMatcher$Grammar") (C := kR_F) (T := kT_F) (N := 14) hx hb hg kin_F kt_F kty_F knm_F hown hK hP hD hS 0 rfl rfl 0 (by decide) (hg _ tw_191) (fun _ h9 => h9) rfl hin rfl (by decide +kernel) rfl rfl (Nat.le_of_ble_eq_true rfl) d_F_init_99 (fun H_43 lo_44 hP hD hS => ?_)
  have hP : va_P (dC, dI) kcl [(f, .inr (2, [.ref g, .ref q_2, .ref q_6, .ref q_10, .ref q_14, .ref q_18, .ref q_22, .ref q_26, .ref q_30, .int 0, .null, .null, .ref q_36, .ref q_40])), (g, .inr (1, [(zg 0), (zg 1), (zg 2), (zg 3), (zg 4), (zg 5), (zg 6), (zg 7), (zg 8), (zg 9), (zg 10), (zg 11), (zg 12), .ref pq])), (pq, .inr (6, [(zpq 0), (zpq 1), (zpq 2), (zpq 3), .ref bq, .int 16]))] H_43 := hP
  have hD : va_D A [(f, .inr (2, [.ref g, .ref q_2, .ref q_6, .ref q_10, .ref q_14, .ref q_18, .ref q_22, .ref q_26, .ref q_30, .int 0, .null, .null, .ref q_36, .ref q_40])), (g, .inr (1, [(zg 0), (zg 1), (zg 2), (zg 3), (zg 4), (zg 5), (zg 6), (zg 7), (zg 8), (zg 9), (zg 10), (zg 11), (zg 12), .ref pq])), (pq, .inr (6, [(zpq 0), (zpq 1), (zpq 2), (zpq 3), .ref bq, .int 16]))] := hD
  refine lv_aload_n hx hb d_F_init_102 rfl (lv_at hl 0 rfl) ?_
  refine va_new (ci := 8) (fs := [.null, .null, .null]) (C := kR_L) (T := kT_L) (N := 3) hx hb hg kin_L kt_L kty_L hown (hg _ tw_130) (hg _ tw_131) (hg _ tw_7) hK hP hD hS hA rfl kdf_L (Nat.le_of_ble_eq_true rfl) (Nat.le_of_ble_eq_true rfl) d_F_init_103 (fun lq H_45 hP hD hS => ?_)
  have hP : va_P (dC, dI) kcl [(f, .inr (2, [.ref g, .ref q_2, .ref q_6, .ref q_10, .ref q_14, .ref q_18, .ref q_22, .ref q_26, .ref q_30, .int 0, .null, .null, .ref q_36, .ref q_40])), (g, .inr (1, [(zg 0), (zg 1), (zg 2), (zg 3), (zg 4), (zg 5), (zg 6), (zg 7), (zg 8), (zg 9), (zg 10), (zg 11), (zg 12), .ref pq])), (pq, .inr (6, [(zpq 0), (zpq 1), (zpq 2), (zpq 3), .ref bq, .int 16])), (lq, .inr (8, [.null, .null, .null]))] H_45 := hP
  have hD : va_D A [(f, .inr (2, [.ref g, .ref q_2, .ref q_6, .ref q_10, .ref q_14, .ref q_18, .ref q_22, .ref q_26, .ref q_30, .int 0, .null, .null, .ref q_36, .ref q_40])), (g, .inr (1, [(zg 0), (zg 1), (zg 2), (zg 3), (zg 4), (zg 5), (zg 6), (zg 7), (zg 8), (zg 9), (zg 10), (zg 11), (zg 12), .ref pq])), (pq, .inr (6, [(zpq 0), (zpq 1), (zpq 2), (zpq 3), .ref bq, .int 16])), (lq, .inr (8, [.null, .null, .null]))] := hD
  refine lv_dup hx hb d_F_init_106 rfl ?_
  refine lv_aload_n hx hb d_F_init_107 rfl (lv_at hl 1 rfl) ?_
  have hPc := hP.sub (ws' := [(lq, .inr (8, [.null, .null, .null]))]) [3] rfl
  have hKc := hK.sub (tys' := []) [] rfl
  have hDc := hD.sub (ws' := [(lq, .inr (8, [.null, .null, .null]))]) [3] (by decide) rfl
  have hFc := va_free (wc := [(lq, .inr (8, [.null, .null, .null]))]) hD hS hA [3] rfl
  refine va_callv (va_runI (As := [.ref g]) (rest := [.ref lq, .ref f]) ⟨hx, hb, hml, hown, hg⟩ (c_L_init l dC dI H_45.size lq g) (cwI 1 hg (gw_gi cin_L_init) rfl rfl rfl (hg _ tw_7) (hg _ tw_132) (hg _ tw_133) rfl (by decide +kernel) ⟨Nat.le_of_ble_eq_true rfl, Nat.le_of_ble_eq_true rfl⟩) ⟨fun a U g mk q => by obtain ⟨q0, q1, qP, qK, qD⟩ := q; exact ⟨q0, q1, qP, va_K.moved (u := U) (U := U.calling g mk a) (Vm.Alike.refl U.vm) qK, qD⟩, fun U hU hW => ⟨rfl, by rw [hU], by rw [hU]; exact hPc, va_K.moved hW.alike hKc, hDc.weaken (fun _ _ _ _ => trivial)⟩⟩ rfl rfl hl.1 rfl (lv_room (Nat.le_of_ble_eq_true rfl)) d_F_init_108 ⟨Nat.le_of_ble_eq_true rfl, Nat.le_of_ble_eq_true rfl⟩) hS (fun q _ h => hFc q h) hFc (fun u_k_46 t_k_46 H_47 l_k_46 ht hvm hw_k_46 hB hz1 hk1 hS => ?_)
  obtain ⟨hP, hD⟩ := tx_rest (wc := [(lq, .inr (8, [.null, .null, .null]))]) (wr := [(f, .inr (2, [.ref g, .ref q_2, .ref q_6, .ref q_10, .ref q_14, .ref q_18, .ref q_22, .ref q_26, .ref q_30, .int 0, .null, .null, .ref q_36, .ref q_40])), (g, .inr (1, [(zg 0), (zg 1), (zg 2), (zg 3), (zg 4), (zg 5), (zg 6), (zg 7), (zg 8), (zg 9), (zg 10), (zg 11), (zg 12), .ref pq])), (pq, .inr (6, [(zpq 0), (zpq 1), (zpq 2), (zpq 3), .ref bq, .int 16]))]) hP hD [3] [0, 1, 2] rfl rfl (by decide) (by decide) hk1 hFc
  have hK := hK.sub (tys' := []) [] rfl
  refine va_putF (D := (dC, dI)) (ci := 2) (v := .ref lq) (ty := .object "TreeMatcher$Labels") (C := kR_F) (T := kT_F) (N := 14) hx hb hg kin_F kt_F kty_F knm_F hown hK hP hD hS 0 rfl rfl 10 (by decide) (hg _ tw_201) (fun _ h9 => h9) rfl hin rfl (by decide +kernel) rfl rfl (Nat.le_of_ble_eq_true rfl) d_F_init_111 (fun H_48 lo_49 hP hD hS => ?_)
  have hP : va_P (dC, dI) kcl [(f, .inr (2, [.ref g, .ref q_2, .ref q_6, .ref q_10, .ref q_14, .ref q_18, .ref q_22, .ref q_26, .ref q_30, .int 0, .ref lq, .null, .ref q_36, .ref q_40])), (g, .inr (1, [(zg 0), (zg 1), (zg 2), (zg 3), (zg 4), (zg 5), (zg 6), (zg 7), (zg 8), (zg 9), (zg 10), (zg 11), (zg 12), .ref pq])), (pq, .inr (6, [(zpq 0), (zpq 1), (zpq 2), (zpq 3), .ref bq, .int 16]))] H_48 := hP
  have hD : va_D A [(f, .inr (2, [.ref g, .ref q_2, .ref q_6, .ref q_10, .ref q_14, .ref q_18, .ref q_22, .ref q_26, .ref q_30, .int 0, .ref lq, .null, .ref q_36, .ref q_40])), (g, .inr (1, [(zg 0), (zg 1), (zg 2), (zg 3), (zg 4), (zg 5), (zg 6), (zg 7), (zg 8), (zg 9), (zg 10), (zg 11), (zg 12), .ref pq])), (pq, .inr (6, [(zpq 0), (zpq 1), (zpq 2), (zpq 3), .ref bq, .int 16]))] := hD
  refine lv_aload_n hx hb d_F_init_114 rfl (lv_at hl 0 rfl) ?_
  refine va_new (ci := 5) (fs := [.null, .null, .null, .null, .null, .null, .null, .int 0]) (C := kR_V) (T := kT_V) (N := 8) hx hb hg kin_V kt_V kty_V hown (hg _ tw_148) (hg _ tw_149) (hg _ tw_8) hK hP hD hS hA rfl kdf_V (Nat.le_of_ble_eq_true rfl) (Nat.le_of_ble_eq_true rfl) d_F_init_115 (fun v H_50 hP hD hS => ?_)
  have hP : va_P (dC, dI) kcl [(f, .inr (2, [.ref g, .ref q_2, .ref q_6, .ref q_10, .ref q_14, .ref q_18, .ref q_22, .ref q_26, .ref q_30, .int 0, .ref lq, .null, .ref q_36, .ref q_40])), (g, .inr (1, [(zg 0), (zg 1), (zg 2), (zg 3), (zg 4), (zg 5), (zg 6), (zg 7), (zg 8), (zg 9), (zg 10), (zg 11), (zg 12), .ref pq])), (pq, .inr (6, [(zpq 0), (zpq 1), (zpq 2), (zpq 3), .ref bq, .int 16])), (v, .inr (5, [.null, .null, .null, .null, .null, .null, .null, .int 0]))] H_50 := hP
  have hD : va_D A [(f, .inr (2, [.ref g, .ref q_2, .ref q_6, .ref q_10, .ref q_14, .ref q_18, .ref q_22, .ref q_26, .ref q_30, .int 0, .ref lq, .null, .ref q_36, .ref q_40])), (g, .inr (1, [(zg 0), (zg 1), (zg 2), (zg 3), (zg 4), (zg 5), (zg 6), (zg 7), (zg 8), (zg 9), (zg 10), (zg 11), (zg 12), .ref pq])), (pq, .inr (6, [(zpq 0), (zpq 1), (zpq 2), (zpq 3), .ref bq, .int 16])), (v, .inr (5, [.null, .null, .null, .null, .null, .null, .null, .int 0]))] := hD
  refine lv_dup hx hb d_F_init_118 rfl ?_
  refine lv_aload_n hx hb d_F_init_119 rfl (lv_at hl 1 rfl) ?_
  refine lv_sipush (v := 200) hx hb d_F_init_120 (by decide) ?_
  have hPc := hP.sub (ws' := [(v, .inr (5, [.null, .null, .null, .null, .null, .null, .null, .int 0])), (g, .inr (1, [(zg 0), (zg 1), (zg 2), (zg 3), (zg 4), (zg 5), (zg 6), (zg 7), (zg 8), (zg 9), (zg 10), (zg 11), (zg 12), .ref pq])), (pq, .inr (6, [(zpq 0), (zpq 1), (zpq 2), (zpq 3), .ref bq, .int 16]))]) [3, 1, 2] rfl
  have hKc := hK.sub (tys' := []) [] rfl
  have hDc := hD.sub (ws' := [(v, .inr (5, [.null, .null, .null, .null, .null, .null, .null, .int 0])), (g, .inr (1, [(zg 0), (zg 1), (zg 2), (zg 3), (zg 4), (zg 5), (zg 6), (zg 7), (zg 8), (zg 9), (zg 10), (zg 11), (zg 12), .ref pq])), (pq, .inr (6, [(zpq 0), (zpq 1), (zpq 2), (zpq 3), .ref bq, .int 16]))]) [3, 1, 2] (by decide) rfl
  have hFc := va_free (wc := [(v, .inr (5, [.null, .null, .null, .null, .null, .null, .null, .int 0])), (g, .inr (1, [(zg 0), (zg 1), (zg 2), (zg 3), (zg 4), (zg 5), (zg 6), (zg 7), (zg 8), (zg 9), (zg 10), (zg 11), (zg 12), .ref pq])), (pq, .inr (6, [(zpq 0), (zpq 1), (zpq 2), (zpq 3), .ref bq, .int 16]))]) hD hS hA [3, 1, 2] rfl
  refine va_callv (va_runI (As := [.ref g, .int 200]) (rest := [.ref v, .ref f]) ⟨hx, hb, hml, hown, hg⟩ (c_V_init_200 l dC dI H_50.size v g pq bq zg zpq) (cwI 2 hg (gw_gi cin_V_init) rfl rfl rfl (hg _ tw_8) (hg _ tw_150) (hg _ tw_151) rfl (by decide +kernel) ⟨Nat.le_of_ble_eq_true rfl, Nat.le_of_ble_eq_true rfl⟩) ⟨fun a U g mk q => by obtain ⟨q0, q1, qP, qK, qD, qG⟩ := q; exact ⟨q0, q1, qP, va_K.moved (u := U) (U := U.calling g mk a) (Vm.Alike.refl U.vm) qK, qD, tx_C.same (U := U.calling g mk a) rfl qG⟩, fun U hU hW => ⟨rfl, by rw [hU], by rw [hU]; exact hPc, va_K.moved hW.alike hKc, hDc.weaken (fun _ _ _ _ => trivial), hG.warm hW⟩⟩ rfl rfl hl.1 rfl (lv_room (Nat.le_of_ble_eq_true rfl)) d_F_init_123 ⟨Nat.le_of_ble_eq_true rfl, Nat.le_of_ble_eq_true rfl⟩) hS (fun q _ h => hFc q h) hFc (fun u_k_51 t_k_51 H_52 l_k_51 ht hvm hw_k_51 hB hz1 hk1 hS => ?_)
  obtain ⟨zv, hP1, hK1, hD1⟩ := hB
  rw [ht] at hP1
  have hK1 := va_K.moved hvm.symm hK1
  obtain ⟨hP, hD⟩ := va_join (wr := [(f, .inr (2, [.ref g, .ref q_2, .ref q_6, .ref q_10, .ref q_14, .ref q_18, .ref q_22, .ref q_26, .ref q_30, .int 0, .ref lq, .null, .ref q_36, .ref q_40]))]) (w1 := [(v, .inr (5, [(zv 0), (zv 1), (zv 2), (zv 3), (zv 4), (zv 5), (zv 6), .int 0])), (g, .inr (1, [(zg 0), (zg 1), (zg 2), (zg 3), (zg 4), (zg 5), (zg 6), (zg 7), (zg 8), (zg 9), (zg 10), (zg 11), (zg 12), .ref pq])), (pq, .inr (6, [(zpq 0), (zpq 1), (zpq 2), (zpq 3), .ref bq, .int 16]))]) hP hD [3, 1, 2] [0] rfl rfl (by decide) (by decide) hk1 hFc hP1 hD1
  have hK := (hK.sub (tys' := []) [] rfl).app hK1
  have hP : va_P (dC, dI) kcl [(f, .inr (2, [.ref g, .ref q_2, .ref q_6, .ref q_10, .ref q_14, .ref q_18, .ref q_22, .ref q_26, .ref q_30, .int 0, .ref lq, .null, .ref q_36, .ref q_40])), (v, .inr (5, [(zv 0), (zv 1), (zv 2), (zv 3), (zv 4), (zv 5), (zv 6), .int 0])), (g, .inr (1, [(zg 0), (zg 1), (zg 2), (zg 3), (zg 4), (zg 5), (zg 6), (zg 7), (zg 8), (zg 9), (zg 10), (zg 11), (zg 12), .ref pq])), (pq, .inr (6, [(zpq 0), (zpq 1), (zpq 2), (zpq 3), .ref bq, .int 16]))] H_52 := hP
  have hD : va_D A [(f, .inr (2, [.ref g, .ref q_2, .ref q_6, .ref q_10, .ref q_14, .ref q_18, .ref q_22, .ref q_26, .ref q_30, .int 0, .ref lq, .null, .ref q_36, .ref q_40])), (v, .inr (5, [(zv 0), (zv 1), (zv 2), (zv 3), (zv 4), (zv 5), (zv 6), .int 0])), (g, .inr (1, [(zg 0), (zg 1), (zg 2), (zg 3), (zg 4), (zg 5), (zg 6), (zg 7), (zg 8), (zg 9), (zg 10), (zg 11), (zg 12), .ref pq])), (pq, .inr (6, [(zpq 0), (zpq 1), (zpq 2), (zpq 3), .ref bq, .int 16]))] := hD
  have hK : va_K (dC, dI) kcl [] s := hK
  refine va_putF (D := (dC, dI)) (ci := 2) (v := .ref v) (ty := .object "TreeMatcher$Vectors") (C := kR_F) (T := kT_F) (N := 14) hx hb hg kin_F kt_F kty_F knm_F hown hK hP hD hS 0 rfl rfl 11 (by decide) (hg _ tw_202) (fun _ h9 => h9) rfl hin rfl (by decide +kernel) rfl rfl (Nat.le_of_ble_eq_true rfl) d_F_init_126 (fun H_53 lo_54 hP hD hS => ?_)
  have hP : va_P (dC, dI) kcl [(f, .inr (2, [.ref g, .ref q_2, .ref q_6, .ref q_10, .ref q_14, .ref q_18, .ref q_22, .ref q_26, .ref q_30, .int 0, .ref lq, .ref v, .ref q_36, .ref q_40])), (v, .inr (5, [(zv 0), (zv 1), (zv 2), (zv 3), (zv 4), (zv 5), (zv 6), .int 0])), (g, .inr (1, [(zg 0), (zg 1), (zg 2), (zg 3), (zg 4), (zg 5), (zg 6), (zg 7), (zg 8), (zg 9), (zg 10), (zg 11), (zg 12), .ref pq])), (pq, .inr (6, [(zpq 0), (zpq 1), (zpq 2), (zpq 3), .ref bq, .int 16]))] H_53 := hP
  have hD : va_D A [(f, .inr (2, [.ref g, .ref q_2, .ref q_6, .ref q_10, .ref q_14, .ref q_18, .ref q_22, .ref q_26, .ref q_30, .int 0, .ref lq, .ref v, .ref q_36, .ref q_40])), (v, .inr (5, [(zv 0), (zv 1), (zv 2), (zv 3), (zv 4), (zv 5), (zv 6), .int 0])), (g, .inr (1, [(zg 0), (zg 1), (zg 2), (zg 3), (zg 4), (zg 5), (zg 6), (zg 7), (zg 8), (zg 9), (zg 10), (zg 11), (zg 12), .ref pq])), (pq, .inr (6, [(zpq 0), (zpq 1), (zpq 2), (zpq 3), .ref bq, .int 16]))] := hD
  have hP9 := hP.sub (ws' := [(f, .inr (2, [.ref g, .ref q_2, .ref q_6, .ref q_10, .ref q_14, .ref q_18, .ref q_22, .ref q_26, .ref q_30, .int 0, .ref lq, .ref v, .ref q_36, .ref q_40])), (v, .inr (5, [(zv 0), (zv 1), (zv 2), (zv 3), (zv 4), (zv 5), (zv 6), .int 0])), (g, .inr (1, [(zg 0), (zg 1), (zg 2), (zg 3), (zg 4), (zg 5), (zg 6), (zg 7), (zg 8), (zg 9), (zg 10), (zg 11), (zg 12), .ref pq])), (pq, .inr (6, [(zpq 0), (zpq 1), (zpq 2), (zpq 3), .ref bq, .int 16]))]) [0, 1, 2, 3] rfl
  have hD9 := hD.sub (ws' := [(f, .inr (2, [.ref g, .ref q_2, .ref q_6, .ref q_10, .ref q_14, .ref q_18, .ref q_22, .ref q_26, .ref q_30, .int 0, .ref lq, .ref v, .ref q_36, .ref q_40])), (v, .inr (5, [(zv 0), (zv 1), (zv 2), (zv 3), (zv 4), (zv 5), (zv 6), .int 0])), (g, .inr (1, [(zg 0), (zg 1), (zg 2), (zg 3), (zg 4), (zg 5), (zg 6), (zg 7), (zg 8), (zg 9), (zg 10), (zg 11), (zg 12), .ref pq])), (pq, .inr (6, [(zpq 0), (zpq 1), (zpq 2), (zpq 3), .ref bq, .int 16]))]) [0, 1, 2, 3] (by decide) rfl
  have hK9 := hK.sub (tys' := []) [] rfl
  exact W.vret hx hb hr (fun t ht hW => ⟨⟨(), rfl, trivial, ⟨v, (fun i => List.getD [Value.ref g, Value.ref q_2, Value.ref q_6, Value.ref q_10, Value.ref q_14, Value.ref q_18, Value.ref q_22, Value.ref q_26, Value.ref q_30, Value.int (0 : Int32), Value.ref lq, Value.ref v, Value.ref q_36, Value.ref q_40] i Value.null), zv, by rw [ht]; exact hP9, va_K.moved hW.alike hK9, hD9⟩⟩, hS.F ht⟩) hS.2.2 d_F_init_129
end
section
set_option maxRecDepth 100000 in
theorem tw_5 : (Jvm.Cond.initialized "java/util/Arrays") ∈ gw := gw_of (List.mem_of_getElem? (i := 5) rfl) rfl
set_option maxRecDepth 100000 in
theorem tw_32 : (Jvm.Cond.code ({ cls := "TreeMatcher$Grammar", name := "<init>", desc := "()V" } : Jvm.MethodName) prog_4_method_1_code (1 : Nat) (Option.none : Option Jvm.ClassFile.FieldType)) ∈ gw := gw_of (List.mem_of_getElem? (i := 32) rfl) rfl
set_option maxRecDepth 100000 in
theorem tw_33 : (Jvm.Cond.methodLink "TreeMatcher$Grammar" (3 : Nat) ({ cls := "java/lang/Object", name := "<init>", desc := "()V" } : Jvm.MethodName)) ∈ gw := gw_of (List.mem_of_getElem? (i := 33) rfl) rfl
set_option maxRecDepth 100000 in
theorem tw_34 : (Jvm.Cond.classLink "TreeMatcher$Grammar" (43 : Nat) "TreeMatcher$Groups") ∈ gw := gw_of (List.mem_of_getElem? (i := 34) rfl) rfl
set_option maxRecDepth 100000 in
theorem tw_36 : (Jvm.Cond.methodLink "TreeMatcher$Grammar" (45 : Nat) ({ cls := "TreeMatcher$Groups", name := "<init>", desc := "(II)V" } : Jvm.MethodName)) ∈ gw := gw_of (List.mem_of_getElem? (i := 36) rfl) rfl
set_option maxRecDepth 100000 in
theorem tw_51 : (Jvm.Cond.classLink "TreeMatcher$Grammar" (59 : Nat) "TreeMatcher$Parts") ∈ gw := gw_of (List.mem_of_getElem? (i := 51) rfl) rfl
set_option maxRecDepth 100000 in
theorem tw_52 : (Jvm.Cond.instantiable "TreeMatcher$Parts" (6 : Nat)) ∈ gw := gw_of (List.mem_of_getElem? (i := 52) rfl) rfl
set_option maxRecDepth 100000 in
theorem tw_54 : (Jvm.Cond.instanceMethod ({ cls := "TreeMatcher$Parts", name := "<init>", desc := "()V" } : Jvm.MethodName)) ∈ gw := gw_of (List.mem_of_getElem? (i := 54) rfl) rfl
set_option maxRecDepth 100000 in
theorem tw_78 : (Jvm.Cond.methodLink "TreeMatcher$Grammar" (66 : Nat) ({ cls := "java/util/Arrays", name := "fill", desc := "([II)V" } : Jvm.MethodName)) ∈ gw := gw_of (List.mem_of_getElem? (i := 78) rfl) rfl
set_option maxRecDepth 100000 in
theorem tw_79 : (Jvm.Cond.static ({ cls := "java/util/Arrays", name := "fill", desc := "([II)V" } : Jvm.MethodName)) ∈ gw := gw_of (List.mem_of_getElem? (i := 79) rfl) rfl
set_option maxRecDepth 100000 in
theorem tw_80 : (Jvm.Cond.code ({ cls := "java/util/Arrays", name := "fill", desc := "([II)V" } : Jvm.MethodName) prog_21_method_103_code (4 : Nat) (Option.none : Option Jvm.ClassFile.FieldType)) ∈ gw := gw_of (List.mem_of_getElem? (i := 80) rfl) rfl
set_option maxRecDepth 100000 in
theorem tw_85 : (Jvm.Cond.fieldLink "TreeMatcher$Grammar" (25 : Nat) "TreeMatcher$Grammar" "elements" "[I") ∈ gw := gw_of (List.mem_of_getElem? (i := 85) rfl) rfl
set_option maxRecDepth 100000 in
theorem tw_86 : (Jvm.Cond.fieldLink "TreeMatcher$Grammar" (28 : Nat) "TreeMatcher$Grammar" "lengths" "[I") ∈ gw := gw_of (List.mem_of_getElem? (i := 86) rfl) rfl
set_option maxRecDepth 100000 in
theorem tw_87 : (Jvm.Cond.fieldLink "TreeMatcher$Grammar" (31 : Nat) "TreeMatcher$Grammar" "gives" "[I") ∈ gw := gw_of (List.mem_of_getElem? (i := 87) rfl) rfl
set_option maxRecDepth 100000 in
theorem tw_88 : (Jvm.Cond.fieldLink "TreeMatcher$Grammar" (34 : Nat) "TreeMatcher$Grammar" "costs" "[I") ∈ gw := gw_of (List.mem_of_getElem? (i := 88) rfl) rfl
set_option maxRecDepth 100000 in
theorem tw_89 : (Jvm.Cond.fieldLink "TreeMatcher$Grammar" (37 : Nat) "TreeMatcher$Grammar" "lows" "[I") ∈ gw := gw_of (List.mem_of_getElem? (i := 89) rfl) rfl
set_option maxRecDepth 100000 in
theorem tw_90 : (Jvm.Cond.fieldLink "TreeMatcher$Grammar" (40 : Nat) "TreeMatcher$Grammar" "highs" "[I") ∈ gw := gw_of (List.mem_of_getElem? (i := 90) rfl) rfl
set_option maxRecDepth 100000 in
theorem tw_91 : (Jvm.Cond.fieldLink "TreeMatcher$Grammar" (48 : Nat) "TreeMatcher$Grammar" "rulesByChain" "LTreeMatcher$Groups;") ∈ gw := gw_of (List.mem_of_getElem? (i := 91) rfl) rfl
abbrev b_G_init : ByteArray := prog_4_method_1_code
def y_G_init : MethodName := ⟨"TreeMatcher$Grammar", "<init>", "()V"⟩
def ws_G_init : List Cond := Cond.code y_G_init b_G_init 1 (Option.none : Option Jvm.ClassFile.FieldType) :: gw
theorem cin_G_init : Cond.code y_G_init b_G_init 1 (Option.none : Option Jvm.ClassFile.FieldType) ∈ gw := tw_32
abbrev b_J_fill_0 : ByteArray := prog_21_method_103_code
def y_J_fill_0 : MethodName := ⟨"java/util/Arrays", "fill", "([II)V"⟩
def ws_J_fill_0 : List Cond := Cond.code y_J_fill_0 b_J_fill_0 4 (Option.none : Option Jvm.ClassFile.FieldType) :: gw
theorem cin_J_fill_0 : Cond.code y_J_fill_0 b_J_fill_0 4 (Option.none : Option Jvm.ClassFile.FieldType) ∈ gw := tw_80
theorem d_G_init_0 : decode b_G_init 0 = .ok (.aload_n 0, 1) := by decide +kernel
theorem d_G_init_1 : decode b_G_init 1 = .ok (.invokespecial 3, 3) := by decide +kernel
theorem d_G_init_4 : decode b_G_init 4 = .ok (.aload_n 0, 1) := by decide +kernel
theorem d_G_init_5 : decode b_G_init 5 = .ok (.bipush 32, 2) := by decide +kernel
theorem d_G_init_7 : decode b_G_init 7 = .ok (.newarray .int, 2) := by decide +kernel
theorem d_G_init_9 : decode b_G_init 9 = .ok (.putfield 9, 3) := by decide +kernel
theorem d_G_init_12 : decode b_G_init 12 = .ok (.aload_n 0, 1) := by decide +kernel
theorem d_G_init_13 : decode b_G_init 13 = .ok (.iconst 0, 1) := by decide +kernel
theorem d_G_init_14 : decode b_G_init 14 = .ok (.putfield 15, 3) := by decide +kernel
theorem d_G_init_17 : decode b_G_init 17 = .ok (.aload_n 0, 1) := by decide +kernel
theorem d_G_init_18 : decode b_G_init 18 = .ok (.bipush 12, 2) := by decide +kernel
theorem d_G_init_20 : decode b_G_init 20 = .ok (.newarray .int, 2) := by decide +kernel
theorem d_G_init_22 : decode b_G_init 22 = .ok (.putfield 19, 3) := by decide +kernel
theorem d_G_init_25 : decode b_G_init 25 = .ok (.aload_n 0, 1) := by decide +kernel
theorem d_G_init_26 : decode b_G_init 26 = .ok (.iconst 0, 1) := by decide +kernel
theorem d_G_init_27 : decode b_G_init 27 = .ok (.putfield 22, 3) := by decide +kernel
theorem d_G_init_30 : decode b_G_init 30 = .ok (.aload_n 0, 1) := by decide +kernel
theorem d_G_init_31 : decode b_G_init 31 = .ok (.sipush 768, 3) := by decide +kernel
theorem d_G_init_34 : decode b_G_init 34 = .ok (.newarray .int, 2) := by decide +kernel
theorem d_G_init_36 : decode b_G_init 36 = .ok (.putfield 25, 3) := by decide +kernel
theorem d_G_init_39 : decode b_G_init 39 = .ok (.aload_n 0, 1) := by decide +kernel
theorem d_G_init_40 : decode b_G_init 40 = .ok (.bipush 64, 2) := by decide +kernel
theorem d_G_init_42 : decode b_G_init 42 = .ok (.newarray .int, 2) := by decide +kernel
theorem d_G_init_44 : decode b_G_init 44 = .ok (.putfield 28, 3) := by decide +kernel
theorem d_G_init_47 : decode b_G_init 47 = .ok (.aload_n 0, 1) := by decide +kernel
theorem d_G_init_48 : decode b_G_init 48 = .ok (.bipush 64, 2) := by decide +kernel
theorem d_G_init_50 : decode b_G_init 50 = .ok (.newarray .int, 2) := by decide +kernel
theorem d_G_init_52 : decode b_G_init 52 = .ok (.putfield 31, 3) := by decide +kernel
theorem d_G_init_55 : decode b_G_init 55 = .ok (.aload_n 0, 1) := by decide +kernel
theorem d_G_init_56 : decode b_G_init 56 = .ok (.bipush 64, 2) := by decide +kernel
theorem d_G_init_58 : decode b_G_init 58 = .ok (.newarray .int, 2) := by decide +kernel
theorem d_G_init_60 : decode b_G_init 60 = .ok (.putfield 34, 3) := by decide +kernel
theorem d_G_init_63 : decode b_G_init 63 = .ok (.aload_n 0, 1) := by decide +kernel
theorem d_G_init_64 : decode b_G_init 64 = .ok (.bipush 64, 2) := by decide +kernel
theorem d_G_init_66 : decode b_G_init 66 = .ok (.newarray .int, 2) := by decide +kernel
theorem d_G_init_68 : decode b_G_init 68 = .ok (.putfield 37, 3) := by decide +kernel
theorem d_G_init_71 : decode b_G_init 71 = .ok (.aload_n 0, 1) := by decide +kernel
theorem d_G_init_72 : decode b_G_init 72 = .ok (.bipush 64, 2) := by decide +kernel
theorem d_G_init_74 : decode b_G_init 74 = .ok (.newarray .int, 2) := by decide +kernel
theorem d_G_init_76 : decode b_G_init 76 = .ok (.putfield 40, 3) := by decide +kernel
theorem d_G_init_79 : decode b_G_init 79 = .ok (.aload_n 0, 1) := by decide +kernel
theorem d_G_init_80 : decode b_G_init 80 = .ok (.new 43, 3) := by decide +kernel
theorem d_G_init_83 : decode b_G_init 83 = .ok (.dup, 1) := by decide +kernel
theorem d_G_init_84 : decode b_G_init 84 = .ok (.bipush 17, 2) := by decide +kernel
theorem d_G_init_86 : decode b_G_init 86 = .ok (.bipush 64, 2) := by decide +kernel
theorem d_G_init_88 : decode b_G_init 88 = .ok (.invokespecial 45, 3) := by decide +kernel
theorem d_G_init_91 : decode b_G_init 91 = .ok (.putfield 48, 3) := by decide +kernel
theorem d_G_init_94 : decode b_G_init 94 = .ok (.aload_n 0, 1) := by decide +kernel
theorem d_G_init_95 : decode b_G_init 95 = .ok (.iconst 0, 1) := by decide +kernel
theorem d_G_init_96 : decode b_G_init 96 = .ok (.putfield 52, 3) := by decide +kernel
theorem d_G_init_99 : decode b_G_init 99 = .ok (.aload_n 0, 1) := by decide +kernel
theorem d_G_init_100 : decode b_G_init 100 = .ok (.iconst 0, 1) := by decide +kernel
theorem d_G_init_101 : decode b_G_init 101 = .ok (.putfield 55, 3) := by decide +kernel
theorem d_G_init_104 : decode b_G_init 104 = .ok (.aload_n 0, 1) := by decide +kernel
theorem d_G_init_105 : decode b_G_init 105 = .ok (.new 59, 3) := by decide +kernel
theorem d_G_init_108 : decode b_G_init 108 = .ok (.dup, 1) := by decide +kernel
theorem d_G_init_109 : decode b_G_init 109 = .ok (.invokespecial 61, 3) := by decide +kernel
theorem d_G_init_112 : decode b_G_init 112 = .ok (.putfield 62, 3) := by decide +kernel
theorem d_G_init_115 : decode b_G_init 115 = .ok (.aload_n 0, 1) := by decide +kernel
theorem d_G_init_116 : decode b_G_init 116 = .ok (.getfield 9, 3) := by decide +kernel
theorem d_G_init_119 : decode b_G_init 119 = .ok (.iconst (-1), 1) := by decide +kernel
theorem d_G_init_120 : decode b_G_init 120 = .ok (.invokestatic 66, 3) := by decide +kernel
theorem d_G_init_123 : decode b_G_init 123 = .ok (.return_, 1) := by decide +kernel
theorem d_J_fill_0_0 : decode b_J_fill_0 0 = .ok (.iconst 0, 1) := by decide +kernel
theorem d_J_fill_0_1 : decode b_J_fill_0 1 = .ok (.istore_n 2, 1) := by decide +kernel
theorem d_J_fill_0_2 : decode b_J_fill_0 2 = .ok (.aload_n 0, 1) := by decide +kernel
theorem d_J_fill_0_3 : decode b_J_fill_0 3 = .ok (.arraylength, 1) := by decide +kernel
theorem d_J_fill_0_4 : decode b_J_fill_0 4 = .ok (.istore_n 3, 1) := by decide +kernel
theorem d_J_fill_0_5 : decode b_J_fill_0 5 = .ok (.iload_n 2, 1) := by decide +kernel
theorem d_J_fill_0_6 : decode b_J_fill_0 6 = .ok (.iload_n 3, 1) := by decide +kernel
theorem d_J_fill_0_7 : decode b_J_fill_0 7 = .ok (.if_icmp .ge 13, 3) := by decide +kernel
theorem d_J_fill_0_10 : decode b_J_fill_0 10 = .ok (.aload_n 0, 1) := by decide +kernel
theorem d_J_fill_0_11 : decode b_J_fill_0 11 = .ok (.iload_n 2, 1) := by decide +kernel
theorem d_J_fill_0_12 : decode b_J_fill_0 12 = .ok (.iload_n 1, 1) := by decide +kernel
theorem d_J_fill_0_13 : decode b_J_fill_0 13 = .ok (.iastore, 1) := by decide +kernel
theorem d_J_fill_0_14 : decode b_J_fill_0 14 = .ok (.iinc 2 1, 3) := by decide +kernel
theorem d_J_fill_0_17 : decode b_J_fill_0 17 = .ok (.goto (-12), 3) := by decide +kernel
theorem d_J_fill_0_20 : decode b_J_fill_0 20 = .ok (.return_, 1) := by decide +kernel
theorem tx_fill {g : Nat → Int32} {v : Int32} {i : Nat} (h : ∀ j, j < i → g j = v) (hi : i < 2 ^ 31) : ∀ j, j < i + 1 → upd g (nI i).toNatClampNeg v j = v := by
  intro j hj
  rw [nI_clamp hi]
  by_cases e : j = i
  · subst e
    exact pk_us
  · rw [pk_un e]
    exact h j (by omega)
set_option maxHeartbeats 4000000 in
set_option maxRecDepth 100000 in
theorem c_J_fill32 (l : Launch) (dC : Nat → ClassId) (dI : Nat → Nat → Nat) (sz : Nat) (a : Nat) (cA : ClassId) (f : Nat → Int32) (v : Int32) : Met l y_J_fill_0 ws_J_fill_0 ({ frames := 0, cells := 0, slots := 0, locals := 0 }) (va_Pc [.ref a, .int v] (fun U => U.heap.size = sz ∧ va_P (dC, dI) kcl [(a, .inl (cA, 32, .inl f))] U.heap ∧ va_K (dC, dI) kcl [(cA, .int)] U ∧ va_D (fun _ => True) [(a, .inl (cA, 32, .inl f))])) (va_Qv (fun (_ : Unit) => True) (fun (_ : Unit) (t : State) => ∃ f2 : Nat → Int32, (∀ j, j < 32 → f2 j = v) ∧ va_P (dC, dI) kcl [(a, .inl (cA, 32, .inl f2))] t.heap ∧ va_K (dC, dI) kcl [(cA, .int)] t ∧ va_D (va_A [(a, .inl (cA, 32, .inl f))] sz) [(a, .inl (cA, 32, .inl f2))]) (va_A [(a, .inl (cA, 32, .inl f))] sz)) 0 0 (va_A [(a, .inl (cA, 32, .inl f))] sz) := by
  refine Met.ofW (cc := b_J_fill_0) (maxL := 4) (ret := (Option.none : Option Jvm.ClassFile.FieldType)) (by decide) rfl ?_
  intro p e s m args below meth c s₁ B hml hv
  obtain ⟨rfl, hsz, hP, hK, hD0⟩ := hv
  have hx := B.exec
  have hb := B.bytes
  have hr := B.returns
  have hlocks := B.notSynchronized
  have hg : ∀ w ∈ gw, w.before _ s = true := fun w h => atoms_spec (ws := ws_J_fill_0) B.pre w (List.mem_cons_of_mem _ h)
  have hown : s.vm.findClass "java/util/Arrays" = some m.cls := findClass_of_methodNamed B.named
  subst hsz
  have hD := hD0.self (sz := s.heap.size)
  have hA : ∀ q : Nat, s.heap.size ≤ q → va_A [(a, .inl (cA, 32, .inl f))] s.heap.size q := fun q h => Or.inr h
  generalize hAe : va_A [(a, .inl (cA, 32, .inl f))] s.heap.size = A at hD hA ⊢
  have hS : va_S A s.heap s.heap [] := va_S.rf
  have hl := lv_entry ([.ref a, .int v] : List Value) (n := 4) (Nat.le_of_ble_eq_true rfl)
  rw [lg_entry_eq]
  generalize (lg_sl ([.ref a, .int v] : List Value) ++ List.replicate (4 - (lg_sl ([.ref a, .int v] : List Value)).length) Slot.unset).toArray = ls at hl ⊢
  have hl : lv_has ls 4 [(0, .ref a), (1, .int v)] := hl
  refine lv_iconst (v := 0) hx hb d_J_fill_0_0 (by decide) ?_
  refine lv_istore_n (lv' := [(2, .int 0), (0, .ref a), (1, .int v)]) hx hb d_J_fill_0_1 rfl hl (by decide) rfl (fun ls hl => ?_)
  refine lv_aload_n hx hb d_J_fill_0_2 rfl (lv_at hl 1 rfl) ?_
  refine va_alen (v := 32) hx hb hK hP 0 0 rfl rfl rfl d_J_fill_0_3 ?_
  refine lv_istore_n (lv' := [(3, .int 32), (2, .int 0), (0, .ref a), (1, .int v)]) hx hb d_J_fill_0_4 rfl hl (by decide) rfl (fun ls hl => ?_)
  refine tx_loop (fun i H locs ls => ∃ g : Nat → Int32, (∀ j, j < i → g j = v) ∧ va_P (dC, dI) kcl [(a, .inl (cA, 32, .inl g))] H ∧ va_D A [(a, .inl (cA, 32, .inl g))] ∧ va_S A s.heap H locs ∧ lv_has ls 4 [(2, .int (nI i)), (3, .int 32), (0, .ref a), (1, .int v)]) 32 ?_ ?_ 0 _ _ _ (by decide) ⟨f, fun j h => absurd h (by omega), hP, hD, hS, lv_sub hl [1, 0, 2, 3] rfl⟩
  · intro i H9 lo9 ls hi ⟨g, hg9, hP, hD, hS, hl⟩ next
    refine lv_iload_n hx hb d_J_fill_0_5 rfl (lv_at hl 0 rfl) ?_
    refine lv_iload_n hx hb d_J_fill_0_6 rfl (lv_at hl 1 rfl) ?_
    refine lv_icmp_ge (tgt := 20) hx hb d_J_fill_0_7 (by decide) (fun c_1 => ?_) (fun c_1 => ?_)
    · exact absurd c_1 (nI_ge (b := 32) hi (by decide))
    · refine lv_aload_n hx hb d_J_fill_0_10 rfl (lv_at hl 2 rfl) ?_
      refine lv_iload_n hx hb d_J_fill_0_11 rfl (lv_at hl 0 rfl) ?_
      refine lv_iload_n hx hb d_J_fill_0_12 rfl (lv_at hl 3 rfl) ?_
      refine va_iast hx hb hK hP hD hS 0 0 rfl rfl (vp_in_nI hi (by decide)) d_J_fill_0_13 (fun H_2 lo_3 hP hD hS => ?_)
      have hP : va_P (dC, dI) kcl [(a, .inl (cA, 32, .inl (upd g ((nI i) : Int32).toNatClampNeg v)))] H_2 := hP
      have hD : va_D A [(a, .inl (cA, 32, .inl (upd g ((nI i) : Int32).toNatClampNeg v)))] := hD
      obtain ⟨i_4, ei_4⟩ : ∃ y : Int32, y = (nI i) + 1 := ⟨_, rfl⟩
      refine lv_iinc (v := i_4) (lv' := [(2, .int i_4), (3, .int 32), (0, .ref a), (1, .int v)]) hx hb d_J_fill_0_14 hl (k := 0) rfl (by rw [ei_4]; rfl) (by decide) rfl (fun ls hl => ?_)
      refine lv_goto (tgt := 5) hx hb d_J_fill_0_17 (by decide) ?_
      exact next _ _ _ ⟨_, tx_fill hg9 (by omega), hP, hD, hS, by have h0 := lv_sub hl [0, 1, 2, 3] rfl; rw [ei_4, nI_1] at h0; exact h0⟩
  · intro H9 lo9 ls ⟨g, hg9, hP, hD, hS, hl⟩
    refine lv_iload_n hx hb d_J_fill_0_5 rfl (lv_at hl 0 rfl) ?_
    refine lv_iload_n hx hb d_J_fill_0_6 rfl (lv_at hl 1 rfl) ?_
    refine lv_icmp_ge (tgt := 20) hx hb d_J_fill_0_7 (by decide) (fun c_5 => ?_) (fun c_5 => ?_)
    · have hP9 := hP.sub (ws' := [(a, .inl (cA, 32, .inl g))]) [0] rfl
      have hD9 := hD.sub (ws' := [(a, .inl (cA, 32, .inl g))]) [0] (by decide) rfl
      have hK9 := hK.sub (tys' := [(cA, .int)]) [0] rfl
      exact W.vret hx hb hr (fun t ht hW => ⟨⟨(), rfl, trivial, ⟨g, hg9, by rw [ht]; exact hP9, va_K.moved hW.alike hK9, hD9⟩⟩, hS.F ht⟩) hS.2.2 d_J_fill_0_20
    · exact absurd (by decide) c_5
set_option maxHeartbeats 4000000 in
set_option maxRecDepth 100000 in
theorem c_G_init (l : Launch) (dC : Nat → ClassId) (dI : Nat → Nat → Nat) (sz : Nat) (g : Nat) : Met l y_G_init ws_G_init ({ frames := 3, cells := 19, slots := 4391, locals := 54 }) (va_Pc [.ref g] (fun U => U.heap.size = sz ∧ va_P (dC, dI) kcl [(g, .inr (1, [.null, .int 0, .null, .int 0, .null, .null, .null, .null, .null, .null, .null, .int 0, .int 0, .null]))] U.heap ∧ va_K (dC, dI) kcl [] U ∧ va_D (fun _ => True) [(g, .inr (1, [.null, .int 0, .null, .int 0, .null, .null, .null, .null, .null, .null, .null, .int 0, .int 0, .null]))] ∧ tx_N U)) (va_Qv (fun (_ : Unit) => True) (fun (_ : Unit) (t : State) => ∃ (kq hq pq bq : Nat) (cK cH : ClassId) (zg zpq : Nat → Value) (fk fh : Nat → Int32), (∀ j, j < 32 → fk j = -1) ∧ va_P (dC, dI) kcl [(g, .inr (1, [.ref kq, .int 0, .ref hq, .int 0, (zg 4), (zg 5), (zg 6), (zg 7), (zg 8), (zg 9), (zg 10), .int 0, .int 0, .ref pq])), (kq, .inl (cK, 32, .inl fk)), (hq, .inl (cH, 12, .inl fh)), (pq, .inr (6, [(zpq 0), (zpq 1), (zpq 2), (zpq 3), .ref bq, .int 16]))] t.heap ∧ va_K (dC, dI) kcl [(cK, .int), (cH, .int)] t ∧ va_D (va_A [(g, .inr (1, [.null, .int 0, .null, .int 0, .null, .null, .null, .null, .null, .null, .null, .int 0, .int 0, .null]))] sz) [(g, .inr (1, [.ref kq, .int 0, .ref hq, .int 0, (zg 4), (zg 5), (zg 6), (zg 7), (zg 8), (zg 9), (zg 10), .int 0, .int 0, .ref pq])), (kq, .inl (cK, 32, .inl fk)), (hq, .inl (cH, 12, .inl fh)), (pq, .inr (6, [(zpq 0), (zpq 1), (zpq 2), (zpq 3), .ref bq, .int 16]))]) (va_A [(g, .inr (1, [.null, .int 0, .null, .int 0, .null, .null, .null, .null, .null, .null, .null, .int 0, .int 0, .null]))] sz)) 19 4391 (va_A [(g, .inr (1, [.null, .int 0, .null, .int 0, .null, .null, .null, .null, .null, .null, .null, .int 0, .int 0, .null]))] sz) := by
  refine Met.ofW (cc := b_G_init) (maxL := 1) (ret := (Option.none : Option Jvm.ClassFile.FieldType)) (by decide) rfl ?_
  intro p e s m args below meth c s₁ B hml hv
  obtain ⟨rfl, hsz, hP, hK, hD0, hG⟩ := hv
  have hx := B.exec
  have hb := B.bytes
  have hr := B.returns
  have hlocks := B.notSynchronized
  have hg : ∀ w ∈ gw, w.before _ s = true := fun w h => atoms_spec (ws := ws_G_init) B.pre w (List.mem_cons_of_mem _ h)
  have hown : s.vm.findClass "TreeMatcher$Grammar" = some m.cls := findClass_of_methodNamed B.named
  have hin : meth.name = "<init>" := (name_of_methodNamed B.named B.method).1
  subst hsz
  have hD := hD0.self (sz := s.heap.size)
  have hA : ∀ q : Nat, s.heap.size ≤ q → va_A [(g, .inr (1, [.null, .int 0, .null, .int 0, .null, .null, .null, .null, .null, .null, .null, .int 0, .int 0, .null]))] s.heap.size q := fun q h => Or.inr h
  generalize hAe : va_A [(g, .inr (1, [.null, .int 0, .null, .int 0, .null, .null, .null, .null, .null, .null, .null, .int 0, .int 0, .null]))] s.heap.size = A at hD hA ⊢
  have hN : tx_N s := hG
  have hS : va_S A s.heap s.heap [] := va_S.rf
  have hl := lv_entry ([.ref g] : List Value) (n := 1) (Nat.le_of_ble_eq_true rfl)
  rw [lg_entry_eq]
  generalize (lg_sl ([.ref g] : List Value) ++ List.replicate (1 - (lg_sl ([.ref g] : List Value)).length) Slot.unset).toArray = ls at hl ⊢
  have hl : lv_has ls 1 [(0, .ref g)] := hl
  refine lv_aload_n hx hb d_G_init_0 rfl (lv_at hl 0 rfl) ?_
  refine W.objInit hx hb hown (hg _ tw_33) (hg _ tw_26) (hg _ tw_27) rfl (by rw [hml]; exact hl.1) rfl d_G_init_1 (Nat.le_of_ble_eq_true rfl) (Nat.le_of_ble_eq_true rfl) ?_
  refine W.eq (g2 := F0 m 4 ls []) rfl ?_
  refine lv_aload_n hx hb d_G_init_4 rfl (lv_at hl 0 rfl) ?_
  refine lv_bipush (v := 32) hx hb d_G_init_5 (by decide) ?_
  refine va_newa (atype := .int) (ty := .int) (a0 := (32, .inl (fun _ => 0))) (N' := 32) hx hb (hg _ tw_50) rfl hK hP hD hS hA (fun _ => rfl) (by decide) (by decide +kernel) (by decide) (Nat.le_of_ble_eq_true rfl) (Nat.le_of_ble_eq_true rfl) d_G_init_7 (fun kq ckq H_1 hK hP hD hS => ?_)
  have hP : va_P (dC, dI) kcl [(g, .inr (1, [.null, .int 0, .null, .int 0, .null, .null, .null, .null, .null, .null, .null, .int 0, .int 0, .null])), (kq, .inl (ckq, 32, .inl (fun _ => 0)))] H_1 := hP
  have hD : va_D A [(g, .inr (1, [.null, .int 0, .null, .int 0, .null, .null, .null, .null, .null, .null, .null, .int 0, .int 0, .null])), (kq, .inl (ckq, 32, .inl (fun _ => 0)))] := hD
  have hK : va_K (dC, dI) kcl [(ckq, .int)] s := hK
  refine va_putF (D := (dC, dI)) (ci := 1) (v := .ref kq) (ty := .array .int) (C := kR_G) (T := kT_G) (N := 14) hx hb hg kin_G kt_G kty_G knm_G hown hK hP hD hS 0 rfl rfl 0 (by decide) (hg _ tw_81) (fun _ h9 => h9) rfl hin rfl (by decide +kernel) rfl rfl (Nat.le_of_ble_eq_true rfl) d_G_init_9 (fun H_2 lo_3 hP hD hS => ?_)
  have hP : va_P (dC, dI) kcl [(g, .inr (1, [.ref kq, .int 0, .null, .int 0, .null, .null, .null, .null, .null, .null, .null, .int 0, .int 0, .null])), (kq, .inl (ckq, 32, .inl (fun _ => 0)))] H_2 := hP
  have hD : va_D A [(g, .inr (1, [.ref kq, .int 0, .null, .int 0, .null, .null, .null, .null, .null, .null, .null, .int 0, .int 0, .null])), (kq, .inl (ckq, 32, .inl (fun _ => 0)))] := hD
  refine lv_aload_n hx hb d_G_init_12 rfl (lv_at hl 0 rfl) ?_
  refine lv_iconst (v := 0) hx hb d_G_init_13 (by decide) ?_
  refine va_put (D := (dC, dI)) (ci := 1) (v := .int 0) (ty := .int) (C := kR_G) (T := kT_G) (N := 14) hx hb hg kin_G kt_G kty_G knm_G hown hK hP hD hS 0 rfl rfl 1 (by decide) (hg _ tw_82) (fun _ h9 => h9) rfl (by decide +kernel) rfl rfl (Nat.le_of_ble_eq_true rfl) d_G_init_14 (fun H_4 lo_5 hP hD hS => ?_)
  have hP : va_P (dC, dI) kcl [(g, .inr (1, [.ref kq, .int 0, .null, .int 0, .null, .null, .null, .null, .null, .null, .null, .int 0, .int 0, .null])), (kq, .inl (ckq, 32, .inl (fun _ => 0)))] H_4 := hP
  have hD : va_D A [(g, .inr (1, [.ref kq, .int 0, .null, .int 0, .null, .null, .null, .null, .null, .null, .null, .int 0, .int 0, .null])), (kq, .inl (ckq, 32, .inl (fun _ => 0)))] := hD
  refine lv_aload_n hx hb d_G_init_17 rfl (lv_at hl 0 rfl) ?_
  refine lv_bipush (v := 12) hx hb d_G_init_18 (by decide) ?_
  refine va_newa (atype := .int) (ty := .int) (a0 := (12, .inl (fun _ => 0))) (N' := 12) hx hb (hg _ tw_50) rfl hK hP hD hS hA (fun _ => rfl) (by decide) (by decide +kernel) (by decide) (Nat.le_of_ble_eq_true rfl) (Nat.le_of_ble_eq_true rfl) d_G_init_20 (fun hq chq H_6 hK hP hD hS => ?_)
  have hP : va_P (dC, dI) kcl [(g, .inr (1, [.ref kq, .int 0, .null, .int 0, .null, .null, .null, .null, .null, .null, .null, .int 0, .int 0, .null])), (kq, .inl (ckq, 32, .inl (fun _ => 0))), (hq, .inl (chq, 12, .inl (fun _ => 0)))] H_6 := hP
  have hD : va_D A [(g, .inr (1, [.ref kq, .int 0, .null, .int 0, .null, .null, .null, .null, .null, .null, .null, .int 0, .int 0, .null])), (kq, .inl (ckq, 32, .inl (fun _ => 0))), (hq, .inl (chq, 12, .inl (fun _ => 0)))] := hD
  have hK : va_K (dC, dI) kcl [(ckq, .int), (chq, .int)] s := hK
  refine va_putF (D := (dC, dI)) (ci := 1) (v := .ref hq) (ty := .array .int) (C := kR_G) (T := kT_G) (N := 14) hx hb hg kin_G kt_G kty_G knm_G hown hK hP hD hS 0 rfl rfl 2 (by decide) (hg _ tw_83) (fun _ h9 => h9) rfl hin rfl (by decide +kernel) rfl rfl (Nat.le_of_ble_eq_true rfl) d_G_init_22 (fun H_7 lo_8 hP hD hS => ?_)
  have hP : va_P (dC, dI) kcl [(g, .inr (1, [.ref kq, .int 0, .ref hq, .int 0, .null, .null, .null, .null, .null, .null, .null, .int 0, .int 0, .null])), (kq, .inl (ckq, 32, .inl (fun _ => 0))), (hq, .inl (chq, 12, .inl (fun _ => 0)))] H_7 := hP
  have hD : va_D A [(g, .inr (1, [.ref kq, .int 0, .ref hq, .int 0, .null, .null, .null, .null, .null, .null, .null, .int 0, .int 0, .null])), (kq, .inl (ckq, 32, .inl (fun _ => 0))), (hq, .inl (chq, 12, .inl (fun _ => 0)))] := hD
  refine lv_aload_n hx hb d_G_init_25 rfl (lv_at hl 0 rfl) ?_
  refine lv_iconst (v := 0) hx hb d_G_init_26 (by decide) ?_
  refine va_put (D := (dC, dI)) (ci := 1) (v := .int 0) (ty := .int) (C := kR_G) (T := kT_G) (N := 14) hx hb hg kin_G kt_G kty_G knm_G hown hK hP hD hS 0 rfl rfl 3 (by decide) (hg _ tw_84) (fun _ h9 => h9) rfl (by decide +kernel) rfl rfl (Nat.le_of_ble_eq_true rfl) d_G_init_27 (fun H_9 lo_10 hP hD hS => ?_)
  have hP : va_P (dC, dI) kcl [(g, .inr (1, [.ref kq, .int 0, .ref hq, .int 0, .null, .null, .null, .null, .null, .null, .null, .int 0, .int 0, .null])), (kq, .inl (ckq, 32, .inl (fun _ => 0))), (hq, .inl (chq, 12, .inl (fun _ => 0)))] H_9 := hP
  have hD : va_D A [(g, .inr (1, [.ref kq, .int 0, .ref hq, .int 0, .null, .null, .null, .null, .null, .null, .null, .int 0, .int 0, .null])), (kq, .inl (ckq, 32, .inl (fun _ => 0))), (hq, .inl (chq, 12, .inl (fun _ => 0)))] := hD
  refine lv_aload_n hx hb d_G_init_30 rfl (lv_at hl 0 rfl) ?_
  refine lv_sipush (v := 768) hx hb d_G_init_31 (by decide) ?_
  refine va_newa (atype := .int) (ty := .int) (a0 := (768, .inl (fun _ => 0))) (N' := 768) hx hb (hg _ tw_50) rfl hK hP hD hS hA (fun _ => rfl) (by decide) (by decide +kernel) (by decide) (Nat.le_of_ble_eq_true rfl) (Nat.le_of_ble_eq_true rfl) d_G_init_34 (fun q_12 cq_12 H_11 hK hP hD hS => ?_)
  have hP := hP.sub (ws' := [(g, .inr (1, [.ref kq, .int 0, .ref hq, .int 0, .null, .null, .null, .null, .null, .null, .null, .int 0, .int 0, .null])), (kq, .inl (ckq, 32, .inl (fun _ => 0))), (hq, .inl (chq, 12, .inl (fun _ => 0)))]) [0, 1, 2] rfl
  have hD := hD.sub (ws' := [(g, .inr (1, [.ref kq, .int 0, .ref hq, .int 0, .null, .null, .null, .null, .null, .null, .null, .int 0, .int 0, .null])), (kq, .inl (ckq, 32, .inl (fun _ => 0))), (hq, .inl (chq, 12, .inl (fun _ => 0)))]) [0, 1, 2] (by decide) rfl
  have hK := hK.sub (tys' := [(ckq, .int), (chq, .int)]) [0, 1] rfl
  refine va_putF (D := (dC, dI)) (ci := 1) (v := .ref q_12) (ty := .array .int) (C := kR_G) (T := kT_G) (N := 14) hx hb hg kin_G kt_G kty_G knm_G hown hK hP hD hS 0 rfl rfl 4 (by decide) (hg _ tw_85) (fun _ h9 => h9) rfl hin rfl (by decide +kernel) rfl rfl (Nat.le_of_ble_eq_true rfl) d_G_init_36 (fun H_13 lo_14 hP hD hS => ?_)
  have hP : va_P (dC, dI) kcl [(g, .inr (1, [.ref kq, .int 0, .ref hq, .int 0, .ref q_12, .null, .null, .null, .null, .null, .null, .int 0, .int 0, .null])), (kq, .inl (ckq, 32, .inl (fun _ => 0))), (hq, .inl (chq, 12, .inl (fun _ => 0)))] H_13 := hP
  have hD : va_D A [(g, .inr (1, [.ref kq, .int 0, .ref hq, .int 0, .ref q_12, .null, .null, .null, .null, .null, .null, .int 0, .int 0, .null])), (kq, .inl (ckq, 32, .inl (fun _ => 0))), (hq, .inl (chq, 12, .inl (fun _ => 0)))] := hD
  refine lv_aload_n hx hb d_G_init_39 rfl (lv_at hl 0 rfl) ?_
  refine lv_bipush (v := 64) hx hb d_G_init_40 (by decide) ?_
  refine va_newa (atype := .int) (ty := .int) (a0 := (64, .inl (fun _ => 0))) (N' := 64) hx hb (hg _ tw_50) rfl hK hP hD hS hA (fun _ => rfl) (by decide) (by decide +kernel) (by decide) (Nat.le_of_ble_eq_true rfl) (Nat.le_of_ble_eq_true rfl) d_G_init_42 (fun q_16 cq_16 H_15 hK hP hD hS => ?_)
  have hP := hP.sub (ws' := [(g, .inr (1, [.ref kq, .int 0, .ref hq, .int 0, .ref q_12, .null, .null, .null, .null, .null, .null, .int 0, .int 0, .null])), (kq, .inl (ckq, 32, .inl (fun _ => 0))), (hq, .inl (chq, 12, .inl (fun _ => 0)))]) [0, 1, 2] rfl
  have hD := hD.sub (ws' := [(g, .inr (1, [.ref kq, .int 0, .ref hq, .int 0, .ref q_12, .null, .null, .null, .null, .null, .null, .int 0, .int 0, .null])), (kq, .inl (ckq, 32, .inl (fun _ => 0))), (hq, .inl (chq, 12, .inl (fun _ => 0)))]) [0, 1, 2] (by decide) rfl
  have hK := hK.sub (tys' := [(ckq, .int), (chq, .int)]) [0, 1] rfl
  refine va_putF (D := (dC, dI)) (ci := 1) (v := .ref q_16) (ty := .array .int) (C := kR_G) (T := kT_G) (N := 14) hx hb hg kin_G kt_G kty_G knm_G hown hK hP hD hS 0 rfl rfl 5 (by decide) (hg _ tw_86) (fun _ h9 => h9) rfl hin rfl (by decide +kernel) rfl rfl (Nat.le_of_ble_eq_true rfl) d_G_init_44 (fun H_17 lo_18 hP hD hS => ?_)
  have hP : va_P (dC, dI) kcl [(g, .inr (1, [.ref kq, .int 0, .ref hq, .int 0, .ref q_12, .ref q_16, .null, .null, .null, .null, .null, .int 0, .int 0, .null])), (kq, .inl (ckq, 32, .inl (fun _ => 0))), (hq, .inl (chq, 12, .inl (fun _ => 0)))] H_17 := hP
  have hD : va_D A [(g, .inr (1, [.ref kq, .int 0, .ref hq, .int 0, .ref q_12, .ref q_16, .null, .null, .null, .null, .null, .int 0, .int 0, .null])), (kq, .inl (ckq, 32, .inl (fun _ => 0))), (hq, .inl (chq, 12, .inl (fun _ => 0)))] := hD
  refine lv_aload_n hx hb d_G_init_47 rfl (lv_at hl 0 rfl) ?_
  refine lv_bipush (v := 64) hx hb d_G_init_48 (by decide) ?_
  refine va_newa (atype := .int) (ty := .int) (a0 := (64, .inl (fun _ => 0))) (N' := 64) hx hb (hg _ tw_50) rfl hK hP hD hS hA (fun _ => rfl) (by decide) (by decide +kernel) (by decide) (Nat.le_of_ble_eq_true rfl) (Nat.le_of_ble_eq_true rfl) d_G_init_50 (fun q_20 cq_20 H_19 hK hP hD hS => ?_)
  have hP := hP.sub (ws' := [(g, .inr (1, [.ref kq, .int 0, .ref hq, .int 0, .ref q_12, .ref q_16, .null, .null, .null, .null, .null, .int 0, .int 0, .null])), (kq, .inl (ckq, 32, .inl (fun _ => 0))), (hq, .inl (chq, 12, .inl (fun _ => 0)))]) [0, 1, 2] rfl
  have hD := hD.sub (ws' := [(g, .inr (1, [.ref kq, .int 0, .ref hq, .int 0, .ref q_12, .ref q_16, .null, .null, .null, .null, .null, .int 0, .int 0, .null])), (kq, .inl (ckq, 32, .inl (fun _ => 0))), (hq, .inl (chq, 12, .inl (fun _ => 0)))]) [0, 1, 2] (by decide) rfl
  have hK := hK.sub (tys' := [(ckq, .int), (chq, .int)]) [0, 1] rfl
  refine va_putF (D := (dC, dI)) (ci := 1) (v := .ref q_20) (ty := .array .int) (C := kR_G) (T := kT_G) (N := 14) hx hb hg kin_G kt_G kty_G knm_G hown hK hP hD hS 0 rfl rfl 6 (by decide) (hg _ tw_87) (fun _ h9 => h9) rfl hin rfl (by decide +kernel) rfl rfl (Nat.le_of_ble_eq_true rfl) d_G_init_52 (fun H_21 lo_22 hP hD hS => ?_)
  have hP : va_P (dC, dI) kcl [(g, .inr (1, [.ref kq, .int 0, .ref hq, .int 0, .ref q_12, .ref q_16, .ref q_20, .null, .null, .null, .null, .int 0, .int 0, .null])), (kq, .inl (ckq, 32, .inl (fun _ => 0))), (hq, .inl (chq, 12, .inl (fun _ => 0)))] H_21 := hP
  have hD : va_D A [(g, .inr (1, [.ref kq, .int 0, .ref hq, .int 0, .ref q_12, .ref q_16, .ref q_20, .null, .null, .null, .null, .int 0, .int 0, .null])), (kq, .inl (ckq, 32, .inl (fun _ => 0))), (hq, .inl (chq, 12, .inl (fun _ => 0)))] := hD
  refine lv_aload_n hx hb d_G_init_55 rfl (lv_at hl 0 rfl) ?_
  refine lv_bipush (v := 64) hx hb d_G_init_56 (by decide) ?_
  refine va_newa (atype := .int) (ty := .int) (a0 := (64, .inl (fun _ => 0))) (N' := 64) hx hb (hg _ tw_50) rfl hK hP hD hS hA (fun _ => rfl) (by decide) (by decide +kernel) (by decide) (Nat.le_of_ble_eq_true rfl) (Nat.le_of_ble_eq_true rfl) d_G_init_58 (fun q_24 cq_24 H_23 hK hP hD hS => ?_)
  have hP := hP.sub (ws' := [(g, .inr (1, [.ref kq, .int 0, .ref hq, .int 0, .ref q_12, .ref q_16, .ref q_20, .null, .null, .null, .null, .int 0, .int 0, .null])), (kq, .inl (ckq, 32, .inl (fun _ => 0))), (hq, .inl (chq, 12, .inl (fun _ => 0)))]) [0, 1, 2] rfl
  have hD := hD.sub (ws' := [(g, .inr (1, [.ref kq, .int 0, .ref hq, .int 0, .ref q_12, .ref q_16, .ref q_20, .null, .null, .null, .null, .int 0, .int 0, .null])), (kq, .inl (ckq, 32, .inl (fun _ => 0))), (hq, .inl (chq, 12, .inl (fun _ => 0)))]) [0, 1, 2] (by decide) rfl
  have hK := hK.sub (tys' := [(ckq, .int), (chq, .int)]) [0, 1] rfl
  refine va_putF (D := (dC, dI)) (ci := 1) (v := .ref q_24) (ty := .array .int) (C := kR_G) (T := kT_G) (N := 14) hx hb hg kin_G kt_G kty_G knm_G hown hK hP hD hS 0 rfl rfl 7 (by decide) (hg _ tw_88) (fun _ h9 => h9) rfl hin rfl (by decide +kernel) rfl rfl (Nat.le_of_ble_eq_true rfl) d_G_init_60 (fun H_25 lo_26 hP hD hS => ?_)
  have hP : va_P (dC, dI) kcl [(g, .inr (1, [.ref kq, .int 0, .ref hq, .int 0, .ref q_12, .ref q_16, .ref q_20, .ref q_24, .null, .null, .null, .int 0, .int 0, .null])), (kq, .inl (ckq, 32, .inl (fun _ => 0))), (hq, .inl (chq, 12, .inl (fun _ => 0)))] H_25 := hP
  have hD : va_D A [(g, .inr (1, [.ref kq, .int 0, .ref hq, .int 0, .ref q_12, .ref q_16, .ref q_20, .ref q_24, .null, .null, .null, .int 0, .int 0, .null])), (kq, .inl (ckq, 32, .inl (fun _ => 0))), (hq, .inl (chq, 12, .inl (fun _ => 0)))] := hD
  refine lv_aload_n hx hb d_G_init_63 rfl (lv_at hl 0 rfl) ?_
  refine lv_bipush (v := 64) hx hb d_G_init_64 (by decide) ?_
  refine va_newa (atype := .int) (ty := .int) (a0 := (64, .inl (fun _ => 0))) (N' := 64) hx hb (hg _ tw_50) rfl hK hP hD hS hA (fun _ => rfl) (by decide) (by decide +kernel) (by decide) (Nat.le_of_ble_eq_true rfl) (Nat.le_of_ble_eq_true rfl) d_G_init_66 (fun q_28 cq_28 H_27 hK hP hD hS => ?_)
  have hP := hP.sub (ws' := [(g, .inr (1, [.ref kq, .int 0, .ref hq, .int 0, .ref q_12, .ref q_16, .ref q_20, .ref q_24, .null, .null, .null, .int 0, .int 0, .null])), (kq, .inl (ckq, 32, .inl (fun _ => 0))), (hq, .inl (chq, 12, .inl (fun _ => 0)))]) [0, 1, 2] rfl
  have hD := hD.sub (ws' := [(g, .inr (1, [.ref kq, .int 0, .ref hq, .int 0, .ref q_12, .ref q_16, .ref q_20, .ref q_24, .null, .null, .null, .int 0, .int 0, .null])), (kq, .inl (ckq, 32, .inl (fun _ => 0))), (hq, .inl (chq, 12, .inl (fun _ => 0)))]) [0, 1, 2] (by decide) rfl
  have hK := hK.sub (tys' := [(ckq, .int), (chq, .int)]) [0, 1] rfl
  refine va_putF (D := (dC, dI)) (ci := 1) (v := .ref q_28) (ty := .array .int) (C := kR_G) (T := kT_G) (N := 14) hx hb hg kin_G kt_G kty_G knm_G hown hK hP hD hS 0 rfl rfl 8 (by decide) (hg _ tw_89) (fun _ h9 => h9) rfl hin rfl (by decide +kernel) rfl rfl (Nat.le_of_ble_eq_true rfl) d_G_init_68 (fun H_29 lo_30 hP hD hS => ?_)
  have hP : va_P (dC, dI) kcl [(g, .inr (1, [.ref kq, .int 0, .ref hq, .int 0, .ref q_12, .ref q_16, .ref q_20, .ref q_24, .ref q_28, .null, .null, .int 0, .int 0, .null])), (kq, .inl (ckq, 32, .inl (fun _ => 0))), (hq, .inl (chq, 12, .inl (fun _ => 0)))] H_29 := hP
  have hD : va_D A [(g, .inr (1, [.ref kq, .int 0, .ref hq, .int 0, .ref q_12, .ref q_16, .ref q_20, .ref q_24, .ref q_28, .null, .null, .int 0, .int 0, .null])), (kq, .inl (ckq, 32, .inl (fun _ => 0))), (hq, .inl (chq, 12, .inl (fun _ => 0)))] := hD
  refine lv_aload_n hx hb d_G_init_71 rfl (lv_at hl 0 rfl) ?_
  refine lv_bipush (v := 64) hx hb d_G_init_72 (by decide) ?_
  refine va_newa (atype := .int) (ty := .int) (a0 := (64, .inl (fun _ => 0))) (N' := 64) hx hb (hg _ tw_50) rfl hK hP hD hS hA (fun _ => rfl) (by decide) (by decide +kernel) (by decide) (Nat.le_of_ble_eq_true rfl) (Nat.le_of_ble_eq_true rfl) d_G_init_74 (fun q_32 cq_32 H_31 hK hP hD hS => ?_)
  have hP := hP.sub (ws' := [(g, .inr (1, [.ref kq, .int 0, .ref hq, .int 0, .ref q_12, .ref q_16, .ref q_20, .ref q_24, .ref q_28, .null, .null, .int 0, .int 0, .null])), (kq, .inl (ckq, 32, .inl (fun _ => 0))), (hq, .inl (chq, 12, .inl (fun _ => 0)))]) [0, 1, 2] rfl
  have hD := hD.sub (ws' := [(g, .inr (1, [.ref kq, .int 0, .ref hq, .int 0, .ref q_12, .ref q_16, .ref q_20, .ref q_24, .ref q_28, .null, .null, .int 0, .int 0, .null])), (kq, .inl (ckq, 32, .inl (fun _ => 0))), (hq, .inl (chq, 12, .inl (fun _ => 0)))]) [0, 1, 2] (by decide) rfl
  have hK := hK.sub (tys' := [(ckq, .int), (chq, .int)]) [0, 1] rfl
  refine va_putF (D := (dC, dI)) (ci := 1) (v := .ref q_32) (ty := .array .int) (C := kR_G) (T := kT_G) (N := 14) hx hb hg kin_G kt_G kty_G knm_G hown hK hP hD hS 0 rfl rfl 9 (by decide) (hg _ tw_90) (fun _ h9 => h9) rfl hin rfl (by decide +kernel) rfl rfl (Nat.le_of_ble_eq_true rfl) d_G_init_76 (fun H_33 lo_34 hP hD hS => ?_)
  have hP : va_P (dC, dI) kcl [(g, .inr (1, [.ref kq, .int 0, .ref hq, .int 0, .ref q_12, .ref q_16, .ref q_20, .ref q_24, .ref q_28, .ref q_32, .null, .int 0, .int 0, .null])), (kq, .inl (ckq, 32, .inl (fun _ => 0))), (hq, .inl (chq, 12, .inl (fun _ => 0)))] H_33 := hP
  have hD : va_D A [(g, .inr (1, [.ref kq, .int 0, .ref hq, .int 0, .ref q_12, .ref q_16, .ref q_20, .ref q_24, .ref q_28, .ref q_32, .null, .int 0, .int 0, .null])), (kq, .inl (ckq, 32, .inl (fun _ => 0))), (hq, .inl (chq, 12, .inl (fun _ => 0)))] := hD
  refine lv_aload_n hx hb d_G_init_79 rfl (lv_at hl 0 rfl) ?_
  refine va_new (ci := 7) (fs := [.int 0, .null, .null]) (C := kR_U) (T := kT_U) (N := 3) hx hb hg kin_U kt_U kty_U hown (hg _ tw_34) (hg _ tw_35) (hg _ tw_3) hK hP hD hS hA rfl kdf_U (Nat.le_of_ble_eq_true rfl) (Nat.le_of_ble_eq_true rfl) d_G_init_80 (fun uq H_35 hP hD hS => ?_)
  have hP : va_P (dC, dI) kcl [(g, .inr (1, [.ref kq, .int 0, .ref hq, .int 0, .ref q_12, .ref q_16, .ref q_20, .ref q_24, .ref q_28, .ref q_32, .null, .int 0, .int 0, .null])), (kq, .inl (ckq, 32, .inl (fun _ => 0))), (hq, .inl (chq, 12, .inl (fun _ => 0))), (uq, .inr (7, [.int 0, .null, .null]))] H_35 := hP
  have hD : va_D A [(g, .inr (1, [.ref kq, .int 0, .ref hq, .int 0, .ref q_12, .ref q_16, .ref q_20, .ref q_24, .ref q_28, .ref q_32, .null, .int 0, .int 0, .null])), (kq, .inl (ckq, 32, .inl (fun _ => 0))), (hq, .inl (chq, 12, .inl (fun _ => 0))), (uq, .inr (7, [.int 0, .null, .null]))] := hD
  refine lv_dup hx hb d_G_init_83 rfl ?_
  refine lv_bipush (v := 17) hx hb d_G_init_84 (by decide) ?_
  refine lv_bipush (v := 64) hx hb d_G_init_86 (by decide) ?_
  have hPc := hP.sub (ws' := [(uq, .inr (7, [.int 0, .null, .null]))]) [3] rfl
  have hKc := hK.sub (tys' := []) [] rfl
  have hDc := hD.sub (ws' := [(uq, .inr (7, [.int 0, .null, .null]))]) [3] (by decide) rfl
  have hFc := va_free (wc := [(uq, .inr (7, [.int 0, .null, .null]))]) hD hS hA [3] rfl
  refine va_callv (va_runI (As := [.int 17, .int 64]) (rest := [.ref uq, .ref g]) ⟨hx, hb, hml, hown, hg⟩ (c_U_init_17 l dC dI H_35.size uq) (cwI 2 hg (gw_gi cin_U_init) rfl rfl rfl (hg _ tw_3) (hg _ tw_36) (hg _ tw_37) rfl (by decide +kernel) ⟨Nat.le_of_ble_eq_true rfl, Nat.le_of_ble_eq_true rfl⟩) ⟨fun a U g mk q => by obtain ⟨q0, q1, qP, qK, qD⟩ := q; exact ⟨q0, q1, qP, va_K.moved (u := U) (U := U.calling g mk a) (Vm.Alike.refl U.vm) qK, qD⟩, fun U hU hW => ⟨rfl, by rw [hU], by rw [hU]; exact hPc, va_K.moved hW.alike hKc, hDc.weaken (fun _ _ _ _ => trivial)⟩⟩ rfl rfl hl.1 rfl (lv_room (Nat.le_of_ble_eq_true rfl)) d_G_init_88 ⟨Nat.le_of_ble_eq_true rfl, Nat.le_of_ble_eq_true rfl⟩) hS (fun q _ h => hFc q h) hFc (fun u_k_36 t_k_36 H_37 l_k_36 ht hvm hw_k_36 hB hz1 hk1 hS => ?_)
  obtain ⟨hP, hD⟩ := tx_rest (wc := [(uq, .inr (7, [.int 0, .null, .null]))]) (wr := [(g, .inr (1, [.ref kq, .int 0, .ref hq, .int 0, .ref q_12, .ref q_16, .ref q_20, .ref q_24, .ref q_28, .ref q_32, .null, .int 0, .int 0, .null])), (kq, .inl (ckq, 32, .inl (fun _ => 0))), (hq, .inl (chq, 12, .inl (fun _ => 0)))]) hP hD [3] [0, 1, 2] rfl rfl (by decide) (by decide) hk1 hFc
  have hK := hK.sub (tys' := [(ckq, .int), (chq, .int)]) [0, 1] rfl
  refine va_putF (D := (dC, dI)) (ci := 1) (v := .ref uq) (ty := .object "TreeMatcher$Groups") (C := kR_G) (T := kT_G) (N := 14) hx hb hg kin_G kt_G kty_G knm_G hown hK hP hD hS 0 rfl rfl 10 (by decide) (hg _ tw_91) (fun _ h9 => h9) rfl hin rfl (by decide +kernel) rfl rfl (Nat.le_of_ble_eq_true rfl) d_G_init_91 (fun H_38 lo_39 hP hD hS => ?_)
  have hP : va_P (dC, dI) kcl [(g, .inr (1, [.ref kq, .int 0, .ref hq, .int 0, .ref q_12, .ref q_16, .ref q_20, .ref q_24, .ref q_28, .ref q_32, .ref uq, .int 0, .int 0, .null])), (kq, .inl (ckq, 32, .inl (fun _ => 0))), (hq, .inl (chq, 12, .inl (fun _ => 0)))] H_38 := hP
  have hD : va_D A [(g, .inr (1, [.ref kq, .int 0, .ref hq, .int 0, .ref q_12, .ref q_16, .ref q_20, .ref q_24, .ref q_28, .ref q_32, .ref uq, .int 0, .int 0, .null])), (kq, .inl (ckq, 32, .inl (fun _ => 0))), (hq, .inl (chq, 12, .inl (fun _ => 0)))] := hD
  refine lv_aload_n hx hb d_G_init_94 rfl (lv_at hl 0 rfl) ?_
  refine lv_iconst (v := 0) hx hb d_G_init_95 (by decide) ?_
  refine va_put (D := (dC, dI)) (ci := 1) (v := .int 0) (ty := .int) (C := kR_G) (T := kT_G) (N := 14) hx hb hg kin_G kt_G kty_G knm_G hown hK hP hD hS 0 rfl rfl 11 (by decide) (hg _ tw_92) (fun _ h9 => h9) rfl (by decide +kernel) rfl rfl (Nat.le_of_ble_eq_true rfl) d_G_init_96 (fun H_40 lo_41 hP hD hS => ?_)
  have hP : va_P (dC, dI) kcl [(g, .inr (1, [.ref kq, .int 0, .ref hq, .int 0, .ref q_12, .ref q_16, .ref q_20, .ref q_24, .ref q_28, .ref q_32, .ref uq, .int 0, .int 0, .null])), (kq, .inl (ckq, 32, .inl (fun _ => 0))), (hq, .inl (chq, 12, .inl (fun _ => 0)))] H_40 := hP
  have hD : va_D A [(g, .inr (1, [.ref kq, .int 0, .ref hq, .int 0, .ref q_12, .ref q_16, .ref q_20, .ref q_24, .ref q_28, .ref q_32, .ref uq, .int 0, .int 0, .null])), (kq, .inl (ckq, 32, .inl (fun _ => 0))), (hq, .inl (chq, 12, .inl (fun _ => 0)))] := hD
  refine lv_aload_n hx hb d_G_init_99 rfl (lv_at hl 0 rfl) ?_
  refine lv_iconst (v := 0) hx hb d_G_init_100 (by decide) ?_
  refine va_put (D := (dC, dI)) (ci := 1) (v := .int 0) (ty := .boolean) (C := kR_G) (T := kT_G) (N := 14) hx hb hg kin_G kt_G kty_G knm_G hown hK hP hD hS 0 rfl rfl 12 (by decide) (hg _ tw_93) (fun _ h9 => h9) rfl (by decide +kernel) rfl rfl (Nat.le_of_ble_eq_true rfl) d_G_init_101 (fun H_42 lo_43 hP hD hS => ?_)
  have hP : va_P (dC, dI) kcl [(g, .inr (1, [.ref kq, .int 0, .ref hq, .int 0, .ref q_12, .ref q_16, .ref q_20, .ref q_24, .ref q_28, .ref q_32, .ref uq, .int 0, .int 0, .null])), (kq, .inl (ckq, 32, .inl (fun _ => 0))), (hq, .inl (chq, 12, .inl (fun _ => 0)))] H_42 := hP
  have hD : va_D A [(g, .inr (1, [.ref kq, .int 0, .ref hq, .int 0, .ref q_12, .ref q_16, .ref q_20, .ref q_24, .ref q_28, .ref q_32, .ref uq, .int 0, .int 0, .null])), (kq, .inl (ckq, 32, .inl (fun _ => 0))), (hq, .inl (chq, 12, .inl (fun _ => 0)))] := hD
  refine lv_aload_n hx hb d_G_init_104 rfl (lv_at hl 0 rfl) ?_
  refine va_new (ci := 6) (fs := [.null, .null, .null, .null, .null, .int 0]) (C := kR_P) (T := kT_P) (N := 6) hx hb hg kin_P kt_P kty_P hown (hg _ tw_51) (hg _ tw_52) (hg _ tw_4) hK hP hD hS hA rfl kdf_P (Nat.le_of_ble_eq_true rfl) (Nat.le_of_ble_eq_true rfl) d_G_init_105 (fun pq H_44 hP hD hS => ?_)
  have hP : va_P (dC, dI) kcl [(g, .inr (1, [.ref kq, .int 0, .ref hq, .int 0, .ref q_12, .ref q_16, .ref q_20, .ref q_24, .ref q_28, .ref q_32, .ref uq, .int 0, .int 0, .null])), (kq, .inl (ckq, 32, .inl (fun _ => 0))), (hq, .inl (chq, 12, .inl (fun _ => 0))), (pq, .inr (6, [.null, .null, .null, .null, .null, .int 0]))] H_44 := hP
  have hD : va_D A [(g, .inr (1, [.ref kq, .int 0, .ref hq, .int 0, .ref q_12, .ref q_16, .ref q_20, .ref q_24, .ref q_28, .ref q_32, .ref uq, .int 0, .int 0, .null])), (kq, .inl (ckq, 32, .inl (fun _ => 0))), (hq, .inl (chq, 12, .inl (fun _ => 0))), (pq, .inr (6, [.null, .null, .null, .null, .null, .int 0]))] := hD
  refine lv_dup hx hb d_G_init_108 rfl ?_
  have hPc := hP.sub (ws' := [(pq, .inr (6, [.null, .null, .null, .null, .null, .int 0]))]) [3] rfl
  have hKc := hK.sub (tys' := []) [] rfl
  have hDc := hD.sub (ws' := [(pq, .inr (6, [.null, .null, .null, .null, .null, .int 0]))]) [3] (by decide) rfl
  have hFc := va_free (wc := [(pq, .inr (6, [.null, .null, .null, .null, .null, .int 0]))]) hD hS hA [3] rfl
  refine va_callv (va_runIN (As := []) (rest := [.ref pq, .ref g]) ⟨hx, hb, hml, hown, hg⟩ (c_P_init l dC dI H_44.size pq) ⟨va_cnB 0 hg (gw_gi cin_P_init) rfl rfl rfl (hN.1) (hg _ tw_4) (by decide +kernel) ⟨Nat.le_of_ble_eq_true rfl, Nat.le_of_ble_eq_true rfl⟩, rfl, hg _ tw_54⟩ ⟨fun a U g mk q => by obtain ⟨q0, q1, qP, qK, qD⟩ := q; exact ⟨q0, q1, qP, va_K.moved (u := U) (U := U.calling g mk a) (Vm.Alike.refl U.vm) qK, qD⟩, fun U hU hW => ⟨rfl, by rw [hU], by rw [hU]; exact hPc, va_K.moved hW.alike hKc, hDc.weaken (fun _ _ _ _ => trivial)⟩⟩ rfl rfl hl.1 rfl (lv_room (Nat.le_of_ble_eq_true rfl)) d_G_init_109 ⟨Nat.le_of_ble_eq_true rfl, Nat.le_of_ble_eq_true rfl⟩) hS (fun q _ h => hFc q h) hFc (fun u_k_45 t_k_45 H_46 l_k_45 ht hvm hw_k_45 hB hz1 hk1 hS => ?_)
  obtain ⟨bq, zpq, hP1, hK1, hD1⟩ := hB
  rw [ht] at hP1
  have hK1 := va_K.moved hvm.symm hK1
  obtain ⟨hP, hD⟩ := va_join (wr := [(g, .inr (1, [.ref kq, .int 0, .ref hq, .int 0, .ref q_12, .ref q_16, .ref q_20, .ref q_24, .ref q_28, .ref q_32, .ref uq, .int 0, .int 0, .null])), (kq, .inl (ckq, 32, .inl (fun _ => 0))), (hq, .inl (chq, 12, .inl (fun _ => 0)))]) (w1 := [(pq, .inr (6, [(zpq 0), (zpq 1), (zpq 2), (zpq 3), .ref bq, .int 16]))]) hP hD [3] [0, 1, 2] rfl rfl (by decide) (by decide) hk1 hFc hP1 hD1
  have hK := (hK.sub (tys' := [(ckq, .int), (chq, .int)]) [0, 1] rfl).app hK1
  have hP : va_P (dC, dI) kcl [(g, .inr (1, [.ref kq, .int 0, .ref hq, .int 0, .ref q_12, .ref q_16, .ref q_20, .ref q_24, .ref q_28, .ref q_32, .ref uq, .int 0, .int 0, .null])), (kq, .inl (ckq, 32, .inl (fun _ => 0))), (hq, .inl (chq, 12, .inl (fun _ => 0))), (pq, .inr (6, [(zpq 0), (zpq 1), (zpq 2), (zpq 3), .ref bq, .int 16]))] H_46 := hP
  have hD : va_D A [(g, .inr (1, [.ref kq, .int 0, .ref hq, .int 0, .ref q_12, .ref q_16, .ref q_20, .ref q_24, .ref q_28, .ref q_32, .ref uq, .int 0, .int 0, .null])), (kq, .inl (ckq, 32, .inl (fun _ => 0))), (hq, .inl (chq, 12, .inl (fun _ => 0))), (pq, .inr (6, [(zpq 0), (zpq 1), (zpq 2), (zpq 3), .ref bq, .int 16]))] := hD
  have hK : va_K (dC, dI) kcl [(ckq, .int), (chq, .int)] s := hK
  refine va_putF (D := (dC, dI)) (ci := 1) (v := .ref pq) (ty := .object "TreeMatcher$Parts") (C := kR_G) (T := kT_G) (N := 14) hx hb hg kin_G kt_G kty_G knm_G hown hK hP hD hS 0 rfl rfl 13 (by decide) (hg _ tw_94) (fun _ h9 => h9) rfl hin rfl (by decide +kernel) rfl rfl (Nat.le_of_ble_eq_true rfl) d_G_init_112 (fun H_47 lo_48 hP hD hS => ?_)
  have hP : va_P (dC, dI) kcl [(g, .inr (1, [.ref kq, .int 0, .ref hq, .int 0, .ref q_12, .ref q_16, .ref q_20, .ref q_24, .ref q_28, .ref q_32, .ref uq, .int 0, .int 0, .ref pq])), (kq, .inl (ckq, 32, .inl (fun _ => 0))), (hq, .inl (chq, 12, .inl (fun _ => 0))), (pq, .inr (6, [(zpq 0), (zpq 1), (zpq 2), (zpq 3), .ref bq, .int 16]))] H_47 := hP
  have hD : va_D A [(g, .inr (1, [.ref kq, .int 0, .ref hq, .int 0, .ref q_12, .ref q_16, .ref q_20, .ref q_24, .ref q_28, .ref q_32, .ref uq, .int 0, .int 0, .ref pq])), (kq, .inl (ckq, 32, .inl (fun _ => 0))), (hq, .inl (chq, 12, .inl (fun _ => 0))), (pq, .inr (6, [(zpq 0), (zpq 1), (zpq 2), (zpq 3), .ref bq, .int 16]))] := hD
  refine lv_aload_n hx hb d_G_init_115 rfl (lv_at hl 0 rfl) ?_
  refine va_get (D := (dC, dI)) (ci := 1) (v := .ref kq) (C := kR_G) (T := kT_G) (N := 14) hx hb hg kin_G hown hK hP 0 rfl rfl 0 (by decide) (hg _ tw_81) (fun _ h9 => h9) rfl d_G_init_116 ?_
  refine lv_iconst (v := (-1)) hx hb d_G_init_119 (by decide) ?_
  have hPc := hP.sub (ws' := [(kq, .inl (ckq, 32, .inl (fun _ => 0)))]) [1] rfl
  have hKc := hK.sub (tys' := [(ckq, .int)]) [0] rfl
  have hDc := hD.sub (ws' := [(kq, .inl (ckq, 32, .inl (fun _ => 0)))]) [1] (by decide) rfl
  have hFc := va_free (wc := [(kq, .inl (ckq, 32, .inl (fun _ => 0)))]) hD hS hA [1] rfl
  refine va_callv (va_runS (As := [.ref kq, .int (-1)]) (rest := []) ⟨hx, hb, hml, hown, hg⟩ (c_J_fill32 l dC dI H_47.size kq ckq (fun _ => 0) (-1)) (va_cwS 2 hg (gw_giS cin_J_fill_0 tw_78 tw_79 tw_5) rfl rfl rfl (by decide +kernel) ⟨Nat.le_of_ble_eq_true rfl, Nat.le_of_ble_eq_true rfl⟩) ⟨fun a U g mk q => by obtain ⟨q0, q1, qP, qK, qD⟩ := q; exact ⟨q0, q1, qP, va_K.moved (u := U) (U := U.calling g mk a) (Vm.Alike.refl U.vm) qK, qD⟩, fun U hU hW => ⟨rfl, by rw [hU], by rw [hU]; exact hPc, va_K.moved hW.alike hKc, hDc.weaken (fun _ _ _ _ => trivial)⟩⟩ rfl rfl hl.1 rfl (lv_room (Nat.le_of_ble_eq_true rfl)) d_G_init_120 ⟨Nat.le_of_ble_eq_true rfl, Nat.le_of_ble_eq_true rfl⟩) hS (fun q _ h => hFc q h) hFc (fun u_k_49 t_k_49 H_50 l_k_49 ht hvm hw_k_49 hB hz1 hk1 hS => ?_)
  obtain ⟨fk, hfk, hP1, hK1, hD1⟩ := hB
  rw [ht] at hP1
  have hK1 := va_K.moved hvm.symm hK1
  obtain ⟨hP, hD⟩ := va_join (wr := [(g, .inr (1, [.ref kq, .int 0, .ref hq, .int 0, .ref q_12, .ref q_16, .ref q_20, .ref q_24, .ref q_28, .ref q_32, .ref uq, .int 0, .int 0, .ref pq])), (hq, .inl (chq, 12, .inl (fun _ => 0))), (pq, .inr (6, [(zpq 0), (zpq 1), (zpq 2), (zpq 3), .ref bq, .int 16]))]) (w1 := [(kq, .inl (ckq, 32, .inl fk))]) hP hD [1] [0, 2, 3] rfl rfl (by decide) (by decide) hk1 hFc hP1 hD1
  have hK := (hK.sub (tys' := [(chq, .int)]) [1] rfl).app hK1
  have hP : va_P (dC, dI) kcl [(g, .inr (1, [.ref kq, .int 0, .ref hq, .int 0, .ref q_12, .ref q_16, .ref q_20, .ref q_24, .ref q_28, .ref q_32, .ref uq, .int 0, .int 0, .ref pq])), (hq, .inl (chq, 12, .inl (fun _ => 0))), (pq, .inr (6, [(zpq 0), (zpq 1), (zpq 2), (zpq 3), .ref bq, .int 16])), (kq, .inl (ckq, 32, .inl fk))] H_50 := hP
  have hD : va_D A [(g, .inr (1, [.ref kq, .int 0, .ref hq, .int 0, .ref q_12, .ref q_16, .ref q_20, .ref q_24, .ref q_28, .ref q_32, .ref uq, .int 0, .int 0, .ref pq])), (hq, .inl (chq, 12, .inl (fun _ => 0))), (pq, .inr (6, [(zpq 0), (zpq 1), (zpq 2), (zpq 3), .ref bq, .int 16])), (kq, .inl (ckq, 32, .inl fk))] := hD
  have hK : va_K (dC, dI) kcl [(chq, .int), (ckq, .int)] s := hK
  have hP9 := hP.sub (ws' := [(g, .inr (1, [.ref kq, .int 0, .ref hq, .int 0, .ref q_12, .ref q_16, .ref q_20, .ref q_24, .ref q_28, .ref q_32, .ref uq, .int 0, .int 0, .ref pq])), (kq, .inl (ckq, 32, .inl fk)), (hq, .inl (chq, 12, .inl (fun _ => 0))), (pq, .inr (6, [(zpq 0), (zpq 1), (zpq 2), (zpq 3), .ref bq, .int 16]))]) [0, 3, 1, 2] rfl
  have hD9 := hD.sub (ws' := [(g, .inr (1, [.ref kq, .int 0, .ref hq, .int 0, .ref q_12, .ref q_16, .ref q_20, .ref q_24, .ref q_28, .ref q_32, .ref uq, .int 0, .int 0, .ref pq])), (kq, .inl (ckq, 32, .inl fk)), (hq, .inl (chq, 12, .inl (fun _ => 0))), (pq, .inr (6, [(zpq 0), (zpq 1), (zpq 2), (zpq 3), .ref bq, .int 16]))]) [0, 3, 1, 2] (by decide) rfl
  have hK9 := hK.sub (tys' := [(ckq, .int), (chq, .int)]) [1, 0] rfl
  exact W.vret hx hb hr (fun t ht hW => ⟨⟨(), rfl, trivial, ⟨kq, hq, pq, bq, ckq, chq, (fun i => List.getD [Value.ref kq, Value.int (0 : Int32), Value.ref hq, Value.int (0 : Int32), Value.ref q_12, Value.ref q_16, Value.ref q_20, Value.ref q_24, Value.ref q_28, Value.ref q_32, Value.ref uq, Value.int (0 : Int32), Value.int (0 : Int32), Value.ref pq] i Value.null), zpq, fk, (fun _ => 0), hfk, by rw [ht]; exact hP9, va_K.moved hW.alike hK9, hD9⟩⟩, hS.F ht⟩) hS.2.2 d_G_init_123
end
section
set_option maxRecDepth 100000 in
theorem tw_24 : (Jvm.Cond.code ({ cls := "TreeMatcher", name := "<init>", desc := "()V" } : Jvm.MethodName) prog_1_method_1_code (1 : Nat) (Option.none : Option Jvm.ClassFile.FieldType)) ∈ gw := gw_of (List.mem_of_getElem? (i := 24) rfl) rfl
set_option maxRecDepth 100000 in
theorem tw_25 : (Jvm.Cond.methodLink "TreeMatcher" (3 : Nat) ({ cls := "java/lang/Object", name := "<init>", desc := "()V" } : Jvm.MethodName)) ∈ gw := gw_of (List.mem_of_getElem? (i := 25) rfl) rfl
set_option maxRecDepth 100000 in
theorem tw_28 : (Jvm.Cond.classLink "TreeMatcher" (9 : Nat) "TreeMatcher$Grammar") ∈ gw := gw_of (List.mem_of_getElem? (i := 28) rfl) rfl
set_option maxRecDepth 100000 in
theorem tw_29 : (Jvm.Cond.instantiable "TreeMatcher$Grammar" (14 : Nat)) ∈ gw := gw_of (List.mem_of_getElem? (i := 29) rfl) rfl
set_option maxRecDepth 100000 in
theorem tw_30 : (Jvm.Cond.methodLink "TreeMatcher" (11 : Nat) ({ cls := "TreeMatcher$Grammar", name := "<init>", desc := "()V" } : Jvm.MethodName)) ∈ gw := gw_of (List.mem_of_getElem? (i := 30) rfl) rfl
set_option maxRecDepth 100000 in
theorem tw_31 : (Jvm.Cond.instanceMethod ({ cls := "TreeMatcher$Grammar", name := "<init>", desc := "()V" } : Jvm.MethodName)) ∈ gw := gw_of (List.mem_of_getElem? (i := 31) rfl) rfl
set_option maxRecDepth 100000 in
theorem tw_124 : (Jvm.Cond.classLink "TreeMatcher" (16 : Nat) "TreeMatcher$Forest") ∈ gw := gw_of (List.mem_of_getElem? (i := 124) rfl) rfl
set_option maxRecDepth 100000 in
theorem tw_125 : (Jvm.Cond.instantiable "TreeMatcher$Forest" (14 : Nat)) ∈ gw := gw_of (List.mem_of_getElem? (i := 125) rfl) rfl
set_option maxRecDepth 100000 in
theorem tw_126 : (Jvm.Cond.methodLink "TreeMatcher" (18 : Nat) ({ cls := "TreeMatcher$Forest", name := "<init>", desc := "(LTreeMatcher$Grammar;)V" } : Jvm.MethodName)) ∈ gw := gw_of (List.mem_of_getElem? (i := 126) rfl) rfl
set_option maxRecDepth 100000 in
theorem tw_127 : (Jvm.Cond.instanceMethod ({ cls := "TreeMatcher$Forest", name := "<init>", desc := "(LTreeMatcher$Grammar;)V" } : Jvm.MethodName)) ∈ gw := gw_of (List.mem_of_getElem? (i := 127) rfl) rfl
set_option maxRecDepth 100000 in
theorem tw_234 : (Jvm.Cond.classLink "TreeMatcher" (25 : Nat) "TreeMatcher$Covering") ∈ gw := gw_of (List.mem_of_getElem? (i := 234) rfl) rfl
set_option maxRecDepth 100000 in
theorem tw_235 : (Jvm.Cond.instantiable "TreeMatcher$Covering" (7 : Nat)) ∈ gw := gw_of (List.mem_of_getElem? (i := 235) rfl) rfl
set_option maxRecDepth 100000 in
theorem tw_236 : (Jvm.Cond.methodLink "TreeMatcher" (27 : Nat) ({ cls := "TreeMatcher$Covering", name := "<init>", desc := "(LTreeMatcher$Grammar;LTreeMatcher$Forest;)V" } : Jvm.MethodName)) ∈ gw := gw_of (List.mem_of_getElem? (i := 236) rfl) rfl
set_option maxRecDepth 100000 in
theorem tw_237 : (Jvm.Cond.instanceMethod ({ cls := "TreeMatcher$Covering", name := "<init>", desc := "(LTreeMatcher$Grammar;LTreeMatcher$Forest;)V" } : Jvm.MethodName)) ∈ gw := gw_of (List.mem_of_getElem? (i := 237) rfl) rfl
set_option maxRecDepth 100000 in
theorem tw_262 : (Jvm.Cond.classLink "TreeMatcher" (34 : Nat) "TreeMatcher$Tally") ∈ gw := gw_of (List.mem_of_getElem? (i := 262) rfl) rfl
set_option maxRecDepth 100000 in
theorem tw_263 : (Jvm.Cond.instantiable "TreeMatcher$Tally" (4 : Nat)) ∈ gw := gw_of (List.mem_of_getElem? (i := 263) rfl) rfl
set_option maxRecDepth 100000 in
theorem tw_264 : (Jvm.Cond.methodLink "TreeMatcher" (36 : Nat) ({ cls := "TreeMatcher$Tally", name := "<init>", desc := "(LTreeMatcher$Grammar;)V" } : Jvm.MethodName)) ∈ gw := gw_of (List.mem_of_getElem? (i := 264) rfl) rfl
set_option maxRecDepth 100000 in
theorem tw_265 : (Jvm.Cond.instanceMethod ({ cls := "TreeMatcher$Tally", name := "<init>", desc := "(LTreeMatcher$Grammar;)V" } : Jvm.MethodName)) ∈ gw := gw_of (List.mem_of_getElem? (i := 265) rfl) rfl
abbrev b_M_init : ByteArray := prog_1_method_1_code
def y_M_init : MethodName := ⟨"TreeMatcher", "<init>", "()V"⟩
def ws_M_init : List Cond := Cond.code y_M_init b_M_init 1 (Option.none : Option Jvm.ClassFile.FieldType) :: gw
theorem cin_M_init : Cond.code y_M_init b_M_init 1 (Option.none : Option Jvm.ClassFile.FieldType) ∈ gw := tw_24
theorem d_M_init_0 : decode b_M_init 0 = .ok (.aload_n 0, 1) := by decide +kernel
theorem d_M_init_1 : decode b_M_init 1 = .ok (.invokespecial 3, 3) := by decide +kernel
theorem d_M_init_4 : decode b_M_init 4 = .ok (.aload_n 0, 1) := by decide +kernel
theorem d_M_init_5 : decode b_M_init 5 = .ok (.new 9, 3) := by decide +kernel
theorem d_M_init_8 : decode b_M_init 8 = .ok (.dup, 1) := by decide +kernel
theorem d_M_init_9 : decode b_M_init 9 = .ok (.invokespecial 11, 3) := by decide +kernel
theorem d_M_init_12 : decode b_M_init 12 = .ok (.putfield 12, 3) := by decide +kernel
theorem d_M_init_15 : decode b_M_init 15 = .ok (.aload_n 0, 1) := by decide +kernel
theorem d_M_init_16 : decode b_M_init 16 = .ok (.new 16, 3) := by decide +kernel
theorem d_M_init_19 : decode b_M_init 19 = .ok (.dup, 1) := by decide +kernel
theorem d_M_init_20 : decode b_M_init 20 = .ok (.aload_n 0, 1) := by decide +kernel
theorem d_M_init_21 : decode b_M_init 21 = .ok (.getfield 12, 3) := by decide +kernel
theorem d_M_init_24 : decode b_M_init 24 = .ok (.invokespecial 18, 3) := by decide +kernel
theorem d_M_init_27 : decode b_M_init 27 = .ok (.putfield 21, 3) := by decide +kernel
theorem d_M_init_30 : decode b_M_init 30 = .ok (.aload_n 0, 1) := by decide +kernel
theorem d_M_init_31 : decode b_M_init 31 = .ok (.new 25, 3) := by decide +kernel
theorem d_M_init_34 : decode b_M_init 34 = .ok (.dup, 1) := by decide +kernel
theorem d_M_init_35 : decode b_M_init 35 = .ok (.aload_n 0, 1) := by decide +kernel
theorem d_M_init_36 : decode b_M_init 36 = .ok (.getfield 12, 3) := by decide +kernel
theorem d_M_init_39 : decode b_M_init 39 = .ok (.aload_n 0, 1) := by decide +kernel
theorem d_M_init_40 : decode b_M_init 40 = .ok (.getfield 21, 3) := by decide +kernel
theorem d_M_init_43 : decode b_M_init 43 = .ok (.invokespecial 27, 3) := by decide +kernel
theorem d_M_init_46 : decode b_M_init 46 = .ok (.putfield 30, 3) := by decide +kernel
theorem d_M_init_49 : decode b_M_init 49 = .ok (.aload_n 0, 1) := by decide +kernel
theorem d_M_init_50 : decode b_M_init 50 = .ok (.new 34, 3) := by decide +kernel
theorem d_M_init_53 : decode b_M_init 53 = .ok (.dup, 1) := by decide +kernel
theorem d_M_init_54 : decode b_M_init 54 = .ok (.aload_n 0, 1) := by decide +kernel
theorem d_M_init_55 : decode b_M_init 55 = .ok (.getfield 12, 3) := by decide +kernel
theorem d_M_init_58 : decode b_M_init 58 = .ok (.invokespecial 36, 3) := by decide +kernel
theorem d_M_init_61 : decode b_M_init 61 = .ok (.putfield 37, 3) := by decide +kernel
theorem d_M_init_64 : decode b_M_init 64 = .ok (.return_, 1) := by decide +kernel
set_option maxHeartbeats 4000000 in
set_option maxRecDepth 100000 in
theorem c_M_init (l : Launch) (dC : Nat → ClassId) (dI : Nat → Nat → Nat) (sz : Nat) (x : Nat) : Met l y_M_init ws_M_init ({ frames := 4, cells := 53, slots := 18466, locals := 76 }) (va_Pc [.ref x] (fun U => U.heap.size = sz ∧ va_P (dC, dI) kcl [(x, .inr (0, [.null, .null, .null, .null]))] U.heap ∧ va_K (dC, dI) kcl [] U ∧ va_D (fun _ => True) [(x, .inr (0, [.null, .null, .null, .null]))] ∧ tx_C U)) (va_Qv (fun (_ : Unit) => True) (fun (_ : Unit) (t : State) => ∃ (g kq hq pq bq f vF cq y vT : Nat) (cK cH : ClassId) (zg zpq zf zvF zcq zvT : Nat → Value) (fk fh : Nat → Int32), (∀ j, j < 32 → fk j = -1) ∧ va_P (dC, dI) kcl [(x, .inr (0, [.ref g, .ref f, .ref cq, .ref y])), (g, .inr (1, [.ref kq, .int 0, .ref hq, .int 0, (zg 4), (zg 5), (zg 6), (zg 7), (zg 8), (zg 9), (zg 10), .int 0, .int 0, .ref pq])), (kq, .inl (cK, 32, .inl fk)), (hq, .inl (cH, 12, .inl fh)), (pq, .inr (6, [(zpq 0), (zpq 1), (zpq 2), (zpq 3), .ref bq, .int 16])), (f, .inr (2, [(zf 0), (zf 1), (zf 2), (zf 3), (zf 4), (zf 5), (zf 6), (zf 7), (zf 8), .int 0, (zf 10), .ref vF, (zf 12), (zf 13)])), (vF, .inr (5, [(zvF 0), (zvF 1), (zvF 2), (zvF 3), (zvF 4), (zvF 5), (zvF 6), .int 0])), (cq, .inr (3, [(zcq 0), (zcq 1), (zcq 2), (zcq 3), (zcq 4), (zcq 5), .int 0])), (y, .inr (4, [.ref g, .ref vT, .int 0, .int 0])), (vT, .inr (5, [(zvT 0), (zvT 1), (zvT 2), (zvT 3), (zvT 4), (zvT 5), (zvT 6), .int 0]))] t.heap ∧ va_K (dC, dI) kcl [(cK, .int), (cH, .int)] t ∧ va_D (va_A [(x, .inr (0, [.null, .null, .null, .null]))] sz) [(x, .inr (0, [.ref g, .ref f, .ref cq, .ref y])), (g, .inr (1, [.ref kq, .int 0, .ref hq, .int 0, (zg 4), (zg 5), (zg 6), (zg 7), (zg 8), (zg 9), (zg 10), .int 0, .int 0, .ref pq])), (kq, .inl (cK, 32, .inl fk)), (hq, .inl (cH, 12, .inl fh)), (pq, .inr (6, [(zpq 0), (zpq 1), (zpq 2), (zpq 3), .ref bq, .int 16])), (f, .inr (2, [(zf 0), (zf 1), (zf 2), (zf 3), (zf 4), (zf 5), (zf 6), (zf 7), (zf 8), .int 0, (zf 10), .ref vF, (zf 12), (zf 13)])), (vF, .inr (5, [(zvF 0), (zvF 1), (zvF 2), (zvF 3), (zvF 4), (zvF 5), (zvF 6), .int 0])), (cq, .inr (3, [(zcq 0), (zcq 1), (zcq 2), (zcq 3), (zcq 4), (zcq 5), .int 0])), (y, .inr (4, [.ref g, .ref vT, .int 0, .int 0])), (vT, .inr (5, [(zvT 0), (zvT 1), (zvT 2), (zvT 3), (zvT 4), (zvT 5), (zvT 6), .int 0]))]) (va_A [(x, .inr (0, [.null, .null, .null, .null]))] sz)) 53 18466 (va_A [(x, .inr (0, [.null, .null, .null, .null]))] sz) := by
  refine Met.ofW (cc := b_M_init) (maxL := 1) (ret := (Option.none : Option Jvm.ClassFile.FieldType)) (by decide) rfl ?_
  intro p e s m args below meth c s₁ B hml hv
  obtain ⟨rfl, hsz, hP, hK, hD0, hG⟩ := hv
  have hx := B.exec
  have hb := B.bytes
  have hr := B.returns
  have hlocks := B.notSynchronized
  have hg : ∀ w ∈ gw, w.before _ s = true := fun w h => atoms_spec (ws := ws_M_init) B.pre w (List.mem_cons_of_mem _ h)
  have hown : s.vm.findClass "TreeMatcher" = some m.cls := findClass_of_methodNamed B.named
  have hin : meth.name = "<init>" := (name_of_methodNamed B.named B.method).1
  subst hsz
  have hD := hD0.self (sz := s.heap.size)
  have hA : ∀ q : Nat, s.heap.size ≤ q → va_A [(x, .inr (0, [.null, .null, .null, .null]))] s.heap.size q := fun q h => Or.inr h
  generalize hAe : va_A [(x, .inr (0, [.null, .null, .null, .null]))] s.heap.size = A at hD hA ⊢
  have hN : tx_N s := hG.1
  have hS : va_S A s.heap s.heap [] := va_S.rf
  have hl := lv_entry ([.ref x] : List Value) (n := 1) (Nat.le_of_ble_eq_true rfl)
  rw [lg_entry_eq]
  generalize (lg_sl ([.ref x] : List Value) ++ List.replicate (1 - (lg_sl ([.ref x] : List Value)).length) Slot.unset).toArray = ls at hl ⊢
  have hl : lv_has ls 1 [(0, .ref x)] := hl
  refine lv_aload_n hx hb d_M_init_0 rfl (lv_at hl 0 rfl) ?_
  refine W.objInit hx hb hown (hg _ tw_25) (hg _ tw_26) (hg _ tw_27) rfl (by rw [hml]; exact hl.1) rfl d_M_init_1 (Nat.le_of_ble_eq_true rfl) (Nat.le_of_ble_eq_true rfl) ?_
  refine W.eq (g2 := F0 m 4 ls []) rfl ?_
  refine lv_aload_n hx hb d_M_init_4 rfl (lv_at hl 0 rfl) ?_
  refine va_new (ci := 1) (fs := [.null, .int 0, .null, .int 0, .null, .null, .null, .null, .null, .null, .null, .int 0, .int 0, .null]) (C := kR_G) (T := kT_G) (N := 14) hx hb hg kin_G kt_G kty_G hown (hg _ tw_28) (hg _ tw_29) (hg _ tw_2) hK hP hD hS hA rfl kdf_G (Nat.le_of_ble_eq_true rfl) (Nat.le_of_ble_eq_true rfl) d_M_init_5 (fun g H_1 hP hD hS => ?_)
  have hP : va_P (dC, dI) kcl [(x, .inr (0, [.null, .null, .null, .null])), (g, .inr (1, [.null, .int 0, .null, .int 0, .null, .null, .null, .null, .null, .null, .null, .int 0, .int 0, .null]))] H_1 := hP
  have hD : va_D A [(x, .inr (0, [.null, .null, .null, .null])), (g, .inr (1, [.null, .int 0, .null, .int 0, .null, .null, .null, .null, .null, .null, .null, .int 0, .int 0, .null]))] := hD
  refine lv_dup hx hb d_M_init_8 rfl ?_
  have hPc := hP.sub (ws' := [(g, .inr (1, [.null, .int 0, .null, .int 0, .null, .null, .null, .null, .null, .null, .null, .int 0, .int 0, .null]))]) [1] rfl
  have hKc := hK.sub (tys' := []) [] rfl
  have hDc := hD.sub (ws' := [(g, .inr (1, [.null, .int 0, .null, .int 0, .null, .null, .null, .null, .null, .null, .null, .int 0, .int 0, .null]))]) [1] (by decide) rfl
  have hFc := va_free (wc := [(g, .inr (1, [.null, .int 0, .null, .int 0, .null, .null, .null, .null, .null, .null, .null, .int 0, .int 0, .null]))]) hD hS hA [1] rfl
  refine va_callv (va_runI (As := []) (rest := [.ref g, .ref x]) ⟨hx, hb, hml, hown, hg⟩ (c_G_init l dC dI H_1.size g) (cwI 0 hg (gw_gi cin_G_init) rfl rfl rfl (hg _ tw_2) (hg _ tw_30) (hg _ tw_31) rfl (by decide +kernel) ⟨Nat.le_of_ble_eq_true rfl, Nat.le_of_ble_eq_true rfl⟩) ⟨fun a U g mk q => by obtain ⟨q0, q1, qP, qK, qD, qG⟩ := q; exact ⟨q0, q1, qP, va_K.moved (u := U) (U := U.calling g mk a) (Vm.Alike.refl U.vm) qK, qD, tx_N.same (U := U.calling g mk a) rfl qG⟩, fun U hU hW => ⟨rfl, by rw [hU], by rw [hU]; exact hPc, va_K.moved hW.alike hKc, hDc.weaken (fun _ _ _ _ => trivial), hN.warm hW⟩⟩ rfl rfl hl.1 rfl (lv_room (Nat.le_of_ble_eq_true rfl)) d_M_init_9 ⟨Nat.le_of_ble_eq_true rfl, Nat.le_of_ble_eq_true rfl⟩) hS (fun q _ h => hFc q h) hFc (fun u_k_2 t_k_2 H_3 l_k_2 ht hvm hw_k_2 hB hz1 hk1 hS => ?_)
  obtain ⟨kq, hq, pq, bq, cK, cH, zg, zpq, fk, fh, hfk, hP1, hK1, hD1⟩ := hB
  rw [ht] at hP1
  have hK1 := va_K.moved hvm.symm hK1
  obtain ⟨hP, hD⟩ := va_join (wr := [(x, .inr (0, [.null, .null, .null, .null]))]) (w1 := [(g, .inr (1, [.ref kq, .int 0, .ref hq, .int 0, (zg 4), (zg 5), (zg 6), (zg 7), (zg 8), (zg 9), (zg 10), .int 0, .int 0, .ref pq])), (kq, .inl (cK, 32, .inl fk)), (hq, .inl (cH, 12, .inl fh)), (pq, .inr (6, [(zpq 0), (zpq 1), (zpq 2), (zpq 3), .ref bq, .int 16]))]) hP hD [1] [0] rfl rfl (by decide) (by decide) hk1 hFc hP1 hD1
  have hK := (hK.sub (tys' := []) [] rfl).app hK1
  have hP : va_P (dC, dI) kcl [(x, .inr (0, [.null, .null, .null, .null])), (g, .inr (1, [.ref kq, .int 0, .ref hq, .int 0, (zg 4), (zg 5), (zg 6), (zg 7), (zg 8), (zg 9), (zg 10), .int 0, .int 0, .ref pq])), (kq, .inl (cK, 32, .inl fk)), (hq, .inl (cH, 12, .inl fh)), (pq, .inr (6, [(zpq 0), (zpq 1), (zpq 2), (zpq 3), .ref bq, .int 16]))] H_3 := hP
  have hD : va_D A [(x, .inr (0, [.null, .null, .null, .null])), (g, .inr (1, [.ref kq, .int 0, .ref hq, .int 0, (zg 4), (zg 5), (zg 6), (zg 7), (zg 8), (zg 9), (zg 10), .int 0, .int 0, .ref pq])), (kq, .inl (cK, 32, .inl fk)), (hq, .inl (cH, 12, .inl fh)), (pq, .inr (6, [(zpq 0), (zpq 1), (zpq 2), (zpq 3), .ref bq, .int 16]))] := hD
  have hK : va_K (dC, dI) kcl [(cK, .int), (cH, .int)] s := hK
  refine va_putF (D := (dC, dI)) (ci := 0) (v := .ref g) (ty := .object "TreeMatcher$Grammar") (C := kR_M) (T := kT_M) (N := 4) hx hb hg kin_M kt_M kty_M knm_M hown hK hP hD hS 0 rfl rfl 0 (by decide) (hg _ tw_283) (fun _ h9 => h9) rfl hin rfl (by decide +kernel) rfl rfl (Nat.le_of_ble_eq_true rfl) d_M_init_12 (fun H_4 lo_5 hP hD hS => ?_)
  have hP : va_P (dC, dI) kcl [(x, .inr (0, [.ref g, .null, .null, .null])), (g, .inr (1, [.ref kq, .int 0, .ref hq, .int 0, (zg 4), (zg 5), (zg 6), (zg 7), (zg 8), (zg 9), (zg 10), .int 0, .int 0, .ref pq])), (kq, .inl (cK, 32, .inl fk)), (hq, .inl (cH, 12, .inl fh)), (pq, .inr (6, [(zpq 0), (zpq 1), (zpq 2), (zpq 3), .ref bq, .int 16]))] H_4 := hP
  have hD : va_D A [(x, .inr (0, [.ref g, .null, .null, .null])), (g, .inr (1, [.ref kq, .int 0, .ref hq, .int 0, (zg 4), (zg 5), (zg 6), (zg 7), (zg 8), (zg 9), (zg 10), .int 0, .int 0, .ref pq])), (kq, .inl (cK, 32, .inl fk)), (hq, .inl (cH, 12, .inl fh)), (pq, .inr (6, [(zpq 0), (zpq 1), (zpq 2), (zpq 3), .ref bq, .int 16]))] := hD
  refine lv_aload_n hx hb d_M_init_15 rfl (lv_at hl 0 rfl) ?_
  refine va_new (ci := 2) (fs := [.null, .null, .null, .null, .null, .null, .null, .null, .null, .int 0, .null, .null, .null, .null]) (C := kR_F) (T := kT_F) (N := 14) hx hb hg kin_F kt_F kty_F hown (hg _ tw_124) (hg _ tw_125) (hg _ tw_6) hK hP hD hS hA rfl kdf_F (Nat.le_of_ble_eq_true rfl) (Nat.le_of_ble_eq_true rfl) d_M_init_16 (fun f H_6 hP hD hS => ?_)
  have hP : va_P (dC, dI) kcl [(x, .inr (0, [.ref g, .null, .null, .null])), (g, .inr (1, [.ref kq, .int 0, .ref hq, .int 0, (zg 4), (zg 5), (zg 6), (zg 7), (zg 8), (zg 9), (zg 10), .int 0, .int 0, .ref pq])), (kq, .inl (cK, 32, .inl fk)), (hq, .inl (cH, 12, .inl fh)), (pq, .inr (6, [(zpq 0), (zpq 1), (zpq 2), (zpq 3), .ref bq, .int 16])), (f, .inr (2, [.null, .null, .null, .null, .null, .null, .null, .null, .null, .int 0, .null, .null, .null, .null]))] H_6 := hP
  have hD : va_D A [(x, .inr (0, [.ref g, .null, .null, .null])), (g, .inr (1, [.ref kq, .int 0, .ref hq, .int 0, (zg 4), (zg 5), (zg 6), (zg 7), (zg 8), (zg 9), (zg 10), .int 0, .int 0, .ref pq])), (kq, .inl (cK, 32, .inl fk)), (hq, .inl (cH, 12, .inl fh)), (pq, .inr (6, [(zpq 0), (zpq 1), (zpq 2), (zpq 3), .ref bq, .int 16])), (f, .inr (2, [.null, .null, .null, .null, .null, .null, .null, .null, .null, .int 0, .null, .null, .null, .null]))] := hD
  refine lv_dup hx hb d_M_init_19 rfl ?_
  refine lv_aload_n hx hb d_M_init_20 rfl (lv_at hl 0 rfl) ?_
  refine va_get (D := (dC, dI)) (ci := 0) (v := .ref g) (C := kR_M) (T := kT_M) (N := 4) hx hb hg kin_M hown hK hP 0 rfl rfl 0 (by decide) (hg _ tw_283) (fun _ h9 => h9) rfl d_M_init_21 ?_
  have hPc := hP.sub (ws' := [(f, .inr (2, [.null, .null, .null, .null, .null, .null, .null, .null, .null, .int 0, .null, .null, .null, .null])), (g, .inr (1, [.ref kq, .int 0, .ref hq, .int 0, (zg 4), (zg 5), (zg 6), (zg 7), (zg 8), (zg 9), (zg 10), .int 0, .int 0, .ref pq])), (pq, .inr (6, [(zpq 0), (zpq 1), (zpq 2), (zpq 3), .ref bq, .int 16]))]) [5, 1, 4] rfl
  have hKc := hK.sub (tys' := []) [] rfl
  have hDc := hD.sub (ws' := [(f, .inr (2, [.null, .null, .null, .null, .null, .null, .null, .null, .null, .int 0, .null, .null, .null, .null])), (g, .inr (1, [.ref kq, .int 0, .ref hq, .int 0, (zg 4), (zg 5), (zg 6), (zg 7), (zg 8), (zg 9), (zg 10), .int 0, .int 0, .ref pq])), (pq, .inr (6, [(zpq 0), (zpq 1), (zpq 2), (zpq 3), .ref bq, .int 16]))]) [5, 1, 4] (by decide) rfl
  have hFc := va_free (wc := [(f, .inr (2, [.null, .null, .null, .null, .null, .null, .null, .null, .null, .int 0, .null, .null, .null, .null])), (g, .inr (1, [.ref kq, .int 0, .ref hq, .int 0, (zg 4), (zg 5), (zg 6), (zg 7), (zg 8), (zg 9), (zg 10), .int 0, .int 0, .ref pq])), (pq, .inr (6, [(zpq 0), (zpq 1), (zpq 2), (zpq 3), .ref bq, .int 16]))]) hD hS hA [5, 1, 4] rfl
  refine va_callv (va_runI (As := [.ref g]) (rest := [.ref f, .ref x]) ⟨hx, hb, hml, hown, hg⟩ (c_F_init l dC dI H_6.size f g pq bq (fun i => if i = 12 then .int 0 else if i = 11 then .int 0 else if i = 3 then .int 0 else if i = 2 then .ref hq else if i = 1 then .int 0 else if i = 0 then .ref kq else zg i) zpq) (cwI 1 hg (gw_gi cin_F_init) rfl rfl rfl (hg _ tw_6) (hg _ tw_126) (hg _ tw_127) rfl (by decide +kernel) ⟨Nat.le_of_ble_eq_true rfl, Nat.le_of_ble_eq_true rfl⟩) ⟨fun a U g mk q => by obtain ⟨q0, q1, qP, qK, qD, qG⟩ := q; exact ⟨q0, q1, qP, va_K.moved (u := U) (U := U.calling g mk a) (Vm.Alike.refl U.vm) qK, qD, tx_C.same (U := U.calling g mk a) rfl qG⟩, fun U hU hW => ⟨rfl, by rw [hU], by rw [hU]; exact hPc, va_K.moved hW.alike hKc, hDc.weaken (fun _ _ _ _ => trivial), hG.warm hW⟩⟩ rfl rfl hl.1 rfl (lv_room (Nat.le_of_ble_eq_true rfl)) d_M_init_24 ⟨Nat.le_of_ble_eq_true rfl, Nat.le_of_ble_eq_true rfl⟩) hS (fun q _ h => hFc q h) hFc (fun u_k_7 t_k_7 H_8 l_k_7 ht hvm hw_k_7 hB hz1 hk1 hS => ?_)
  obtain ⟨vF, zf, zvF, hP1, hK1, hD1⟩ := hB
  rw [ht] at hP1
  have hK1 := va_K.moved hvm.symm hK1
  obtain ⟨hP, hD⟩ := va_join (wr := [(x, .inr (0, [.ref g, .null, .null, .null])), (kq, .inl (cK, 32, .inl fk)), (hq, .inl (cH, 12, .inl fh))]) (w1 := [(f, .inr (2, [(zf 0), (zf 1), (zf 2), (zf 3), (zf 4), (zf 5), (zf 6), (zf 7), (zf 8), .int 0, (zf 10), .ref vF, (zf 12), (zf 13)])), (vF, .inr (5, [(zvF 0), (zvF 1), (zvF 2), (zvF 3), (zvF 4), (zvF 5), (zvF 6), .int 0])), (g, .inr (1, [.ref kq, .int 0, .ref hq, .int 0, (zg 4), (zg 5), (zg 6), (zg 7), (zg 8), (zg 9), (zg 10), .int 0, .int 0, .ref pq])), (pq, .inr (6, [(zpq 0), (zpq 1), (zpq 2), (zpq 3), .ref bq, .int 16]))]) hP hD [5, 1, 4] [0, 2, 3] rfl rfl (by decide) (by decide) hk1 hFc hP1 hD1
  have hK := (hK.sub (tys' := [(cK, .int), (cH, .int)]) [0, 1] rfl).app hK1
  have hP : va_P (dC, dI) kcl [(x, .inr (0, [.ref g, .null, .null, .null])), (kq, .inl (cK, 32, .inl fk)), (hq, .inl (cH, 12, .inl fh)), (f, .inr (2, [(zf 0), (zf 1), (zf 2), (zf 3), (zf 4), (zf 5), (zf 6), (zf 7), (zf 8), .int 0, (zf 10), .ref vF, (zf 12), (zf 13)])), (vF, .inr (5, [(zvF 0), (zvF 1), (zvF 2), (zvF 3), (zvF 4), (zvF 5), (zvF 6), .int 0])), (g, .inr (1, [.ref kq, .int 0, .ref hq, .int 0, (zg 4), (zg 5), (zg 6), (zg 7), (zg 8), (zg 9), (zg 10), .int 0, .int 0, .ref pq])), (pq, .inr (6, [(zpq 0), (zpq 1), (zpq 2), (zpq 3), .ref bq, .int 16]))] H_8 := hP
  have hD : va_D A [(x, .inr (0, [.ref g, .null, .null, .null])), (kq, .inl (cK, 32, .inl fk)), (hq, .inl (cH, 12, .inl fh)), (f, .inr (2, [(zf 0), (zf 1), (zf 2), (zf 3), (zf 4), (zf 5), (zf 6), (zf 7), (zf 8), .int 0, (zf 10), .ref vF, (zf 12), (zf 13)])), (vF, .inr (5, [(zvF 0), (zvF 1), (zvF 2), (zvF 3), (zvF 4), (zvF 5), (zvF 6), .int 0])), (g, .inr (1, [.ref kq, .int 0, .ref hq, .int 0, (zg 4), (zg 5), (zg 6), (zg 7), (zg 8), (zg 9), (zg 10), .int 0, .int 0, .ref pq])), (pq, .inr (6, [(zpq 0), (zpq 1), (zpq 2), (zpq 3), .ref bq, .int 16]))] := hD
  have hK : va_K (dC, dI) kcl [(cK, .int), (cH, .int)] s := hK
  refine va_putF (D := (dC, dI)) (ci := 0) (v := .ref f) (ty := .object "TreeMatcher$Forest") (C := kR_M) (T := kT_M) (N := 4) hx hb hg kin_M kt_M kty_M knm_M hown hK hP hD hS 0 rfl rfl 1 (by decide) (hg _ tw_284) (fun _ h9 => h9) rfl hin rfl (by decide +kernel) rfl rfl (Nat.le_of_ble_eq_true rfl) d_M_init_27 (fun H_9 lo_10 hP hD hS => ?_)
  have hP : va_P (dC, dI) kcl [(x, .inr (0, [.ref g, .ref f, .null, .null])), (kq, .inl (cK, 32, .inl fk)), (hq, .inl (cH, 12, .inl fh)), (f, .inr (2, [(zf 0), (zf 1), (zf 2), (zf 3), (zf 4), (zf 5), (zf 6), (zf 7), (zf 8), .int 0, (zf 10), .ref vF, (zf 12), (zf 13)])), (vF, .inr (5, [(zvF 0), (zvF 1), (zvF 2), (zvF 3), (zvF 4), (zvF 5), (zvF 6), .int 0])), (g, .inr (1, [.ref kq, .int 0, .ref hq, .int 0, (zg 4), (zg 5), (zg 6), (zg 7), (zg 8), (zg 9), (zg 10), .int 0, .int 0, .ref pq])), (pq, .inr (6, [(zpq 0), (zpq 1), (zpq 2), (zpq 3), .ref bq, .int 16]))] H_9 := hP
  have hD : va_D A [(x, .inr (0, [.ref g, .ref f, .null, .null])), (kq, .inl (cK, 32, .inl fk)), (hq, .inl (cH, 12, .inl fh)), (f, .inr (2, [(zf 0), (zf 1), (zf 2), (zf 3), (zf 4), (zf 5), (zf 6), (zf 7), (zf 8), .int 0, (zf 10), .ref vF, (zf 12), (zf 13)])), (vF, .inr (5, [(zvF 0), (zvF 1), (zvF 2), (zvF 3), (zvF 4), (zvF 5), (zvF 6), .int 0])), (g, .inr (1, [.ref kq, .int 0, .ref hq, .int 0, (zg 4), (zg 5), (zg 6), (zg 7), (zg 8), (zg 9), (zg 10), .int 0, .int 0, .ref pq])), (pq, .inr (6, [(zpq 0), (zpq 1), (zpq 2), (zpq 3), .ref bq, .int 16]))] := hD
  refine lv_aload_n hx hb d_M_init_30 rfl (lv_at hl 0 rfl) ?_
  refine va_new (ci := 3) (fs := [.null, .null, .null, .null, .null, .int 0, .int 0]) (C := kR_C) (T := kT_C) (N := 7) hx hb hg kin_C kt_C kty_C hown (hg _ tw_234) (hg _ tw_235) (hg _ tw_9) hK hP hD hS hA rfl kdf_C (Nat.le_of_ble_eq_true rfl) (Nat.le_of_ble_eq_true rfl) d_M_init_31 (fun cq H_11 hP hD hS => ?_)
  have hP : va_P (dC, dI) kcl [(x, .inr (0, [.ref g, .ref f, .null, .null])), (kq, .inl (cK, 32, .inl fk)), (hq, .inl (cH, 12, .inl fh)), (f, .inr (2, [(zf 0), (zf 1), (zf 2), (zf 3), (zf 4), (zf 5), (zf 6), (zf 7), (zf 8), .int 0, (zf 10), .ref vF, (zf 12), (zf 13)])), (vF, .inr (5, [(zvF 0), (zvF 1), (zvF 2), (zvF 3), (zvF 4), (zvF 5), (zvF 6), .int 0])), (g, .inr (1, [.ref kq, .int 0, .ref hq, .int 0, (zg 4), (zg 5), (zg 6), (zg 7), (zg 8), (zg 9), (zg 10), .int 0, .int 0, .ref pq])), (pq, .inr (6, [(zpq 0), (zpq 1), (zpq 2), (zpq 3), .ref bq, .int 16])), (cq, .inr (3, [.null, .null, .null, .null, .null, .int 0, .int 0]))] H_11 := hP
  have hD : va_D A [(x, .inr (0, [.ref g, .ref f, .null, .null])), (kq, .inl (cK, 32, .inl fk)), (hq, .inl (cH, 12, .inl fh)), (f, .inr (2, [(zf 0), (zf 1), (zf 2), (zf 3), (zf 4), (zf 5), (zf 6), (zf 7), (zf 8), .int 0, (zf 10), .ref vF, (zf 12), (zf 13)])), (vF, .inr (5, [(zvF 0), (zvF 1), (zvF 2), (zvF 3), (zvF 4), (zvF 5), (zvF 6), .int 0])), (g, .inr (1, [.ref kq, .int 0, .ref hq, .int 0, (zg 4), (zg 5), (zg 6), (zg 7), (zg 8), (zg 9), (zg 10), .int 0, .int 0, .ref pq])), (pq, .inr (6, [(zpq 0), (zpq 1), (zpq 2), (zpq 3), .ref bq, .int 16])), (cq, .inr (3, [.null, .null, .null, .null, .null, .int 0, .int 0]))] := hD
  refine lv_dup hx hb d_M_init_34 rfl ?_
  refine lv_aload_n hx hb d_M_init_35 rfl (lv_at hl 0 rfl) ?_
  refine va_get (D := (dC, dI)) (ci := 0) (v := .ref g) (C := kR_M) (T := kT_M) (N := 4) hx hb hg kin_M hown hK hP 0 rfl rfl 0 (by decide) (hg _ tw_283) (fun _ h9 => h9) rfl d_M_init_36 ?_
  refine lv_aload_n hx hb d_M_init_39 rfl (lv_at hl 0 rfl) ?_
  refine va_get (D := (dC, dI)) (ci := 0) (v := .ref f) (C := kR_M) (T := kT_M) (N := 4) hx hb hg kin_M hown hK hP 0 rfl rfl 1 (by decide) (hg _ tw_284) (fun _ h9 => h9) rfl d_M_init_40 ?_
  have hPc := hP.sub (ws' := [(cq, .inr (3, [.null, .null, .null, .null, .null, .int 0, .int 0]))]) [7] rfl
  have hKc := hK.sub (tys' := []) [] rfl
  have hDc := hD.sub (ws' := [(cq, .inr (3, [.null, .null, .null, .null, .null, .int 0, .int 0]))]) [7] (by decide) rfl
  have hFc := va_free (wc := [(cq, .inr (3, [.null, .null, .null, .null, .null, .int 0, .int 0]))]) hD hS hA [7] rfl
  refine va_callv (va_runI (As := [.ref g, .ref f]) (rest := [.ref cq, .ref x]) ⟨hx, hb, hml, hown, hg⟩ (c_C_init l dC dI H_11.size cq g f) (cwI 2 hg (gw_gi cin_C_init) rfl rfl rfl (hg _ tw_9) (hg _ tw_236) (hg _ tw_237) rfl (by decide +kernel) ⟨Nat.le_of_ble_eq_true rfl, Nat.le_of_ble_eq_true rfl⟩) ⟨fun a U g mk q => by obtain ⟨q0, q1, qP, qK, qD⟩ := q; exact ⟨q0, q1, qP, va_K.moved (u := U) (U := U.calling g mk a) (Vm.Alike.refl U.vm) qK, qD⟩, fun U hU hW => ⟨rfl, by rw [hU], by rw [hU]; exact hPc, va_K.moved hW.alike hKc, hDc.weaken (fun _ _ _ _ => trivial)⟩⟩ rfl rfl hl.1 rfl (lv_room (Nat.le_of_ble_eq_true rfl)) d_M_init_43 ⟨Nat.le_of_ble_eq_true rfl, Nat.le_of_ble_eq_true rfl⟩) hS (fun q _ h => hFc q h) hFc (fun u_k_12 t_k_12 H_13 l_k_12 ht hvm hw_k_12 hB hz1 hk1 hS => ?_)
  obtain ⟨zcq, hP1, hK1, hD1⟩ := hB
  rw [ht] at hP1
  have hK1 := va_K.moved hvm.symm hK1
  obtain ⟨hP, hD⟩ := va_join (wr := [(x, .inr (0, [.ref g, .ref f, .null, .null])), (kq, .inl (cK, 32, .inl fk)), (hq, .inl (cH, 12, .inl fh)), (f, .inr (2, [(zf 0), (zf 1), (zf 2), (zf 3), (zf 4), (zf 5), (zf 6), (zf 7), (zf 8), .int 0, (zf 10), .ref vF, (zf 12), (zf 13)])), (vF, .inr (5, [(zvF 0), (zvF 1), (zvF 2), (zvF 3), (zvF 4), (zvF 5), (zvF 6), .int 0])), (g, .inr (1, [.ref kq, .int 0, .ref hq, .int 0, (zg 4), (zg 5), (zg 6), (zg 7), (zg 8), (zg 9), (zg 10), .int 0, .int 0, .ref pq])), (pq, .inr (6, [(zpq 0), (zpq 1), (zpq 2), (zpq 3), .ref bq, .int 16]))]) (w1 := [(cq, .inr (3, [(zcq 0), (zcq 1), (zcq 2), (zcq 3), (zcq 4), (zcq 5), .int 0]))]) hP hD [7] [0, 1, 2, 3, 4, 5, 6] rfl rfl (by decide) (by decide) hk1 hFc hP1 hD1
  have hK := (hK.sub (tys' := [(cK, .int), (cH, .int)]) [0, 1] rfl).app hK1
  have hP : va_P (dC, dI) kcl [(x, .inr (0, [.ref g, .ref f, .null, .null])), (kq, .inl (cK, 32, .inl fk)), (hq, .inl (cH, 12, .inl fh)), (f, .inr (2, [(zf 0), (zf 1), (zf 2), (zf 3), (zf 4), (zf 5), (zf 6), (zf 7), (zf 8), .int 0, (zf 10), .ref vF, (zf 12), (zf 13)])), (vF, .inr (5, [(zvF 0), (zvF 1), (zvF 2), (zvF 3), (zvF 4), (zvF 5), (zvF 6), .int 0])), (g, .inr (1, [.ref kq, .int 0, .ref hq, .int 0, (zg 4), (zg 5), (zg 6), (zg 7), (zg 8), (zg 9), (zg 10), .int 0, .int 0, .ref pq])), (pq, .inr (6, [(zpq 0), (zpq 1), (zpq 2), (zpq 3), .ref bq, .int 16])), (cq, .inr (3, [(zcq 0), (zcq 1), (zcq 2), (zcq 3), (zcq 4), (zcq 5), .int 0]))] H_13 := hP
  have hD : va_D A [(x, .inr (0, [.ref g, .ref f, .null, .null])), (kq, .inl (cK, 32, .inl fk)), (hq, .inl (cH, 12, .inl fh)), (f, .inr (2, [(zf 0), (zf 1), (zf 2), (zf 3), (zf 4), (zf 5), (zf 6), (zf 7), (zf 8), .int 0, (zf 10), .ref vF, (zf 12), (zf 13)])), (vF, .inr (5, [(zvF 0), (zvF 1), (zvF 2), (zvF 3), (zvF 4), (zvF 5), (zvF 6), .int 0])), (g, .inr (1, [.ref kq, .int 0, .ref hq, .int 0, (zg 4), (zg 5), (zg 6), (zg 7), (zg 8), (zg 9), (zg 10), .int 0, .int 0, .ref pq])), (pq, .inr (6, [(zpq 0), (zpq 1), (zpq 2), (zpq 3), .ref bq, .int 16])), (cq, .inr (3, [(zcq 0), (zcq 1), (zcq 2), (zcq 3), (zcq 4), (zcq 5), .int 0]))] := hD
  have hK : va_K (dC, dI) kcl [(cK, .int), (cH, .int)] s := hK
  refine va_putF (D := (dC, dI)) (ci := 0) (v := .ref cq) (ty := .object "TreeMatcher$Covering") (C := kR_M) (T := kT_M) (N := 4) hx hb hg kin_M kt_M kty_M knm_M hown hK hP hD hS 0 rfl rfl 2 (by decide) (hg _ tw_285) (fun _ h9 => h9) rfl hin rfl (by decide +kernel) rfl rfl (Nat.le_of_ble_eq_true rfl) d_M_init_46 (fun H_14 lo_15 hP hD hS => ?_)
  have hP : va_P (dC, dI) kcl [(x, .inr (0, [.ref g, .ref f, .ref cq, .null])), (kq, .inl (cK, 32, .inl fk)), (hq, .inl (cH, 12, .inl fh)), (f, .inr (2, [(zf 0), (zf 1), (zf 2), (zf 3), (zf 4), (zf 5), (zf 6), (zf 7), (zf 8), .int 0, (zf 10), .ref vF, (zf 12), (zf 13)])), (vF, .inr (5, [(zvF 0), (zvF 1), (zvF 2), (zvF 3), (zvF 4), (zvF 5), (zvF 6), .int 0])), (g, .inr (1, [.ref kq, .int 0, .ref hq, .int 0, (zg 4), (zg 5), (zg 6), (zg 7), (zg 8), (zg 9), (zg 10), .int 0, .int 0, .ref pq])), (pq, .inr (6, [(zpq 0), (zpq 1), (zpq 2), (zpq 3), .ref bq, .int 16])), (cq, .inr (3, [(zcq 0), (zcq 1), (zcq 2), (zcq 3), (zcq 4), (zcq 5), .int 0]))] H_14 := hP
  have hD : va_D A [(x, .inr (0, [.ref g, .ref f, .ref cq, .null])), (kq, .inl (cK, 32, .inl fk)), (hq, .inl (cH, 12, .inl fh)), (f, .inr (2, [(zf 0), (zf 1), (zf 2), (zf 3), (zf 4), (zf 5), (zf 6), (zf 7), (zf 8), .int 0, (zf 10), .ref vF, (zf 12), (zf 13)])), (vF, .inr (5, [(zvF 0), (zvF 1), (zvF 2), (zvF 3), (zvF 4), (zvF 5), (zvF 6), .int 0])), (g, .inr (1, [.ref kq, .int 0, .ref hq, .int 0, (zg 4), (zg 5), (zg 6), (zg 7), (zg 8), (zg 9), (zg 10), .int 0, .int 0, .ref pq])), (pq, .inr (6, [(zpq 0), (zpq 1), (zpq 2), (zpq 3), .ref bq, .int 16])), (cq, .inr (3, [(zcq 0), (zcq 1), (zcq 2), (zcq 3), (zcq 4), (zcq 5), .int 0]))] := hD
  refine lv_aload_n hx hb d_M_init_49 rfl (lv_at hl 0 rfl) ?_
  refine va_new (ci := 4) (fs := [.null, .null, .int 0, .int 0]) (C := kR_Y) (T := kT_Y) (N := 4) hx hb hg kin_Y kt_Y kty_Y hown (hg _ tw_262) (hg _ tw_263) (hg _ tw_10) hK hP hD hS hA rfl kdf_Y (Nat.le_of_ble_eq_true rfl) (Nat.le_of_ble_eq_true rfl) d_M_init_50 (fun y H_16 hP hD hS => ?_)
  have hP : va_P (dC, dI) kcl [(x, .inr (0, [.ref g, .ref f, .ref cq, .null])), (kq, .inl (cK, 32, .inl fk)), (hq, .inl (cH, 12, .inl fh)), (f, .inr (2, [(zf 0), (zf 1), (zf 2), (zf 3), (zf 4), (zf 5), (zf 6), (zf 7), (zf 8), .int 0, (zf 10), .ref vF, (zf 12), (zf 13)])), (vF, .inr (5, [(zvF 0), (zvF 1), (zvF 2), (zvF 3), (zvF 4), (zvF 5), (zvF 6), .int 0])), (g, .inr (1, [.ref kq, .int 0, .ref hq, .int 0, (zg 4), (zg 5), (zg 6), (zg 7), (zg 8), (zg 9), (zg 10), .int 0, .int 0, .ref pq])), (pq, .inr (6, [(zpq 0), (zpq 1), (zpq 2), (zpq 3), .ref bq, .int 16])), (cq, .inr (3, [(zcq 0), (zcq 1), (zcq 2), (zcq 3), (zcq 4), (zcq 5), .int 0])), (y, .inr (4, [.null, .null, .int 0, .int 0]))] H_16 := hP
  have hD : va_D A [(x, .inr (0, [.ref g, .ref f, .ref cq, .null])), (kq, .inl (cK, 32, .inl fk)), (hq, .inl (cH, 12, .inl fh)), (f, .inr (2, [(zf 0), (zf 1), (zf 2), (zf 3), (zf 4), (zf 5), (zf 6), (zf 7), (zf 8), .int 0, (zf 10), .ref vF, (zf 12), (zf 13)])), (vF, .inr (5, [(zvF 0), (zvF 1), (zvF 2), (zvF 3), (zvF 4), (zvF 5), (zvF 6), .int 0])), (g, .inr (1, [.ref kq, .int 0, .ref hq, .int 0, (zg 4), (zg 5), (zg 6), (zg 7), (zg 8), (zg 9), (zg 10), .int 0, .int 0, .ref pq])), (pq, .inr (6, [(zpq 0), (zpq 1), (zpq 2), (zpq 3), .ref bq, .int 16])), (cq, .inr (3, [(zcq 0), (zcq 1), (zcq 2), (zcq 3), (zcq 4), (zcq 5), .int 0])), (y, .inr (4, [.null, .null, .int 0, .int 0]))] := hD
  refine lv_dup hx hb d_M_init_53 rfl ?_
  refine lv_aload_n hx hb d_M_init_54 rfl (lv_at hl 0 rfl) ?_
  refine va_get (D := (dC, dI)) (ci := 0) (v := .ref g) (C := kR_M) (T := kT_M) (N := 4) hx hb hg kin_M hown hK hP 0 rfl rfl 0 (by decide) (hg _ tw_283) (fun _ h9 => h9) rfl d_M_init_55 ?_
  have hPc := hP.sub (ws' := [(y, .inr (4, [.null, .null, .int 0, .int 0])), (g, .inr (1, [.ref kq, .int 0, .ref hq, .int 0, (zg 4), (zg 5), (zg 6), (zg 7), (zg 8), (zg 9), (zg 10), .int 0, .int 0, .ref pq])), (pq, .inr (6, [(zpq 0), (zpq 1), (zpq 2), (zpq 3), .ref bq, .int 16]))]) [8, 5, 6] rfl
  have hKc := hK.sub (tys' := []) [] rfl
  have hDc := hD.sub (ws' := [(y, .inr (4, [.null, .null, .int 0, .int 0])), (g, .inr (1, [.ref kq, .int 0, .ref hq, .int 0, (zg 4), (zg 5), (zg 6), (zg 7), (zg 8), (zg 9), (zg 10), .int 0, .int 0, .ref pq])), (pq, .inr (6, [(zpq 0), (zpq 1), (zpq 2), (zpq 3), .ref bq, .int 16]))]) [8, 5, 6] (by decide) rfl
  have hFc := va_free (wc := [(y, .inr (4, [.null, .null, .int 0, .int 0])), (g, .inr (1, [.ref kq, .int 0, .ref hq, .int 0, (zg 4), (zg 5), (zg 6), (zg 7), (zg 8), (zg 9), (zg 10), .int 0, .int 0, .ref pq])), (pq, .inr (6, [(zpq 0), (zpq 1), (zpq 2), (zpq 3), .ref bq, .int 16]))]) hD hS hA [8, 5, 6] rfl
  refine va_callv (va_runI (As := [.ref g]) (rest := [.ref y, .ref x]) ⟨hx, hb, hml, hown, hg⟩ (c_Y_init l dC dI H_16.size y g pq bq (fun i => if i = 12 then .int 0 else if i = 11 then .int 0 else if i = 3 then .int 0 else if i = 2 then .ref hq else if i = 1 then .int 0 else if i = 0 then .ref kq else zg i) zpq) (cwI 1 hg (gw_gi cin_Y_init) rfl rfl rfl (hg _ tw_10) (hg _ tw_264) (hg _ tw_265) rfl (by decide +kernel) ⟨Nat.le_of_ble_eq_true rfl, Nat.le_of_ble_eq_true rfl⟩) ⟨fun a U g mk q => by obtain ⟨q0, q1, qP, qK, qD, qG⟩ := q; exact ⟨q0, q1, qP, va_K.moved (u := U) (U := U.calling g mk a) (Vm.Alike.refl U.vm) qK, qD, tx_C.same (U := U.calling g mk a) rfl qG⟩, fun U hU hW => ⟨rfl, by rw [hU], by rw [hU]; exact hPc, va_K.moved hW.alike hKc, hDc.weaken (fun _ _ _ _ => trivial), hG.warm hW⟩⟩ rfl rfl hl.1 rfl (lv_room (Nat.le_of_ble_eq_true rfl)) d_M_init_58 ⟨Nat.le_of_ble_eq_true rfl, Nat.le_of_ble_eq_true rfl⟩) hS (fun q _ h => hFc q h) hFc (fun u_k_17 t_k_17 H_18 l_k_17 ht hvm hw_k_17 hB hz1 hk1 hS => ?_)
  obtain ⟨vT, zvT, hP1, hK1, hD1⟩ := hB
  rw [ht] at hP1
  have hK1 := va_K.moved hvm.symm hK1
  obtain ⟨hP, hD⟩ := va_join (wr := [(x, .inr (0, [.ref g, .ref f, .ref cq, .null])), (kq, .inl (cK, 32, .inl fk)), (hq, .inl (cH, 12, .inl fh)), (f, .inr (2, [(zf 0), (zf 1), (zf 2), (zf 3), (zf 4), (zf 5), (zf 6), (zf 7), (zf 8), .int 0, (zf 10), .ref vF, (zf 12), (zf 13)])), (vF, .inr (5, [(zvF 0), (zvF 1), (zvF 2), (zvF 3), (zvF 4), (zvF 5), (zvF 6), .int 0])), (cq, .inr (3, [(zcq 0), (zcq 1), (zcq 2), (zcq 3), (zcq 4), (zcq 5), .int 0]))]) (w1 := [(y, .inr (4, [.ref g, .ref vT, .int 0, .int 0])), (vT, .inr (5, [(zvT 0), (zvT 1), (zvT 2), (zvT 3), (zvT 4), (zvT 5), (zvT 6), .int 0])), (g, .inr (1, [.ref kq, .int 0, .ref hq, .int 0, (zg 4), (zg 5), (zg 6), (zg 7), (zg 8), (zg 9), (zg 10), .int 0, .int 0, .ref pq])), (pq, .inr (6, [(zpq 0), (zpq 1), (zpq 2), (zpq 3), .ref bq, .int 16]))]) hP hD [8, 5, 6] [0, 1, 2, 3, 4, 7] rfl rfl (by decide) (by decide) hk1 hFc hP1 hD1
  have hK := (hK.sub (tys' := [(cK, .int), (cH, .int)]) [0, 1] rfl).app hK1
  have hP : va_P (dC, dI) kcl [(x, .inr (0, [.ref g, .ref f, .ref cq, .null])), (kq, .inl (cK, 32, .inl fk)), (hq, .inl (cH, 12, .inl fh)), (f, .inr (2, [(zf 0), (zf 1), (zf 2), (zf 3), (zf 4), (zf 5), (zf 6), (zf 7), (zf 8), .int 0, (zf 10), .ref vF, (zf 12), (zf 13)])), (vF, .inr (5, [(zvF 0), (zvF 1), (zvF 2), (zvF 3), (zvF 4), (zvF 5), (zvF 6), .int 0])), (cq, .inr (3, [(zcq 0), (zcq 1), (zcq 2), (zcq 3), (zcq 4), (zcq 5), .int 0])), (y, .inr (4, [.ref g, .ref vT, .int 0, .int 0])), (vT, .inr (5, [(zvT 0), (zvT 1), (zvT 2), (zvT 3), (zvT 4), (zvT 5), (zvT 6), .int 0])), (g, .inr (1, [.ref kq, .int 0, .ref hq, .int 0, (zg 4), (zg 5), (zg 6), (zg 7), (zg 8), (zg 9), (zg 10), .int 0, .int 0, .ref pq])), (pq, .inr (6, [(zpq 0), (zpq 1), (zpq 2), (zpq 3), .ref bq, .int 16]))] H_18 := hP
  have hD : va_D A [(x, .inr (0, [.ref g, .ref f, .ref cq, .null])), (kq, .inl (cK, 32, .inl fk)), (hq, .inl (cH, 12, .inl fh)), (f, .inr (2, [(zf 0), (zf 1), (zf 2), (zf 3), (zf 4), (zf 5), (zf 6), (zf 7), (zf 8), .int 0, (zf 10), .ref vF, (zf 12), (zf 13)])), (vF, .inr (5, [(zvF 0), (zvF 1), (zvF 2), (zvF 3), (zvF 4), (zvF 5), (zvF 6), .int 0])), (cq, .inr (3, [(zcq 0), (zcq 1), (zcq 2), (zcq 3), (zcq 4), (zcq 5), .int 0])), (y, .inr (4, [.ref g, .ref vT, .int 0, .int 0])), (vT, .inr (5, [(zvT 0), (zvT 1), (zvT 2), (zvT 3), (zvT 4), (zvT 5), (zvT 6), .int 0])), (g, .inr (1, [.ref kq, .int 0, .ref hq, .int 0, (zg 4), (zg 5), (zg 6), (zg 7), (zg 8), (zg 9), (zg 10), .int 0, .int 0, .ref pq])), (pq, .inr (6, [(zpq 0), (zpq 1), (zpq 2), (zpq 3), .ref bq, .int 16]))] := hD
  have hK : va_K (dC, dI) kcl [(cK, .int), (cH, .int)] s := hK
  refine va_putF (D := (dC, dI)) (ci := 0) (v := .ref y) (ty := .object "TreeMatcher$Tally") (C := kR_M) (T := kT_M) (N := 4) hx hb hg kin_M kt_M kty_M knm_M hown hK hP hD hS 0 rfl rfl 3 (by decide) (hg _ tw_286) (fun _ h9 => h9) rfl hin rfl (by decide +kernel) rfl rfl (Nat.le_of_ble_eq_true rfl) d_M_init_61 (fun H_19 lo_20 hP hD hS => ?_)
  have hP : va_P (dC, dI) kcl [(x, .inr (0, [.ref g, .ref f, .ref cq, .ref y])), (kq, .inl (cK, 32, .inl fk)), (hq, .inl (cH, 12, .inl fh)), (f, .inr (2, [(zf 0), (zf 1), (zf 2), (zf 3), (zf 4), (zf 5), (zf 6), (zf 7), (zf 8), .int 0, (zf 10), .ref vF, (zf 12), (zf 13)])), (vF, .inr (5, [(zvF 0), (zvF 1), (zvF 2), (zvF 3), (zvF 4), (zvF 5), (zvF 6), .int 0])), (cq, .inr (3, [(zcq 0), (zcq 1), (zcq 2), (zcq 3), (zcq 4), (zcq 5), .int 0])), (y, .inr (4, [.ref g, .ref vT, .int 0, .int 0])), (vT, .inr (5, [(zvT 0), (zvT 1), (zvT 2), (zvT 3), (zvT 4), (zvT 5), (zvT 6), .int 0])), (g, .inr (1, [.ref kq, .int 0, .ref hq, .int 0, (zg 4), (zg 5), (zg 6), (zg 7), (zg 8), (zg 9), (zg 10), .int 0, .int 0, .ref pq])), (pq, .inr (6, [(zpq 0), (zpq 1), (zpq 2), (zpq 3), .ref bq, .int 16]))] H_19 := hP
  have hD : va_D A [(x, .inr (0, [.ref g, .ref f, .ref cq, .ref y])), (kq, .inl (cK, 32, .inl fk)), (hq, .inl (cH, 12, .inl fh)), (f, .inr (2, [(zf 0), (zf 1), (zf 2), (zf 3), (zf 4), (zf 5), (zf 6), (zf 7), (zf 8), .int 0, (zf 10), .ref vF, (zf 12), (zf 13)])), (vF, .inr (5, [(zvF 0), (zvF 1), (zvF 2), (zvF 3), (zvF 4), (zvF 5), (zvF 6), .int 0])), (cq, .inr (3, [(zcq 0), (zcq 1), (zcq 2), (zcq 3), (zcq 4), (zcq 5), .int 0])), (y, .inr (4, [.ref g, .ref vT, .int 0, .int 0])), (vT, .inr (5, [(zvT 0), (zvT 1), (zvT 2), (zvT 3), (zvT 4), (zvT 5), (zvT 6), .int 0])), (g, .inr (1, [.ref kq, .int 0, .ref hq, .int 0, (zg 4), (zg 5), (zg 6), (zg 7), (zg 8), (zg 9), (zg 10), .int 0, .int 0, .ref pq])), (pq, .inr (6, [(zpq 0), (zpq 1), (zpq 2), (zpq 3), .ref bq, .int 16]))] := hD
  have hP9 := hP.sub (ws' := [(x, .inr (0, [.ref g, .ref f, .ref cq, .ref y])), (g, .inr (1, [.ref kq, .int 0, .ref hq, .int 0, (zg 4), (zg 5), (zg 6), (zg 7), (zg 8), (zg 9), (zg 10), .int 0, .int 0, .ref pq])), (kq, .inl (cK, 32, .inl fk)), (hq, .inl (cH, 12, .inl fh)), (pq, .inr (6, [(zpq 0), (zpq 1), (zpq 2), (zpq 3), .ref bq, .int 16])), (f, .inr (2, [(zf 0), (zf 1), (zf 2), (zf 3), (zf 4), (zf 5), (zf 6), (zf 7), (zf 8), .int 0, (zf 10), .ref vF, (zf 12), (zf 13)])), (vF, .inr (5, [(zvF 0), (zvF 1), (zvF 2), (zvF 3), (zvF 4), (zvF 5), (zvF 6), .int 0])), (cq, .inr (3, [(zcq 0), (zcq 1), (zcq 2), (zcq 3), (zcq 4), (zcq 5), .int 0])), (y, .inr (4, [.ref g, .ref vT, .int 0, .int 0])), (vT, .inr (5, [(zvT 0), (zvT 1), (zvT 2), (zvT 3), (zvT 4), (zvT 5), (zvT 6), .int 0]))]) [0, 8, 1, 2, 9, 3, 4, 5, 6, 7] rfl
  have hD9 := hD.sub (ws' := [(x, .inr (0, [.ref g, .ref f, .ref cq, .ref y])), (g, .inr (1, [.ref kq, .int 0, .ref hq, .int 0, (zg 4), (zg 5), (zg 6), (zg 7), (zg 8), (zg 9), (zg 10), .int 0, .int 0, .ref pq])), (kq, .inl (cK, 32, .inl fk)), (hq, .inl (cH, 12, .inl fh)), (pq, .inr (6, [(zpq 0), (zpq 1), (zpq 2), (zpq 3), .ref bq, .int 16])), (f, .inr (2, [(zf 0), (zf 1), (zf 2), (zf 3), (zf 4), (zf 5), (zf 6), (zf 7), (zf 8), .int 0, (zf 10), .ref vF, (zf 12), (zf 13)])), (vF, .inr (5, [(zvF 0), (zvF 1), (zvF 2), (zvF 3), (zvF 4), (zvF 5), (zvF 6), .int 0])), (cq, .inr (3, [(zcq 0), (zcq 1), (zcq 2), (zcq 3), (zcq 4), (zcq 5), .int 0])), (y, .inr (4, [.ref g, .ref vT, .int 0, .int 0])), (vT, .inr (5, [(zvT 0), (zvT 1), (zvT 2), (zvT 3), (zvT 4), (zvT 5), (zvT 6), .int 0]))]) [0, 8, 1, 2, 9, 3, 4, 5, 6, 7] (by decide) rfl
  have hK9 := hK.sub (tys' := [(cK, .int), (cH, .int)]) [0, 1] rfl
  exact W.vret hx hb hr (fun t ht hW => ⟨⟨(), rfl, trivial, ⟨g, kq, hq, pq, bq, f, vF, cq, y, vT, cK, cH, zg, zpq, zf, zvF, zcq, zvT, fk, fh, hfk, by rw [ht]; exact hP9, va_K.moved hW.alike hK9, hD9⟩⟩, hS.F ht⟩) hS.2.2 d_M_init_64
end
section
set_option maxRecDepth 100000 in
theorem tw_11 : (Jvm.Cond.initialized "TreeMatcherModel") ∈ gw := gw_of (List.mem_of_getElem? (i := 11) rfl) rfl
set_option maxRecDepth 100000 in
theorem tw_818 : (Jvm.Cond.fieldLink "TreeMatcherModel" (7 : Nat) "TreeMatcherModel" "kids" "[I") ∈ gw := gw_of (List.mem_of_getElem? (i := 818) rfl) rfl
set_option maxRecDepth 100000 in
theorem tw_819 : (Jvm.Cond.fieldLink "TreeMatcherModel" (127 : Nat) "TreeMatcherModel" "operators" "I") ∈ gw := gw_of (List.mem_of_getElem? (i := 819) rfl) rfl
set_option maxRecDepth 100000 in
theorem tw_820 : (Jvm.Cond.fieldLink "TreeMatcherModel" (13 : Nat) "TreeMatcherModel" "hand" "[I") ∈ gw := gw_of (List.mem_of_getElem? (i := 820) rfl) rfl
set_option maxRecDepth 100000 in
theorem tw_821 : (Jvm.Cond.fieldLink "TreeMatcherModel" (130 : Nat) "TreeMatcherModel" "handed" "I") ∈ gw := gw_of (List.mem_of_getElem? (i := 821) rfl) rfl
set_option maxRecDepth 100000 in
theorem tw_822 : (Jvm.Cond.fieldLink "TreeMatcherModel" (133 : Nat) "TreeMatcherModel" "rules" "I") ∈ gw := gw_of (List.mem_of_getElem? (i := 822) rfl) rfl
set_option maxRecDepth 100000 in
theorem tw_829 : (Jvm.Cond.fieldLink "TreeMatcherModel" (136 : Nat) "TreeMatcherModel" "nodes" "I") ∈ gw := gw_of (List.mem_of_getElem? (i := 829) rfl) rfl
set_option maxRecDepth 100000 in
theorem tw_837 : (Jvm.Cond.fieldLink "TreeMatcherModel" (162 : Nat) "TreeMatcherModel" "pairs" "I") ∈ gw := gw_of (List.mem_of_getElem? (i := 837) rfl) rfl
set_option maxRecDepth 100000 in
theorem tw_849 : (Jvm.Cond.fieldLink "TreeMatcherModel" (165 : Nat) "TreeMatcherModel" "parts" "I") ∈ gw := gw_of (List.mem_of_getElem? (i := 849) rfl) rfl
set_option maxRecDepth 100000 in
theorem tw_951 : (Jvm.Cond.code ({ cls := "TreeMatcherModel", name := "operator", desc := "(II)I" } : Jvm.MethodName) prog_11_method_5_code (3 : Nat) (Option.some Jvm.ClassFile.FieldType.int)) ∈ gw := gw_of (List.mem_of_getElem? (i := 951) rfl) rfl
set_option maxRecDepth 100000 in
theorem tw_952 : (Jvm.Cond.methodLink "TreeMatcherModel" (119 : Nat) ({ cls := "TreeMatcherModel", name := "within", desc := "(III)Z" } : Jvm.MethodName)) ∈ gw := gw_of (List.mem_of_getElem? (i := 952) rfl) rfl
set_option maxRecDepth 100000 in
theorem tw_953 : (Jvm.Cond.static ({ cls := "TreeMatcherModel", name := "within", desc := "(III)Z" } : Jvm.MethodName)) ∈ gw := gw_of (List.mem_of_getElem? (i := 953) rfl) rfl
set_option maxRecDepth 100000 in
theorem tw_954 : (Jvm.Cond.code ({ cls := "TreeMatcherModel", name := "within", desc := "(III)Z" } : Jvm.MethodName) prog_11_method_4_code (3 : Nat) (Option.some Jvm.ClassFile.FieldType.boolean)) ∈ gw := gw_of (List.mem_of_getElem? (i := 954) rfl) rfl
set_option maxRecDepth 100000 in
theorem tw_955 : (Jvm.Cond.methodLink "TreeMatcherModel" (123 : Nat) ({ cls := "TreeMatcherModel", name := "fail", desc := "(I)I" } : Jvm.MethodName)) ∈ gw := gw_of (List.mem_of_getElem? (i := 955) rfl) rfl
set_option maxRecDepth 100000 in
theorem tw_957 : (Jvm.Cond.instanceMethod ({ cls := "TreeMatcherModel", name := "fail", desc := "(I)I" } : Jvm.MethodName)) ∈ gw := gw_of (List.mem_of_getElem? (i := 957) rfl) rfl
set_option maxRecDepth 100000 in
theorem tw_958 : (Jvm.Cond.code ({ cls := "TreeMatcherModel", name := "fail", desc := "(I)I" } : Jvm.MethodName) prog_11_method_3_code (2 : Nat) (Option.some Jvm.ClassFile.FieldType.int)) ∈ gw := gw_of (List.mem_of_getElem? (i := 958) rfl) rfl
set_option maxRecDepth 100000 in
theorem tw_962 : (Jvm.Cond.code ({ cls := "TreeMatcherModel", name := "element", desc := "(I)I" } : Jvm.MethodName) prog_11_method_6_code (2 : Nat) (Option.some Jvm.ClassFile.FieldType.int)) ∈ gw := gw_of (List.mem_of_getElem? (i := 962) rfl) rfl
set_option maxRecDepth 100000 in
theorem tw_966 : (Jvm.Cond.code ({ cls := "TreeMatcherModel", name := "rule", desc := "(IIII)I" } : Jvm.MethodName) prog_11_method_8_code (8 : Nat) (Option.some Jvm.ClassFile.FieldType.int)) ∈ gw := gw_of (List.mem_of_getElem? (i := 966) rfl) rfl
set_option maxRecDepth 100000 in
theorem tw_967 : (Jvm.Cond.methodLink "TreeMatcherModel" (139 : Nat) ({ cls := "TreeMatcherModel", name := "isPattern", desc := "()Z" } : Jvm.MethodName)) ∈ gw := gw_of (List.mem_of_getElem? (i := 967) rfl) rfl
set_option maxRecDepth 100000 in
theorem tw_969 : (Jvm.Cond.instanceMethod ({ cls := "TreeMatcherModel", name := "isPattern", desc := "()Z" } : Jvm.MethodName)) ∈ gw := gw_of (List.mem_of_getElem? (i := 969) rfl) rfl
set_option maxRecDepth 100000 in
theorem tw_970 : (Jvm.Cond.code ({ cls := "TreeMatcherModel", name := "isPattern", desc := "()Z" } : Jvm.MethodName) prog_11_method_7_code (3 : Nat) (Option.some Jvm.ClassFile.FieldType.boolean)) ∈ gw := gw_of (List.mem_of_getElem? (i := 970) rfl) rfl
set_option maxRecDepth 100000 in
theorem tw_974 : (Jvm.Cond.code ({ cls := "TreeMatcherModel", name := "node", desc := "(IIII)I" } : Jvm.MethodName) prog_11_method_14_code (11 : Nat) (Option.some Jvm.ClassFile.FieldType.int)) ∈ gw := gw_of (List.mem_of_getElem? (i := 974) rfl) rfl
set_option maxRecDepth 100000 in
theorem tw_998 : (Jvm.Cond.code ({ cls := "TreeMatcherModel", name := "cost", desc := "(II)I" } : Jvm.MethodName) prog_11_method_15_code (3 : Nat) (Option.some Jvm.ClassFile.FieldType.int)) ∈ gw := gw_of (List.mem_of_getElem? (i := 998) rfl) rfl
set_option maxRecDepth 100000 in
theorem tw_1002 : (Jvm.Cond.code ({ cls := "TreeMatcherModel", name := "ruleAt", desc := "(II)I" } : Jvm.MethodName) prog_11_method_16_code (3 : Nat) (Option.some Jvm.ClassFile.FieldType.int)) ∈ gw := gw_of (List.mem_of_getElem? (i := 1002) rfl) rfl
set_option maxRecDepth 100000 in
theorem tw_1006 : (Jvm.Cond.code ({ cls := "TreeMatcherModel", name := "cover", desc := "(II)I" } : Jvm.MethodName) prog_11_method_17_code (10 : Nat) (Option.some Jvm.ClassFile.FieldType.int)) ∈ gw := gw_of (List.mem_of_getElem? (i := 1006) rfl) rfl
set_option maxRecDepth 100000 in
theorem tw_1010 : (Jvm.Cond.code ({ cls := "TreeMatcherModel", name := "pair", desc := "(II)I" } : Jvm.MethodName) prog_11_method_18_code (3 : Nat) (Option.some Jvm.ClassFile.FieldType.int)) ∈ gw := gw_of (List.mem_of_getElem? (i := 1010) rfl) rfl
set_option maxRecDepth 100000 in
theorem tw_1020 : (Jvm.Cond.code ({ cls := "TreeMatcherModel", name := "findParts", desc := "()V" } : Jvm.MethodName) prog_11_method_21_code (4 : Nat) (Option.none : Option Jvm.ClassFile.FieldType)) ∈ gw := gw_of (List.mem_of_getElem? (i := 1020) rfl) rfl
set_option maxRecDepth 100000 in
theorem tw_1040 : (Jvm.Cond.code ({ cls := "TreeMatcherModel", name := "same", desc := "(II)Z" } : Jvm.MethodName) prog_11_method_25_code (4 : Nat) (Option.some Jvm.ClassFile.FieldType.boolean)) ∈ gw := gw_of (List.mem_of_getElem? (i := 1040) rfl) rfl
set_option maxRecDepth 100000 in
theorem tw_1044 : (Jvm.Cond.code ({ cls := "TreeMatcherModel", name := "clear", desc := "()I" } : Jvm.MethodName) prog_11_method_26_code (2 : Nat) (Option.some Jvm.ClassFile.FieldType.int)) ∈ gw := gw_of (List.mem_of_getElem? (i := 1044) rfl) rfl
abbrev b_D_operator : ByteArray := prog_11_method_5_code
def y_D_operator : MethodName := ⟨"TreeMatcherModel", "operator", "(II)I"⟩
def ws_D_operator : List Cond := Cond.code y_D_operator b_D_operator 3 (Option.some Jvm.ClassFile.FieldType.int) :: gw
theorem cin_D_operator : Cond.code y_D_operator b_D_operator 3 (Option.some Jvm.ClassFile.FieldType.int) ∈ gw := tw_951
abbrev b_D_within : ByteArray := prog_11_method_4_code
def y_D_within : MethodName := ⟨"TreeMatcherModel", "within", "(III)Z"⟩
def ws_D_within : List Cond := Cond.code y_D_within b_D_within 3 (Option.some Jvm.ClassFile.FieldType.boolean) :: gw
theorem cin_D_within : Cond.code y_D_within b_D_within 3 (Option.some Jvm.ClassFile.FieldType.boolean) ∈ gw := tw_954
abbrev b_D_fail : ByteArray := prog_11_method_3_code
def y_D_fail : MethodName := ⟨"TreeMatcherModel", "fail", "(I)I"⟩
def ws_D_fail : List Cond := Cond.code y_D_fail b_D_fail 2 (Option.some Jvm.ClassFile.FieldType.int) :: gw
theorem cin_D_fail : Cond.code y_D_fail b_D_fail 2 (Option.some Jvm.ClassFile.FieldType.int) ∈ gw := tw_958
abbrev b_D_element : ByteArray := prog_11_method_6_code
def y_D_element : MethodName := ⟨"TreeMatcherModel", "element", "(I)I"⟩
def ws_D_element : List Cond := Cond.code y_D_element b_D_element 2 (Option.some Jvm.ClassFile.FieldType.int) :: gw
theorem cin_D_element : Cond.code y_D_element b_D_element 2 (Option.some Jvm.ClassFile.FieldType.int) ∈ gw := tw_962
abbrev b_D_rule : ByteArray := prog_11_method_8_code
def y_D_rule : MethodName := ⟨"TreeMatcherModel", "rule", "(IIII)I"⟩
def ws_D_rule : List Cond := Cond.code y_D_rule b_D_rule 8 (Option.some Jvm.ClassFile.FieldType.int) :: gw
theorem cin_D_rule : Cond.code y_D_rule b_D_rule 8 (Option.some Jvm.ClassFile.FieldType.int) ∈ gw := tw_966
abbrev b_D_isPattern : ByteArray := prog_11_method_7_code
def y_D_isPattern : MethodName := ⟨"TreeMatcherModel", "isPattern", "()Z"⟩
def ws_D_isPattern : List Cond := Cond.code y_D_isPattern b_D_isPattern 3 (Option.some Jvm.ClassFile.FieldType.boolean) :: gw
theorem cin_D_isPattern : Cond.code y_D_isPattern b_D_isPattern 3 (Option.some Jvm.ClassFile.FieldType.boolean) ∈ gw := tw_970
abbrev b_D_node : ByteArray := prog_11_method_14_code
def y_D_node : MethodName := ⟨"TreeMatcherModel", "node", "(IIII)I"⟩
def ws_D_node : List Cond := Cond.code y_D_node b_D_node 11 (Option.some Jvm.ClassFile.FieldType.int) :: gw
theorem cin_D_node : Cond.code y_D_node b_D_node 11 (Option.some Jvm.ClassFile.FieldType.int) ∈ gw := tw_974
abbrev b_D_cost : ByteArray := prog_11_method_15_code
def y_D_cost : MethodName := ⟨"TreeMatcherModel", "cost", "(II)I"⟩
def ws_D_cost : List Cond := Cond.code y_D_cost b_D_cost 3 (Option.some Jvm.ClassFile.FieldType.int) :: gw
theorem cin_D_cost : Cond.code y_D_cost b_D_cost 3 (Option.some Jvm.ClassFile.FieldType.int) ∈ gw := tw_998
abbrev b_D_ruleAt : ByteArray := prog_11_method_16_code
def y_D_ruleAt : MethodName := ⟨"TreeMatcherModel", "ruleAt", "(II)I"⟩
def ws_D_ruleAt : List Cond := Cond.code y_D_ruleAt b_D_ruleAt 3 (Option.some Jvm.ClassFile.FieldType.int) :: gw
theorem cin_D_ruleAt : Cond.code y_D_ruleAt b_D_ruleAt 3 (Option.some Jvm.ClassFile.FieldType.int) ∈ gw := tw_1002
abbrev b_D_cover : ByteArray := prog_11_method_17_code
def y_D_cover : MethodName := ⟨"TreeMatcherModel", "cover", "(II)I"⟩
def ws_D_cover : List Cond := Cond.code y_D_cover b_D_cover 10 (Option.some Jvm.ClassFile.FieldType.int) :: gw
theorem cin_D_cover : Cond.code y_D_cover b_D_cover 10 (Option.some Jvm.ClassFile.FieldType.int) ∈ gw := tw_1006
abbrev b_D_pair : ByteArray := prog_11_method_18_code
def y_D_pair : MethodName := ⟨"TreeMatcherModel", "pair", "(II)I"⟩
def ws_D_pair : List Cond := Cond.code y_D_pair b_D_pair 3 (Option.some Jvm.ClassFile.FieldType.int) :: gw
theorem cin_D_pair : Cond.code y_D_pair b_D_pair 3 (Option.some Jvm.ClassFile.FieldType.int) ∈ gw := tw_1010
abbrev b_D_findParts : ByteArray := prog_11_method_21_code
def y_D_findParts : MethodName := ⟨"TreeMatcherModel", "findParts", "()V"⟩
def ws_D_findParts : List Cond := Cond.code y_D_findParts b_D_findParts 4 (Option.none : Option Jvm.ClassFile.FieldType) :: gw
theorem cin_D_findParts : Cond.code y_D_findParts b_D_findParts 4 (Option.none : Option Jvm.ClassFile.FieldType) ∈ gw := tw_1020
abbrev b_D_same : ByteArray := prog_11_method_25_code
def y_D_same : MethodName := ⟨"TreeMatcherModel", "same", "(II)Z"⟩
def ws_D_same : List Cond := Cond.code y_D_same b_D_same 4 (Option.some Jvm.ClassFile.FieldType.boolean) :: gw
theorem cin_D_same : Cond.code y_D_same b_D_same 4 (Option.some Jvm.ClassFile.FieldType.boolean) ∈ gw := tw_1040
abbrev b_D_clear : ByteArray := prog_11_method_26_code
def y_D_clear : MethodName := ⟨"TreeMatcherModel", "clear", "()I"⟩
def ws_D_clear : List Cond := Cond.code y_D_clear b_D_clear 2 (Option.some Jvm.ClassFile.FieldType.int) :: gw
theorem cin_D_clear : Cond.code y_D_clear b_D_clear 2 (Option.some Jvm.ClassFile.FieldType.int) ∈ gw := tw_1044
theorem sw_D_fail : Cond.selects "TreeMatcherModel" ({ cls := "TreeMatcherModel", name := "fail", desc := "(I)I" } : Jvm.MethodName) ({ cls := "TreeMatcherModel", name := "fail", desc := "(I)I" } : Jvm.MethodName) ∈ gw := gw_sel (by decide +kernel) rfl
theorem sw_D_isPattern : Cond.selects "TreeMatcherModel" ({ cls := "TreeMatcherModel", name := "isPattern", desc := "()Z" } : Jvm.MethodName) ({ cls := "TreeMatcherModel", name := "isPattern", desc := "()Z" } : Jvm.MethodName) ∈ gw := gw_sel (by decide +kernel) rfl
theorem d_D_operator_0 : decode b_D_operator 0 = .ok (.aload_n 0, 1) := by decide +kernel
theorem d_D_operator_1 : decode b_D_operator 1 = .ok (.iconst 0, 1) := by decide +kernel
theorem d_D_operator_2 : decode b_D_operator 2 = .ok (.putfield 115, 3) := by decide +kernel
theorem d_D_operator_5 : decode b_D_operator 5 = .ok (.iload_n 1, 1) := by decide +kernel
theorem d_D_operator_6 : decode b_D_operator 6 = .ok (.iconst 0, 1) := by decide +kernel
theorem d_D_operator_7 : decode b_D_operator 7 = .ok (.bipush 31, 2) := by decide +kernel
theorem d_D_operator_9 : decode b_D_operator 9 = .ok (.invokestatic 119, 3) := by decide +kernel
theorem d_D_operator_12 : decode b_D_operator 12 = .ok (.ifCond .eq 12, 3) := by decide +kernel
theorem d_D_operator_15 : decode b_D_operator 15 = .ok (.iload_n 2, 1) := by decide +kernel
theorem d_D_operator_16 : decode b_D_operator 16 = .ok (.iconst 0, 1) := by decide +kernel
theorem d_D_operator_17 : decode b_D_operator 17 = .ok (.iconst 2, 1) := by decide +kernel
theorem d_D_operator_18 : decode b_D_operator 18 = .ok (.invokestatic 119, 3) := by decide +kernel
theorem d_D_operator_21 : decode b_D_operator 21 = .ok (.ifCond .ne 9, 3) := by decide +kernel
theorem d_D_operator_24 : decode b_D_operator 24 = .ok (.aload_n 0, 1) := by decide +kernel
theorem d_D_operator_25 : decode b_D_operator 25 = .ok (.iconst 1, 1) := by decide +kernel
theorem d_D_operator_26 : decode b_D_operator 26 = .ok (.invokevirtual 123, 3) := by decide +kernel
theorem d_D_operator_29 : decode b_D_operator 29 = .ok (.ireturn, 1) := by decide +kernel
theorem d_D_operator_30 : decode b_D_operator 30 = .ok (.aload_n 0, 1) := by decide +kernel
theorem d_D_operator_31 : decode b_D_operator 31 = .ok (.getfield 7, 3) := by decide +kernel
theorem d_D_operator_34 : decode b_D_operator 34 = .ok (.iload_n 1, 1) := by decide +kernel
theorem d_D_operator_35 : decode b_D_operator 35 = .ok (.iaload, 1) := by decide +kernel
theorem d_D_operator_36 : decode b_D_operator 36 = .ok (.iconst (-1), 1) := by decide +kernel
theorem d_D_operator_37 : decode b_D_operator 37 = .ok (.if_icmp .eq 9, 3) := by decide +kernel
theorem d_D_operator_46 : decode b_D_operator 46 = .ok (.aload_n 0, 1) := by decide +kernel
theorem d_D_operator_47 : decode b_D_operator 47 = .ok (.getfield 7, 3) := by decide +kernel
theorem d_D_operator_50 : decode b_D_operator 50 = .ok (.iload_n 1, 1) := by decide +kernel
theorem d_D_operator_51 : decode b_D_operator 51 = .ok (.iload_n 2, 1) := by decide +kernel
theorem d_D_operator_52 : decode b_D_operator 52 = .ok (.iastore, 1) := by decide +kernel
theorem d_D_operator_53 : decode b_D_operator 53 = .ok (.aload_n 0, 1) := by decide +kernel
theorem d_D_operator_54 : decode b_D_operator 54 = .ok (.dup, 1) := by decide +kernel
theorem d_D_operator_55 : decode b_D_operator 55 = .ok (.getfield 127, 3) := by decide +kernel
theorem d_D_operator_58 : decode b_D_operator 58 = .ok (.iconst 1, 1) := by decide +kernel
theorem d_D_operator_59 : decode b_D_operator 59 = .ok (.iadd, 1) := by decide +kernel
theorem d_D_operator_60 : decode b_D_operator 60 = .ok (.putfield 127, 3) := by decide +kernel
theorem d_D_operator_63 : decode b_D_operator 63 = .ok (.aload_n 0, 1) := by decide +kernel
theorem d_D_operator_64 : decode b_D_operator 64 = .ok (.getfield 127, 3) := by decide +kernel
theorem d_D_operator_67 : decode b_D_operator 67 = .ok (.ireturn, 1) := by decide +kernel
theorem d_D_within_0 : decode b_D_within 0 = .ok (.iload_n 0, 1) := by decide +kernel
theorem d_D_within_1 : decode b_D_within 1 = .ok (.iload_n 1, 1) := by decide +kernel
theorem d_D_within_2 : decode b_D_within 2 = .ok (.if_icmp .lt 12, 3) := by decide +kernel
theorem d_D_within_5 : decode b_D_within 5 = .ok (.iload_n 0, 1) := by decide +kernel
theorem d_D_within_6 : decode b_D_within 6 = .ok (.iload_n 2, 1) := by decide +kernel
theorem d_D_within_7 : decode b_D_within 7 = .ok (.if_icmp .gt 7, 3) := by decide +kernel
theorem d_D_within_10 : decode b_D_within 10 = .ok (.iconst 1, 1) := by decide +kernel
theorem d_D_within_11 : decode b_D_within 11 = .ok (.goto 4, 3) := by decide +kernel
theorem d_D_within_14 : decode b_D_within 14 = .ok (.iconst 0, 1) := by decide +kernel
theorem d_D_within_15 : decode b_D_within 15 = .ok (.ireturn, 1) := by decide +kernel
theorem d_D_fail_0 : decode b_D_fail 0 = .ok (.aload_n 0, 1) := by decide +kernel
theorem d_D_fail_1 : decode b_D_fail 1 = .ok (.iload_n 1, 1) := by decide +kernel
theorem d_D_fail_2 : decode b_D_fail 2 = .ok (.putfield 115, 3) := by decide +kernel
theorem d_D_fail_5 : decode b_D_fail 5 = .ok (.iconst 0, 1) := by decide +kernel
theorem d_D_fail_6 : decode b_D_fail 6 = .ok (.ireturn, 1) := by decide +kernel
theorem d_D_element_0 : decode b_D_element 0 = .ok (.aload_n 0, 1) := by decide +kernel
theorem d_D_element_1 : decode b_D_element 1 = .ok (.iconst 0, 1) := by decide +kernel
theorem d_D_element_2 : decode b_D_element 2 = .ok (.putfield 115, 3) := by decide +kernel
theorem d_D_element_5 : decode b_D_element 5 = .ok (.iload_n 1, 1) := by decide +kernel
theorem d_D_element_6 : decode b_D_element 6 = .ok (.iconst 0, 1) := by decide +kernel
theorem d_D_element_7 : decode b_D_element 7 = .ok (.bipush 47, 2) := by decide +kernel
theorem d_D_element_9 : decode b_D_element 9 = .ok (.invokestatic 119, 3) := by decide +kernel
theorem d_D_element_12 : decode b_D_element 12 = .ok (.ifCond .ne 9, 3) := by decide +kernel
theorem d_D_element_15 : decode b_D_element 15 = .ok (.aload_n 0, 1) := by decide +kernel
theorem d_D_element_16 : decode b_D_element 16 = .ok (.iconst 1, 1) := by decide +kernel
theorem d_D_element_17 : decode b_D_element 17 = .ok (.invokevirtual 123, 3) := by decide +kernel
theorem d_D_element_20 : decode b_D_element 20 = .ok (.ireturn, 1) := by decide +kernel
theorem d_D_element_21 : decode b_D_element 21 = .ok (.aload_n 0, 1) := by decide +kernel
theorem d_D_element_22 : decode b_D_element 22 = .ok (.getfield 130, 3) := by decide +kernel
theorem d_D_element_25 : decode b_D_element 25 = .ok (.bipush 12, 2) := by decide +kernel
theorem d_D_element_27 : decode b_D_element 27 = .ok (.if_icmp .ne 9, 3) := by decide +kernel
theorem d_D_element_36 : decode b_D_element 36 = .ok (.aload_n 0, 1) := by decide +kernel
theorem d_D_element_37 : decode b_D_element 37 = .ok (.getfield 13, 3) := by decide +kernel
theorem d_D_element_40 : decode b_D_element 40 = .ok (.aload_n 0, 1) := by decide +kernel
theorem d_D_element_41 : decode b_D_element 41 = .ok (.getfield 130, 3) := by decide +kernel
theorem d_D_element_44 : decode b_D_element 44 = .ok (.iload_n 1, 1) := by decide +kernel
theorem d_D_element_45 : decode b_D_element 45 = .ok (.iastore, 1) := by decide +kernel
theorem d_D_element_46 : decode b_D_element 46 = .ok (.aload_n 0, 1) := by decide +kernel
theorem d_D_element_47 : decode b_D_element 47 = .ok (.dup, 1) := by decide +kernel
theorem d_D_element_48 : decode b_D_element 48 = .ok (.getfield 130, 3) := by decide +kernel
theorem d_D_element_51 : decode b_D_element 51 = .ok (.iconst 1, 1) := by decide +kernel
theorem d_D_element_52 : decode b_D_element 52 = .ok (.iadd, 1) := by decide +kernel
theorem d_D_element_53 : decode b_D_element 53 = .ok (.putfield 130, 3) := by decide +kernel
theorem d_D_element_56 : decode b_D_element 56 = .ok (.aload_n 0, 1) := by decide +kernel
theorem d_D_element_57 : decode b_D_element 57 = .ok (.getfield 130, 3) := by decide +kernel
theorem d_D_element_60 : decode b_D_element 60 = .ok (.ireturn, 1) := by decide +kernel
theorem d_D_rule_0 : decode b_D_rule 0 = .ok (.aload_n 0, 1) := by decide +kernel
theorem d_D_rule_1 : decode b_D_rule 1 = .ok (.iconst 0, 1) := by decide +kernel
theorem d_D_rule_2 : decode b_D_rule 2 = .ok (.putfield 115, 3) := by decide +kernel
theorem d_D_rule_5 : decode b_D_rule 5 = .ok (.aload_n 0, 1) := by decide +kernel
theorem d_D_rule_6 : decode b_D_rule 6 = .ok (.getfield 133, 3) := by decide +kernel
theorem d_D_rule_9 : decode b_D_rule 9 = .ok (.bipush 64, 2) := by decide +kernel
theorem d_D_rule_11 : decode b_D_rule 11 = .ok (.if_icmp .eq 10, 3) := by decide +kernel
theorem d_D_rule_14 : decode b_D_rule 14 = .ok (.aload_n 0, 1) := by decide +kernel
theorem d_D_rule_15 : decode b_D_rule 15 = .ok (.getfield 136, 3) := by decide +kernel
theorem d_D_rule_18 : decode b_D_rule 18 = .ok (.ifCond .le 9, 3) := by decide +kernel
theorem d_D_rule_27 : decode b_D_rule 27 = .ok (.iload_n 1, 1) := by decide +kernel
theorem d_D_rule_28 : decode b_D_rule 28 = .ok (.iconst 0, 1) := by decide +kernel
theorem d_D_rule_29 : decode b_D_rule 29 = .ok (.bipush 15, 2) := by decide +kernel
theorem d_D_rule_31 : decode b_D_rule 31 = .ok (.invokestatic 119, 3) := by decide +kernel
theorem d_D_rule_34 : decode b_D_rule 34 = .ok (.ifCond .eq 30, 3) := by decide +kernel
theorem d_D_rule_37 : decode b_D_rule 37 = .ok (.iload_n 2, 1) := by decide +kernel
theorem d_D_rule_38 : decode b_D_rule 38 = .ok (.iconst 0, 1) := by decide +kernel
theorem d_D_rule_39 : decode b_D_rule 39 = .ok (.bipush 99, 2) := by decide +kernel
theorem d_D_rule_41 : decode b_D_rule 41 = .ok (.invokestatic 119, 3) := by decide +kernel
theorem d_D_rule_44 : decode b_D_rule 44 = .ok (.ifCond .eq 20, 3) := by decide +kernel
theorem d_D_rule_47 : decode b_D_rule 47 = .ok (.iload_n 3, 1) := by decide +kernel
theorem d_D_rule_48 : decode b_D_rule 48 = .ok (.iload 4, 2) := by decide +kernel
theorem d_D_rule_50 : decode b_D_rule 50 = .ok (.if_icmp .gt 14, 3) := by decide +kernel
theorem d_D_rule_53 : decode b_D_rule 53 = .ok (.aload_n 0, 1) := by decide +kernel
theorem d_D_rule_54 : decode b_D_rule 54 = .ok (.invokevirtual 139, 3) := by decide +kernel
theorem d_D_rule_57 : decode b_D_rule 57 = .ok (.ifCond .eq 7, 3) := by decide +kernel
theorem d_D_rule_64 : decode b_D_rule 64 = .ok (.iconst 0, 1) := by decide +kernel
theorem d_D_rule_65 : decode b_D_rule 65 = .ok (.istore 5, 2) := by decide +kernel
theorem d_D_rule_67 : decode b_D_rule 67 = .ok (.aload_n 0, 1) := by decide +kernel
theorem d_D_rule_68 : decode b_D_rule 68 = .ok (.getfield 130, 3) := by decide +kernel
theorem d_D_rule_71 : decode b_D_rule 71 = .ok (.istore 6, 2) := by decide +kernel
theorem d_D_rule_73 : decode b_D_rule 73 = .ok (.aload_n 0, 1) := by decide +kernel
theorem d_D_rule_74 : decode b_D_rule 74 = .ok (.iconst 0, 1) := by decide +kernel
theorem d_D_rule_75 : decode b_D_rule 75 = .ok (.putfield 130, 3) := by decide +kernel
theorem d_D_rule_78 : decode b_D_rule 78 = .ok (.iload 5, 2) := by decide +kernel
theorem d_D_rule_80 : decode b_D_rule 80 = .ok (.ifCond .ne 9, 3) := by decide +kernel
theorem d_D_rule_83 : decode b_D_rule 83 = .ok (.aload_n 0, 1) := by decide +kernel
theorem d_D_rule_84 : decode b_D_rule 84 = .ok (.iconst 2, 1) := by decide +kernel
theorem d_D_rule_85 : decode b_D_rule 85 = .ok (.invokevirtual 123, 3) := by decide +kernel
theorem d_D_rule_88 : decode b_D_rule 88 = .ok (.ireturn, 1) := by decide +kernel
theorem d_D_isPattern_0 : decode b_D_isPattern 0 = .ok (.iconst 1, 1) := by decide +kernel
theorem d_D_isPattern_1 : decode b_D_isPattern 1 = .ok (.istore_n 1, 1) := by decide +kernel
theorem d_D_isPattern_2 : decode b_D_isPattern 2 = .ok (.iconst 0, 1) := by decide +kernel
theorem d_D_isPattern_3 : decode b_D_isPattern 3 = .ok (.istore_n 2, 1) := by decide +kernel
theorem d_D_isPattern_4 : decode b_D_isPattern 4 = .ok (.iload_n 2, 1) := by decide +kernel
theorem d_D_isPattern_5 : decode b_D_isPattern 5 = .ok (.aload_n 0, 1) := by decide +kernel
theorem d_D_isPattern_6 : decode b_D_isPattern 6 = .ok (.getfield 130, 3) := by decide +kernel
theorem d_D_isPattern_9 : decode b_D_isPattern 9 = .ok (.if_icmp .ge 72, 3) := by decide +kernel
theorem d_D_isPattern_81 : decode b_D_isPattern 81 = .ok (.iload_n 1, 1) := by decide +kernel
theorem d_D_isPattern_82 : decode b_D_isPattern 82 = .ok (.ifCond .ne 7, 3) := by decide +kernel
theorem d_D_isPattern_89 : decode b_D_isPattern 89 = .ok (.iconst 0, 1) := by decide +kernel
theorem d_D_isPattern_90 : decode b_D_isPattern 90 = .ok (.ireturn, 1) := by decide +kernel
theorem d_D_node_0 : decode b_D_node 0 = .ok (.aload_n 0, 1) := by decide +kernel
theorem d_D_node_1 : decode b_D_node 1 = .ok (.iconst 0, 1) := by decide +kernel
theorem d_D_node_2 : decode b_D_node 2 = .ok (.putfield 115, 3) := by decide +kernel
theorem d_D_node_5 : decode b_D_node 5 = .ok (.iload_n 1, 1) := by decide +kernel
theorem d_D_node_6 : decode b_D_node 6 = .ok (.iconst 0, 1) := by decide +kernel
theorem d_D_node_7 : decode b_D_node 7 = .ok (.bipush 31, 2) := by decide +kernel
theorem d_D_node_9 : decode b_D_node 9 = .ok (.invokestatic 119, 3) := by decide +kernel
theorem d_D_node_12 : decode b_D_node 12 = .ok (.ifCond .eq 13, 3) := by decide +kernel
theorem d_D_node_15 : decode b_D_node 15 = .ok (.aload_n 0, 1) := by decide +kernel
theorem d_D_node_16 : decode b_D_node 16 = .ok (.getfield 7, 3) := by decide +kernel
theorem d_D_node_19 : decode b_D_node 19 = .ok (.iload_n 1, 1) := by decide +kernel
theorem d_D_node_20 : decode b_D_node 20 = .ok (.iaload, 1) := by decide +kernel
theorem d_D_node_21 : decode b_D_node 21 = .ok (.iconst (-1), 1) := by decide +kernel
theorem d_D_node_22 : decode b_D_node 22 = .ok (.if_icmp .ne 9, 3) := by decide +kernel
theorem d_D_node_25 : decode b_D_node 25 = .ok (.aload_n 0, 1) := by decide +kernel
theorem d_D_node_26 : decode b_D_node 26 = .ok (.iconst 1, 1) := by decide +kernel
theorem d_D_node_27 : decode b_D_node 27 = .ok (.invokevirtual 123, 3) := by decide +kernel
theorem d_D_node_30 : decode b_D_node 30 = .ok (.ireturn, 1) := by decide +kernel
theorem d_D_cost_0 : decode b_D_cost 0 = .ok (.aload_n 0, 1) := by decide +kernel
theorem d_D_cost_1 : decode b_D_cost 1 = .ok (.iconst 0, 1) := by decide +kernel
theorem d_D_cost_2 : decode b_D_cost 2 = .ok (.putfield 115, 3) := by decide +kernel
theorem d_D_cost_5 : decode b_D_cost 5 = .ok (.iload_n 1, 1) := by decide +kernel
theorem d_D_cost_6 : decode b_D_cost 6 = .ok (.iconst 0, 1) := by decide +kernel
theorem d_D_cost_7 : decode b_D_cost 7 = .ok (.aload_n 0, 1) := by decide +kernel
theorem d_D_cost_8 : decode b_D_cost 8 = .ok (.getfield 136, 3) := by decide +kernel
theorem d_D_cost_11 : decode b_D_cost 11 = .ok (.iconst 1, 1) := by decide +kernel
theorem d_D_cost_12 : decode b_D_cost 12 = .ok (.isub, 1) := by decide +kernel
theorem d_D_cost_13 : decode b_D_cost 13 = .ok (.invokestatic 119, 3) := by decide +kernel
theorem d_D_cost_16 : decode b_D_cost 16 = .ok (.ifCond .eq 27, 3) := by decide +kernel
theorem d_D_cost_43 : decode b_D_cost 43 = .ok (.aload_n 0, 1) := by decide +kernel
theorem d_D_cost_44 : decode b_D_cost 44 = .ok (.iconst 1, 1) := by decide +kernel
theorem d_D_cost_45 : decode b_D_cost 45 = .ok (.invokevirtual 123, 3) := by decide +kernel
theorem d_D_cost_48 : decode b_D_cost 48 = .ok (.ireturn, 1) := by decide +kernel
theorem d_D_ruleAt_0 : decode b_D_ruleAt 0 = .ok (.aload_n 0, 1) := by decide +kernel
theorem d_D_ruleAt_1 : decode b_D_ruleAt 1 = .ok (.iconst 0, 1) := by decide +kernel
theorem d_D_ruleAt_2 : decode b_D_ruleAt 2 = .ok (.putfield 115, 3) := by decide +kernel
theorem d_D_ruleAt_5 : decode b_D_ruleAt 5 = .ok (.iload_n 1, 1) := by decide +kernel
theorem d_D_ruleAt_6 : decode b_D_ruleAt 6 = .ok (.iconst 0, 1) := by decide +kernel
theorem d_D_ruleAt_7 : decode b_D_ruleAt 7 = .ok (.aload_n 0, 1) := by decide +kernel
theorem d_D_ruleAt_8 : decode b_D_ruleAt 8 = .ok (.getfield 136, 3) := by decide +kernel
theorem d_D_ruleAt_11 : decode b_D_ruleAt 11 = .ok (.iconst 1, 1) := by decide +kernel
theorem d_D_ruleAt_12 : decode b_D_ruleAt 12 = .ok (.isub, 1) := by decide +kernel
theorem d_D_ruleAt_13 : decode b_D_ruleAt 13 = .ok (.invokestatic 119, 3) := by decide +kernel
theorem d_D_ruleAt_16 : decode b_D_ruleAt 16 = .ok (.ifCond .eq 27, 3) := by decide +kernel
theorem d_D_ruleAt_43 : decode b_D_ruleAt 43 = .ok (.aload_n 0, 1) := by decide +kernel
theorem d_D_ruleAt_44 : decode b_D_ruleAt 44 = .ok (.iconst 1, 1) := by decide +kernel
theorem d_D_ruleAt_45 : decode b_D_ruleAt 45 = .ok (.invokevirtual 123, 3) := by decide +kernel
theorem d_D_ruleAt_48 : decode b_D_ruleAt 48 = .ok (.ireturn, 1) := by decide +kernel
theorem d_D_cover_0 : decode b_D_cover 0 = .ok (.aload_n 0, 1) := by decide +kernel
theorem d_D_cover_1 : decode b_D_cover 1 = .ok (.iconst 0, 1) := by decide +kernel
theorem d_D_cover_2 : decode b_D_cover 2 = .ok (.putfield 115, 3) := by decide +kernel
theorem d_D_cover_5 : decode b_D_cover 5 = .ok (.iload_n 1, 1) := by decide +kernel
theorem d_D_cover_6 : decode b_D_cover 6 = .ok (.iconst 0, 1) := by decide +kernel
theorem d_D_cover_7 : decode b_D_cover 7 = .ok (.aload_n 0, 1) := by decide +kernel
theorem d_D_cover_8 : decode b_D_cover 8 = .ok (.getfield 136, 3) := by decide +kernel
theorem d_D_cover_11 : decode b_D_cover 11 = .ok (.iconst 1, 1) := by decide +kernel
theorem d_D_cover_12 : decode b_D_cover 12 = .ok (.isub, 1) := by decide +kernel
theorem d_D_cover_13 : decode b_D_cover 13 = .ok (.invokestatic 119, 3) := by decide +kernel
theorem d_D_cover_16 : decode b_D_cover 16 = .ok (.ifCond .eq 13, 3) := by decide +kernel
theorem d_D_cover_29 : decode b_D_cover 29 = .ok (.aload_n 0, 1) := by decide +kernel
theorem d_D_cover_30 : decode b_D_cover 30 = .ok (.iconst 1, 1) := by decide +kernel
theorem d_D_cover_31 : decode b_D_cover 31 = .ok (.invokevirtual 123, 3) := by decide +kernel
theorem d_D_cover_34 : decode b_D_cover 34 = .ok (.ireturn, 1) := by decide +kernel
theorem d_D_pair_0 : decode b_D_pair 0 = .ok (.aload_n 0, 1) := by decide +kernel
theorem d_D_pair_1 : decode b_D_pair 1 = .ok (.iconst 0, 1) := by decide +kernel
theorem d_D_pair_2 : decode b_D_pair 2 = .ok (.putfield 115, 3) := by decide +kernel
theorem d_D_pair_5 : decode b_D_pair 5 = .ok (.iload_n 1, 1) := by decide +kernel
theorem d_D_pair_6 : decode b_D_pair 6 = .ok (.iconst 0, 1) := by decide +kernel
theorem d_D_pair_7 : decode b_D_pair 7 = .ok (.aload_n 0, 1) := by decide +kernel
theorem d_D_pair_8 : decode b_D_pair 8 = .ok (.getfield 162, 3) := by decide +kernel
theorem d_D_pair_11 : decode b_D_pair 11 = .ok (.iconst 1, 1) := by decide +kernel
theorem d_D_pair_12 : decode b_D_pair 12 = .ok (.isub, 1) := by decide +kernel
theorem d_D_pair_13 : decode b_D_pair 13 = .ok (.invokestatic 119, 3) := by decide +kernel
theorem d_D_pair_16 : decode b_D_pair 16 = .ok (.ifCond .eq 12, 3) := by decide +kernel
theorem d_D_pair_28 : decode b_D_pair 28 = .ok (.aload_n 0, 1) := by decide +kernel
theorem d_D_pair_29 : decode b_D_pair 29 = .ok (.iconst 1, 1) := by decide +kernel
theorem d_D_pair_30 : decode b_D_pair 30 = .ok (.invokevirtual 123, 3) := by decide +kernel
theorem d_D_pair_33 : decode b_D_pair 33 = .ok (.ireturn, 1) := by decide +kernel
theorem d_D_findParts_0 : decode b_D_findParts 0 = .ok (.aload_n 0, 1) := by decide +kernel
theorem d_D_findParts_1 : decode b_D_findParts 1 = .ok (.bipush 16, 2) := by decide +kernel
theorem d_D_findParts_3 : decode b_D_findParts 3 = .ok (.putfield 165, 3) := by decide +kernel
theorem d_D_findParts_6 : decode b_D_findParts 6 = .ok (.iconst 0, 1) := by decide +kernel
theorem d_D_findParts_7 : decode b_D_findParts 7 = .ok (.istore_n 1, 1) := by decide +kernel
theorem d_D_findParts_8 : decode b_D_findParts 8 = .ok (.iload_n 1, 1) := by decide +kernel
theorem d_D_findParts_9 : decode b_D_findParts 9 = .ok (.aload_n 0, 1) := by decide +kernel
theorem d_D_findParts_10 : decode b_D_findParts 10 = .ok (.getfield 133, 3) := by decide +kernel
theorem d_D_findParts_13 : decode b_D_findParts 13 = .ok (.if_icmp .ge 91, 3) := by decide +kernel
theorem d_D_findParts_104 : decode b_D_findParts 104 = .ok (.bipush 16, 2) := by decide +kernel
theorem d_D_findParts_106 : decode b_D_findParts 106 = .ok (.istore_n 1, 1) := by decide +kernel
theorem d_D_findParts_107 : decode b_D_findParts 107 = .ok (.iload_n 1, 1) := by decide +kernel
theorem d_D_findParts_108 : decode b_D_findParts 108 = .ok (.aload_n 0, 1) := by decide +kernel
theorem d_D_findParts_109 : decode b_D_findParts 109 = .ok (.getfield 165, 3) := by decide +kernel
theorem d_D_findParts_112 : decode b_D_findParts 112 = .ok (.if_icmp .ge 113, 3) := by decide +kernel
theorem d_D_findParts_225 : decode b_D_findParts 225 = .ok (.return_, 1) := by decide +kernel
theorem d_D_same_0 : decode b_D_same 0 = .ok (.aload_n 0, 1) := by decide +kernel
theorem d_D_same_1 : decode b_D_same 1 = .ok (.iconst 0, 1) := by decide +kernel
theorem d_D_same_2 : decode b_D_same 2 = .ok (.putfield 115, 3) := by decide +kernel
theorem d_D_same_5 : decode b_D_same 5 = .ok (.iload_n 1, 1) := by decide +kernel
theorem d_D_same_6 : decode b_D_same 6 = .ok (.iconst 0, 1) := by decide +kernel
theorem d_D_same_7 : decode b_D_same 7 = .ok (.aload_n 0, 1) := by decide +kernel
theorem d_D_same_8 : decode b_D_same 8 = .ok (.getfield 136, 3) := by decide +kernel
theorem d_D_same_11 : decode b_D_same 11 = .ok (.iconst 1, 1) := by decide +kernel
theorem d_D_same_12 : decode b_D_same 12 = .ok (.isub, 1) := by decide +kernel
theorem d_D_same_13 : decode b_D_same 13 = .ok (.invokestatic 119, 3) := by decide +kernel
theorem d_D_same_16 : decode b_D_same 16 = .ok (.ifCond .eq 17, 3) := by decide +kernel
theorem d_D_same_33 : decode b_D_same 33 = .ok (.aload_n 0, 1) := by decide +kernel
theorem d_D_same_34 : decode b_D_same 34 = .ok (.iconst 1, 1) := by decide +kernel
theorem d_D_same_35 : decode b_D_same 35 = .ok (.invokevirtual 123, 3) := by decide +kernel
theorem d_D_same_38 : decode b_D_same 38 = .ok (.ifCond .le 7, 3) := by decide +kernel
theorem d_D_same_45 : decode b_D_same 45 = .ok (.iconst 0, 1) := by decide +kernel
theorem d_D_same_46 : decode b_D_same 46 = .ok (.ireturn, 1) := by decide +kernel
theorem d_D_clear_0 : decode b_D_clear 0 = .ok (.aload_n 0, 1) := by decide +kernel
theorem d_D_clear_1 : decode b_D_clear 1 = .ok (.iconst 0, 1) := by decide +kernel
theorem d_D_clear_2 : decode b_D_clear 2 = .ok (.putfield 115, 3) := by decide +kernel
theorem d_D_clear_5 : decode b_D_clear 5 = .ok (.aload_n 0, 1) := by decide +kernel
theorem d_D_clear_6 : decode b_D_clear 6 = .ok (.getfield 136, 3) := by decide +kernel
theorem d_D_clear_9 : decode b_D_clear 9 = .ok (.istore_n 1, 1) := by decide +kernel
theorem d_D_clear_10 : decode b_D_clear 10 = .ok (.aload_n 0, 1) := by decide +kernel
theorem d_D_clear_11 : decode b_D_clear 11 = .ok (.iconst 0, 1) := by decide +kernel
theorem d_D_clear_12 : decode b_D_clear 12 = .ok (.putfield 136, 3) := by decide +kernel
theorem d_D_clear_15 : decode b_D_clear 15 = .ok (.aload_n 0, 1) := by decide +kernel
theorem d_D_clear_16 : decode b_D_clear 16 = .ok (.iconst 0, 1) := by decide +kernel
theorem d_D_clear_17 : decode b_D_clear 17 = .ok (.putfield 162, 3) := by decide +kernel
theorem d_D_clear_20 : decode b_D_clear 20 = .ok (.iload_n 1, 1) := by decide +kernel
theorem d_D_clear_21 : decode b_D_clear 21 = .ok (.ireturn, 1) := by decide +kernel
theorem tx_le31 {x : Int32} (h : 0 ≤ x ∧ x ≤ 31) : 0 ≤ x ∧ x < 32 := ⟨h.1, Int32.lt_iff_toInt_lt.mpr (by have := Int32.le_iff_toInt_le.mp h.2; have q : x.toInt ≤ 31 := this; show x.toInt < 32; omega)⟩
theorem tx_none2 {n : Int32} (h : 0 ≤ n ∧ n ≤ (0 - 1)) : False := by
  have a := Int32.le_iff_toInt_le.mp h.1
  have b := Int32.le_iff_toInt_le.mp h.2
  have a' : (0 : Int) ≤ n.toInt := a
  have b' : n.toInt ≤ -1 := b
  omega
set_option maxHeartbeats 4000000 in
set_option maxRecDepth 100000 in
theorem c_D_within (l : Launch) (dC : Nat → ClassId) (dI : Nat → Nat → Nat) (sz : Nat) (x a b : Int32) : Met l y_D_within ws_D_within ({ frames := 0, cells := 0, slots := 0, locals := 0 }) (va_Pc [.int x, .int a, .int b] (fun U => U.heap.size = sz ∧ va_P (dC, dI) kcl [] U.heap ∧ va_K (dC, dI) kcl [] U)) (va_Qi (fun (r : Int32) (_ : Unit) => r = if a ≤ x ∧ x ≤ b then 1 else 0) (fun (_ : Unit) (_ : State) => True) (va_A [] sz)) 0 0 (va_A [] sz) := by
  refine Met.ofW (cc := b_D_within) (maxL := 3) (ret := (Option.some Jvm.ClassFile.FieldType.boolean)) (by decide) rfl ?_
  intro p e s m args below meth c s₁ B hml hv
  obtain ⟨rfl, hsz, hP, hK⟩ := hv
  have hx := B.exec
  have hb := B.bytes
  have hr := B.returns
  have hlocks := B.notSynchronized
  have hg : ∀ w ∈ gw, w.before _ s = true := fun w h => atoms_spec (ws := ws_D_within) B.pre w (List.mem_cons_of_mem _ h)
  have hown : s.vm.findClass "TreeMatcherModel" = some m.cls := findClass_of_methodNamed B.named
  subst hsz
  have hA : ∀ q : Nat, s.heap.size ≤ q → va_A ([] : va_W) s.heap.size q := fun q h => Or.inr h
  generalize hAe : va_A ([] : va_W) s.heap.size = A at hA ⊢
  have hS : va_S A s.heap s.heap [] := va_S.rf
  have hl := lv_entry ([.int x, .int a, .int b] : List Value) (n := 3) (Nat.le_of_ble_eq_true rfl)
  rw [lg_entry_eq]
  generalize (lg_sl ([.int x, .int a, .int b] : List Value) ++ List.replicate (3 - (lg_sl ([.int x, .int a, .int b] : List Value)).length) Slot.unset).toArray = ls at hl ⊢
  have hl : lv_has ls 3 [(0, .int x), (1, .int a), (2, .int b)] := hl
  refine lv_iload_n hx hb d_D_within_0 rfl (lv_at hl 0 rfl) ?_
  refine lv_iload_n hx hb d_D_within_1 rfl (lv_at hl 1 rfl) ?_
  refine lv_icmp_lt (tgt := 14) hx hb d_D_within_2 (by decide) (fun c_1 => ?_) (fun c_1 => ?_)
  · refine lv_iconst (v := 0) hx hb d_D_within_14 (by decide) ?_
    exact W.zret (v := 0) hx hb hr rfl (fun t ht hW => ⟨⟨0, (), rfl, (by rw [if_neg (fun h => absurd c_1 (Int32.not_lt.mpr h.1))]), trivial⟩, hS.F ht⟩) hS.2.2 d_D_within_15
  · refine lv_iload_n hx hb d_D_within_5 rfl (lv_at hl 0 rfl) ?_
    refine lv_iload_n hx hb d_D_within_6 rfl (lv_at hl 2 rfl) ?_
    refine lv_icmp_gt (tgt := 14) hx hb d_D_within_7 (by decide) (fun c_2 => ?_) (fun c_2 => ?_)
    · refine lv_iconst (v := 0) hx hb d_D_within_14 (by decide) ?_
      exact W.zret (v := 0) hx hb hr rfl (fun t ht hW => ⟨⟨0, (), rfl, (by rw [if_neg (fun h => absurd c_2 (Int32.not_lt.mpr h.2))]), trivial⟩, hS.F ht⟩) hS.2.2 d_D_within_15
    · refine lv_iconst (v := 1) hx hb d_D_within_10 (by decide) ?_
      refine lv_goto (tgt := 15) hx hb d_D_within_11 (by decide) ?_
      exact W.zret (v := 1) hx hb hr rfl (fun t ht hW => ⟨⟨1, (), rfl, (by rw [if_pos ⟨Int32.not_lt.mp c_1, Int32.not_lt.mp c_2⟩]), trivial⟩, hS.F ht⟩) hS.2.2 d_D_within_15
set_option maxHeartbeats 4000000 in
set_option maxRecDepth 100000 in
theorem c_D_fail (l : Launch) (dC : Nat → ClassId) (dI : Nat → Nat → Nat) (sz : Nat) (d : Nat) (zd : Nat → Value) (t0 k : Int32) : Met l y_D_fail ws_D_fail ({ frames := 0, cells := 0, slots := 0, locals := 0 }) (va_Pc [.ref d, .int k] (fun U => U.heap.size = sz ∧ va_P (dC, dI) kcl [(d, .inr (9, [.int t0, (zd 1), (zd 2), (zd 3), (zd 4), (zd 5), (zd 6), (zd 7), (zd 8), (zd 9), (zd 10), (zd 11), (zd 12), (zd 13), (zd 14), (zd 15), (zd 16), (zd 17), (zd 18), (zd 19), (zd 20), (zd 21), (zd 22), (zd 23), (zd 24), (zd 25), (zd 26), (zd 27), (zd 28), (zd 29), (zd 30), (zd 31), (zd 32), (zd 33), (zd 34), (zd 35), (zd 36), (zd 37), (zd 38), (zd 39), (zd 40), (zd 41)]))] U.heap ∧ va_K (dC, dI) kcl [] U ∧ va_D (fun _ => True) [(d, .inr (9, [.int t0, (zd 1), (zd 2), (zd 3), (zd 4), (zd 5), (zd 6), (zd 7), (zd 8), (zd 9), (zd 10), (zd 11), (zd 12), (zd 13), (zd 14), (zd 15), (zd 16), (zd 17), (zd 18), (zd 19), (zd 20), (zd 21), (zd 22), (zd 23), (zd 24), (zd 25), (zd 26), (zd 27), (zd 28), (zd 29), (zd 30), (zd 31), (zd 32), (zd 33), (zd 34), (zd 35), (zd 36), (zd 37), (zd 38), (zd 39), (zd 40), (zd 41)]))])) (va_Qi (fun (r th : Int32) => r = 0 ∧ th = k) (fun (th : Int32) (t : State) => ∃ zd2 : Nat → Value, va_P (dC, dI) kcl [(d, .inr (9, [.int th, (zd2 1), (zd2 2), (zd2 3), (zd2 4), (zd2 5), (zd2 6), (zd2 7), (zd2 8), (zd2 9), (zd2 10), (zd2 11), (zd2 12), (zd2 13), (zd2 14), (zd2 15), (zd2 16), (zd2 17), (zd2 18), (zd2 19), (zd2 20), (zd2 21), (zd2 22), (zd2 23), (zd2 24), (zd2 25), (zd2 26), (zd2 27), (zd2 28), (zd2 29), (zd2 30), (zd2 31), (zd2 32), (zd2 33), (zd2 34), (zd2 35), (zd2 36), (zd2 37), (zd2 38), (zd2 39), (zd2 40), (zd2 41)]))] t.heap ∧ va_K (dC, dI) kcl [] t ∧ va_D (va_A [(d, .inr (9, [.int t0, (zd 1), (zd 2), (zd 3), (zd 4), (zd 5), (zd 6), (zd 7), (zd 8), (zd 9), (zd 10), (zd 11), (zd 12), (zd 13), (zd 14), (zd 15), (zd 16), (zd 17), (zd 18), (zd 19), (zd 20), (zd 21), (zd 22), (zd 23), (zd 24), (zd 25), (zd 26), (zd 27), (zd 28), (zd 29), (zd 30), (zd 31), (zd 32), (zd 33), (zd 34), (zd 35), (zd 36), (zd 37), (zd 38), (zd 39), (zd 40), (zd 41)]))] sz) [(d, .inr (9, [.int th, (zd2 1), (zd2 2), (zd2 3), (zd2 4), (zd2 5), (zd2 6), (zd2 7), (zd2 8), (zd2 9), (zd2 10), (zd2 11), (zd2 12), (zd2 13), (zd2 14), (zd2 15), (zd2 16), (zd2 17), (zd2 18), (zd2 19), (zd2 20), (zd2 21), (zd2 22), (zd2 23), (zd2 24), (zd2 25), (zd2 26), (zd2 27), (zd2 28), (zd2 29), (zd2 30), (zd2 31), (zd2 32), (zd2 33), (zd2 34), (zd2 35), (zd2 36), (zd2 37), (zd2 38), (zd2 39), (zd2 40), (zd2 41)]))]) (va_A [(d, .inr (9, [.int t0, (zd 1), (zd 2), (zd 3), (zd 4), (zd 5), (zd 6), (zd 7), (zd 8), (zd 9), (zd 10), (zd 11), (zd 12), (zd 13), (zd 14), (zd 15), (zd 16), (zd 17), (zd 18), (zd 19), (zd 20), (zd 21), (zd 22), (zd 23), (zd 24), (zd 25), (zd 26), (zd 27), (zd 28), (zd 29), (zd 30), (zd 31), (zd 32), (zd 33), (zd 34), (zd 35), (zd 36), (zd 37), (zd 38), (zd 39), (zd 40), (zd 41)]))] sz)) 0 0 (va_A [(d, .inr (9, [.int t0, (zd 1), (zd 2), (zd 3), (zd 4), (zd 5), (zd 6), (zd 7), (zd 8), (zd 9), (zd 10), (zd 11), (zd 12), (zd 13), (zd 14), (zd 15), (zd 16), (zd 17), (zd 18), (zd 19), (zd 20), (zd 21), (zd 22), (zd 23), (zd 24), (zd 25), (zd 26), (zd 27), (zd 28), (zd 29), (zd 30), (zd 31), (zd 32), (zd 33), (zd 34), (zd 35), (zd 36), (zd 37), (zd 38), (zd 39), (zd 40), (zd 41)]))] sz) := by
  refine Met.ofW (cc := b_D_fail) (maxL := 2) (ret := (Option.some Jvm.ClassFile.FieldType.int)) (by decide) rfl ?_
  intro p e s m args below meth c s₁ B hml hv
  obtain ⟨rfl, hsz, hP, hK, hD0⟩ := hv
  have hx := B.exec
  have hb := B.bytes
  have hr := B.returns
  have hlocks := B.notSynchronized
  have hg : ∀ w ∈ gw, w.before _ s = true := fun w h => atoms_spec (ws := ws_D_fail) B.pre w (List.mem_cons_of_mem _ h)
  have hown : s.vm.findClass "TreeMatcherModel" = some m.cls := findClass_of_methodNamed B.named
  subst hsz
  have hD := hD0.self (sz := s.heap.size)
  have hA : ∀ q : Nat, s.heap.size ≤ q → va_A [(d, .inr (9, [.int t0, (zd 1), (zd 2), (zd 3), (zd 4), (zd 5), (zd 6), (zd 7), (zd 8), (zd 9), (zd 10), (zd 11), (zd 12), (zd 13), (zd 14), (zd 15), (zd 16), (zd 17), (zd 18), (zd 19), (zd 20), (zd 21), (zd 22), (zd 23), (zd 24), (zd 25), (zd 26), (zd 27), (zd 28), (zd 29), (zd 30), (zd 31), (zd 32), (zd 33), (zd 34), (zd 35), (zd 36), (zd 37), (zd 38), (zd 39), (zd 40), (zd 41)]))] s.heap.size q := fun q h => Or.inr h
  generalize hAe : va_A [(d, .inr (9, [.int t0, (zd 1), (zd 2), (zd 3), (zd 4), (zd 5), (zd 6), (zd 7), (zd 8), (zd 9), (zd 10), (zd 11), (zd 12), (zd 13), (zd 14), (zd 15), (zd 16), (zd 17), (zd 18), (zd 19), (zd 20), (zd 21), (zd 22), (zd 23), (zd 24), (zd 25), (zd 26), (zd 27), (zd 28), (zd 29), (zd 30), (zd 31), (zd 32), (zd 33), (zd 34), (zd 35), (zd 36), (zd 37), (zd 38), (zd 39), (zd 40), (zd 41)]))] s.heap.size = A at hD hA ⊢
  have hS : va_S A s.heap s.heap [] := va_S.rf
  have hl := lv_entry ([.ref d, .int k] : List Value) (n := 2) (Nat.le_of_ble_eq_true rfl)
  rw [lg_entry_eq]
  generalize (lg_sl ([.ref d, .int k] : List Value) ++ List.replicate (2 - (lg_sl ([.ref d, .int k] : List Value)).length) Slot.unset).toArray = ls at hl ⊢
  have hl : lv_has ls 2 [(0, .ref d), (1, .int k)] := hl
  refine lv_aload_n hx hb d_D_fail_0 rfl (lv_at hl 0 rfl) ?_
  refine lv_iload_n hx hb d_D_fail_1 rfl (lv_at hl 1 rfl) ?_
  refine va_put (D := (dC, dI)) (ci := 9) (v := .int k) (ty := .int) (C := kR_D) (T := kT_D) (N := 42) hx hb hg kin_D kt_D kty_D knm_D hown hK hP hD hS 0 rfl rfl 0 (by decide) (hg _ tw_817) (fun _ h9 => h9) rfl (by decide +kernel) rfl rfl (Nat.le_of_ble_eq_true rfl) d_D_fail_2 (fun H_1 lo_2 hP hD hS => ?_)
  have hP : va_P (dC, dI) kcl [(d, .inr (9, [.int k, (zd 1), (zd 2), (zd 3), (zd 4), (zd 5), (zd 6), (zd 7), (zd 8), (zd 9), (zd 10), (zd 11), (zd 12), (zd 13), (zd 14), (zd 15), (zd 16), (zd 17), (zd 18), (zd 19), (zd 20), (zd 21), (zd 22), (zd 23), (zd 24), (zd 25), (zd 26), (zd 27), (zd 28), (zd 29), (zd 30), (zd 31), (zd 32), (zd 33), (zd 34), (zd 35), (zd 36), (zd 37), (zd 38), (zd 39), (zd 40), (zd 41)]))] H_1 := hP
  have hD : va_D A [(d, .inr (9, [.int k, (zd 1), (zd 2), (zd 3), (zd 4), (zd 5), (zd 6), (zd 7), (zd 8), (zd 9), (zd 10), (zd 11), (zd 12), (zd 13), (zd 14), (zd 15), (zd 16), (zd 17), (zd 18), (zd 19), (zd 20), (zd 21), (zd 22), (zd 23), (zd 24), (zd 25), (zd 26), (zd 27), (zd 28), (zd 29), (zd 30), (zd 31), (zd 32), (zd 33), (zd 34), (zd 35), (zd 36), (zd 37), (zd 38), (zd 39), (zd 40), (zd 41)]))] := hD
  refine lv_iconst (v := 0) hx hb d_D_fail_5 (by decide) ?_
  have hP9 := hP.sub (ws' := [(d, .inr (9, [.int k, (zd 1), (zd 2), (zd 3), (zd 4), (zd 5), (zd 6), (zd 7), (zd 8), (zd 9), (zd 10), (zd 11), (zd 12), (zd 13), (zd 14), (zd 15), (zd 16), (zd 17), (zd 18), (zd 19), (zd 20), (zd 21), (zd 22), (zd 23), (zd 24), (zd 25), (zd 26), (zd 27), (zd 28), (zd 29), (zd 30), (zd 31), (zd 32), (zd 33), (zd 34), (zd 35), (zd 36), (zd 37), (zd 38), (zd 39), (zd 40), (zd 41)]))]) [0] rfl
  have hD9 := hD.sub (ws' := [(d, .inr (9, [.int k, (zd 1), (zd 2), (zd 3), (zd 4), (zd 5), (zd 6), (zd 7), (zd 8), (zd 9), (zd 10), (zd 11), (zd 12), (zd 13), (zd 14), (zd 15), (zd 16), (zd 17), (zd 18), (zd 19), (zd 20), (zd 21), (zd 22), (zd 23), (zd 24), (zd 25), (zd 26), (zd 27), (zd 28), (zd 29), (zd 30), (zd 31), (zd 32), (zd 33), (zd 34), (zd 35), (zd 36), (zd 37), (zd 38), (zd 39), (zd 40), (zd 41)]))]) [0] (by decide) rfl
  have hK9 := hK.sub (tys' := []) [] rfl
  exact W.iret (v := 0) hx hb hr (fun t ht hW => ⟨⟨0, k, rfl, ⟨rfl, rfl⟩, ⟨(fun i => List.getD [Value.int (k : Int32), (zd 1), (zd 2), (zd 3), (zd 4), (zd 5), (zd 6), (zd 7), (zd 8), (zd 9), (zd 10), (zd 11), (zd 12), (zd 13), (zd 14), (zd 15), (zd 16), (zd 17), (zd 18), (zd 19), (zd 20), (zd 21), (zd 22), (zd 23), (zd 24), (zd 25), (zd 26), (zd 27), (zd 28), (zd 29), (zd 30), (zd 31), (zd 32), (zd 33), (zd 34), (zd 35), (zd 36), (zd 37), (zd 38), (zd 39), (zd 40), (zd 41)] i Value.null), by rw [ht]; exact hP9, va_K.moved hW.alike hK9, hD9⟩⟩, hS.F ht⟩) hS.2.2 d_D_fail_6
set_option maxHeartbeats 4000000 in
set_option maxRecDepth 100000 in
theorem c_D_isPattern (l : Launch) (dC : Nat → ClassId) (dI : Nat → Nat → Nat) (sz : Nat) (d : Nat) (zd : Nat → Value) : Met l y_D_isPattern ws_D_isPattern ({ frames := 0, cells := 0, slots := 0, locals := 0 }) (va_Pc [.ref d] (fun U => U.heap.size = sz ∧ va_P (dC, dI) kcl [(d, .inr (9, [(zd 0), (zd 1), (zd 2), (zd 3), .int 0, (zd 5), (zd 6), (zd 7), (zd 8), (zd 9), (zd 10), (zd 11), (zd 12), (zd 13), (zd 14), (zd 15), (zd 16), (zd 17), (zd 18), (zd 19), (zd 20), (zd 21), (zd 22), (zd 23), (zd 24), (zd 25), (zd 26), (zd 27), (zd 28), (zd 29), (zd 30), (zd 31), (zd 32), (zd 33), (zd 34), (zd 35), (zd 36), (zd 37), (zd 38), (zd 39), (zd 40), (zd 41)]))] U.heap ∧ va_K (dC, dI) kcl [] U)) (va_Qi (fun (r : Int32) (_ : Unit) => r = 0) (fun (_ : Unit) (_ : State) => True) (va_A [] sz)) 0 0 (va_A [] sz) := by
  refine Met.ofW (cc := b_D_isPattern) (maxL := 3) (ret := (Option.some Jvm.ClassFile.FieldType.boolean)) (by decide) rfl ?_
  intro p e s m args below meth c s₁ B hml hv
  obtain ⟨rfl, hsz, hP, hK⟩ := hv
  have hx := B.exec
  have hb := B.bytes
  have hr := B.returns
  have hlocks := B.notSynchronized
  have hg : ∀ w ∈ gw, w.before _ s = true := fun w h => atoms_spec (ws := ws_D_isPattern) B.pre w (List.mem_cons_of_mem _ h)
  have hown : s.vm.findClass "TreeMatcherModel" = some m.cls := findClass_of_methodNamed B.named
  subst hsz
  have hA : ∀ q : Nat, s.heap.size ≤ q → va_A ([] : va_W) s.heap.size q := fun q h => Or.inr h
  generalize hAe : va_A ([] : va_W) s.heap.size = A at hA ⊢
  have hS : va_S A s.heap s.heap [] := va_S.rf
  have hl := lv_entry ([.ref d] : List Value) (n := 3) (Nat.le_of_ble_eq_true rfl)
  rw [lg_entry_eq]
  generalize (lg_sl ([.ref d] : List Value) ++ List.replicate (3 - (lg_sl ([.ref d] : List Value)).length) Slot.unset).toArray = ls at hl ⊢
  have hl : lv_has ls 3 [(0, .ref d)] := hl
  refine lv_iconst (v := 1) hx hb d_D_isPattern_0 (by decide) ?_
  refine lv_istore_n (lv' := [(1, .int 1), (0, .ref d)]) hx hb d_D_isPattern_1 rfl hl (by decide) rfl (fun ls hl => ?_)
  refine lv_iconst (v := 0) hx hb d_D_isPattern_2 (by decide) ?_
  refine lv_istore_n (lv' := [(2, .int 0), (1, .int 1), (0, .ref d)]) hx hb d_D_isPattern_3 rfl hl (by decide) rfl (fun ls hl => ?_)
  refine lv_iload_n hx hb d_D_isPattern_4 rfl (lv_at hl 0 rfl) ?_
  refine lv_aload_n hx hb d_D_isPattern_5 rfl (lv_at hl 2 rfl) ?_
  refine va_get (D := (dC, dI)) (ci := 9) (v := .int 0) (C := kR_D) (T := kT_D) (N := 42) hx hb hg kin_D hown hK hP 0 rfl rfl 4 (by decide) (hg _ tw_821) (fun _ h9 => h9) rfl d_D_isPattern_6 ?_
  refine lv_icmp_ge (tgt := 81) hx hb d_D_isPattern_9 (by decide) (fun c_1 => ?_) (fun c_1 => ?_)
  · refine lv_iload_n hx hb d_D_isPattern_81 rfl (lv_at hl 1 rfl) ?_
    refine lv_if_ne (tgt := 89) hx hb d_D_isPattern_82 (by decide) (fun c_2 => ?_) (fun c_2 => ?_)
    · refine lv_iconst (v := 0) hx hb d_D_isPattern_89 (by decide) ?_
      exact W.zret (v := 0) hx hb hr rfl (fun t ht hW => ⟨⟨0, (), rfl, rfl, trivial⟩, hS.F ht⟩) hS.2.2 d_D_isPattern_90
    · exact absurd c_2 (by decide)
  · exact absurd (by decide) c_1
set_option maxHeartbeats 4000000 in
set_option maxRecDepth 100000 in
theorem c_D_findParts (l : Launch) (dC : Nat → ClassId) (dI : Nat → Nat → Nat) (sz : Nat) (d : Nat) (zd : Nat → Value) (q0 : Int32) : Met l y_D_findParts ws_D_findParts ({ frames := 0, cells := 0, slots := 0, locals := 0 }) (va_Pc [.ref d] (fun U => U.heap.size = sz ∧ va_P (dC, dI) kcl [(d, .inr (9, [(zd 0), (zd 1), (zd 2), (zd 3), (zd 4), .int 0, (zd 6), (zd 7), (zd 8), (zd 9), (zd 10), (zd 11), (zd 12), (zd 13), (zd 14), (zd 15), (zd 16), (zd 17), (zd 18), (zd 19), (zd 20), (zd 21), (zd 22), (zd 23), (zd 24), (zd 25), (zd 26), (zd 27), (zd 28), (zd 29), (zd 30), (zd 31), .int q0, (zd 33), (zd 34), (zd 35), (zd 36), (zd 37), (zd 38), (zd 39), (zd 40), (zd 41)]))] U.heap ∧ va_K (dC, dI) kcl [] U ∧ va_D (fun _ => True) [(d, .inr (9, [(zd 0), (zd 1), (zd 2), (zd 3), (zd 4), .int 0, (zd 6), (zd 7), (zd 8), (zd 9), (zd 10), (zd 11), (zd 12), (zd 13), (zd 14), (zd 15), (zd 16), (zd 17), (zd 18), (zd 19), (zd 20), (zd 21), (zd 22), (zd 23), (zd 24), (zd 25), (zd 26), (zd 27), (zd 28), (zd 29), (zd 30), (zd 31), .int q0, (zd 33), (zd 34), (zd 35), (zd 36), (zd 37), (zd 38), (zd 39), (zd 40), (zd 41)]))])) (va_Qv (fun (_ : Unit) => True) (fun (_ : Unit) (t : State) => va_P (dC, dI) kcl [(d, .inr (9, [(zd 0), (zd 1), (zd 2), (zd 3), (zd 4), .int 0, (zd 6), (zd 7), (zd 8), (zd 9), (zd 10), (zd 11), (zd 12), (zd 13), (zd 14), (zd 15), (zd 16), (zd 17), (zd 18), (zd 19), (zd 20), (zd 21), (zd 22), (zd 23), (zd 24), (zd 25), (zd 26), (zd 27), (zd 28), (zd 29), (zd 30), (zd 31), .int 16, (zd 33), (zd 34), (zd 35), (zd 36), (zd 37), (zd 38), (zd 39), (zd 40), (zd 41)]))] t.heap ∧ va_K (dC, dI) kcl [] t ∧ va_D (va_A [(d, .inr (9, [(zd 0), (zd 1), (zd 2), (zd 3), (zd 4), .int 0, (zd 6), (zd 7), (zd 8), (zd 9), (zd 10), (zd 11), (zd 12), (zd 13), (zd 14), (zd 15), (zd 16), (zd 17), (zd 18), (zd 19), (zd 20), (zd 21), (zd 22), (zd 23), (zd 24), (zd 25), (zd 26), (zd 27), (zd 28), (zd 29), (zd 30), (zd 31), .int q0, (zd 33), (zd 34), (zd 35), (zd 36), (zd 37), (zd 38), (zd 39), (zd 40), (zd 41)]))] sz) [(d, .inr (9, [(zd 0), (zd 1), (zd 2), (zd 3), (zd 4), .int 0, (zd 6), (zd 7), (zd 8), (zd 9), (zd 10), (zd 11), (zd 12), (zd 13), (zd 14), (zd 15), (zd 16), (zd 17), (zd 18), (zd 19), (zd 20), (zd 21), (zd 22), (zd 23), (zd 24), (zd 25), (zd 26), (zd 27), (zd 28), (zd 29), (zd 30), (zd 31), .int 16, (zd 33), (zd 34), (zd 35), (zd 36), (zd 37), (zd 38), (zd 39), (zd 40), (zd 41)]))]) (va_A [(d, .inr (9, [(zd 0), (zd 1), (zd 2), (zd 3), (zd 4), .int 0, (zd 6), (zd 7), (zd 8), (zd 9), (zd 10), (zd 11), (zd 12), (zd 13), (zd 14), (zd 15), (zd 16), (zd 17), (zd 18), (zd 19), (zd 20), (zd 21), (zd 22), (zd 23), (zd 24), (zd 25), (zd 26), (zd 27), (zd 28), (zd 29), (zd 30), (zd 31), .int q0, (zd 33), (zd 34), (zd 35), (zd 36), (zd 37), (zd 38), (zd 39), (zd 40), (zd 41)]))] sz)) 0 0 (va_A [(d, .inr (9, [(zd 0), (zd 1), (zd 2), (zd 3), (zd 4), .int 0, (zd 6), (zd 7), (zd 8), (zd 9), (zd 10), (zd 11), (zd 12), (zd 13), (zd 14), (zd 15), (zd 16), (zd 17), (zd 18), (zd 19), (zd 20), (zd 21), (zd 22), (zd 23), (zd 24), (zd 25), (zd 26), (zd 27), (zd 28), (zd 29), (zd 30), (zd 31), .int q0, (zd 33), (zd 34), (zd 35), (zd 36), (zd 37), (zd 38), (zd 39), (zd 40), (zd 41)]))] sz) := by
  refine Met.ofW (cc := b_D_findParts) (maxL := 4) (ret := (Option.none : Option Jvm.ClassFile.FieldType)) (by decide) rfl ?_
  intro p e s m args below meth c s₁ B hml hv
  obtain ⟨rfl, hsz, hP, hK, hD0⟩ := hv
  have hx := B.exec
  have hb := B.bytes
  have hr := B.returns
  have hlocks := B.notSynchronized
  have hg : ∀ w ∈ gw, w.before _ s = true := fun w h => atoms_spec (ws := ws_D_findParts) B.pre w (List.mem_cons_of_mem _ h)
  have hown : s.vm.findClass "TreeMatcherModel" = some m.cls := findClass_of_methodNamed B.named
  subst hsz
  have hD := hD0.self (sz := s.heap.size)
  have hA : ∀ q : Nat, s.heap.size ≤ q → va_A [(d, .inr (9, [(zd 0), (zd 1), (zd 2), (zd 3), (zd 4), .int 0, (zd 6), (zd 7), (zd 8), (zd 9), (zd 10), (zd 11), (zd 12), (zd 13), (zd 14), (zd 15), (zd 16), (zd 17), (zd 18), (zd 19), (zd 20), (zd 21), (zd 22), (zd 23), (zd 24), (zd 25), (zd 26), (zd 27), (zd 28), (zd 29), (zd 30), (zd 31), .int q0, (zd 33), (zd 34), (zd 35), (zd 36), (zd 37), (zd 38), (zd 39), (zd 40), (zd 41)]))] s.heap.size q := fun q h => Or.inr h
  generalize hAe : va_A [(d, .inr (9, [(zd 0), (zd 1), (zd 2), (zd 3), (zd 4), .int 0, (zd 6), (zd 7), (zd 8), (zd 9), (zd 10), (zd 11), (zd 12), (zd 13), (zd 14), (zd 15), (zd 16), (zd 17), (zd 18), (zd 19), (zd 20), (zd 21), (zd 22), (zd 23), (zd 24), (zd 25), (zd 26), (zd 27), (zd 28), (zd 29), (zd 30), (zd 31), .int q0, (zd 33), (zd 34), (zd 35), (zd 36), (zd 37), (zd 38), (zd 39), (zd 40), (zd 41)]))] s.heap.size = A at hD hA ⊢
  have hS : va_S A s.heap s.heap [] := va_S.rf
  have hl := lv_entry ([.ref d] : List Value) (n := 4) (Nat.le_of_ble_eq_true rfl)
  rw [lg_entry_eq]
  generalize (lg_sl ([.ref d] : List Value) ++ List.replicate (4 - (lg_sl ([.ref d] : List Value)).length) Slot.unset).toArray = ls at hl ⊢
  have hl : lv_has ls 4 [(0, .ref d)] := hl
  refine lv_aload_n hx hb d_D_findParts_0 rfl (lv_at hl 0 rfl) ?_
  refine lv_bipush (v := 16) hx hb d_D_findParts_1 (by decide) ?_
  refine va_put (D := (dC, dI)) (ci := 9) (v := .int 16) (ty := .int) (C := kR_D) (T := kT_D) (N := 42) hx hb hg kin_D kt_D kty_D knm_D hown hK hP hD hS 0 rfl rfl 32 (by decide) (hg _ tw_849) (fun _ h9 => h9) rfl (by decide +kernel) rfl rfl (Nat.le_of_ble_eq_true rfl) d_D_findParts_3 (fun H_1 lo_2 hP hD hS => ?_)
  have hP : va_P (dC, dI) kcl [(d, .inr (9, [(zd 0), (zd 1), (zd 2), (zd 3), (zd 4), .int 0, (zd 6), (zd 7), (zd 8), (zd 9), (zd 10), (zd 11), (zd 12), (zd 13), (zd 14), (zd 15), (zd 16), (zd 17), (zd 18), (zd 19), (zd 20), (zd 21), (zd 22), (zd 23), (zd 24), (zd 25), (zd 26), (zd 27), (zd 28), (zd 29), (zd 30), (zd 31), .int 16, (zd 33), (zd 34), (zd 35), (zd 36), (zd 37), (zd 38), (zd 39), (zd 40), (zd 41)]))] H_1 := hP
  have hD : va_D A [(d, .inr (9, [(zd 0), (zd 1), (zd 2), (zd 3), (zd 4), .int 0, (zd 6), (zd 7), (zd 8), (zd 9), (zd 10), (zd 11), (zd 12), (zd 13), (zd 14), (zd 15), (zd 16), (zd 17), (zd 18), (zd 19), (zd 20), (zd 21), (zd 22), (zd 23), (zd 24), (zd 25), (zd 26), (zd 27), (zd 28), (zd 29), (zd 30), (zd 31), .int 16, (zd 33), (zd 34), (zd 35), (zd 36), (zd 37), (zd 38), (zd 39), (zd 40), (zd 41)]))] := hD
  refine lv_iconst (v := 0) hx hb d_D_findParts_6 (by decide) ?_
  refine lv_istore_n (lv' := [(1, .int 0), (0, .ref d)]) hx hb d_D_findParts_7 rfl hl (by decide) rfl (fun ls hl => ?_)
  refine lv_iload_n hx hb d_D_findParts_8 rfl (lv_at hl 0 rfl) ?_
  refine lv_aload_n hx hb d_D_findParts_9 rfl (lv_at hl 1 rfl) ?_
  refine va_get (D := (dC, dI)) (ci := 9) (v := .int 0) (C := kR_D) (T := kT_D) (N := 42) hx hb hg kin_D hown hK hP 0 rfl rfl 5 (by decide) (hg _ tw_822) (fun _ h9 => h9) rfl d_D_findParts_10 ?_
  refine lv_icmp_ge (tgt := 104) hx hb d_D_findParts_13 (by decide) (fun c_3 => ?_) (fun c_3 => ?_)
  · refine lv_bipush (v := 16) hx hb d_D_findParts_104 (by decide) ?_
    refine lv_istore_n (lv' := [(1, .int 16), (0, .ref d)]) hx hb d_D_findParts_106 rfl hl (by decide) rfl (fun ls hl => ?_)
    refine lv_iload_n hx hb d_D_findParts_107 rfl (lv_at hl 0 rfl) ?_
    refine lv_aload_n hx hb d_D_findParts_108 rfl (lv_at hl 1 rfl) ?_
    refine va_get (D := (dC, dI)) (ci := 9) (v := .int 16) (C := kR_D) (T := kT_D) (N := 42) hx hb hg kin_D hown hK hP 0 rfl rfl 32 (by decide) (hg _ tw_849) (fun _ h9 => h9) rfl d_D_findParts_109 ?_
    refine lv_icmp_ge (tgt := 225) hx hb d_D_findParts_112 (by decide) (fun c_4 => ?_) (fun c_4 => ?_)
    · have hP9 := hP.sub (ws' := [(d, .inr (9, [(zd 0), (zd 1), (zd 2), (zd 3), (zd 4), .int 0, (zd 6), (zd 7), (zd 8), (zd 9), (zd 10), (zd 11), (zd 12), (zd 13), (zd 14), (zd 15), (zd 16), (zd 17), (zd 18), (zd 19), (zd 20), (zd 21), (zd 22), (zd 23), (zd 24), (zd 25), (zd 26), (zd 27), (zd 28), (zd 29), (zd 30), (zd 31), .int 16, (zd 33), (zd 34), (zd 35), (zd 36), (zd 37), (zd 38), (zd 39), (zd 40), (zd 41)]))]) [0] rfl
      have hD9 := hD.sub (ws' := [(d, .inr (9, [(zd 0), (zd 1), (zd 2), (zd 3), (zd 4), .int 0, (zd 6), (zd 7), (zd 8), (zd 9), (zd 10), (zd 11), (zd 12), (zd 13), (zd 14), (zd 15), (zd 16), (zd 17), (zd 18), (zd 19), (zd 20), (zd 21), (zd 22), (zd 23), (zd 24), (zd 25), (zd 26), (zd 27), (zd 28), (zd 29), (zd 30), (zd 31), .int 16, (zd 33), (zd 34), (zd 35), (zd 36), (zd 37), (zd 38), (zd 39), (zd 40), (zd 41)]))]) [0] (by decide) rfl
      have hK9 := hK.sub (tys' := []) [] rfl
      exact W.vret hx hb hr (fun t ht hW => ⟨⟨(), rfl, trivial, ⟨by rw [ht]; exact hP9, va_K.moved hW.alike hK9, hD9⟩⟩, hS.F ht⟩) hS.2.2 d_D_findParts_225
    · exact absurd (by decide) c_4
  · exact absurd (by decide) c_3
set_option maxHeartbeats 4000000 in
set_option maxRecDepth 100000 in
theorem c_D_operator (l : Launch) (dC : Nat → ClassId) (dI : Nat → Nat → Nat) (sz : Nat) (d kq hq : Nat) (cK cH : ClassId) (zd : Nat → Value) (fk fh : Nat → Int32) (hfk : ∀ j, j < 32 → fk j = -1) (t0 : Int32) (n k : Int32) : Met l y_D_operator ws_D_operator ({ frames := 1, cells := 0, slots := 0, locals := 22 }) (va_Pc [.ref d, .int n, .int k] (fun U => U.heap.size = sz ∧ va_P (dC, dI) kcl [(d, .inr (9, [.int t0, .ref kq, .int 0, .ref hq, .int 0, .int 0, (zd 6), (zd 7), (zd 8), (zd 9), (zd 10), (zd 11), .int 0, (zd 13), (zd 14), (zd 15), (zd 16), (zd 17), (zd 18), (zd 19), .int 0, (zd 21), (zd 22), (zd 23), (zd 24), (zd 25), (zd 26), (zd 27), (zd 28), (zd 29), (zd 30), (zd 31), .int 0, (zd 33), (zd 34), (zd 35), (zd 36), (zd 37), (zd 38), (zd 39), (zd 40), .int 0])), (kq, .inl (cK, 32, .inl fk)), (hq, .inl (cH, 12, .inl fh))] U.heap ∧ va_K (dC, dI) kcl [(cK, .int), (cH, .int)] U ∧ va_D (fun _ => True) [(d, .inr (9, [.int t0, .ref kq, .int 0, .ref hq, .int 0, .int 0, (zd 6), (zd 7), (zd 8), (zd 9), (zd 10), (zd 11), .int 0, (zd 13), (zd 14), (zd 15), (zd 16), (zd 17), (zd 18), (zd 19), .int 0, (zd 21), (zd 22), (zd 23), (zd 24), (zd 25), (zd 26), (zd 27), (zd 28), (zd 29), (zd 30), (zd 31), .int 0, (zd 33), (zd 34), (zd 35), (zd 36), (zd 37), (zd 38), (zd 39), (zd 40), .int 0])), (kq, .inl (cK, 32, .inl fk)), (hq, .inl (cH, 12, .inl fh))])) (va_Qi (fun (r th : Int32) => (((0 ≤ n ∧ n ≤ 31) ∧ (0 ≤ k ∧ k ≤ 2)) ∧ r = 1 ∧ th = 0) ∨ (¬ ((0 ≤ n ∧ n ≤ 31) ∧ (0 ≤ k ∧ k ≤ 2)) ∧ th = 1)) (fun (th : Int32) (t : State) => ∃ zd2 : Nat → Value, va_P (dC, dI) kcl [(d, .inr (9, [.int th, (zd2 1), (zd2 2), (zd2 3), (zd2 4), (zd2 5), (zd2 6), (zd2 7), (zd2 8), (zd2 9), (zd2 10), (zd2 11), (zd2 12), (zd2 13), (zd2 14), (zd2 15), (zd2 16), (zd2 17), (zd2 18), (zd2 19), (zd2 20), (zd2 21), (zd2 22), (zd2 23), (zd2 24), (zd2 25), (zd2 26), (zd2 27), (zd2 28), (zd2 29), (zd2 30), (zd2 31), (zd2 32), (zd2 33), (zd2 34), (zd2 35), (zd2 36), (zd2 37), (zd2 38), (zd2 39), (zd2 40), (zd2 41)]))] t.heap ∧ va_K (dC, dI) kcl [] t ∧ va_D (va_A [(d, .inr (9, [.int t0, .ref kq, .int 0, .ref hq, .int 0, .int 0, (zd 6), (zd 7), (zd 8), (zd 9), (zd 10), (zd 11), .int 0, (zd 13), (zd 14), (zd 15), (zd 16), (zd 17), (zd 18), (zd 19), .int 0, (zd 21), (zd 22), (zd 23), (zd 24), (zd 25), (zd 26), (zd 27), (zd 28), (zd 29), (zd 30), (zd 31), .int 0, (zd 33), (zd 34), (zd 35), (zd 36), (zd 37), (zd 38), (zd 39), (zd 40), .int 0])), (kq, .inl (cK, 32, .inl fk)), (hq, .inl (cH, 12, .inl fh))] sz) [(d, .inr (9, [.int th, (zd2 1), (zd2 2), (zd2 3), (zd2 4), (zd2 5), (zd2 6), (zd2 7), (zd2 8), (zd2 9), (zd2 10), (zd2 11), (zd2 12), (zd2 13), (zd2 14), (zd2 15), (zd2 16), (zd2 17), (zd2 18), (zd2 19), (zd2 20), (zd2 21), (zd2 22), (zd2 23), (zd2 24), (zd2 25), (zd2 26), (zd2 27), (zd2 28), (zd2 29), (zd2 30), (zd2 31), (zd2 32), (zd2 33), (zd2 34), (zd2 35), (zd2 36), (zd2 37), (zd2 38), (zd2 39), (zd2 40), (zd2 41)]))]) (va_A [(d, .inr (9, [.int t0, .ref kq, .int 0, .ref hq, .int 0, .int 0, (zd 6), (zd 7), (zd 8), (zd 9), (zd 10), (zd 11), .int 0, (zd 13), (zd 14), (zd 15), (zd 16), (zd 17), (zd 18), (zd 19), .int 0, (zd 21), (zd 22), (zd 23), (zd 24), (zd 25), (zd 26), (zd 27), (zd 28), (zd 29), (zd 30), (zd 31), .int 0, (zd 33), (zd 34), (zd 35), (zd 36), (zd 37), (zd 38), (zd 39), (zd 40), .int 0])), (kq, .inl (cK, 32, .inl fk)), (hq, .inl (cH, 12, .inl fh))] sz)) 0 0 (va_A [(d, .inr (9, [.int t0, .ref kq, .int 0, .ref hq, .int 0, .int 0, (zd 6), (zd 7), (zd 8), (zd 9), (zd 10), (zd 11), .int 0, (zd 13), (zd 14), (zd 15), (zd 16), (zd 17), (zd 18), (zd 19), .int 0, (zd 21), (zd 22), (zd 23), (zd 24), (zd 25), (zd 26), (zd 27), (zd 28), (zd 29), (zd 30), (zd 31), .int 0, (zd 33), (zd 34), (zd 35), (zd 36), (zd 37), (zd 38), (zd 39), (zd 40), .int 0])), (kq, .inl (cK, 32, .inl fk)), (hq, .inl (cH, 12, .inl fh))] sz) := by
  refine Met.ofW (cc := b_D_operator) (maxL := 3) (ret := (Option.some Jvm.ClassFile.FieldType.int)) (by decide) rfl ?_
  intro p e s m args below meth c s₁ B hml hv
  obtain ⟨rfl, hsz, hP, hK, hD0⟩ := hv
  have hx := B.exec
  have hb := B.bytes
  have hr := B.returns
  have hlocks := B.notSynchronized
  have hg : ∀ w ∈ gw, w.before _ s = true := fun w h => atoms_spec (ws := ws_D_operator) B.pre w (List.mem_cons_of_mem _ h)
  have hown : s.vm.findClass "TreeMatcherModel" = some m.cls := findClass_of_methodNamed B.named
  subst hsz
  have hD := hD0.self (sz := s.heap.size)
  have hA : ∀ q : Nat, s.heap.size ≤ q → va_A [(d, .inr (9, [.int t0, .ref kq, .int 0, .ref hq, .int 0, .int 0, (zd 6), (zd 7), (zd 8), (zd 9), (zd 10), (zd 11), .int 0, (zd 13), (zd 14), (zd 15), (zd 16), (zd 17), (zd 18), (zd 19), .int 0, (zd 21), (zd 22), (zd 23), (zd 24), (zd 25), (zd 26), (zd 27), (zd 28), (zd 29), (zd 30), (zd 31), .int 0, (zd 33), (zd 34), (zd 35), (zd 36), (zd 37), (zd 38), (zd 39), (zd 40), .int 0])), (kq, .inl (cK, 32, .inl fk)), (hq, .inl (cH, 12, .inl fh))] s.heap.size q := fun q h => Or.inr h
  generalize hAe : va_A [(d, .inr (9, [.int t0, .ref kq, .int 0, .ref hq, .int 0, .int 0, (zd 6), (zd 7), (zd 8), (zd 9), (zd 10), (zd 11), .int 0, (zd 13), (zd 14), (zd 15), (zd 16), (zd 17), (zd 18), (zd 19), .int 0, (zd 21), (zd 22), (zd 23), (zd 24), (zd 25), (zd 26), (zd 27), (zd 28), (zd 29), (zd 30), (zd 31), .int 0, (zd 33), (zd 34), (zd 35), (zd 36), (zd 37), (zd 38), (zd 39), (zd 40), .int 0])), (kq, .inl (cK, 32, .inl fk)), (hq, .inl (cH, 12, .inl fh))] s.heap.size = A at hD hA ⊢
  have hS : va_S A s.heap s.heap [] := va_S.rf
  have hl := lv_entry ([.ref d, .int n, .int k] : List Value) (n := 3) (Nat.le_of_ble_eq_true rfl)
  rw [lg_entry_eq]
  generalize (lg_sl ([.ref d, .int n, .int k] : List Value) ++ List.replicate (3 - (lg_sl ([.ref d, .int n, .int k] : List Value)).length) Slot.unset).toArray = ls at hl ⊢
  have hl : lv_has ls 3 [(0, .ref d), (1, .int n), (2, .int k)] := hl
  refine lv_aload_n hx hb d_D_operator_0 rfl (lv_at hl 0 rfl) ?_
  refine lv_iconst (v := 0) hx hb d_D_operator_1 (by decide) ?_
  refine va_put (D := (dC, dI)) (ci := 9) (v := .int 0) (ty := .int) (C := kR_D) (T := kT_D) (N := 42) hx hb hg kin_D kt_D kty_D knm_D hown hK hP hD hS 0 rfl rfl 0 (by decide) (hg _ tw_817) (fun _ h9 => h9) rfl (by decide +kernel) rfl rfl (Nat.le_of_ble_eq_true rfl) d_D_operator_2 (fun H_1 lo_2 hP hD hS => ?_)
  have hP : va_P (dC, dI) kcl [(d, .inr (9, [.int 0, .ref kq, .int 0, .ref hq, .int 0, .int 0, (zd 6), (zd 7), (zd 8), (zd 9), (zd 10), (zd 11), .int 0, (zd 13), (zd 14), (zd 15), (zd 16), (zd 17), (zd 18), (zd 19), .int 0, (zd 21), (zd 22), (zd 23), (zd 24), (zd 25), (zd 26), (zd 27), (zd 28), (zd 29), (zd 30), (zd 31), .int 0, (zd 33), (zd 34), (zd 35), (zd 36), (zd 37), (zd 38), (zd 39), (zd 40), .int 0])), (kq, .inl (cK, 32, .inl fk)), (hq, .inl (cH, 12, .inl fh))] H_1 := hP
  have hD : va_D A [(d, .inr (9, [.int 0, .ref kq, .int 0, .ref hq, .int 0, .int 0, (zd 6), (zd 7), (zd 8), (zd 9), (zd 10), (zd 11), .int 0, (zd 13), (zd 14), (zd 15), (zd 16), (zd 17), (zd 18), (zd 19), .int 0, (zd 21), (zd 22), (zd 23), (zd 24), (zd 25), (zd 26), (zd 27), (zd 28), (zd 29), (zd 30), (zd 31), .int 0, (zd 33), (zd 34), (zd 35), (zd 36), (zd 37), (zd 38), (zd 39), (zd 40), .int 0])), (kq, .inl (cK, 32, .inl fk)), (hq, .inl (cH, 12, .inl fh))] := hD
  refine lv_iload_n hx hb d_D_operator_5 rfl (lv_at hl 1 rfl) ?_
  refine lv_iconst (v := 0) hx hb d_D_operator_6 (by decide) ?_
  refine lv_bipush (v := 31) hx hb d_D_operator_7 (by decide) ?_
  have hPc := hP.sub (ws' := []) [] rfl
  have hKc := hK.sub (tys' := []) [] rfl
  refine va_calli (va_runS (As := [.int n, .int 0, .int 31]) (rest := []) ⟨hx, hb, hml, hown, hg⟩ (c_D_within l dC dI H_1.size n 0 31) (va_cwS 3 hg (gw_giS cin_D_within tw_952 tw_953 tw_11) rfl rfl rfl (by decide +kernel) ⟨Nat.le_of_ble_eq_true rfl, Nat.le_of_ble_eq_true rfl⟩) ⟨fun a U g mk q => by obtain ⟨q0, q1, qP, qK⟩ := q; exact ⟨q0, q1, qP, va_K.moved (u := U) (U := U.calling g mk a) (Vm.Alike.refl U.vm) qK⟩, fun U hU hW => ⟨rfl, by rw [hU], by rw [hU]; exact hPc, va_K.moved hW.alike hKc⟩⟩ rfl rfl hl.1 rfl (lv_room (Nat.le_of_ble_eq_true rfl)) d_D_operator_9 ⟨Nat.le_of_ble_eq_true rfl, Nat.le_of_ble_eq_true rfl⟩) hS (fun q h1 h => (tx_pA h1 h).elim) (tx_pF hS hA) (fun r_k_3 u_k_3 t_k_3 H_4 l_k_3 ht hvm hw_k_3 hB hz1 hk1 hS => ?_)
  have hw_k_3 : (if 0 ≤ n ∧ n ≤ 31 then 1 else 0) = r_k_3 := Eq.symm hw_k_3
  subst hw_k_3
  have hP := tx_keep hP hk1
  refine lv_if_eq (tgt := 24) hx hb d_D_operator_12 (by decide) (fun c_5 => ?_) (fun c_5 => ?_)
  · refine lv_aload_n hx hb d_D_operator_24 rfl (lv_at hl 0 rfl) ?_
    refine lv_iconst (v := 1) hx hb d_D_operator_25 (by decide) ?_
    have hPc := hP.sub (ws' := [(d, .inr (9, [.int 0, .ref kq, .int 0, .ref hq, .int 0, .int 0, (zd 6), (zd 7), (zd 8), (zd 9), (zd 10), (zd 11), .int 0, (zd 13), (zd 14), (zd 15), (zd 16), (zd 17), (zd 18), (zd 19), .int 0, (zd 21), (zd 22), (zd 23), (zd 24), (zd 25), (zd 26), (zd 27), (zd 28), (zd 29), (zd 30), (zd 31), .int 0, (zd 33), (zd 34), (zd 35), (zd 36), (zd 37), (zd 38), (zd 39), (zd 40), .int 0]))]) [0] rfl
    have hKc := hK.sub (tys' := []) [] rfl
    have hDc := hD.sub (ws' := [(d, .inr (9, [.int 0, .ref kq, .int 0, .ref hq, .int 0, .int 0, (zd 6), (zd 7), (zd 8), (zd 9), (zd 10), (zd 11), .int 0, (zd 13), (zd 14), (zd 15), (zd 16), (zd 17), (zd 18), (zd 19), .int 0, (zd 21), (zd 22), (zd 23), (zd 24), (zd 25), (zd 26), (zd 27), (zd 28), (zd 29), (zd 30), (zd 31), .int 0, (zd 33), (zd 34), (zd 35), (zd 36), (zd 37), (zd 38), (zd 39), (zd 40), .int 0]))]) [0] (by decide) rfl
    have hFc := va_free (wc := [(d, .inr (9, [.int 0, .ref kq, .int 0, .ref hq, .int 0, .int 0, (zd 6), (zd 7), (zd 8), (zd 9), (zd 10), (zd 11), .int 0, (zd 13), (zd 14), (zd 15), (zd 16), (zd 17), (zd 18), (zd 19), .int 0, (zd 21), (zd 22), (zd 23), (zd 24), (zd 25), (zd 26), (zd 27), (zd 28), (zd 29), (zd 30), (zd 31), .int 0, (zd 33), (zd 34), (zd 35), (zd 36), (zd 37), (zd 38), (zd 39), (zd 40), .int 0]))]) hD hS hA [0] rfl
    refine va_calli (va_runV (As := [.int 1]) (rest := []) ⟨hx, hb, hml, hown, hg⟩ (c_D_fail l dC dI H_4.size d (fun i => if i = 41 then .int 0 else if i = 32 then .int 0 else if i = 20 then .int 0 else if i = 12 then .int 0 else if i = 5 then .int 0 else if i = 4 then .int 0 else if i = 3 then .ref hq else if i = 2 then .int 0 else if i = 1 then .ref kq else zd i) 0 1) (cwV 1 hg (gw_giV cin_D_fail tw_955 tw_957 sw_D_fail tw_11) rfl rfl rfl (by decide +kernel) ⟨Nat.le_of_ble_eq_true rfl, Nat.le_of_ble_eq_true rfl⟩) ⟨fun a U g mk q => by obtain ⟨q0, q1, qP, qK, qD⟩ := q; exact ⟨q0, q1, qP, va_K.moved (u := U) (U := U.calling g mk a) (Vm.Alike.refl U.vm) qK, qD⟩, va_recv hKc hPc (ci := 9) (q0 := 0) rfl rfl, fun U hU hW => ⟨rfl, by rw [hU], by rw [hU]; exact hPc, va_K.moved hW.alike hKc, hDc.weaken (fun _ _ _ _ => trivial)⟩⟩ rfl rfl hl.1 rfl (lv_room (Nat.le_of_ble_eq_true rfl)) d_D_operator_26 ⟨Nat.le_of_ble_eq_true rfl, Nat.le_of_ble_eq_true rfl⟩) hS (fun q _ h => hFc q h) hFc (fun r_k_6 u_k_6 t_k_6 H_7 l_k_6 ht hvm hw_k_6 hB hz1 hk1 hS => ?_)
    obtain ⟨hr_k_6, hu_k_6⟩ := hw_k_6
    subst hr_k_6
    subst hu_k_6
    obtain ⟨zd_k_6, hP1, hK1, hD1⟩ := hB
    rw [ht] at hP1
    have hK1 := va_K.moved hvm.symm hK1
    obtain ⟨hP, hD⟩ := va_join (wr := [(kq, .inl (cK, 32, .inl fk)), (hq, .inl (cH, 12, .inl fh))]) (w1 := [(d, .inr (9, [.int 1, (zd_k_6 1), (zd_k_6 2), (zd_k_6 3), (zd_k_6 4), (zd_k_6 5), (zd_k_6 6), (zd_k_6 7), (zd_k_6 8), (zd_k_6 9), (zd_k_6 10), (zd_k_6 11), (zd_k_6 12), (zd_k_6 13), (zd_k_6 14), (zd_k_6 15), (zd_k_6 16), (zd_k_6 17), (zd_k_6 18), (zd_k_6 19), (zd_k_6 20), (zd_k_6 21), (zd_k_6 22), (zd_k_6 23), (zd_k_6 24), (zd_k_6 25), (zd_k_6 26), (zd_k_6 27), (zd_k_6 28), (zd_k_6 29), (zd_k_6 30), (zd_k_6 31), (zd_k_6 32), (zd_k_6 33), (zd_k_6 34), (zd_k_6 35), (zd_k_6 36), (zd_k_6 37), (zd_k_6 38), (zd_k_6 39), (zd_k_6 40), (zd_k_6 41)]))]) hP hD [0] [1, 2] rfl rfl (by decide) (by decide) hk1 hFc hP1 hD1
    have hK := (hK.sub (tys' := [(cK, .int), (cH, .int)]) [0, 1] rfl).app hK1
    have hP : va_P (dC, dI) kcl [(kq, .inl (cK, 32, .inl fk)), (hq, .inl (cH, 12, .inl fh)), (d, .inr (9, [.int 1, (zd_k_6 1), (zd_k_6 2), (zd_k_6 3), (zd_k_6 4), (zd_k_6 5), (zd_k_6 6), (zd_k_6 7), (zd_k_6 8), (zd_k_6 9), (zd_k_6 10), (zd_k_6 11), (zd_k_6 12), (zd_k_6 13), (zd_k_6 14), (zd_k_6 15), (zd_k_6 16), (zd_k_6 17), (zd_k_6 18), (zd_k_6 19), (zd_k_6 20), (zd_k_6 21), (zd_k_6 22), (zd_k_6 23), (zd_k_6 24), (zd_k_6 25), (zd_k_6 26), (zd_k_6 27), (zd_k_6 28), (zd_k_6 29), (zd_k_6 30), (zd_k_6 31), (zd_k_6 32), (zd_k_6 33), (zd_k_6 34), (zd_k_6 35), (zd_k_6 36), (zd_k_6 37), (zd_k_6 38), (zd_k_6 39), (zd_k_6 40), (zd_k_6 41)]))] H_7 := hP
    have hD : va_D A [(kq, .inl (cK, 32, .inl fk)), (hq, .inl (cH, 12, .inl fh)), (d, .inr (9, [.int 1, (zd_k_6 1), (zd_k_6 2), (zd_k_6 3), (zd_k_6 4), (zd_k_6 5), (zd_k_6 6), (zd_k_6 7), (zd_k_6 8), (zd_k_6 9), (zd_k_6 10), (zd_k_6 11), (zd_k_6 12), (zd_k_6 13), (zd_k_6 14), (zd_k_6 15), (zd_k_6 16), (zd_k_6 17), (zd_k_6 18), (zd_k_6 19), (zd_k_6 20), (zd_k_6 21), (zd_k_6 22), (zd_k_6 23), (zd_k_6 24), (zd_k_6 25), (zd_k_6 26), (zd_k_6 27), (zd_k_6 28), (zd_k_6 29), (zd_k_6 30), (zd_k_6 31), (zd_k_6 32), (zd_k_6 33), (zd_k_6 34), (zd_k_6 35), (zd_k_6 36), (zd_k_6 37), (zd_k_6 38), (zd_k_6 39), (zd_k_6 40), (zd_k_6 41)]))] := hD
    have hK : va_K (dC, dI) kcl [(cK, .int), (cH, .int)] s := hK
    have hP9 := hP.sub (ws' := [(d, .inr (9, [.int 1, (zd_k_6 1), (zd_k_6 2), (zd_k_6 3), (zd_k_6 4), (zd_k_6 5), (zd_k_6 6), (zd_k_6 7), (zd_k_6 8), (zd_k_6 9), (zd_k_6 10), (zd_k_6 11), (zd_k_6 12), (zd_k_6 13), (zd_k_6 14), (zd_k_6 15), (zd_k_6 16), (zd_k_6 17), (zd_k_6 18), (zd_k_6 19), (zd_k_6 20), (zd_k_6 21), (zd_k_6 22), (zd_k_6 23), (zd_k_6 24), (zd_k_6 25), (zd_k_6 26), (zd_k_6 27), (zd_k_6 28), (zd_k_6 29), (zd_k_6 30), (zd_k_6 31), (zd_k_6 32), (zd_k_6 33), (zd_k_6 34), (zd_k_6 35), (zd_k_6 36), (zd_k_6 37), (zd_k_6 38), (zd_k_6 39), (zd_k_6 40), (zd_k_6 41)]))]) [2] rfl
    have hD9 := hD.sub (ws' := [(d, .inr (9, [.int 1, (zd_k_6 1), (zd_k_6 2), (zd_k_6 3), (zd_k_6 4), (zd_k_6 5), (zd_k_6 6), (zd_k_6 7), (zd_k_6 8), (zd_k_6 9), (zd_k_6 10), (zd_k_6 11), (zd_k_6 12), (zd_k_6 13), (zd_k_6 14), (zd_k_6 15), (zd_k_6 16), (zd_k_6 17), (zd_k_6 18), (zd_k_6 19), (zd_k_6 20), (zd_k_6 21), (zd_k_6 22), (zd_k_6 23), (zd_k_6 24), (zd_k_6 25), (zd_k_6 26), (zd_k_6 27), (zd_k_6 28), (zd_k_6 29), (zd_k_6 30), (zd_k_6 31), (zd_k_6 32), (zd_k_6 33), (zd_k_6 34), (zd_k_6 35), (zd_k_6 36), (zd_k_6 37), (zd_k_6 38), (zd_k_6 39), (zd_k_6 40), (zd_k_6 41)]))]) [2] (by decide) rfl
    have hK9 := hK.sub (tys' := []) [] rfl
    exact W.iret (v := 0) hx hb hr (fun t ht hW => ⟨⟨0, 1, rfl, Or.inr ⟨fun h => tx_if0 c_5 h.1, rfl⟩, ⟨(fun i => List.getD [Value.int (1 : Int32), (zd_k_6 1), (zd_k_6 2), (zd_k_6 3), (zd_k_6 4), (zd_k_6 5), (zd_k_6 6), (zd_k_6 7), (zd_k_6 8), (zd_k_6 9), (zd_k_6 10), (zd_k_6 11), (zd_k_6 12), (zd_k_6 13), (zd_k_6 14), (zd_k_6 15), (zd_k_6 16), (zd_k_6 17), (zd_k_6 18), (zd_k_6 19), (zd_k_6 20), (zd_k_6 21), (zd_k_6 22), (zd_k_6 23), (zd_k_6 24), (zd_k_6 25), (zd_k_6 26), (zd_k_6 27), (zd_k_6 28), (zd_k_6 29), (zd_k_6 30), (zd_k_6 31), (zd_k_6 32), (zd_k_6 33), (zd_k_6 34), (zd_k_6 35), (zd_k_6 36), (zd_k_6 37), (zd_k_6 38), (zd_k_6 39), (zd_k_6 40), (zd_k_6 41)] i Value.null), by rw [ht]; exact hP9, va_K.moved hW.alike hK9, hD9⟩⟩, hS.F ht⟩) hS.2.2 d_D_operator_29
  · refine lv_iload_n hx hb d_D_operator_15 rfl (lv_at hl 2 rfl) ?_
    refine lv_iconst (v := 0) hx hb d_D_operator_16 (by decide) ?_
    refine lv_iconst (v := 2) hx hb d_D_operator_17 (by decide) ?_
    have hPc := hP.sub (ws' := []) [] rfl
    have hKc := hK.sub (tys' := []) [] rfl
    refine va_calli (va_runS (As := [.int k, .int 0, .int 2]) (rest := []) ⟨hx, hb, hml, hown, hg⟩ (c_D_within l dC dI H_4.size k 0 2) (va_cwS 3 hg (gw_giS cin_D_within tw_952 tw_953 tw_11) rfl rfl rfl (by decide +kernel) ⟨Nat.le_of_ble_eq_true rfl, Nat.le_of_ble_eq_true rfl⟩) ⟨fun a U g mk q => by obtain ⟨q0, q1, qP, qK⟩ := q; exact ⟨q0, q1, qP, va_K.moved (u := U) (U := U.calling g mk a) (Vm.Alike.refl U.vm) qK⟩, fun U hU hW => ⟨rfl, by rw [hU], by rw [hU]; exact hPc, va_K.moved hW.alike hKc⟩⟩ rfl rfl hl.1 rfl (lv_room (Nat.le_of_ble_eq_true rfl)) d_D_operator_18 ⟨Nat.le_of_ble_eq_true rfl, Nat.le_of_ble_eq_true rfl⟩) hS (fun q h1 h => (tx_pA h1 h).elim) (tx_pF hS hA) (fun r_k_9 u_k_9 t_k_9 H_10 l_k_9 ht hvm hw_k_9 hB hz1 hk1 hS => ?_)
    have hw_k_9 : (if 0 ≤ k ∧ k ≤ 2 then 1 else 0) = r_k_9 := Eq.symm hw_k_9
    subst hw_k_9
    have hP := tx_keep hP hk1
    refine lv_if_ne (tgt := 30) hx hb d_D_operator_21 (by decide) (fun c_11 => ?_) (fun c_11 => ?_)
    · refine lv_aload_n hx hb d_D_operator_30 rfl (lv_at hl 0 rfl) ?_
      refine va_get (D := (dC, dI)) (ci := 9) (v := .ref kq) (C := kR_D) (T := kT_D) (N := 42) hx hb hg kin_D hown hK hP 0 rfl rfl 1 (by decide) (hg _ tw_818) (fun _ h9 => h9) rfl d_D_operator_31 ?_
      refine lv_iload_n hx hb d_D_operator_34 rfl (lv_at hl 1 rfl) ?_
      have hi := tx_le31 (tx_if1 c_5)
      refine va_iald hx hb hK hP 1 0 rfl rfl (tx_in32 hi) d_D_operator_35 ?_
      refine lv_iconst (v := (-1)) hx hb d_D_operator_36 (by decide) ?_
      refine lv_icmp_eq (tgt := 46) hx hb d_D_operator_37 (by decide) (fun c_12 => ?_) (fun c_12 => ?_)
      · refine lv_aload_n hx hb d_D_operator_46 rfl (lv_at hl 0 rfl) ?_
        refine va_get (D := (dC, dI)) (ci := 9) (v := .ref kq) (C := kR_D) (T := kT_D) (N := 42) hx hb hg kin_D hown hK hP 0 rfl rfl 1 (by decide) (hg _ tw_818) (fun _ h9 => h9) rfl d_D_operator_47 ?_
        refine lv_iload_n hx hb d_D_operator_50 rfl (lv_at hl 1 rfl) ?_
        refine lv_iload_n hx hb d_D_operator_51 rfl (lv_at hl 2 rfl) ?_
        refine va_iast hx hb hK hP hD hS 1 0 rfl rfl (tx_in32 hi) d_D_operator_52 (fun H_13 lo_14 hP hD hS => ?_)
        have hP : va_P (dC, dI) kcl [(d, .inr (9, [.int 0, .ref kq, .int 0, .ref hq, .int 0, .int 0, (zd 6), (zd 7), (zd 8), (zd 9), (zd 10), (zd 11), .int 0, (zd 13), (zd 14), (zd 15), (zd 16), (zd 17), (zd 18), (zd 19), .int 0, (zd 21), (zd 22), (zd 23), (zd 24), (zd 25), (zd 26), (zd 27), (zd 28), (zd 29), (zd 30), (zd 31), .int 0, (zd 33), (zd 34), (zd 35), (zd 36), (zd 37), (zd 38), (zd 39), (zd 40), .int 0])), (kq, .inl (cK, 32, .inl (upd fk (n : Int32).toNatClampNeg k))), (hq, .inl (cH, 12, .inl fh))] H_13 := hP
        have hD : va_D A [(d, .inr (9, [.int 0, .ref kq, .int 0, .ref hq, .int 0, .int 0, (zd 6), (zd 7), (zd 8), (zd 9), (zd 10), (zd 11), .int 0, (zd 13), (zd 14), (zd 15), (zd 16), (zd 17), (zd 18), (zd 19), .int 0, (zd 21), (zd 22), (zd 23), (zd 24), (zd 25), (zd 26), (zd 27), (zd 28), (zd 29), (zd 30), (zd 31), .int 0, (zd 33), (zd 34), (zd 35), (zd 36), (zd 37), (zd 38), (zd 39), (zd 40), .int 0])), (kq, .inl (cK, 32, .inl (upd fk (n : Int32).toNatClampNeg k))), (hq, .inl (cH, 12, .inl fh))] := hD
        refine lv_aload_n hx hb d_D_operator_53 rfl (lv_at hl 0 rfl) ?_
        refine lv_dup hx hb d_D_operator_54 rfl ?_
        refine va_get (D := (dC, dI)) (ci := 9) (v := .int 0) (C := kR_D) (T := kT_D) (N := 42) hx hb hg kin_D hown hK hP 0 rfl rfl 2 (by decide) (hg _ tw_819) (fun _ h9 => h9) rfl d_D_operator_55 ?_
        refine lv_iconst (v := 1) hx hb d_D_operator_58 (by decide) ?_
        refine lv_iadd hx hb d_D_operator_59 ?_
        refine lv_topi (fun v_15 ev_15 => ?_)
        refine va_put (D := (dC, dI)) (ci := 9) (v := .int v_15) (ty := .int) (C := kR_D) (T := kT_D) (N := 42) hx hb hg kin_D kt_D kty_D knm_D hown hK hP hD hS 0 rfl rfl 2 (by decide) (hg _ tw_819) (fun _ h9 => h9) rfl (by decide +kernel) rfl rfl (Nat.le_of_ble_eq_true rfl) d_D_operator_60 (fun H_16 lo_17 hP hD hS => ?_)
        have hP : va_P (dC, dI) kcl [(d, .inr (9, [.int 0, .ref kq, .int v_15, .ref hq, .int 0, .int 0, (zd 6), (zd 7), (zd 8), (zd 9), (zd 10), (zd 11), .int 0, (zd 13), (zd 14), (zd 15), (zd 16), (zd 17), (zd 18), (zd 19), .int 0, (zd 21), (zd 22), (zd 23), (zd 24), (zd 25), (zd 26), (zd 27), (zd 28), (zd 29), (zd 30), (zd 31), .int 0, (zd 33), (zd 34), (zd 35), (zd 36), (zd 37), (zd 38), (zd 39), (zd 40), .int 0])), (kq, .inl (cK, 32, .inl (upd fk (n : Int32).toNatClampNeg k))), (hq, .inl (cH, 12, .inl fh))] H_16 := hP
        have hD : va_D A [(d, .inr (9, [.int 0, .ref kq, .int v_15, .ref hq, .int 0, .int 0, (zd 6), (zd 7), (zd 8), (zd 9), (zd 10), (zd 11), .int 0, (zd 13), (zd 14), (zd 15), (zd 16), (zd 17), (zd 18), (zd 19), .int 0, (zd 21), (zd 22), (zd 23), (zd 24), (zd 25), (zd 26), (zd 27), (zd 28), (zd 29), (zd 30), (zd 31), .int 0, (zd 33), (zd 34), (zd 35), (zd 36), (zd 37), (zd 38), (zd 39), (zd 40), .int 0])), (kq, .inl (cK, 32, .inl (upd fk (n : Int32).toNatClampNeg k))), (hq, .inl (cH, 12, .inl fh))] := hD
        refine lv_aload_n hx hb d_D_operator_63 rfl (lv_at hl 0 rfl) ?_
        refine va_get (D := (dC, dI)) (ci := 9) (v := .int v_15) (C := kR_D) (T := kT_D) (N := 42) hx hb hg kin_D hown hK hP 0 rfl rfl 2 (by decide) (hg _ tw_819) (fun _ h9 => h9) rfl d_D_operator_64 ?_
        have hP9 := hP.sub (ws' := [(d, .inr (9, [.int 0, .ref kq, .int v_15, .ref hq, .int 0, .int 0, (zd 6), (zd 7), (zd 8), (zd 9), (zd 10), (zd 11), .int 0, (zd 13), (zd 14), (zd 15), (zd 16), (zd 17), (zd 18), (zd 19), .int 0, (zd 21), (zd 22), (zd 23), (zd 24), (zd 25), (zd 26), (zd 27), (zd 28), (zd 29), (zd 30), (zd 31), .int 0, (zd 33), (zd 34), (zd 35), (zd 36), (zd 37), (zd 38), (zd 39), (zd 40), .int 0]))]) [0] rfl
        have hD9 := hD.sub (ws' := [(d, .inr (9, [.int 0, .ref kq, .int v_15, .ref hq, .int 0, .int 0, (zd 6), (zd 7), (zd 8), (zd 9), (zd 10), (zd 11), .int 0, (zd 13), (zd 14), (zd 15), (zd 16), (zd 17), (zd 18), (zd 19), .int 0, (zd 21), (zd 22), (zd 23), (zd 24), (zd 25), (zd 26), (zd 27), (zd 28), (zd 29), (zd 30), (zd 31), .int 0, (zd 33), (zd 34), (zd 35), (zd 36), (zd 37), (zd 38), (zd 39), (zd 40), .int 0]))]) [0] (by decide) rfl
        have hK9 := hK.sub (tys' := []) [] rfl
        exact W.iret (v := v_15) hx hb hr (fun t ht hW => ⟨⟨v_15, 0, rfl, Or.inl ⟨⟨tx_if1 c_5, tx_if1 c_11⟩, ev_15, rfl⟩, ⟨(fun i => List.getD [Value.int (0 : Int32), Value.ref kq, Value.int (v_15 : Int32), Value.ref hq, Value.int (0 : Int32), Value.int (0 : Int32), (zd 6), (zd 7), (zd 8), (zd 9), (zd 10), (zd 11), Value.int (0 : Int32), (zd 13), (zd 14), (zd 15), (zd 16), (zd 17), (zd 18), (zd 19), Value.int (0 : Int32), (zd 21), (zd 22), (zd 23), (zd 24), (zd 25), (zd 26), (zd 27), (zd 28), (zd 29), (zd 30), (zd 31), Value.int (0 : Int32), (zd 33), (zd 34), (zd 35), (zd 36), (zd 37), (zd 38), (zd 39), (zd 40), Value.int (0 : Int32)] i Value.null), by rw [ht]; exact hP9, va_K.moved hW.alike hK9, hD9⟩⟩, hS.F ht⟩) hS.2.2 d_D_operator_67
      · exact absurd (hfk _ (tx_in32n hi)) c_12
    · refine lv_aload_n hx hb d_D_operator_24 rfl (lv_at hl 0 rfl) ?_
      refine lv_iconst (v := 1) hx hb d_D_operator_25 (by decide) ?_
      have hPc := hP.sub (ws' := [(d, .inr (9, [.int 0, .ref kq, .int 0, .ref hq, .int 0, .int 0, (zd 6), (zd 7), (zd 8), (zd 9), (zd 10), (zd 11), .int 0, (zd 13), (zd 14), (zd 15), (zd 16), (zd 17), (zd 18), (zd 19), .int 0, (zd 21), (zd 22), (zd 23), (zd 24), (zd 25), (zd 26), (zd 27), (zd 28), (zd 29), (zd 30), (zd 31), .int 0, (zd 33), (zd 34), (zd 35), (zd 36), (zd 37), (zd 38), (zd 39), (zd 40), .int 0]))]) [0] rfl
      have hKc := hK.sub (tys' := []) [] rfl
      have hDc := hD.sub (ws' := [(d, .inr (9, [.int 0, .ref kq, .int 0, .ref hq, .int 0, .int 0, (zd 6), (zd 7), (zd 8), (zd 9), (zd 10), (zd 11), .int 0, (zd 13), (zd 14), (zd 15), (zd 16), (zd 17), (zd 18), (zd 19), .int 0, (zd 21), (zd 22), (zd 23), (zd 24), (zd 25), (zd 26), (zd 27), (zd 28), (zd 29), (zd 30), (zd 31), .int 0, (zd 33), (zd 34), (zd 35), (zd 36), (zd 37), (zd 38), (zd 39), (zd 40), .int 0]))]) [0] (by decide) rfl
      have hFc := va_free (wc := [(d, .inr (9, [.int 0, .ref kq, .int 0, .ref hq, .int 0, .int 0, (zd 6), (zd 7), (zd 8), (zd 9), (zd 10), (zd 11), .int 0, (zd 13), (zd 14), (zd 15), (zd 16), (zd 17), (zd 18), (zd 19), .int 0, (zd 21), (zd 22), (zd 23), (zd 24), (zd 25), (zd 26), (zd 27), (zd 28), (zd 29), (zd 30), (zd 31), .int 0, (zd 33), (zd 34), (zd 35), (zd 36), (zd 37), (zd 38), (zd 39), (zd 40), .int 0]))]) hD hS hA [0] rfl
      refine va_calli (va_runV (As := [.int 1]) (rest := []) ⟨hx, hb, hml, hown, hg⟩ (c_D_fail l dC dI H_10.size d (fun i => if i = 41 then .int 0 else if i = 32 then .int 0 else if i = 20 then .int 0 else if i = 12 then .int 0 else if i = 5 then .int 0 else if i = 4 then .int 0 else if i = 3 then .ref hq else if i = 2 then .int 0 else if i = 1 then .ref kq else zd i) 0 1) (cwV 1 hg (gw_giV cin_D_fail tw_955 tw_957 sw_D_fail tw_11) rfl rfl rfl (by decide +kernel) ⟨Nat.le_of_ble_eq_true rfl, Nat.le_of_ble_eq_true rfl⟩) ⟨fun a U g mk q => by obtain ⟨q0, q1, qP, qK, qD⟩ := q; exact ⟨q0, q1, qP, va_K.moved (u := U) (U := U.calling g mk a) (Vm.Alike.refl U.vm) qK, qD⟩, va_recv hKc hPc (ci := 9) (q0 := 0) rfl rfl, fun U hU hW => ⟨rfl, by rw [hU], by rw [hU]; exact hPc, va_K.moved hW.alike hKc, hDc.weaken (fun _ _ _ _ => trivial)⟩⟩ rfl rfl hl.1 rfl (lv_room (Nat.le_of_ble_eq_true rfl)) d_D_operator_26 ⟨Nat.le_of_ble_eq_true rfl, Nat.le_of_ble_eq_true rfl⟩) hS (fun q _ h => hFc q h) hFc (fun r_k_19 u_k_19 t_k_19 H_20 l_k_19 ht hvm hw_k_19 hB hz1 hk1 hS => ?_)
      obtain ⟨hr_k_19, hu_k_19⟩ := hw_k_19
      subst hr_k_19
      subst hu_k_19
      obtain ⟨zd_k_19, hP1, hK1, hD1⟩ := hB
      rw [ht] at hP1
      have hK1 := va_K.moved hvm.symm hK1
      obtain ⟨hP, hD⟩ := va_join (wr := [(kq, .inl (cK, 32, .inl fk)), (hq, .inl (cH, 12, .inl fh))]) (w1 := [(d, .inr (9, [.int 1, (zd_k_19 1), (zd_k_19 2), (zd_k_19 3), (zd_k_19 4), (zd_k_19 5), (zd_k_19 6), (zd_k_19 7), (zd_k_19 8), (zd_k_19 9), (zd_k_19 10), (zd_k_19 11), (zd_k_19 12), (zd_k_19 13), (zd_k_19 14), (zd_k_19 15), (zd_k_19 16), (zd_k_19 17), (zd_k_19 18), (zd_k_19 19), (zd_k_19 20), (zd_k_19 21), (zd_k_19 22), (zd_k_19 23), (zd_k_19 24), (zd_k_19 25), (zd_k_19 26), (zd_k_19 27), (zd_k_19 28), (zd_k_19 29), (zd_k_19 30), (zd_k_19 31), (zd_k_19 32), (zd_k_19 33), (zd_k_19 34), (zd_k_19 35), (zd_k_19 36), (zd_k_19 37), (zd_k_19 38), (zd_k_19 39), (zd_k_19 40), (zd_k_19 41)]))]) hP hD [0] [1, 2] rfl rfl (by decide) (by decide) hk1 hFc hP1 hD1
      have hK := (hK.sub (tys' := [(cK, .int), (cH, .int)]) [0, 1] rfl).app hK1
      have hP : va_P (dC, dI) kcl [(kq, .inl (cK, 32, .inl fk)), (hq, .inl (cH, 12, .inl fh)), (d, .inr (9, [.int 1, (zd_k_19 1), (zd_k_19 2), (zd_k_19 3), (zd_k_19 4), (zd_k_19 5), (zd_k_19 6), (zd_k_19 7), (zd_k_19 8), (zd_k_19 9), (zd_k_19 10), (zd_k_19 11), (zd_k_19 12), (zd_k_19 13), (zd_k_19 14), (zd_k_19 15), (zd_k_19 16), (zd_k_19 17), (zd_k_19 18), (zd_k_19 19), (zd_k_19 20), (zd_k_19 21), (zd_k_19 22), (zd_k_19 23), (zd_k_19 24), (zd_k_19 25), (zd_k_19 26), (zd_k_19 27), (zd_k_19 28), (zd_k_19 29), (zd_k_19 30), (zd_k_19 31), (zd_k_19 32), (zd_k_19 33), (zd_k_19 34), (zd_k_19 35), (zd_k_19 36), (zd_k_19 37), (zd_k_19 38), (zd_k_19 39), (zd_k_19 40), (zd_k_19 41)]))] H_20 := hP
      have hD : va_D A [(kq, .inl (cK, 32, .inl fk)), (hq, .inl (cH, 12, .inl fh)), (d, .inr (9, [.int 1, (zd_k_19 1), (zd_k_19 2), (zd_k_19 3), (zd_k_19 4), (zd_k_19 5), (zd_k_19 6), (zd_k_19 7), (zd_k_19 8), (zd_k_19 9), (zd_k_19 10), (zd_k_19 11), (zd_k_19 12), (zd_k_19 13), (zd_k_19 14), (zd_k_19 15), (zd_k_19 16), (zd_k_19 17), (zd_k_19 18), (zd_k_19 19), (zd_k_19 20), (zd_k_19 21), (zd_k_19 22), (zd_k_19 23), (zd_k_19 24), (zd_k_19 25), (zd_k_19 26), (zd_k_19 27), (zd_k_19 28), (zd_k_19 29), (zd_k_19 30), (zd_k_19 31), (zd_k_19 32), (zd_k_19 33), (zd_k_19 34), (zd_k_19 35), (zd_k_19 36), (zd_k_19 37), (zd_k_19 38), (zd_k_19 39), (zd_k_19 40), (zd_k_19 41)]))] := hD
      have hK : va_K (dC, dI) kcl [(cK, .int), (cH, .int)] s := hK
      have hP9 := hP.sub (ws' := [(d, .inr (9, [.int 1, (zd_k_19 1), (zd_k_19 2), (zd_k_19 3), (zd_k_19 4), (zd_k_19 5), (zd_k_19 6), (zd_k_19 7), (zd_k_19 8), (zd_k_19 9), (zd_k_19 10), (zd_k_19 11), (zd_k_19 12), (zd_k_19 13), (zd_k_19 14), (zd_k_19 15), (zd_k_19 16), (zd_k_19 17), (zd_k_19 18), (zd_k_19 19), (zd_k_19 20), (zd_k_19 21), (zd_k_19 22), (zd_k_19 23), (zd_k_19 24), (zd_k_19 25), (zd_k_19 26), (zd_k_19 27), (zd_k_19 28), (zd_k_19 29), (zd_k_19 30), (zd_k_19 31), (zd_k_19 32), (zd_k_19 33), (zd_k_19 34), (zd_k_19 35), (zd_k_19 36), (zd_k_19 37), (zd_k_19 38), (zd_k_19 39), (zd_k_19 40), (zd_k_19 41)]))]) [2] rfl
      have hD9 := hD.sub (ws' := [(d, .inr (9, [.int 1, (zd_k_19 1), (zd_k_19 2), (zd_k_19 3), (zd_k_19 4), (zd_k_19 5), (zd_k_19 6), (zd_k_19 7), (zd_k_19 8), (zd_k_19 9), (zd_k_19 10), (zd_k_19 11), (zd_k_19 12), (zd_k_19 13), (zd_k_19 14), (zd_k_19 15), (zd_k_19 16), (zd_k_19 17), (zd_k_19 18), (zd_k_19 19), (zd_k_19 20), (zd_k_19 21), (zd_k_19 22), (zd_k_19 23), (zd_k_19 24), (zd_k_19 25), (zd_k_19 26), (zd_k_19 27), (zd_k_19 28), (zd_k_19 29), (zd_k_19 30), (zd_k_19 31), (zd_k_19 32), (zd_k_19 33), (zd_k_19 34), (zd_k_19 35), (zd_k_19 36), (zd_k_19 37), (zd_k_19 38), (zd_k_19 39), (zd_k_19 40), (zd_k_19 41)]))]) [2] (by decide) rfl
      have hK9 := hK.sub (tys' := []) [] rfl
      exact W.iret (v := 0) hx hb hr (fun t ht hW => ⟨⟨0, 1, rfl, Or.inr ⟨fun h => tx_if0 c_11 h.2, rfl⟩, ⟨(fun i => List.getD [Value.int (1 : Int32), (zd_k_19 1), (zd_k_19 2), (zd_k_19 3), (zd_k_19 4), (zd_k_19 5), (zd_k_19 6), (zd_k_19 7), (zd_k_19 8), (zd_k_19 9), (zd_k_19 10), (zd_k_19 11), (zd_k_19 12), (zd_k_19 13), (zd_k_19 14), (zd_k_19 15), (zd_k_19 16), (zd_k_19 17), (zd_k_19 18), (zd_k_19 19), (zd_k_19 20), (zd_k_19 21), (zd_k_19 22), (zd_k_19 23), (zd_k_19 24), (zd_k_19 25), (zd_k_19 26), (zd_k_19 27), (zd_k_19 28), (zd_k_19 29), (zd_k_19 30), (zd_k_19 31), (zd_k_19 32), (zd_k_19 33), (zd_k_19 34), (zd_k_19 35), (zd_k_19 36), (zd_k_19 37), (zd_k_19 38), (zd_k_19 39), (zd_k_19 40), (zd_k_19 41)] i Value.null), by rw [ht]; exact hP9, va_K.moved hW.alike hK9, hD9⟩⟩, hS.F ht⟩) hS.2.2 d_D_operator_29
set_option maxHeartbeats 4000000 in
set_option maxRecDepth 100000 in
theorem c_D_element (l : Launch) (dC : Nat → ClassId) (dI : Nat → Nat → Nat) (sz : Nat) (d kq hq : Nat) (cK cH : ClassId) (zd : Nat → Value) (fk fh : Nat → Int32) (hfk : ∀ j, j < 32 → fk j = -1) (t0 : Int32) (n : Int32) : Met l y_D_element ws_D_element ({ frames := 1, cells := 0, slots := 0, locals := 22 }) (va_Pc [.ref d, .int n] (fun U => U.heap.size = sz ∧ va_P (dC, dI) kcl [(d, .inr (9, [.int t0, .ref kq, .int 0, .ref hq, .int 0, .int 0, (zd 6), (zd 7), (zd 8), (zd 9), (zd 10), (zd 11), .int 0, (zd 13), (zd 14), (zd 15), (zd 16), (zd 17), (zd 18), (zd 19), .int 0, (zd 21), (zd 22), (zd 23), (zd 24), (zd 25), (zd 26), (zd 27), (zd 28), (zd 29), (zd 30), (zd 31), .int 0, (zd 33), (zd 34), (zd 35), (zd 36), (zd 37), (zd 38), (zd 39), (zd 40), .int 0])), (kq, .inl (cK, 32, .inl fk)), (hq, .inl (cH, 12, .inl fh))] U.heap ∧ va_K (dC, dI) kcl [(cK, .int), (cH, .int)] U ∧ va_D (fun _ => True) [(d, .inr (9, [.int t0, .ref kq, .int 0, .ref hq, .int 0, .int 0, (zd 6), (zd 7), (zd 8), (zd 9), (zd 10), (zd 11), .int 0, (zd 13), (zd 14), (zd 15), (zd 16), (zd 17), (zd 18), (zd 19), .int 0, (zd 21), (zd 22), (zd 23), (zd 24), (zd 25), (zd 26), (zd 27), (zd 28), (zd 29), (zd 30), (zd 31), .int 0, (zd 33), (zd 34), (zd 35), (zd 36), (zd 37), (zd 38), (zd 39), (zd 40), .int 0])), (kq, .inl (cK, 32, .inl fk)), (hq, .inl (cH, 12, .inl fh))])) (va_Qi (fun (r th : Int32) => ((0 ≤ n ∧ n ≤ 47) ∧ r = 1 ∧ th = 0) ∨ (¬ (0 ≤ n ∧ n ≤ 47) ∧ th = 1)) (fun (th : Int32) (t : State) => ∃ zd2 : Nat → Value, va_P (dC, dI) kcl [(d, .inr (9, [.int th, (zd2 1), (zd2 2), (zd2 3), (zd2 4), (zd2 5), (zd2 6), (zd2 7), (zd2 8), (zd2 9), (zd2 10), (zd2 11), (zd2 12), (zd2 13), (zd2 14), (zd2 15), (zd2 16), (zd2 17), (zd2 18), (zd2 19), (zd2 20), (zd2 21), (zd2 22), (zd2 23), (zd2 24), (zd2 25), (zd2 26), (zd2 27), (zd2 28), (zd2 29), (zd2 30), (zd2 31), (zd2 32), (zd2 33), (zd2 34), (zd2 35), (zd2 36), (zd2 37), (zd2 38), (zd2 39), (zd2 40), (zd2 41)]))] t.heap ∧ va_K (dC, dI) kcl [] t ∧ va_D (va_A [(d, .inr (9, [.int t0, .ref kq, .int 0, .ref hq, .int 0, .int 0, (zd 6), (zd 7), (zd 8), (zd 9), (zd 10), (zd 11), .int 0, (zd 13), (zd 14), (zd 15), (zd 16), (zd 17), (zd 18), (zd 19), .int 0, (zd 21), (zd 22), (zd 23), (zd 24), (zd 25), (zd 26), (zd 27), (zd 28), (zd 29), (zd 30), (zd 31), .int 0, (zd 33), (zd 34), (zd 35), (zd 36), (zd 37), (zd 38), (zd 39), (zd 40), .int 0])), (kq, .inl (cK, 32, .inl fk)), (hq, .inl (cH, 12, .inl fh))] sz) [(d, .inr (9, [.int th, (zd2 1), (zd2 2), (zd2 3), (zd2 4), (zd2 5), (zd2 6), (zd2 7), (zd2 8), (zd2 9), (zd2 10), (zd2 11), (zd2 12), (zd2 13), (zd2 14), (zd2 15), (zd2 16), (zd2 17), (zd2 18), (zd2 19), (zd2 20), (zd2 21), (zd2 22), (zd2 23), (zd2 24), (zd2 25), (zd2 26), (zd2 27), (zd2 28), (zd2 29), (zd2 30), (zd2 31), (zd2 32), (zd2 33), (zd2 34), (zd2 35), (zd2 36), (zd2 37), (zd2 38), (zd2 39), (zd2 40), (zd2 41)]))]) (va_A [(d, .inr (9, [.int t0, .ref kq, .int 0, .ref hq, .int 0, .int 0, (zd 6), (zd 7), (zd 8), (zd 9), (zd 10), (zd 11), .int 0, (zd 13), (zd 14), (zd 15), (zd 16), (zd 17), (zd 18), (zd 19), .int 0, (zd 21), (zd 22), (zd 23), (zd 24), (zd 25), (zd 26), (zd 27), (zd 28), (zd 29), (zd 30), (zd 31), .int 0, (zd 33), (zd 34), (zd 35), (zd 36), (zd 37), (zd 38), (zd 39), (zd 40), .int 0])), (kq, .inl (cK, 32, .inl fk)), (hq, .inl (cH, 12, .inl fh))] sz)) 0 0 (va_A [(d, .inr (9, [.int t0, .ref kq, .int 0, .ref hq, .int 0, .int 0, (zd 6), (zd 7), (zd 8), (zd 9), (zd 10), (zd 11), .int 0, (zd 13), (zd 14), (zd 15), (zd 16), (zd 17), (zd 18), (zd 19), .int 0, (zd 21), (zd 22), (zd 23), (zd 24), (zd 25), (zd 26), (zd 27), (zd 28), (zd 29), (zd 30), (zd 31), .int 0, (zd 33), (zd 34), (zd 35), (zd 36), (zd 37), (zd 38), (zd 39), (zd 40), .int 0])), (kq, .inl (cK, 32, .inl fk)), (hq, .inl (cH, 12, .inl fh))] sz) := by
  refine Met.ofW (cc := b_D_element) (maxL := 2) (ret := (Option.some Jvm.ClassFile.FieldType.int)) (by decide) rfl ?_
  intro p e s m args below meth c s₁ B hml hv
  obtain ⟨rfl, hsz, hP, hK, hD0⟩ := hv
  have hx := B.exec
  have hb := B.bytes
  have hr := B.returns
  have hlocks := B.notSynchronized
  have hg : ∀ w ∈ gw, w.before _ s = true := fun w h => atoms_spec (ws := ws_D_element) B.pre w (List.mem_cons_of_mem _ h)
  have hown : s.vm.findClass "TreeMatcherModel" = some m.cls := findClass_of_methodNamed B.named
  subst hsz
  have hD := hD0.self (sz := s.heap.size)
  have hA : ∀ q : Nat, s.heap.size ≤ q → va_A [(d, .inr (9, [.int t0, .ref kq, .int 0, .ref hq, .int 0, .int 0, (zd 6), (zd 7), (zd 8), (zd 9), (zd 10), (zd 11), .int 0, (zd 13), (zd 14), (zd 15), (zd 16), (zd 17), (zd 18), (zd 19), .int 0, (zd 21), (zd 22), (zd 23), (zd 24), (zd 25), (zd 26), (zd 27), (zd 28), (zd 29), (zd 30), (zd 31), .int 0, (zd 33), (zd 34), (zd 35), (zd 36), (zd 37), (zd 38), (zd 39), (zd 40), .int 0])), (kq, .inl (cK, 32, .inl fk)), (hq, .inl (cH, 12, .inl fh))] s.heap.size q := fun q h => Or.inr h
  generalize hAe : va_A [(d, .inr (9, [.int t0, .ref kq, .int 0, .ref hq, .int 0, .int 0, (zd 6), (zd 7), (zd 8), (zd 9), (zd 10), (zd 11), .int 0, (zd 13), (zd 14), (zd 15), (zd 16), (zd 17), (zd 18), (zd 19), .int 0, (zd 21), (zd 22), (zd 23), (zd 24), (zd 25), (zd 26), (zd 27), (zd 28), (zd 29), (zd 30), (zd 31), .int 0, (zd 33), (zd 34), (zd 35), (zd 36), (zd 37), (zd 38), (zd 39), (zd 40), .int 0])), (kq, .inl (cK, 32, .inl fk)), (hq, .inl (cH, 12, .inl fh))] s.heap.size = A at hD hA ⊢
  have hS : va_S A s.heap s.heap [] := va_S.rf
  have hl := lv_entry ([.ref d, .int n] : List Value) (n := 2) (Nat.le_of_ble_eq_true rfl)
  rw [lg_entry_eq]
  generalize (lg_sl ([.ref d, .int n] : List Value) ++ List.replicate (2 - (lg_sl ([.ref d, .int n] : List Value)).length) Slot.unset).toArray = ls at hl ⊢
  have hl : lv_has ls 2 [(0, .ref d), (1, .int n)] := hl
  refine lv_aload_n hx hb d_D_element_0 rfl (lv_at hl 0 rfl) ?_
  refine lv_iconst (v := 0) hx hb d_D_element_1 (by decide) ?_
  refine va_put (D := (dC, dI)) (ci := 9) (v := .int 0) (ty := .int) (C := kR_D) (T := kT_D) (N := 42) hx hb hg kin_D kt_D kty_D knm_D hown hK hP hD hS 0 rfl rfl 0 (by decide) (hg _ tw_817) (fun _ h9 => h9) rfl (by decide +kernel) rfl rfl (Nat.le_of_ble_eq_true rfl) d_D_element_2 (fun H_1 lo_2 hP hD hS => ?_)
  have hP : va_P (dC, dI) kcl [(d, .inr (9, [.int 0, .ref kq, .int 0, .ref hq, .int 0, .int 0, (zd 6), (zd 7), (zd 8), (zd 9), (zd 10), (zd 11), .int 0, (zd 13), (zd 14), (zd 15), (zd 16), (zd 17), (zd 18), (zd 19), .int 0, (zd 21), (zd 22), (zd 23), (zd 24), (zd 25), (zd 26), (zd 27), (zd 28), (zd 29), (zd 30), (zd 31), .int 0, (zd 33), (zd 34), (zd 35), (zd 36), (zd 37), (zd 38), (zd 39), (zd 40), .int 0])), (kq, .inl (cK, 32, .inl fk)), (hq, .inl (cH, 12, .inl fh))] H_1 := hP
  have hD : va_D A [(d, .inr (9, [.int 0, .ref kq, .int 0, .ref hq, .int 0, .int 0, (zd 6), (zd 7), (zd 8), (zd 9), (zd 10), (zd 11), .int 0, (zd 13), (zd 14), (zd 15), (zd 16), (zd 17), (zd 18), (zd 19), .int 0, (zd 21), (zd 22), (zd 23), (zd 24), (zd 25), (zd 26), (zd 27), (zd 28), (zd 29), (zd 30), (zd 31), .int 0, (zd 33), (zd 34), (zd 35), (zd 36), (zd 37), (zd 38), (zd 39), (zd 40), .int 0])), (kq, .inl (cK, 32, .inl fk)), (hq, .inl (cH, 12, .inl fh))] := hD
  refine lv_iload_n hx hb d_D_element_5 rfl (lv_at hl 1 rfl) ?_
  refine lv_iconst (v := 0) hx hb d_D_element_6 (by decide) ?_
  refine lv_bipush (v := 47) hx hb d_D_element_7 (by decide) ?_
  have hPc := hP.sub (ws' := []) [] rfl
  have hKc := hK.sub (tys' := []) [] rfl
  refine va_calli (va_runS (As := [.int n, .int 0, .int 47]) (rest := []) ⟨hx, hb, hml, hown, hg⟩ (c_D_within l dC dI H_1.size n 0 47) (va_cwS 3 hg (gw_giS cin_D_within tw_952 tw_953 tw_11) rfl rfl rfl (by decide +kernel) ⟨Nat.le_of_ble_eq_true rfl, Nat.le_of_ble_eq_true rfl⟩) ⟨fun a U g mk q => by obtain ⟨q0, q1, qP, qK⟩ := q; exact ⟨q0, q1, qP, va_K.moved (u := U) (U := U.calling g mk a) (Vm.Alike.refl U.vm) qK⟩, fun U hU hW => ⟨rfl, by rw [hU], by rw [hU]; exact hPc, va_K.moved hW.alike hKc⟩⟩ rfl rfl hl.1 rfl (lv_room (Nat.le_of_ble_eq_true rfl)) d_D_element_9 ⟨Nat.le_of_ble_eq_true rfl, Nat.le_of_ble_eq_true rfl⟩) hS (fun q h1 h => (tx_pA h1 h).elim) (tx_pF hS hA) (fun r_k_3 u_k_3 t_k_3 H_4 l_k_3 ht hvm hw_k_3 hB hz1 hk1 hS => ?_)
  have hw_k_3 : (if 0 ≤ n ∧ n ≤ 47 then 1 else 0) = r_k_3 := Eq.symm hw_k_3
  subst hw_k_3
  have hP := tx_keep hP hk1
  refine lv_if_ne (tgt := 21) hx hb d_D_element_12 (by decide) (fun c_5 => ?_) (fun c_5 => ?_)
  · refine lv_aload_n hx hb d_D_element_21 rfl (lv_at hl 0 rfl) ?_
    refine va_get (D := (dC, dI)) (ci := 9) (v := .int 0) (C := kR_D) (T := kT_D) (N := 42) hx hb hg kin_D hown hK hP 0 rfl rfl 4 (by decide) (hg _ tw_821) (fun _ h9 => h9) rfl d_D_element_22 ?_
    refine lv_bipush (v := 12) hx hb d_D_element_25 (by decide) ?_
    refine lv_icmp_ne (tgt := 36) hx hb d_D_element_27 (by decide) (fun c_6 => ?_) (fun c_6 => ?_)
    · refine lv_aload_n hx hb d_D_element_36 rfl (lv_at hl 0 rfl) ?_
      refine va_get (D := (dC, dI)) (ci := 9) (v := .ref hq) (C := kR_D) (T := kT_D) (N := 42) hx hb hg kin_D hown hK hP 0 rfl rfl 3 (by decide) (hg _ tw_820) (fun _ h9 => h9) rfl d_D_element_37 ?_
      refine lv_aload_n hx hb d_D_element_40 rfl (lv_at hl 0 rfl) ?_
      refine va_get (D := (dC, dI)) (ci := 9) (v := .int 0) (C := kR_D) (T := kT_D) (N := 42) hx hb hg kin_D hown hK hP 0 rfl rfl 4 (by decide) (hg _ tw_821) (fun _ h9 => h9) rfl d_D_element_41 ?_
      refine lv_iload_n hx hb d_D_element_44 rfl (lv_at hl 1 rfl) ?_
      refine va_iast hx hb hK hP hD hS 2 1 rfl rfl (by unfold vp_in; decide +kernel) d_D_element_45 (fun H_7 lo_8 hP hD hS => ?_)
      have hP : va_P (dC, dI) kcl [(d, .inr (9, [.int 0, .ref kq, .int 0, .ref hq, .int 0, .int 0, (zd 6), (zd 7), (zd 8), (zd 9), (zd 10), (zd 11), .int 0, (zd 13), (zd 14), (zd 15), (zd 16), (zd 17), (zd 18), (zd 19), .int 0, (zd 21), (zd 22), (zd 23), (zd 24), (zd 25), (zd 26), (zd 27), (zd 28), (zd 29), (zd 30), (zd 31), .int 0, (zd 33), (zd 34), (zd 35), (zd 36), (zd 37), (zd 38), (zd 39), (zd 40), .int 0])), (kq, .inl (cK, 32, .inl fk)), (hq, .inl (cH, 12, .inl (upd fh (0 : Int32).toNatClampNeg n)))] H_7 := hP
      have hD : va_D A [(d, .inr (9, [.int 0, .ref kq, .int 0, .ref hq, .int 0, .int 0, (zd 6), (zd 7), (zd 8), (zd 9), (zd 10), (zd 11), .int 0, (zd 13), (zd 14), (zd 15), (zd 16), (zd 17), (zd 18), (zd 19), .int 0, (zd 21), (zd 22), (zd 23), (zd 24), (zd 25), (zd 26), (zd 27), (zd 28), (zd 29), (zd 30), (zd 31), .int 0, (zd 33), (zd 34), (zd 35), (zd 36), (zd 37), (zd 38), (zd 39), (zd 40), .int 0])), (kq, .inl (cK, 32, .inl fk)), (hq, .inl (cH, 12, .inl (upd fh (0 : Int32).toNatClampNeg n)))] := hD
      refine lv_aload_n hx hb d_D_element_46 rfl (lv_at hl 0 rfl) ?_
      refine lv_dup hx hb d_D_element_47 rfl ?_
      refine va_get (D := (dC, dI)) (ci := 9) (v := .int 0) (C := kR_D) (T := kT_D) (N := 42) hx hb hg kin_D hown hK hP 0 rfl rfl 4 (by decide) (hg _ tw_821) (fun _ h9 => h9) rfl d_D_element_48 ?_
      refine lv_iconst (v := 1) hx hb d_D_element_51 (by decide) ?_
      refine lv_iadd hx hb d_D_element_52 ?_
      refine lv_topi (fun v_9 ev_9 => ?_)
      refine va_put (D := (dC, dI)) (ci := 9) (v := .int v_9) (ty := .int) (C := kR_D) (T := kT_D) (N := 42) hx hb hg kin_D kt_D kty_D knm_D hown hK hP hD hS 0 rfl rfl 4 (by decide) (hg _ tw_821) (fun _ h9 => h9) rfl (by decide +kernel) rfl rfl (Nat.le_of_ble_eq_true rfl) d_D_element_53 (fun H_10 lo_11 hP hD hS => ?_)
      have hP : va_P (dC, dI) kcl [(d, .inr (9, [.int 0, .ref kq, .int 0, .ref hq, .int v_9, .int 0, (zd 6), (zd 7), (zd 8), (zd 9), (zd 10), (zd 11), .int 0, (zd 13), (zd 14), (zd 15), (zd 16), (zd 17), (zd 18), (zd 19), .int 0, (zd 21), (zd 22), (zd 23), (zd 24), (zd 25), (zd 26), (zd 27), (zd 28), (zd 29), (zd 30), (zd 31), .int 0, (zd 33), (zd 34), (zd 35), (zd 36), (zd 37), (zd 38), (zd 39), (zd 40), .int 0])), (kq, .inl (cK, 32, .inl fk)), (hq, .inl (cH, 12, .inl (upd fh (0 : Int32).toNatClampNeg n)))] H_10 := hP
      have hD : va_D A [(d, .inr (9, [.int 0, .ref kq, .int 0, .ref hq, .int v_9, .int 0, (zd 6), (zd 7), (zd 8), (zd 9), (zd 10), (zd 11), .int 0, (zd 13), (zd 14), (zd 15), (zd 16), (zd 17), (zd 18), (zd 19), .int 0, (zd 21), (zd 22), (zd 23), (zd 24), (zd 25), (zd 26), (zd 27), (zd 28), (zd 29), (zd 30), (zd 31), .int 0, (zd 33), (zd 34), (zd 35), (zd 36), (zd 37), (zd 38), (zd 39), (zd 40), .int 0])), (kq, .inl (cK, 32, .inl fk)), (hq, .inl (cH, 12, .inl (upd fh (0 : Int32).toNatClampNeg n)))] := hD
      refine lv_aload_n hx hb d_D_element_56 rfl (lv_at hl 0 rfl) ?_
      refine va_get (D := (dC, dI)) (ci := 9) (v := .int v_9) (C := kR_D) (T := kT_D) (N := 42) hx hb hg kin_D hown hK hP 0 rfl rfl 4 (by decide) (hg _ tw_821) (fun _ h9 => h9) rfl d_D_element_57 ?_
      have hP9 := hP.sub (ws' := [(d, .inr (9, [.int 0, .ref kq, .int 0, .ref hq, .int v_9, .int 0, (zd 6), (zd 7), (zd 8), (zd 9), (zd 10), (zd 11), .int 0, (zd 13), (zd 14), (zd 15), (zd 16), (zd 17), (zd 18), (zd 19), .int 0, (zd 21), (zd 22), (zd 23), (zd 24), (zd 25), (zd 26), (zd 27), (zd 28), (zd 29), (zd 30), (zd 31), .int 0, (zd 33), (zd 34), (zd 35), (zd 36), (zd 37), (zd 38), (zd 39), (zd 40), .int 0]))]) [0] rfl
      have hD9 := hD.sub (ws' := [(d, .inr (9, [.int 0, .ref kq, .int 0, .ref hq, .int v_9, .int 0, (zd 6), (zd 7), (zd 8), (zd 9), (zd 10), (zd 11), .int 0, (zd 13), (zd 14), (zd 15), (zd 16), (zd 17), (zd 18), (zd 19), .int 0, (zd 21), (zd 22), (zd 23), (zd 24), (zd 25), (zd 26), (zd 27), (zd 28), (zd 29), (zd 30), (zd 31), .int 0, (zd 33), (zd 34), (zd 35), (zd 36), (zd 37), (zd 38), (zd 39), (zd 40), .int 0]))]) [0] (by decide) rfl
      have hK9 := hK.sub (tys' := []) [] rfl
      exact W.iret (v := v_9) hx hb hr (fun t ht hW => ⟨⟨v_9, 0, rfl, Or.inl ⟨tx_if1 c_5, ev_9, rfl⟩, ⟨(fun i => List.getD [Value.int (0 : Int32), Value.ref kq, Value.int (0 : Int32), Value.ref hq, Value.int (v_9 : Int32), Value.int (0 : Int32), (zd 6), (zd 7), (zd 8), (zd 9), (zd 10), (zd 11), Value.int (0 : Int32), (zd 13), (zd 14), (zd 15), (zd 16), (zd 17), (zd 18), (zd 19), Value.int (0 : Int32), (zd 21), (zd 22), (zd 23), (zd 24), (zd 25), (zd 26), (zd 27), (zd 28), (zd 29), (zd 30), (zd 31), Value.int (0 : Int32), (zd 33), (zd 34), (zd 35), (zd 36), (zd 37), (zd 38), (zd 39), (zd 40), Value.int (0 : Int32)] i Value.null), by rw [ht]; exact hP9, va_K.moved hW.alike hK9, hD9⟩⟩, hS.F ht⟩) hS.2.2 d_D_element_60
    · exact absurd c_6 (by decide)
  · refine lv_aload_n hx hb d_D_element_15 rfl (lv_at hl 0 rfl) ?_
    refine lv_iconst (v := 1) hx hb d_D_element_16 (by decide) ?_
    have hPc := hP.sub (ws' := [(d, .inr (9, [.int 0, .ref kq, .int 0, .ref hq, .int 0, .int 0, (zd 6), (zd 7), (zd 8), (zd 9), (zd 10), (zd 11), .int 0, (zd 13), (zd 14), (zd 15), (zd 16), (zd 17), (zd 18), (zd 19), .int 0, (zd 21), (zd 22), (zd 23), (zd 24), (zd 25), (zd 26), (zd 27), (zd 28), (zd 29), (zd 30), (zd 31), .int 0, (zd 33), (zd 34), (zd 35), (zd 36), (zd 37), (zd 38), (zd 39), (zd 40), .int 0]))]) [0] rfl
    have hKc := hK.sub (tys' := []) [] rfl
    have hDc := hD.sub (ws' := [(d, .inr (9, [.int 0, .ref kq, .int 0, .ref hq, .int 0, .int 0, (zd 6), (zd 7), (zd 8), (zd 9), (zd 10), (zd 11), .int 0, (zd 13), (zd 14), (zd 15), (zd 16), (zd 17), (zd 18), (zd 19), .int 0, (zd 21), (zd 22), (zd 23), (zd 24), (zd 25), (zd 26), (zd 27), (zd 28), (zd 29), (zd 30), (zd 31), .int 0, (zd 33), (zd 34), (zd 35), (zd 36), (zd 37), (zd 38), (zd 39), (zd 40), .int 0]))]) [0] (by decide) rfl
    have hFc := va_free (wc := [(d, .inr (9, [.int 0, .ref kq, .int 0, .ref hq, .int 0, .int 0, (zd 6), (zd 7), (zd 8), (zd 9), (zd 10), (zd 11), .int 0, (zd 13), (zd 14), (zd 15), (zd 16), (zd 17), (zd 18), (zd 19), .int 0, (zd 21), (zd 22), (zd 23), (zd 24), (zd 25), (zd 26), (zd 27), (zd 28), (zd 29), (zd 30), (zd 31), .int 0, (zd 33), (zd 34), (zd 35), (zd 36), (zd 37), (zd 38), (zd 39), (zd 40), .int 0]))]) hD hS hA [0] rfl
    refine va_calli (va_runV (As := [.int 1]) (rest := []) ⟨hx, hb, hml, hown, hg⟩ (c_D_fail l dC dI H_4.size d (fun i => if i = 41 then .int 0 else if i = 32 then .int 0 else if i = 20 then .int 0 else if i = 12 then .int 0 else if i = 5 then .int 0 else if i = 4 then .int 0 else if i = 3 then .ref hq else if i = 2 then .int 0 else if i = 1 then .ref kq else zd i) 0 1) (cwV 1 hg (gw_giV cin_D_fail tw_955 tw_957 sw_D_fail tw_11) rfl rfl rfl (by decide +kernel) ⟨Nat.le_of_ble_eq_true rfl, Nat.le_of_ble_eq_true rfl⟩) ⟨fun a U g mk q => by obtain ⟨q0, q1, qP, qK, qD⟩ := q; exact ⟨q0, q1, qP, va_K.moved (u := U) (U := U.calling g mk a) (Vm.Alike.refl U.vm) qK, qD⟩, va_recv hKc hPc (ci := 9) (q0 := 0) rfl rfl, fun U hU hW => ⟨rfl, by rw [hU], by rw [hU]; exact hPc, va_K.moved hW.alike hKc, hDc.weaken (fun _ _ _ _ => trivial)⟩⟩ rfl rfl hl.1 rfl (lv_room (Nat.le_of_ble_eq_true rfl)) d_D_element_17 ⟨Nat.le_of_ble_eq_true rfl, Nat.le_of_ble_eq_true rfl⟩) hS (fun q _ h => hFc q h) hFc (fun r_k_13 u_k_13 t_k_13 H_14 l_k_13 ht hvm hw_k_13 hB hz1 hk1 hS => ?_)
    obtain ⟨hr_k_13, hu_k_13⟩ := hw_k_13
    subst hr_k_13
    subst hu_k_13
    obtain ⟨zd_k_13, hP1, hK1, hD1⟩ := hB
    rw [ht] at hP1
    have hK1 := va_K.moved hvm.symm hK1
    obtain ⟨hP, hD⟩ := va_join (wr := [(kq, .inl (cK, 32, .inl fk)), (hq, .inl (cH, 12, .inl fh))]) (w1 := [(d, .inr (9, [.int 1, (zd_k_13 1), (zd_k_13 2), (zd_k_13 3), (zd_k_13 4), (zd_k_13 5), (zd_k_13 6), (zd_k_13 7), (zd_k_13 8), (zd_k_13 9), (zd_k_13 10), (zd_k_13 11), (zd_k_13 12), (zd_k_13 13), (zd_k_13 14), (zd_k_13 15), (zd_k_13 16), (zd_k_13 17), (zd_k_13 18), (zd_k_13 19), (zd_k_13 20), (zd_k_13 21), (zd_k_13 22), (zd_k_13 23), (zd_k_13 24), (zd_k_13 25), (zd_k_13 26), (zd_k_13 27), (zd_k_13 28), (zd_k_13 29), (zd_k_13 30), (zd_k_13 31), (zd_k_13 32), (zd_k_13 33), (zd_k_13 34), (zd_k_13 35), (zd_k_13 36), (zd_k_13 37), (zd_k_13 38), (zd_k_13 39), (zd_k_13 40), (zd_k_13 41)]))]) hP hD [0] [1, 2] rfl rfl (by decide) (by decide) hk1 hFc hP1 hD1
    have hK := (hK.sub (tys' := [(cK, .int), (cH, .int)]) [0, 1] rfl).app hK1
    have hP : va_P (dC, dI) kcl [(kq, .inl (cK, 32, .inl fk)), (hq, .inl (cH, 12, .inl fh)), (d, .inr (9, [.int 1, (zd_k_13 1), (zd_k_13 2), (zd_k_13 3), (zd_k_13 4), (zd_k_13 5), (zd_k_13 6), (zd_k_13 7), (zd_k_13 8), (zd_k_13 9), (zd_k_13 10), (zd_k_13 11), (zd_k_13 12), (zd_k_13 13), (zd_k_13 14), (zd_k_13 15), (zd_k_13 16), (zd_k_13 17), (zd_k_13 18), (zd_k_13 19), (zd_k_13 20), (zd_k_13 21), (zd_k_13 22), (zd_k_13 23), (zd_k_13 24), (zd_k_13 25), (zd_k_13 26), (zd_k_13 27), (zd_k_13 28), (zd_k_13 29), (zd_k_13 30), (zd_k_13 31), (zd_k_13 32), (zd_k_13 33), (zd_k_13 34), (zd_k_13 35), (zd_k_13 36), (zd_k_13 37), (zd_k_13 38), (zd_k_13 39), (zd_k_13 40), (zd_k_13 41)]))] H_14 := hP
    have hD : va_D A [(kq, .inl (cK, 32, .inl fk)), (hq, .inl (cH, 12, .inl fh)), (d, .inr (9, [.int 1, (zd_k_13 1), (zd_k_13 2), (zd_k_13 3), (zd_k_13 4), (zd_k_13 5), (zd_k_13 6), (zd_k_13 7), (zd_k_13 8), (zd_k_13 9), (zd_k_13 10), (zd_k_13 11), (zd_k_13 12), (zd_k_13 13), (zd_k_13 14), (zd_k_13 15), (zd_k_13 16), (zd_k_13 17), (zd_k_13 18), (zd_k_13 19), (zd_k_13 20), (zd_k_13 21), (zd_k_13 22), (zd_k_13 23), (zd_k_13 24), (zd_k_13 25), (zd_k_13 26), (zd_k_13 27), (zd_k_13 28), (zd_k_13 29), (zd_k_13 30), (zd_k_13 31), (zd_k_13 32), (zd_k_13 33), (zd_k_13 34), (zd_k_13 35), (zd_k_13 36), (zd_k_13 37), (zd_k_13 38), (zd_k_13 39), (zd_k_13 40), (zd_k_13 41)]))] := hD
    have hK : va_K (dC, dI) kcl [(cK, .int), (cH, .int)] s := hK
    have hP9 := hP.sub (ws' := [(d, .inr (9, [.int 1, (zd_k_13 1), (zd_k_13 2), (zd_k_13 3), (zd_k_13 4), (zd_k_13 5), (zd_k_13 6), (zd_k_13 7), (zd_k_13 8), (zd_k_13 9), (zd_k_13 10), (zd_k_13 11), (zd_k_13 12), (zd_k_13 13), (zd_k_13 14), (zd_k_13 15), (zd_k_13 16), (zd_k_13 17), (zd_k_13 18), (zd_k_13 19), (zd_k_13 20), (zd_k_13 21), (zd_k_13 22), (zd_k_13 23), (zd_k_13 24), (zd_k_13 25), (zd_k_13 26), (zd_k_13 27), (zd_k_13 28), (zd_k_13 29), (zd_k_13 30), (zd_k_13 31), (zd_k_13 32), (zd_k_13 33), (zd_k_13 34), (zd_k_13 35), (zd_k_13 36), (zd_k_13 37), (zd_k_13 38), (zd_k_13 39), (zd_k_13 40), (zd_k_13 41)]))]) [2] rfl
    have hD9 := hD.sub (ws' := [(d, .inr (9, [.int 1, (zd_k_13 1), (zd_k_13 2), (zd_k_13 3), (zd_k_13 4), (zd_k_13 5), (zd_k_13 6), (zd_k_13 7), (zd_k_13 8), (zd_k_13 9), (zd_k_13 10), (zd_k_13 11), (zd_k_13 12), (zd_k_13 13), (zd_k_13 14), (zd_k_13 15), (zd_k_13 16), (zd_k_13 17), (zd_k_13 18), (zd_k_13 19), (zd_k_13 20), (zd_k_13 21), (zd_k_13 22), (zd_k_13 23), (zd_k_13 24), (zd_k_13 25), (zd_k_13 26), (zd_k_13 27), (zd_k_13 28), (zd_k_13 29), (zd_k_13 30), (zd_k_13 31), (zd_k_13 32), (zd_k_13 33), (zd_k_13 34), (zd_k_13 35), (zd_k_13 36), (zd_k_13 37), (zd_k_13 38), (zd_k_13 39), (zd_k_13 40), (zd_k_13 41)]))]) [2] (by decide) rfl
    have hK9 := hK.sub (tys' := []) [] rfl
    exact W.iret (v := 0) hx hb hr (fun t ht hW => ⟨⟨0, 1, rfl, Or.inr ⟨tx_if0 c_5, rfl⟩, ⟨(fun i => List.getD [Value.int (1 : Int32), (zd_k_13 1), (zd_k_13 2), (zd_k_13 3), (zd_k_13 4), (zd_k_13 5), (zd_k_13 6), (zd_k_13 7), (zd_k_13 8), (zd_k_13 9), (zd_k_13 10), (zd_k_13 11), (zd_k_13 12), (zd_k_13 13), (zd_k_13 14), (zd_k_13 15), (zd_k_13 16), (zd_k_13 17), (zd_k_13 18), (zd_k_13 19), (zd_k_13 20), (zd_k_13 21), (zd_k_13 22), (zd_k_13 23), (zd_k_13 24), (zd_k_13 25), (zd_k_13 26), (zd_k_13 27), (zd_k_13 28), (zd_k_13 29), (zd_k_13 30), (zd_k_13 31), (zd_k_13 32), (zd_k_13 33), (zd_k_13 34), (zd_k_13 35), (zd_k_13 36), (zd_k_13 37), (zd_k_13 38), (zd_k_13 39), (zd_k_13 40), (zd_k_13 41)] i Value.null), by rw [ht]; exact hP9, va_K.moved hW.alike hK9, hD9⟩⟩, hS.F ht⟩) hS.2.2 d_D_element_20
set_option maxHeartbeats 4000000 in
set_option maxRecDepth 100000 in
theorem c_D_rule (l : Launch) (dC : Nat → ClassId) (dI : Nat → Nat → Nat) (sz : Nat) (d kq hq : Nat) (cK cH : ClassId) (zd : Nat → Value) (fk fh : Nat → Int32) (hfk : ∀ j, j < 32 → fk j = -1) (t0 : Int32) (n k lo hi : Int32) : Met l y_D_rule ws_D_rule ({ frames := 1, cells := 0, slots := 0, locals := 22 }) (va_Pc [.ref d, .int n, .int k, .int lo, .int hi] (fun U => U.heap.size = sz ∧ va_P (dC, dI) kcl [(d, .inr (9, [.int t0, .ref kq, .int 0, .ref hq, .int 0, .int 0, (zd 6), (zd 7), (zd 8), (zd 9), (zd 10), (zd 11), .int 0, (zd 13), (zd 14), (zd 15), (zd 16), (zd 17), (zd 18), (zd 19), .int 0, (zd 21), (zd 22), (zd 23), (zd 24), (zd 25), (zd 26), (zd 27), (zd 28), (zd 29), (zd 30), (zd 31), .int 0, (zd 33), (zd 34), (zd 35), (zd 36), (zd 37), (zd 38), (zd 39), (zd 40), .int 0])), (kq, .inl (cK, 32, .inl fk)), (hq, .inl (cH, 12, .inl fh))] U.heap ∧ va_K (dC, dI) kcl [(cK, .int), (cH, .int)] U ∧ va_D (fun _ => True) [(d, .inr (9, [.int t0, .ref kq, .int 0, .ref hq, .int 0, .int 0, (zd 6), (zd 7), (zd 8), (zd 9), (zd 10), (zd 11), .int 0, (zd 13), (zd 14), (zd 15), (zd 16), (zd 17), (zd 18), (zd 19), .int 0, (zd 21), (zd 22), (zd 23), (zd 24), (zd 25), (zd 26), (zd 27), (zd 28), (zd 29), (zd 30), (zd 31), .int 0, (zd 33), (zd 34), (zd 35), (zd 36), (zd 37), (zd 38), (zd 39), (zd 40), .int 0])), (kq, .inl (cK, 32, .inl fk)), (hq, .inl (cH, 12, .inl fh))])) (va_Qi (fun (_ th : Int32) => th = 2) (fun (th : Int32) (t : State) => ∃ zd2 : Nat → Value, va_P (dC, dI) kcl [(d, .inr (9, [.int th, (zd2 1), (zd2 2), (zd2 3), (zd2 4), (zd2 5), (zd2 6), (zd2 7), (zd2 8), (zd2 9), (zd2 10), (zd2 11), (zd2 12), (zd2 13), (zd2 14), (zd2 15), (zd2 16), (zd2 17), (zd2 18), (zd2 19), (zd2 20), (zd2 21), (zd2 22), (zd2 23), (zd2 24), (zd2 25), (zd2 26), (zd2 27), (zd2 28), (zd2 29), (zd2 30), (zd2 31), (zd2 32), (zd2 33), (zd2 34), (zd2 35), (zd2 36), (zd2 37), (zd2 38), (zd2 39), (zd2 40), (zd2 41)]))] t.heap ∧ va_K (dC, dI) kcl [] t ∧ va_D (va_A [(d, .inr (9, [.int t0, .ref kq, .int 0, .ref hq, .int 0, .int 0, (zd 6), (zd 7), (zd 8), (zd 9), (zd 10), (zd 11), .int 0, (zd 13), (zd 14), (zd 15), (zd 16), (zd 17), (zd 18), (zd 19), .int 0, (zd 21), (zd 22), (zd 23), (zd 24), (zd 25), (zd 26), (zd 27), (zd 28), (zd 29), (zd 30), (zd 31), .int 0, (zd 33), (zd 34), (zd 35), (zd 36), (zd 37), (zd 38), (zd 39), (zd 40), .int 0])), (kq, .inl (cK, 32, .inl fk)), (hq, .inl (cH, 12, .inl fh))] sz) [(d, .inr (9, [.int th, (zd2 1), (zd2 2), (zd2 3), (zd2 4), (zd2 5), (zd2 6), (zd2 7), (zd2 8), (zd2 9), (zd2 10), (zd2 11), (zd2 12), (zd2 13), (zd2 14), (zd2 15), (zd2 16), (zd2 17), (zd2 18), (zd2 19), (zd2 20), (zd2 21), (zd2 22), (zd2 23), (zd2 24), (zd2 25), (zd2 26), (zd2 27), (zd2 28), (zd2 29), (zd2 30), (zd2 31), (zd2 32), (zd2 33), (zd2 34), (zd2 35), (zd2 36), (zd2 37), (zd2 38), (zd2 39), (zd2 40), (zd2 41)]))]) (va_A [(d, .inr (9, [.int t0, .ref kq, .int 0, .ref hq, .int 0, .int 0, (zd 6), (zd 7), (zd 8), (zd 9), (zd 10), (zd 11), .int 0, (zd 13), (zd 14), (zd 15), (zd 16), (zd 17), (zd 18), (zd 19), .int 0, (zd 21), (zd 22), (zd 23), (zd 24), (zd 25), (zd 26), (zd 27), (zd 28), (zd 29), (zd 30), (zd 31), .int 0, (zd 33), (zd 34), (zd 35), (zd 36), (zd 37), (zd 38), (zd 39), (zd 40), .int 0])), (kq, .inl (cK, 32, .inl fk)), (hq, .inl (cH, 12, .inl fh))] sz)) 0 0 (va_A [(d, .inr (9, [.int t0, .ref kq, .int 0, .ref hq, .int 0, .int 0, (zd 6), (zd 7), (zd 8), (zd 9), (zd 10), (zd 11), .int 0, (zd 13), (zd 14), (zd 15), (zd 16), (zd 17), (zd 18), (zd 19), .int 0, (zd 21), (zd 22), (zd 23), (zd 24), (zd 25), (zd 26), (zd 27), (zd 28), (zd 29), (zd 30), (zd 31), .int 0, (zd 33), (zd 34), (zd 35), (zd 36), (zd 37), (zd 38), (zd 39), (zd 40), .int 0])), (kq, .inl (cK, 32, .inl fk)), (hq, .inl (cH, 12, .inl fh))] sz) := by
  refine Met.ofW (cc := b_D_rule) (maxL := 8) (ret := (Option.some Jvm.ClassFile.FieldType.int)) (by decide) rfl ?_
  intro p e s m args below meth c s₁ B hml hv
  obtain ⟨rfl, hsz, hP, hK, hD0⟩ := hv
  have hx := B.exec
  have hb := B.bytes
  have hr := B.returns
  have hlocks := B.notSynchronized
  have hg : ∀ w ∈ gw, w.before _ s = true := fun w h => atoms_spec (ws := ws_D_rule) B.pre w (List.mem_cons_of_mem _ h)
  have hown : s.vm.findClass "TreeMatcherModel" = some m.cls := findClass_of_methodNamed B.named
  subst hsz
  have hD := hD0.self (sz := s.heap.size)
  have hA : ∀ q : Nat, s.heap.size ≤ q → va_A [(d, .inr (9, [.int t0, .ref kq, .int 0, .ref hq, .int 0, .int 0, (zd 6), (zd 7), (zd 8), (zd 9), (zd 10), (zd 11), .int 0, (zd 13), (zd 14), (zd 15), (zd 16), (zd 17), (zd 18), (zd 19), .int 0, (zd 21), (zd 22), (zd 23), (zd 24), (zd 25), (zd 26), (zd 27), (zd 28), (zd 29), (zd 30), (zd 31), .int 0, (zd 33), (zd 34), (zd 35), (zd 36), (zd 37), (zd 38), (zd 39), (zd 40), .int 0])), (kq, .inl (cK, 32, .inl fk)), (hq, .inl (cH, 12, .inl fh))] s.heap.size q := fun q h => Or.inr h
  generalize hAe : va_A [(d, .inr (9, [.int t0, .ref kq, .int 0, .ref hq, .int 0, .int 0, (zd 6), (zd 7), (zd 8), (zd 9), (zd 10), (zd 11), .int 0, (zd 13), (zd 14), (zd 15), (zd 16), (zd 17), (zd 18), (zd 19), .int 0, (zd 21), (zd 22), (zd 23), (zd 24), (zd 25), (zd 26), (zd 27), (zd 28), (zd 29), (zd 30), (zd 31), .int 0, (zd 33), (zd 34), (zd 35), (zd 36), (zd 37), (zd 38), (zd 39), (zd 40), .int 0])), (kq, .inl (cK, 32, .inl fk)), (hq, .inl (cH, 12, .inl fh))] s.heap.size = A at hD hA ⊢
  have hS : va_S A s.heap s.heap [] := va_S.rf
  have hl := lv_entry ([.ref d, .int n, .int k, .int lo, .int hi] : List Value) (n := 8) (Nat.le_of_ble_eq_true rfl)
  rw [lg_entry_eq]
  generalize (lg_sl ([.ref d, .int n, .int k, .int lo, .int hi] : List Value) ++ List.replicate (8 - (lg_sl ([.ref d, .int n, .int k, .int lo, .int hi] : List Value)).length) Slot.unset).toArray = ls at hl ⊢
  have hl : lv_has ls 8 [(0, .ref d), (1, .int n), (2, .int k), (3, .int lo), (4, .int hi)] := hl
  refine lv_aload_n hx hb d_D_rule_0 rfl (lv_at hl 0 rfl) ?_
  refine lv_iconst (v := 0) hx hb d_D_rule_1 (by decide) ?_
  refine va_put (D := (dC, dI)) (ci := 9) (v := .int 0) (ty := .int) (C := kR_D) (T := kT_D) (N := 42) hx hb hg kin_D kt_D kty_D knm_D hown hK hP hD hS 0 rfl rfl 0 (by decide) (hg _ tw_817) (fun _ h9 => h9) rfl (by decide +kernel) rfl rfl (Nat.le_of_ble_eq_true rfl) d_D_rule_2 (fun H_1 lo_2 hP hD hS => ?_)
  have hP : va_P (dC, dI) kcl [(d, .inr (9, [.int 0, .ref kq, .int 0, .ref hq, .int 0, .int 0, (zd 6), (zd 7), (zd 8), (zd 9), (zd 10), (zd 11), .int 0, (zd 13), (zd 14), (zd 15), (zd 16), (zd 17), (zd 18), (zd 19), .int 0, (zd 21), (zd 22), (zd 23), (zd 24), (zd 25), (zd 26), (zd 27), (zd 28), (zd 29), (zd 30), (zd 31), .int 0, (zd 33), (zd 34), (zd 35), (zd 36), (zd 37), (zd 38), (zd 39), (zd 40), .int 0])), (kq, .inl (cK, 32, .inl fk)), (hq, .inl (cH, 12, .inl fh))] H_1 := hP
  have hD : va_D A [(d, .inr (9, [.int 0, .ref kq, .int 0, .ref hq, .int 0, .int 0, (zd 6), (zd 7), (zd 8), (zd 9), (zd 10), (zd 11), .int 0, (zd 13), (zd 14), (zd 15), (zd 16), (zd 17), (zd 18), (zd 19), .int 0, (zd 21), (zd 22), (zd 23), (zd 24), (zd 25), (zd 26), (zd 27), (zd 28), (zd 29), (zd 30), (zd 31), .int 0, (zd 33), (zd 34), (zd 35), (zd 36), (zd 37), (zd 38), (zd 39), (zd 40), .int 0])), (kq, .inl (cK, 32, .inl fk)), (hq, .inl (cH, 12, .inl fh))] := hD
  refine lv_aload_n hx hb d_D_rule_5 rfl (lv_at hl 0 rfl) ?_
  refine va_get (D := (dC, dI)) (ci := 9) (v := .int 0) (C := kR_D) (T := kT_D) (N := 42) hx hb hg kin_D hown hK hP 0 rfl rfl 5 (by decide) (hg _ tw_822) (fun _ h9 => h9) rfl d_D_rule_6 ?_
  refine lv_bipush (v := 64) hx hb d_D_rule_9 (by decide) ?_
  refine lv_icmp_eq (tgt := 21) hx hb d_D_rule_11 (by decide) (fun c_3 => ?_) (fun c_3 => ?_)
  · exact absurd c_3 (by decide)
  · refine lv_aload_n hx hb d_D_rule_14 rfl (lv_at hl 0 rfl) ?_
    refine va_get (D := (dC, dI)) (ci := 9) (v := .int 0) (C := kR_D) (T := kT_D) (N := 42) hx hb hg kin_D hown hK hP 0 rfl rfl 12 (by decide) (hg _ tw_829) (fun _ h9 => h9) rfl d_D_rule_15 ?_
    refine lv_if_le (tgt := 27) hx hb d_D_rule_18 (by decide) (fun c_4 => ?_) (fun c_4 => ?_)
    · refine lv_iload_n hx hb d_D_rule_27 rfl (lv_at hl 1 rfl) ?_
      refine lv_iconst (v := 0) hx hb d_D_rule_28 (by decide) ?_
      refine lv_bipush (v := 15) hx hb d_D_rule_29 (by decide) ?_
      have hPc := hP.sub (ws' := []) [] rfl
      have hKc := hK.sub (tys' := []) [] rfl
      refine va_calli (va_runS (As := [.int n, .int 0, .int 15]) (rest := []) ⟨hx, hb, hml, hown, hg⟩ (c_D_within l dC dI H_1.size n 0 15) (va_cwS 3 hg (gw_giS cin_D_within tw_952 tw_953 tw_11) rfl rfl rfl (by decide +kernel) ⟨Nat.le_of_ble_eq_true rfl, Nat.le_of_ble_eq_true rfl⟩) ⟨fun a U g mk q => by obtain ⟨q0, q1, qP, qK⟩ := q; exact ⟨q0, q1, qP, va_K.moved (u := U) (U := U.calling g mk a) (Vm.Alike.refl U.vm) qK⟩, fun U hU hW => ⟨rfl, by rw [hU], by rw [hU]; exact hPc, va_K.moved hW.alike hKc⟩⟩ rfl rfl hl.1 rfl (lv_room (Nat.le_of_ble_eq_true rfl)) d_D_rule_31 ⟨Nat.le_of_ble_eq_true rfl, Nat.le_of_ble_eq_true rfl⟩) hS (fun q h1 h => (tx_pA h1 h).elim) (tx_pF hS hA) (fun r_k_5 u_k_5 t_k_5 H_6 l_k_5 ht hvm hw_k_5 hB hz1 hk1 hS => ?_)
      have hw_k_5 : (if 0 ≤ n ∧ n ≤ 15 then 1 else 0) = r_k_5 := Eq.symm hw_k_5
      subst hw_k_5
      have hP := tx_keep hP hk1
      refine lv_if_eq (tgt := 64) hx hb d_D_rule_34 (by decide) (fun c_7 => ?_) (fun c_7 => ?_)
      · refine lv_iconst (v := 0) hx hb d_D_rule_64 (by decide) ?_
        refine lv_istore (lv' := [(5, .int 0), (0, .ref d), (1, .int n), (2, .int k), (3, .int lo), (4, .int hi)]) hx hb d_D_rule_65 hl (by decide) rfl (fun ls hl => ?_)
        refine lv_aload_n hx hb d_D_rule_67 rfl (lv_at hl 1 rfl) ?_
        refine va_get (D := (dC, dI)) (ci := 9) (v := .int 0) (C := kR_D) (T := kT_D) (N := 42) hx hb hg kin_D hown hK hP 0 rfl rfl 4 (by decide) (hg _ tw_821) (fun _ h9 => h9) rfl d_D_rule_68 ?_
        refine lv_istore (lv' := [(6, .int 0), (5, .int 0), (0, .ref d), (1, .int n), (2, .int k), (3, .int lo), (4, .int hi)]) hx hb d_D_rule_71 hl (by decide) rfl (fun ls hl => ?_)
        refine lv_aload_n hx hb d_D_rule_73 rfl (lv_at hl 2 rfl) ?_
        refine lv_iconst (v := 0) hx hb d_D_rule_74 (by decide) ?_
        refine va_put (D := (dC, dI)) (ci := 9) (v := .int 0) (ty := .int) (C := kR_D) (T := kT_D) (N := 42) hx hb hg kin_D kt_D kty_D knm_D hown hK hP hD hS 0 rfl rfl 4 (by decide) (hg _ tw_821) (fun _ h9 => h9) rfl (by decide +kernel) rfl rfl (Nat.le_of_ble_eq_true rfl) d_D_rule_75 (fun H_8 lo_9 hP hD hS => ?_)
        have hP : va_P (dC, dI) kcl [(d, .inr (9, [.int 0, .ref kq, .int 0, .ref hq, .int 0, .int 0, (zd 6), (zd 7), (zd 8), (zd 9), (zd 10), (zd 11), .int 0, (zd 13), (zd 14), (zd 15), (zd 16), (zd 17), (zd 18), (zd 19), .int 0, (zd 21), (zd 22), (zd 23), (zd 24), (zd 25), (zd 26), (zd 27), (zd 28), (zd 29), (zd 30), (zd 31), .int 0, (zd 33), (zd 34), (zd 35), (zd 36), (zd 37), (zd 38), (zd 39), (zd 40), .int 0])), (kq, .inl (cK, 32, .inl fk)), (hq, .inl (cH, 12, .inl fh))] H_8 := hP
        have hD : va_D A [(d, .inr (9, [.int 0, .ref kq, .int 0, .ref hq, .int 0, .int 0, (zd 6), (zd 7), (zd 8), (zd 9), (zd 10), (zd 11), .int 0, (zd 13), (zd 14), (zd 15), (zd 16), (zd 17), (zd 18), (zd 19), .int 0, (zd 21), (zd 22), (zd 23), (zd 24), (zd 25), (zd 26), (zd 27), (zd 28), (zd 29), (zd 30), (zd 31), .int 0, (zd 33), (zd 34), (zd 35), (zd 36), (zd 37), (zd 38), (zd 39), (zd 40), .int 0])), (kq, .inl (cK, 32, .inl fk)), (hq, .inl (cH, 12, .inl fh))] := hD
        refine lv_iload hx hb d_D_rule_78 (lv_at hl 1 rfl) ?_
        refine lv_if_ne (tgt := 89) hx hb d_D_rule_80 (by decide) (fun c_10 => ?_) (fun c_10 => ?_)
        · exact absurd rfl c_10
        · refine lv_aload_n hx hb d_D_rule_83 rfl (lv_at hl 2 rfl) ?_
          refine lv_iconst (v := 2) hx hb d_D_rule_84 (by decide) ?_
          have hPc := hP.sub (ws' := [(d, .inr (9, [.int 0, .ref kq, .int 0, .ref hq, .int 0, .int 0, (zd 6), (zd 7), (zd 8), (zd 9), (zd 10), (zd 11), .int 0, (zd 13), (zd 14), (zd 15), (zd 16), (zd 17), (zd 18), (zd 19), .int 0, (zd 21), (zd 22), (zd 23), (zd 24), (zd 25), (zd 26), (zd 27), (zd 28), (zd 29), (zd 30), (zd 31), .int 0, (zd 33), (zd 34), (zd 35), (zd 36), (zd 37), (zd 38), (zd 39), (zd 40), .int 0]))]) [0] rfl
          have hKc := hK.sub (tys' := []) [] rfl
          have hDc := hD.sub (ws' := [(d, .inr (9, [.int 0, .ref kq, .int 0, .ref hq, .int 0, .int 0, (zd 6), (zd 7), (zd 8), (zd 9), (zd 10), (zd 11), .int 0, (zd 13), (zd 14), (zd 15), (zd 16), (zd 17), (zd 18), (zd 19), .int 0, (zd 21), (zd 22), (zd 23), (zd 24), (zd 25), (zd 26), (zd 27), (zd 28), (zd 29), (zd 30), (zd 31), .int 0, (zd 33), (zd 34), (zd 35), (zd 36), (zd 37), (zd 38), (zd 39), (zd 40), .int 0]))]) [0] (by decide) rfl
          have hFc := va_free (wc := [(d, .inr (9, [.int 0, .ref kq, .int 0, .ref hq, .int 0, .int 0, (zd 6), (zd 7), (zd 8), (zd 9), (zd 10), (zd 11), .int 0, (zd 13), (zd 14), (zd 15), (zd 16), (zd 17), (zd 18), (zd 19), .int 0, (zd 21), (zd 22), (zd 23), (zd 24), (zd 25), (zd 26), (zd 27), (zd 28), (zd 29), (zd 30), (zd 31), .int 0, (zd 33), (zd 34), (zd 35), (zd 36), (zd 37), (zd 38), (zd 39), (zd 40), .int 0]))]) hD hS hA [0] rfl
          refine va_calli (va_runV (As := [.int 2]) (rest := []) ⟨hx, hb, hml, hown, hg⟩ (c_D_fail l dC dI H_8.size d (fun i => if i = 41 then .int 0 else if i = 32 then .int 0 else if i = 20 then .int 0 else if i = 12 then .int 0 else if i = 5 then .int 0 else if i = 4 then .int 0 else if i = 3 then .ref hq else if i = 2 then .int 0 else if i = 1 then .ref kq else zd i) 0 2) (cwV 1 hg (gw_giV cin_D_fail tw_955 tw_957 sw_D_fail tw_11) rfl rfl rfl (by decide +kernel) ⟨Nat.le_of_ble_eq_true rfl, Nat.le_of_ble_eq_true rfl⟩) ⟨fun a U g mk q => by obtain ⟨q0, q1, qP, qK, qD⟩ := q; exact ⟨q0, q1, qP, va_K.moved (u := U) (U := U.calling g mk a) (Vm.Alike.refl U.vm) qK, qD⟩, va_recv hKc hPc (ci := 9) (q0 := 0) rfl rfl, fun U hU hW => ⟨rfl, by rw [hU], by rw [hU]; exact hPc, va_K.moved hW.alike hKc, hDc.weaken (fun _ _ _ _ => trivial)⟩⟩ rfl rfl hl.1 rfl (lv_room (Nat.le_of_ble_eq_true rfl)) d_D_rule_85 ⟨Nat.le_of_ble_eq_true rfl, Nat.le_of_ble_eq_true rfl⟩) hS (fun q _ h => hFc q h) hFc (fun r_k_11 u_k_11 t_k_11 H_12 l_k_11 ht hvm hw_k_11 hB hz1 hk1 hS => ?_)
          obtain ⟨hr_k_11, hu_k_11⟩ := hw_k_11
          subst hr_k_11
          subst hu_k_11
          obtain ⟨zd_k_11, hP1, hK1, hD1⟩ := hB
          rw [ht] at hP1
          have hK1 := va_K.moved hvm.symm hK1
          obtain ⟨hP, hD⟩ := va_join (wr := [(kq, .inl (cK, 32, .inl fk)), (hq, .inl (cH, 12, .inl fh))]) (w1 := [(d, .inr (9, [.int 2, (zd_k_11 1), (zd_k_11 2), (zd_k_11 3), (zd_k_11 4), (zd_k_11 5), (zd_k_11 6), (zd_k_11 7), (zd_k_11 8), (zd_k_11 9), (zd_k_11 10), (zd_k_11 11), (zd_k_11 12), (zd_k_11 13), (zd_k_11 14), (zd_k_11 15), (zd_k_11 16), (zd_k_11 17), (zd_k_11 18), (zd_k_11 19), (zd_k_11 20), (zd_k_11 21), (zd_k_11 22), (zd_k_11 23), (zd_k_11 24), (zd_k_11 25), (zd_k_11 26), (zd_k_11 27), (zd_k_11 28), (zd_k_11 29), (zd_k_11 30), (zd_k_11 31), (zd_k_11 32), (zd_k_11 33), (zd_k_11 34), (zd_k_11 35), (zd_k_11 36), (zd_k_11 37), (zd_k_11 38), (zd_k_11 39), (zd_k_11 40), (zd_k_11 41)]))]) hP hD [0] [1, 2] rfl rfl (by decide) (by decide) hk1 hFc hP1 hD1
          have hK := (hK.sub (tys' := [(cK, .int), (cH, .int)]) [0, 1] rfl).app hK1
          have hP : va_P (dC, dI) kcl [(kq, .inl (cK, 32, .inl fk)), (hq, .inl (cH, 12, .inl fh)), (d, .inr (9, [.int 2, (zd_k_11 1), (zd_k_11 2), (zd_k_11 3), (zd_k_11 4), (zd_k_11 5), (zd_k_11 6), (zd_k_11 7), (zd_k_11 8), (zd_k_11 9), (zd_k_11 10), (zd_k_11 11), (zd_k_11 12), (zd_k_11 13), (zd_k_11 14), (zd_k_11 15), (zd_k_11 16), (zd_k_11 17), (zd_k_11 18), (zd_k_11 19), (zd_k_11 20), (zd_k_11 21), (zd_k_11 22), (zd_k_11 23), (zd_k_11 24), (zd_k_11 25), (zd_k_11 26), (zd_k_11 27), (zd_k_11 28), (zd_k_11 29), (zd_k_11 30), (zd_k_11 31), (zd_k_11 32), (zd_k_11 33), (zd_k_11 34), (zd_k_11 35), (zd_k_11 36), (zd_k_11 37), (zd_k_11 38), (zd_k_11 39), (zd_k_11 40), (zd_k_11 41)]))] H_12 := hP
          have hD : va_D A [(kq, .inl (cK, 32, .inl fk)), (hq, .inl (cH, 12, .inl fh)), (d, .inr (9, [.int 2, (zd_k_11 1), (zd_k_11 2), (zd_k_11 3), (zd_k_11 4), (zd_k_11 5), (zd_k_11 6), (zd_k_11 7), (zd_k_11 8), (zd_k_11 9), (zd_k_11 10), (zd_k_11 11), (zd_k_11 12), (zd_k_11 13), (zd_k_11 14), (zd_k_11 15), (zd_k_11 16), (zd_k_11 17), (zd_k_11 18), (zd_k_11 19), (zd_k_11 20), (zd_k_11 21), (zd_k_11 22), (zd_k_11 23), (zd_k_11 24), (zd_k_11 25), (zd_k_11 26), (zd_k_11 27), (zd_k_11 28), (zd_k_11 29), (zd_k_11 30), (zd_k_11 31), (zd_k_11 32), (zd_k_11 33), (zd_k_11 34), (zd_k_11 35), (zd_k_11 36), (zd_k_11 37), (zd_k_11 38), (zd_k_11 39), (zd_k_11 40), (zd_k_11 41)]))] := hD
          have hK : va_K (dC, dI) kcl [(cK, .int), (cH, .int)] s := hK
          have hP9 := hP.sub (ws' := [(d, .inr (9, [.int 2, (zd_k_11 1), (zd_k_11 2), (zd_k_11 3), (zd_k_11 4), (zd_k_11 5), (zd_k_11 6), (zd_k_11 7), (zd_k_11 8), (zd_k_11 9), (zd_k_11 10), (zd_k_11 11), (zd_k_11 12), (zd_k_11 13), (zd_k_11 14), (zd_k_11 15), (zd_k_11 16), (zd_k_11 17), (zd_k_11 18), (zd_k_11 19), (zd_k_11 20), (zd_k_11 21), (zd_k_11 22), (zd_k_11 23), (zd_k_11 24), (zd_k_11 25), (zd_k_11 26), (zd_k_11 27), (zd_k_11 28), (zd_k_11 29), (zd_k_11 30), (zd_k_11 31), (zd_k_11 32), (zd_k_11 33), (zd_k_11 34), (zd_k_11 35), (zd_k_11 36), (zd_k_11 37), (zd_k_11 38), (zd_k_11 39), (zd_k_11 40), (zd_k_11 41)]))]) [2] rfl
          have hD9 := hD.sub (ws' := [(d, .inr (9, [.int 2, (zd_k_11 1), (zd_k_11 2), (zd_k_11 3), (zd_k_11 4), (zd_k_11 5), (zd_k_11 6), (zd_k_11 7), (zd_k_11 8), (zd_k_11 9), (zd_k_11 10), (zd_k_11 11), (zd_k_11 12), (zd_k_11 13), (zd_k_11 14), (zd_k_11 15), (zd_k_11 16), (zd_k_11 17), (zd_k_11 18), (zd_k_11 19), (zd_k_11 20), (zd_k_11 21), (zd_k_11 22), (zd_k_11 23), (zd_k_11 24), (zd_k_11 25), (zd_k_11 26), (zd_k_11 27), (zd_k_11 28), (zd_k_11 29), (zd_k_11 30), (zd_k_11 31), (zd_k_11 32), (zd_k_11 33), (zd_k_11 34), (zd_k_11 35), (zd_k_11 36), (zd_k_11 37), (zd_k_11 38), (zd_k_11 39), (zd_k_11 40), (zd_k_11 41)]))]) [2] (by decide) rfl
          have hK9 := hK.sub (tys' := []) [] rfl
          exact W.iret (v := 0) hx hb hr (fun t ht hW => ⟨⟨0, 2, rfl, rfl, ⟨(fun i => List.getD [Value.int (2 : Int32), (zd_k_11 1), (zd_k_11 2), (zd_k_11 3), (zd_k_11 4), (zd_k_11 5), (zd_k_11 6), (zd_k_11 7), (zd_k_11 8), (zd_k_11 9), (zd_k_11 10), (zd_k_11 11), (zd_k_11 12), (zd_k_11 13), (zd_k_11 14), (zd_k_11 15), (zd_k_11 16), (zd_k_11 17), (zd_k_11 18), (zd_k_11 19), (zd_k_11 20), (zd_k_11 21), (zd_k_11 22), (zd_k_11 23), (zd_k_11 24), (zd_k_11 25), (zd_k_11 26), (zd_k_11 27), (zd_k_11 28), (zd_k_11 29), (zd_k_11 30), (zd_k_11 31), (zd_k_11 32), (zd_k_11 33), (zd_k_11 34), (zd_k_11 35), (zd_k_11 36), (zd_k_11 37), (zd_k_11 38), (zd_k_11 39), (zd_k_11 40), (zd_k_11 41)] i Value.null), by rw [ht]; exact hP9, va_K.moved hW.alike hK9, hD9⟩⟩, hS.F ht⟩) hS.2.2 d_D_rule_88
      · refine lv_iload_n hx hb d_D_rule_37 rfl (lv_at hl 2 rfl) ?_
        refine lv_iconst (v := 0) hx hb d_D_rule_38 (by decide) ?_
        refine lv_bipush (v := 99) hx hb d_D_rule_39 (by decide) ?_
        have hPc := hP.sub (ws' := []) [] rfl
        have hKc := hK.sub (tys' := []) [] rfl
        refine va_calli (va_runS (As := [.int k, .int 0, .int 99]) (rest := []) ⟨hx, hb, hml, hown, hg⟩ (c_D_within l dC dI H_6.size k 0 99) (va_cwS 3 hg (gw_giS cin_D_within tw_952 tw_953 tw_11) rfl rfl rfl (by decide +kernel) ⟨Nat.le_of_ble_eq_true rfl, Nat.le_of_ble_eq_true rfl⟩) ⟨fun a U g mk q => by obtain ⟨q0, q1, qP, qK⟩ := q; exact ⟨q0, q1, qP, va_K.moved (u := U) (U := U.calling g mk a) (Vm.Alike.refl U.vm) qK⟩, fun U hU hW => ⟨rfl, by rw [hU], by rw [hU]; exact hPc, va_K.moved hW.alike hKc⟩⟩ rfl rfl hl.1 rfl (lv_room (Nat.le_of_ble_eq_true rfl)) d_D_rule_41 ⟨Nat.le_of_ble_eq_true rfl, Nat.le_of_ble_eq_true rfl⟩) hS (fun q h1 h => (tx_pA h1 h).elim) (tx_pF hS hA) (fun r_k_14 u_k_14 t_k_14 H_15 l_k_14 ht hvm hw_k_14 hB hz1 hk1 hS => ?_)
        have hw_k_14 : (if 0 ≤ k ∧ k ≤ 99 then 1 else 0) = r_k_14 := Eq.symm hw_k_14
        subst hw_k_14
        have hP := tx_keep hP hk1
        refine lv_if_eq (tgt := 64) hx hb d_D_rule_44 (by decide) (fun c_16 => ?_) (fun c_16 => ?_)
        · refine lv_iconst (v := 0) hx hb d_D_rule_64 (by decide) ?_
          refine lv_istore (lv' := [(5, .int 0), (0, .ref d), (1, .int n), (2, .int k), (3, .int lo), (4, .int hi)]) hx hb d_D_rule_65 hl (by decide) rfl (fun ls hl => ?_)
          refine lv_aload_n hx hb d_D_rule_67 rfl (lv_at hl 1 rfl) ?_
          refine va_get (D := (dC, dI)) (ci := 9) (v := .int 0) (C := kR_D) (T := kT_D) (N := 42) hx hb hg kin_D hown hK hP 0 rfl rfl 4 (by decide) (hg _ tw_821) (fun _ h9 => h9) rfl d_D_rule_68 ?_
          refine lv_istore (lv' := [(6, .int 0), (5, .int 0), (0, .ref d), (1, .int n), (2, .int k), (3, .int lo), (4, .int hi)]) hx hb d_D_rule_71 hl (by decide) rfl (fun ls hl => ?_)
          refine lv_aload_n hx hb d_D_rule_73 rfl (lv_at hl 2 rfl) ?_
          refine lv_iconst (v := 0) hx hb d_D_rule_74 (by decide) ?_
          refine va_put (D := (dC, dI)) (ci := 9) (v := .int 0) (ty := .int) (C := kR_D) (T := kT_D) (N := 42) hx hb hg kin_D kt_D kty_D knm_D hown hK hP hD hS 0 rfl rfl 4 (by decide) (hg _ tw_821) (fun _ h9 => h9) rfl (by decide +kernel) rfl rfl (Nat.le_of_ble_eq_true rfl) d_D_rule_75 (fun H_17 lo_18 hP hD hS => ?_)
          have hP : va_P (dC, dI) kcl [(d, .inr (9, [.int 0, .ref kq, .int 0, .ref hq, .int 0, .int 0, (zd 6), (zd 7), (zd 8), (zd 9), (zd 10), (zd 11), .int 0, (zd 13), (zd 14), (zd 15), (zd 16), (zd 17), (zd 18), (zd 19), .int 0, (zd 21), (zd 22), (zd 23), (zd 24), (zd 25), (zd 26), (zd 27), (zd 28), (zd 29), (zd 30), (zd 31), .int 0, (zd 33), (zd 34), (zd 35), (zd 36), (zd 37), (zd 38), (zd 39), (zd 40), .int 0])), (kq, .inl (cK, 32, .inl fk)), (hq, .inl (cH, 12, .inl fh))] H_17 := hP
          have hD : va_D A [(d, .inr (9, [.int 0, .ref kq, .int 0, .ref hq, .int 0, .int 0, (zd 6), (zd 7), (zd 8), (zd 9), (zd 10), (zd 11), .int 0, (zd 13), (zd 14), (zd 15), (zd 16), (zd 17), (zd 18), (zd 19), .int 0, (zd 21), (zd 22), (zd 23), (zd 24), (zd 25), (zd 26), (zd 27), (zd 28), (zd 29), (zd 30), (zd 31), .int 0, (zd 33), (zd 34), (zd 35), (zd 36), (zd 37), (zd 38), (zd 39), (zd 40), .int 0])), (kq, .inl (cK, 32, .inl fk)), (hq, .inl (cH, 12, .inl fh))] := hD
          refine lv_iload hx hb d_D_rule_78 (lv_at hl 1 rfl) ?_
          refine lv_if_ne (tgt := 89) hx hb d_D_rule_80 (by decide) (fun c_19 => ?_) (fun c_19 => ?_)
          · exact absurd rfl c_19
          · refine lv_aload_n hx hb d_D_rule_83 rfl (lv_at hl 2 rfl) ?_
            refine lv_iconst (v := 2) hx hb d_D_rule_84 (by decide) ?_
            have hPc := hP.sub (ws' := [(d, .inr (9, [.int 0, .ref kq, .int 0, .ref hq, .int 0, .int 0, (zd 6), (zd 7), (zd 8), (zd 9), (zd 10), (zd 11), .int 0, (zd 13), (zd 14), (zd 15), (zd 16), (zd 17), (zd 18), (zd 19), .int 0, (zd 21), (zd 22), (zd 23), (zd 24), (zd 25), (zd 26), (zd 27), (zd 28), (zd 29), (zd 30), (zd 31), .int 0, (zd 33), (zd 34), (zd 35), (zd 36), (zd 37), (zd 38), (zd 39), (zd 40), .int 0]))]) [0] rfl
            have hKc := hK.sub (tys' := []) [] rfl
            have hDc := hD.sub (ws' := [(d, .inr (9, [.int 0, .ref kq, .int 0, .ref hq, .int 0, .int 0, (zd 6), (zd 7), (zd 8), (zd 9), (zd 10), (zd 11), .int 0, (zd 13), (zd 14), (zd 15), (zd 16), (zd 17), (zd 18), (zd 19), .int 0, (zd 21), (zd 22), (zd 23), (zd 24), (zd 25), (zd 26), (zd 27), (zd 28), (zd 29), (zd 30), (zd 31), .int 0, (zd 33), (zd 34), (zd 35), (zd 36), (zd 37), (zd 38), (zd 39), (zd 40), .int 0]))]) [0] (by decide) rfl
            have hFc := va_free (wc := [(d, .inr (9, [.int 0, .ref kq, .int 0, .ref hq, .int 0, .int 0, (zd 6), (zd 7), (zd 8), (zd 9), (zd 10), (zd 11), .int 0, (zd 13), (zd 14), (zd 15), (zd 16), (zd 17), (zd 18), (zd 19), .int 0, (zd 21), (zd 22), (zd 23), (zd 24), (zd 25), (zd 26), (zd 27), (zd 28), (zd 29), (zd 30), (zd 31), .int 0, (zd 33), (zd 34), (zd 35), (zd 36), (zd 37), (zd 38), (zd 39), (zd 40), .int 0]))]) hD hS hA [0] rfl
            refine va_calli (va_runV (As := [.int 2]) (rest := []) ⟨hx, hb, hml, hown, hg⟩ (c_D_fail l dC dI H_17.size d (fun i => if i = 41 then .int 0 else if i = 32 then .int 0 else if i = 20 then .int 0 else if i = 12 then .int 0 else if i = 5 then .int 0 else if i = 4 then .int 0 else if i = 3 then .ref hq else if i = 2 then .int 0 else if i = 1 then .ref kq else zd i) 0 2) (cwV 1 hg (gw_giV cin_D_fail tw_955 tw_957 sw_D_fail tw_11) rfl rfl rfl (by decide +kernel) ⟨Nat.le_of_ble_eq_true rfl, Nat.le_of_ble_eq_true rfl⟩) ⟨fun a U g mk q => by obtain ⟨q0, q1, qP, qK, qD⟩ := q; exact ⟨q0, q1, qP, va_K.moved (u := U) (U := U.calling g mk a) (Vm.Alike.refl U.vm) qK, qD⟩, va_recv hKc hPc (ci := 9) (q0 := 0) rfl rfl, fun U hU hW => ⟨rfl, by rw [hU], by rw [hU]; exact hPc, va_K.moved hW.alike hKc, hDc.weaken (fun _ _ _ _ => trivial)⟩⟩ rfl rfl hl.1 rfl (lv_room (Nat.le_of_ble_eq_true rfl)) d_D_rule_85 ⟨Nat.le_of_ble_eq_true rfl, Nat.le_of_ble_eq_true rfl⟩) hS (fun q _ h => hFc q h) hFc (fun r_k_20 u_k_20 t_k_20 H_21 l_k_20 ht hvm hw_k_20 hB hz1 hk1 hS => ?_)
            obtain ⟨hr_k_20, hu_k_20⟩ := hw_k_20
            subst hr_k_20
            subst hu_k_20
            obtain ⟨zd_k_20, hP1, hK1, hD1⟩ := hB
            rw [ht] at hP1
            have hK1 := va_K.moved hvm.symm hK1
            obtain ⟨hP, hD⟩ := va_join (wr := [(kq, .inl (cK, 32, .inl fk)), (hq, .inl (cH, 12, .inl fh))]) (w1 := [(d, .inr (9, [.int 2, (zd_k_20 1), (zd_k_20 2), (zd_k_20 3), (zd_k_20 4), (zd_k_20 5), (zd_k_20 6), (zd_k_20 7), (zd_k_20 8), (zd_k_20 9), (zd_k_20 10), (zd_k_20 11), (zd_k_20 12), (zd_k_20 13), (zd_k_20 14), (zd_k_20 15), (zd_k_20 16), (zd_k_20 17), (zd_k_20 18), (zd_k_20 19), (zd_k_20 20), (zd_k_20 21), (zd_k_20 22), (zd_k_20 23), (zd_k_20 24), (zd_k_20 25), (zd_k_20 26), (zd_k_20 27), (zd_k_20 28), (zd_k_20 29), (zd_k_20 30), (zd_k_20 31), (zd_k_20 32), (zd_k_20 33), (zd_k_20 34), (zd_k_20 35), (zd_k_20 36), (zd_k_20 37), (zd_k_20 38), (zd_k_20 39), (zd_k_20 40), (zd_k_20 41)]))]) hP hD [0] [1, 2] rfl rfl (by decide) (by decide) hk1 hFc hP1 hD1
            have hK := (hK.sub (tys' := [(cK, .int), (cH, .int)]) [0, 1] rfl).app hK1
            have hP : va_P (dC, dI) kcl [(kq, .inl (cK, 32, .inl fk)), (hq, .inl (cH, 12, .inl fh)), (d, .inr (9, [.int 2, (zd_k_20 1), (zd_k_20 2), (zd_k_20 3), (zd_k_20 4), (zd_k_20 5), (zd_k_20 6), (zd_k_20 7), (zd_k_20 8), (zd_k_20 9), (zd_k_20 10), (zd_k_20 11), (zd_k_20 12), (zd_k_20 13), (zd_k_20 14), (zd_k_20 15), (zd_k_20 16), (zd_k_20 17), (zd_k_20 18), (zd_k_20 19), (zd_k_20 20), (zd_k_20 21), (zd_k_20 22), (zd_k_20 23), (zd_k_20 24), (zd_k_20 25), (zd_k_20 26), (zd_k_20 27), (zd_k_20 28), (zd_k_20 29), (zd_k_20 30), (zd_k_20 31), (zd_k_20 32), (zd_k_20 33), (zd_k_20 34), (zd_k_20 35), (zd_k_20 36), (zd_k_20 37), (zd_k_20 38), (zd_k_20 39), (zd_k_20 40), (zd_k_20 41)]))] H_21 := hP
            have hD : va_D A [(kq, .inl (cK, 32, .inl fk)), (hq, .inl (cH, 12, .inl fh)), (d, .inr (9, [.int 2, (zd_k_20 1), (zd_k_20 2), (zd_k_20 3), (zd_k_20 4), (zd_k_20 5), (zd_k_20 6), (zd_k_20 7), (zd_k_20 8), (zd_k_20 9), (zd_k_20 10), (zd_k_20 11), (zd_k_20 12), (zd_k_20 13), (zd_k_20 14), (zd_k_20 15), (zd_k_20 16), (zd_k_20 17), (zd_k_20 18), (zd_k_20 19), (zd_k_20 20), (zd_k_20 21), (zd_k_20 22), (zd_k_20 23), (zd_k_20 24), (zd_k_20 25), (zd_k_20 26), (zd_k_20 27), (zd_k_20 28), (zd_k_20 29), (zd_k_20 30), (zd_k_20 31), (zd_k_20 32), (zd_k_20 33), (zd_k_20 34), (zd_k_20 35), (zd_k_20 36), (zd_k_20 37), (zd_k_20 38), (zd_k_20 39), (zd_k_20 40), (zd_k_20 41)]))] := hD
            have hK : va_K (dC, dI) kcl [(cK, .int), (cH, .int)] s := hK
            have hP9 := hP.sub (ws' := [(d, .inr (9, [.int 2, (zd_k_20 1), (zd_k_20 2), (zd_k_20 3), (zd_k_20 4), (zd_k_20 5), (zd_k_20 6), (zd_k_20 7), (zd_k_20 8), (zd_k_20 9), (zd_k_20 10), (zd_k_20 11), (zd_k_20 12), (zd_k_20 13), (zd_k_20 14), (zd_k_20 15), (zd_k_20 16), (zd_k_20 17), (zd_k_20 18), (zd_k_20 19), (zd_k_20 20), (zd_k_20 21), (zd_k_20 22), (zd_k_20 23), (zd_k_20 24), (zd_k_20 25), (zd_k_20 26), (zd_k_20 27), (zd_k_20 28), (zd_k_20 29), (zd_k_20 30), (zd_k_20 31), (zd_k_20 32), (zd_k_20 33), (zd_k_20 34), (zd_k_20 35), (zd_k_20 36), (zd_k_20 37), (zd_k_20 38), (zd_k_20 39), (zd_k_20 40), (zd_k_20 41)]))]) [2] rfl
            have hD9 := hD.sub (ws' := [(d, .inr (9, [.int 2, (zd_k_20 1), (zd_k_20 2), (zd_k_20 3), (zd_k_20 4), (zd_k_20 5), (zd_k_20 6), (zd_k_20 7), (zd_k_20 8), (zd_k_20 9), (zd_k_20 10), (zd_k_20 11), (zd_k_20 12), (zd_k_20 13), (zd_k_20 14), (zd_k_20 15), (zd_k_20 16), (zd_k_20 17), (zd_k_20 18), (zd_k_20 19), (zd_k_20 20), (zd_k_20 21), (zd_k_20 22), (zd_k_20 23), (zd_k_20 24), (zd_k_20 25), (zd_k_20 26), (zd_k_20 27), (zd_k_20 28), (zd_k_20 29), (zd_k_20 30), (zd_k_20 31), (zd_k_20 32), (zd_k_20 33), (zd_k_20 34), (zd_k_20 35), (zd_k_20 36), (zd_k_20 37), (zd_k_20 38), (zd_k_20 39), (zd_k_20 40), (zd_k_20 41)]))]) [2] (by decide) rfl
            have hK9 := hK.sub (tys' := []) [] rfl
            exact W.iret (v := 0) hx hb hr (fun t ht hW => ⟨⟨0, 2, rfl, rfl, ⟨(fun i => List.getD [Value.int (2 : Int32), (zd_k_20 1), (zd_k_20 2), (zd_k_20 3), (zd_k_20 4), (zd_k_20 5), (zd_k_20 6), (zd_k_20 7), (zd_k_20 8), (zd_k_20 9), (zd_k_20 10), (zd_k_20 11), (zd_k_20 12), (zd_k_20 13), (zd_k_20 14), (zd_k_20 15), (zd_k_20 16), (zd_k_20 17), (zd_k_20 18), (zd_k_20 19), (zd_k_20 20), (zd_k_20 21), (zd_k_20 22), (zd_k_20 23), (zd_k_20 24), (zd_k_20 25), (zd_k_20 26), (zd_k_20 27), (zd_k_20 28), (zd_k_20 29), (zd_k_20 30), (zd_k_20 31), (zd_k_20 32), (zd_k_20 33), (zd_k_20 34), (zd_k_20 35), (zd_k_20 36), (zd_k_20 37), (zd_k_20 38), (zd_k_20 39), (zd_k_20 40), (zd_k_20 41)] i Value.null), by rw [ht]; exact hP9, va_K.moved hW.alike hK9, hD9⟩⟩, hS.F ht⟩) hS.2.2 d_D_rule_88
        · refine lv_iload_n hx hb d_D_rule_47 rfl (lv_at hl 3 rfl) ?_
          refine lv_iload hx hb d_D_rule_48 (lv_at hl 4 rfl) ?_
          refine lv_icmp_gt (tgt := 64) hx hb d_D_rule_50 (by decide) (fun c_23 => ?_) (fun c_23 => ?_)
          · refine lv_iconst (v := 0) hx hb d_D_rule_64 (by decide) ?_
            refine lv_istore (lv' := [(5, .int 0), (0, .ref d), (1, .int n), (2, .int k), (3, .int lo), (4, .int hi)]) hx hb d_D_rule_65 hl (by decide) rfl (fun ls hl => ?_)
            refine lv_aload_n hx hb d_D_rule_67 rfl (lv_at hl 1 rfl) ?_
            refine va_get (D := (dC, dI)) (ci := 9) (v := .int 0) (C := kR_D) (T := kT_D) (N := 42) hx hb hg kin_D hown hK hP 0 rfl rfl 4 (by decide) (hg _ tw_821) (fun _ h9 => h9) rfl d_D_rule_68 ?_
            refine lv_istore (lv' := [(6, .int 0), (5, .int 0), (0, .ref d), (1, .int n), (2, .int k), (3, .int lo), (4, .int hi)]) hx hb d_D_rule_71 hl (by decide) rfl (fun ls hl => ?_)
            refine lv_aload_n hx hb d_D_rule_73 rfl (lv_at hl 2 rfl) ?_
            refine lv_iconst (v := 0) hx hb d_D_rule_74 (by decide) ?_
            refine va_put (D := (dC, dI)) (ci := 9) (v := .int 0) (ty := .int) (C := kR_D) (T := kT_D) (N := 42) hx hb hg kin_D kt_D kty_D knm_D hown hK hP hD hS 0 rfl rfl 4 (by decide) (hg _ tw_821) (fun _ h9 => h9) rfl (by decide +kernel) rfl rfl (Nat.le_of_ble_eq_true rfl) d_D_rule_75 (fun H_24 lo_25 hP hD hS => ?_)
            have hP : va_P (dC, dI) kcl [(d, .inr (9, [.int 0, .ref kq, .int 0, .ref hq, .int 0, .int 0, (zd 6), (zd 7), (zd 8), (zd 9), (zd 10), (zd 11), .int 0, (zd 13), (zd 14), (zd 15), (zd 16), (zd 17), (zd 18), (zd 19), .int 0, (zd 21), (zd 22), (zd 23), (zd 24), (zd 25), (zd 26), (zd 27), (zd 28), (zd 29), (zd 30), (zd 31), .int 0, (zd 33), (zd 34), (zd 35), (zd 36), (zd 37), (zd 38), (zd 39), (zd 40), .int 0])), (kq, .inl (cK, 32, .inl fk)), (hq, .inl (cH, 12, .inl fh))] H_24 := hP
            have hD : va_D A [(d, .inr (9, [.int 0, .ref kq, .int 0, .ref hq, .int 0, .int 0, (zd 6), (zd 7), (zd 8), (zd 9), (zd 10), (zd 11), .int 0, (zd 13), (zd 14), (zd 15), (zd 16), (zd 17), (zd 18), (zd 19), .int 0, (zd 21), (zd 22), (zd 23), (zd 24), (zd 25), (zd 26), (zd 27), (zd 28), (zd 29), (zd 30), (zd 31), .int 0, (zd 33), (zd 34), (zd 35), (zd 36), (zd 37), (zd 38), (zd 39), (zd 40), .int 0])), (kq, .inl (cK, 32, .inl fk)), (hq, .inl (cH, 12, .inl fh))] := hD
            refine lv_iload hx hb d_D_rule_78 (lv_at hl 1 rfl) ?_
            refine lv_if_ne (tgt := 89) hx hb d_D_rule_80 (by decide) (fun c_26 => ?_) (fun c_26 => ?_)
            · exact absurd rfl c_26
            · refine lv_aload_n hx hb d_D_rule_83 rfl (lv_at hl 2 rfl) ?_
              refine lv_iconst (v := 2) hx hb d_D_rule_84 (by decide) ?_
              have hPc := hP.sub (ws' := [(d, .inr (9, [.int 0, .ref kq, .int 0, .ref hq, .int 0, .int 0, (zd 6), (zd 7), (zd 8), (zd 9), (zd 10), (zd 11), .int 0, (zd 13), (zd 14), (zd 15), (zd 16), (zd 17), (zd 18), (zd 19), .int 0, (zd 21), (zd 22), (zd 23), (zd 24), (zd 25), (zd 26), (zd 27), (zd 28), (zd 29), (zd 30), (zd 31), .int 0, (zd 33), (zd 34), (zd 35), (zd 36), (zd 37), (zd 38), (zd 39), (zd 40), .int 0]))]) [0] rfl
              have hKc := hK.sub (tys' := []) [] rfl
              have hDc := hD.sub (ws' := [(d, .inr (9, [.int 0, .ref kq, .int 0, .ref hq, .int 0, .int 0, (zd 6), (zd 7), (zd 8), (zd 9), (zd 10), (zd 11), .int 0, (zd 13), (zd 14), (zd 15), (zd 16), (zd 17), (zd 18), (zd 19), .int 0, (zd 21), (zd 22), (zd 23), (zd 24), (zd 25), (zd 26), (zd 27), (zd 28), (zd 29), (zd 30), (zd 31), .int 0, (zd 33), (zd 34), (zd 35), (zd 36), (zd 37), (zd 38), (zd 39), (zd 40), .int 0]))]) [0] (by decide) rfl
              have hFc := va_free (wc := [(d, .inr (9, [.int 0, .ref kq, .int 0, .ref hq, .int 0, .int 0, (zd 6), (zd 7), (zd 8), (zd 9), (zd 10), (zd 11), .int 0, (zd 13), (zd 14), (zd 15), (zd 16), (zd 17), (zd 18), (zd 19), .int 0, (zd 21), (zd 22), (zd 23), (zd 24), (zd 25), (zd 26), (zd 27), (zd 28), (zd 29), (zd 30), (zd 31), .int 0, (zd 33), (zd 34), (zd 35), (zd 36), (zd 37), (zd 38), (zd 39), (zd 40), .int 0]))]) hD hS hA [0] rfl
              refine va_calli (va_runV (As := [.int 2]) (rest := []) ⟨hx, hb, hml, hown, hg⟩ (c_D_fail l dC dI H_24.size d (fun i => if i = 41 then .int 0 else if i = 32 then .int 0 else if i = 20 then .int 0 else if i = 12 then .int 0 else if i = 5 then .int 0 else if i = 4 then .int 0 else if i = 3 then .ref hq else if i = 2 then .int 0 else if i = 1 then .ref kq else zd i) 0 2) (cwV 1 hg (gw_giV cin_D_fail tw_955 tw_957 sw_D_fail tw_11) rfl rfl rfl (by decide +kernel) ⟨Nat.le_of_ble_eq_true rfl, Nat.le_of_ble_eq_true rfl⟩) ⟨fun a U g mk q => by obtain ⟨q0, q1, qP, qK, qD⟩ := q; exact ⟨q0, q1, qP, va_K.moved (u := U) (U := U.calling g mk a) (Vm.Alike.refl U.vm) qK, qD⟩, va_recv hKc hPc (ci := 9) (q0 := 0) rfl rfl, fun U hU hW => ⟨rfl, by rw [hU], by rw [hU]; exact hPc, va_K.moved hW.alike hKc, hDc.weaken (fun _ _ _ _ => trivial)⟩⟩ rfl rfl hl.1 rfl (lv_room (Nat.le_of_ble_eq_true rfl)) d_D_rule_85 ⟨Nat.le_of_ble_eq_true rfl, Nat.le_of_ble_eq_true rfl⟩) hS (fun q _ h => hFc q h) hFc (fun r_k_27 u_k_27 t_k_27 H_28 l_k_27 ht hvm hw_k_27 hB hz1 hk1 hS => ?_)
              obtain ⟨hr_k_27, hu_k_27⟩ := hw_k_27
              subst hr_k_27
              subst hu_k_27
              obtain ⟨zd_k_27, hP1, hK1, hD1⟩ := hB
              rw [ht] at hP1
              have hK1 := va_K.moved hvm.symm hK1
              obtain ⟨hP, hD⟩ := va_join (wr := [(kq, .inl (cK, 32, .inl fk)), (hq, .inl (cH, 12, .inl fh))]) (w1 := [(d, .inr (9, [.int 2, (zd_k_27 1), (zd_k_27 2), (zd_k_27 3), (zd_k_27 4), (zd_k_27 5), (zd_k_27 6), (zd_k_27 7), (zd_k_27 8), (zd_k_27 9), (zd_k_27 10), (zd_k_27 11), (zd_k_27 12), (zd_k_27 13), (zd_k_27 14), (zd_k_27 15), (zd_k_27 16), (zd_k_27 17), (zd_k_27 18), (zd_k_27 19), (zd_k_27 20), (zd_k_27 21), (zd_k_27 22), (zd_k_27 23), (zd_k_27 24), (zd_k_27 25), (zd_k_27 26), (zd_k_27 27), (zd_k_27 28), (zd_k_27 29), (zd_k_27 30), (zd_k_27 31), (zd_k_27 32), (zd_k_27 33), (zd_k_27 34), (zd_k_27 35), (zd_k_27 36), (zd_k_27 37), (zd_k_27 38), (zd_k_27 39), (zd_k_27 40), (zd_k_27 41)]))]) hP hD [0] [1, 2] rfl rfl (by decide) (by decide) hk1 hFc hP1 hD1
              have hK := (hK.sub (tys' := [(cK, .int), (cH, .int)]) [0, 1] rfl).app hK1
              have hP : va_P (dC, dI) kcl [(kq, .inl (cK, 32, .inl fk)), (hq, .inl (cH, 12, .inl fh)), (d, .inr (9, [.int 2, (zd_k_27 1), (zd_k_27 2), (zd_k_27 3), (zd_k_27 4), (zd_k_27 5), (zd_k_27 6), (zd_k_27 7), (zd_k_27 8), (zd_k_27 9), (zd_k_27 10), (zd_k_27 11), (zd_k_27 12), (zd_k_27 13), (zd_k_27 14), (zd_k_27 15), (zd_k_27 16), (zd_k_27 17), (zd_k_27 18), (zd_k_27 19), (zd_k_27 20), (zd_k_27 21), (zd_k_27 22), (zd_k_27 23), (zd_k_27 24), (zd_k_27 25), (zd_k_27 26), (zd_k_27 27), (zd_k_27 28), (zd_k_27 29), (zd_k_27 30), (zd_k_27 31), (zd_k_27 32), (zd_k_27 33), (zd_k_27 34), (zd_k_27 35), (zd_k_27 36), (zd_k_27 37), (zd_k_27 38), (zd_k_27 39), (zd_k_27 40), (zd_k_27 41)]))] H_28 := hP
              have hD : va_D A [(kq, .inl (cK, 32, .inl fk)), (hq, .inl (cH, 12, .inl fh)), (d, .inr (9, [.int 2, (zd_k_27 1), (zd_k_27 2), (zd_k_27 3), (zd_k_27 4), (zd_k_27 5), (zd_k_27 6), (zd_k_27 7), (zd_k_27 8), (zd_k_27 9), (zd_k_27 10), (zd_k_27 11), (zd_k_27 12), (zd_k_27 13), (zd_k_27 14), (zd_k_27 15), (zd_k_27 16), (zd_k_27 17), (zd_k_27 18), (zd_k_27 19), (zd_k_27 20), (zd_k_27 21), (zd_k_27 22), (zd_k_27 23), (zd_k_27 24), (zd_k_27 25), (zd_k_27 26), (zd_k_27 27), (zd_k_27 28), (zd_k_27 29), (zd_k_27 30), (zd_k_27 31), (zd_k_27 32), (zd_k_27 33), (zd_k_27 34), (zd_k_27 35), (zd_k_27 36), (zd_k_27 37), (zd_k_27 38), (zd_k_27 39), (zd_k_27 40), (zd_k_27 41)]))] := hD
              have hK : va_K (dC, dI) kcl [(cK, .int), (cH, .int)] s := hK
              have hP9 := hP.sub (ws' := [(d, .inr (9, [.int 2, (zd_k_27 1), (zd_k_27 2), (zd_k_27 3), (zd_k_27 4), (zd_k_27 5), (zd_k_27 6), (zd_k_27 7), (zd_k_27 8), (zd_k_27 9), (zd_k_27 10), (zd_k_27 11), (zd_k_27 12), (zd_k_27 13), (zd_k_27 14), (zd_k_27 15), (zd_k_27 16), (zd_k_27 17), (zd_k_27 18), (zd_k_27 19), (zd_k_27 20), (zd_k_27 21), (zd_k_27 22), (zd_k_27 23), (zd_k_27 24), (zd_k_27 25), (zd_k_27 26), (zd_k_27 27), (zd_k_27 28), (zd_k_27 29), (zd_k_27 30), (zd_k_27 31), (zd_k_27 32), (zd_k_27 33), (zd_k_27 34), (zd_k_27 35), (zd_k_27 36), (zd_k_27 37), (zd_k_27 38), (zd_k_27 39), (zd_k_27 40), (zd_k_27 41)]))]) [2] rfl
              have hD9 := hD.sub (ws' := [(d, .inr (9, [.int 2, (zd_k_27 1), (zd_k_27 2), (zd_k_27 3), (zd_k_27 4), (zd_k_27 5), (zd_k_27 6), (zd_k_27 7), (zd_k_27 8), (zd_k_27 9), (zd_k_27 10), (zd_k_27 11), (zd_k_27 12), (zd_k_27 13), (zd_k_27 14), (zd_k_27 15), (zd_k_27 16), (zd_k_27 17), (zd_k_27 18), (zd_k_27 19), (zd_k_27 20), (zd_k_27 21), (zd_k_27 22), (zd_k_27 23), (zd_k_27 24), (zd_k_27 25), (zd_k_27 26), (zd_k_27 27), (zd_k_27 28), (zd_k_27 29), (zd_k_27 30), (zd_k_27 31), (zd_k_27 32), (zd_k_27 33), (zd_k_27 34), (zd_k_27 35), (zd_k_27 36), (zd_k_27 37), (zd_k_27 38), (zd_k_27 39), (zd_k_27 40), (zd_k_27 41)]))]) [2] (by decide) rfl
              have hK9 := hK.sub (tys' := []) [] rfl
              exact W.iret (v := 0) hx hb hr (fun t ht hW => ⟨⟨0, 2, rfl, rfl, ⟨(fun i => List.getD [Value.int (2 : Int32), (zd_k_27 1), (zd_k_27 2), (zd_k_27 3), (zd_k_27 4), (zd_k_27 5), (zd_k_27 6), (zd_k_27 7), (zd_k_27 8), (zd_k_27 9), (zd_k_27 10), (zd_k_27 11), (zd_k_27 12), (zd_k_27 13), (zd_k_27 14), (zd_k_27 15), (zd_k_27 16), (zd_k_27 17), (zd_k_27 18), (zd_k_27 19), (zd_k_27 20), (zd_k_27 21), (zd_k_27 22), (zd_k_27 23), (zd_k_27 24), (zd_k_27 25), (zd_k_27 26), (zd_k_27 27), (zd_k_27 28), (zd_k_27 29), (zd_k_27 30), (zd_k_27 31), (zd_k_27 32), (zd_k_27 33), (zd_k_27 34), (zd_k_27 35), (zd_k_27 36), (zd_k_27 37), (zd_k_27 38), (zd_k_27 39), (zd_k_27 40), (zd_k_27 41)] i Value.null), by rw [ht]; exact hP9, va_K.moved hW.alike hK9, hD9⟩⟩, hS.F ht⟩) hS.2.2 d_D_rule_88
          · refine lv_aload_n hx hb d_D_rule_53 rfl (lv_at hl 0 rfl) ?_
            have hPc := hP.sub (ws' := [(d, .inr (9, [.int 0, .ref kq, .int 0, .ref hq, .int 0, .int 0, (zd 6), (zd 7), (zd 8), (zd 9), (zd 10), (zd 11), .int 0, (zd 13), (zd 14), (zd 15), (zd 16), (zd 17), (zd 18), (zd 19), .int 0, (zd 21), (zd 22), (zd 23), (zd 24), (zd 25), (zd 26), (zd 27), (zd 28), (zd 29), (zd 30), (zd 31), .int 0, (zd 33), (zd 34), (zd 35), (zd 36), (zd 37), (zd 38), (zd 39), (zd 40), .int 0]))]) [0] rfl
            have hKc := hK.sub (tys' := []) [] rfl
            refine va_calli (va_runV (As := []) (rest := []) ⟨hx, hb, hml, hown, hg⟩ (c_D_isPattern l dC dI H_15.size d (fun i => if i = 41 then .int 0 else if i = 32 then .int 0 else if i = 20 then .int 0 else if i = 12 then .int 0 else if i = 5 then .int 0 else if i = 3 then .ref hq else if i = 2 then .int 0 else if i = 1 then .ref kq else if i = 0 then .int 0 else zd i)) (cwV 0 hg (gw_giV cin_D_isPattern tw_967 tw_969 sw_D_isPattern tw_11) rfl rfl rfl (by decide +kernel) ⟨Nat.le_of_ble_eq_true rfl, Nat.le_of_ble_eq_true rfl⟩) ⟨fun a U g mk q => by obtain ⟨q0, q1, qP, qK⟩ := q; exact ⟨q0, q1, qP, va_K.moved (u := U) (U := U.calling g mk a) (Vm.Alike.refl U.vm) qK⟩, va_recv hKc hPc (ci := 9) (q0 := 0) rfl rfl, fun U hU hW => ⟨rfl, by rw [hU], by rw [hU]; exact hPc, va_K.moved hW.alike hKc⟩⟩ rfl rfl hl.1 rfl (lv_room (Nat.le_of_ble_eq_true rfl)) d_D_rule_54 ⟨Nat.le_of_ble_eq_true rfl, Nat.le_of_ble_eq_true rfl⟩) hS (fun q h1 h => (tx_pA h1 h).elim) (tx_pF hS hA) (fun r_k_30 u_k_30 t_k_30 H_31 l_k_30 ht hvm hw_k_30 hB hz1 hk1 hS => ?_)
            have hw_k_30 : 0 = r_k_30 := Eq.symm hw_k_30
            subst hw_k_30
            have hP := tx_keep hP hk1
            refine lv_if_eq (tgt := 64) hx hb d_D_rule_57 (by decide) (fun c_32 => ?_) (fun c_32 => ?_)
            · refine lv_iconst (v := 0) hx hb d_D_rule_64 (by decide) ?_
              refine lv_istore (lv' := [(5, .int 0), (0, .ref d), (1, .int n), (2, .int k), (3, .int lo), (4, .int hi)]) hx hb d_D_rule_65 hl (by decide) rfl (fun ls hl => ?_)
              refine lv_aload_n hx hb d_D_rule_67 rfl (lv_at hl 1 rfl) ?_
              refine va_get (D := (dC, dI)) (ci := 9) (v := .int 0) (C := kR_D) (T := kT_D) (N := 42) hx hb hg kin_D hown hK hP 0 rfl rfl 4 (by decide) (hg _ tw_821) (fun _ h9 => h9) rfl d_D_rule_68 ?_
              refine lv_istore (lv' := [(6, .int 0), (5, .int 0), (0, .ref d), (1, .int n), (2, .int k), (3, .int lo), (4, .int hi)]) hx hb d_D_rule_71 hl (by decide) rfl (fun ls hl => ?_)
              refine lv_aload_n hx hb d_D_rule_73 rfl (lv_at hl 2 rfl) ?_
              refine lv_iconst (v := 0) hx hb d_D_rule_74 (by decide) ?_
              refine va_put (D := (dC, dI)) (ci := 9) (v := .int 0) (ty := .int) (C := kR_D) (T := kT_D) (N := 42) hx hb hg kin_D kt_D kty_D knm_D hown hK hP hD hS 0 rfl rfl 4 (by decide) (hg _ tw_821) (fun _ h9 => h9) rfl (by decide +kernel) rfl rfl (Nat.le_of_ble_eq_true rfl) d_D_rule_75 (fun H_33 lo_34 hP hD hS => ?_)
              have hP : va_P (dC, dI) kcl [(d, .inr (9, [.int 0, .ref kq, .int 0, .ref hq, .int 0, .int 0, (zd 6), (zd 7), (zd 8), (zd 9), (zd 10), (zd 11), .int 0, (zd 13), (zd 14), (zd 15), (zd 16), (zd 17), (zd 18), (zd 19), .int 0, (zd 21), (zd 22), (zd 23), (zd 24), (zd 25), (zd 26), (zd 27), (zd 28), (zd 29), (zd 30), (zd 31), .int 0, (zd 33), (zd 34), (zd 35), (zd 36), (zd 37), (zd 38), (zd 39), (zd 40), .int 0])), (kq, .inl (cK, 32, .inl fk)), (hq, .inl (cH, 12, .inl fh))] H_33 := hP
              have hD : va_D A [(d, .inr (9, [.int 0, .ref kq, .int 0, .ref hq, .int 0, .int 0, (zd 6), (zd 7), (zd 8), (zd 9), (zd 10), (zd 11), .int 0, (zd 13), (zd 14), (zd 15), (zd 16), (zd 17), (zd 18), (zd 19), .int 0, (zd 21), (zd 22), (zd 23), (zd 24), (zd 25), (zd 26), (zd 27), (zd 28), (zd 29), (zd 30), (zd 31), .int 0, (zd 33), (zd 34), (zd 35), (zd 36), (zd 37), (zd 38), (zd 39), (zd 40), .int 0])), (kq, .inl (cK, 32, .inl fk)), (hq, .inl (cH, 12, .inl fh))] := hD
              refine lv_iload hx hb d_D_rule_78 (lv_at hl 1 rfl) ?_
              refine lv_if_ne (tgt := 89) hx hb d_D_rule_80 (by decide) (fun c_35 => ?_) (fun c_35 => ?_)
              · exact absurd rfl c_35
              · refine lv_aload_n hx hb d_D_rule_83 rfl (lv_at hl 2 rfl) ?_
                refine lv_iconst (v := 2) hx hb d_D_rule_84 (by decide) ?_
                have hPc := hP.sub (ws' := [(d, .inr (9, [.int 0, .ref kq, .int 0, .ref hq, .int 0, .int 0, (zd 6), (zd 7), (zd 8), (zd 9), (zd 10), (zd 11), .int 0, (zd 13), (zd 14), (zd 15), (zd 16), (zd 17), (zd 18), (zd 19), .int 0, (zd 21), (zd 22), (zd 23), (zd 24), (zd 25), (zd 26), (zd 27), (zd 28), (zd 29), (zd 30), (zd 31), .int 0, (zd 33), (zd 34), (zd 35), (zd 36), (zd 37), (zd 38), (zd 39), (zd 40), .int 0]))]) [0] rfl
                have hKc := hK.sub (tys' := []) [] rfl
                have hDc := hD.sub (ws' := [(d, .inr (9, [.int 0, .ref kq, .int 0, .ref hq, .int 0, .int 0, (zd 6), (zd 7), (zd 8), (zd 9), (zd 10), (zd 11), .int 0, (zd 13), (zd 14), (zd 15), (zd 16), (zd 17), (zd 18), (zd 19), .int 0, (zd 21), (zd 22), (zd 23), (zd 24), (zd 25), (zd 26), (zd 27), (zd 28), (zd 29), (zd 30), (zd 31), .int 0, (zd 33), (zd 34), (zd 35), (zd 36), (zd 37), (zd 38), (zd 39), (zd 40), .int 0]))]) [0] (by decide) rfl
                have hFc := va_free (wc := [(d, .inr (9, [.int 0, .ref kq, .int 0, .ref hq, .int 0, .int 0, (zd 6), (zd 7), (zd 8), (zd 9), (zd 10), (zd 11), .int 0, (zd 13), (zd 14), (zd 15), (zd 16), (zd 17), (zd 18), (zd 19), .int 0, (zd 21), (zd 22), (zd 23), (zd 24), (zd 25), (zd 26), (zd 27), (zd 28), (zd 29), (zd 30), (zd 31), .int 0, (zd 33), (zd 34), (zd 35), (zd 36), (zd 37), (zd 38), (zd 39), (zd 40), .int 0]))]) hD hS hA [0] rfl
                refine va_calli (va_runV (As := [.int 2]) (rest := []) ⟨hx, hb, hml, hown, hg⟩ (c_D_fail l dC dI H_33.size d (fun i => if i = 41 then .int 0 else if i = 32 then .int 0 else if i = 20 then .int 0 else if i = 12 then .int 0 else if i = 5 then .int 0 else if i = 4 then .int 0 else if i = 3 then .ref hq else if i = 2 then .int 0 else if i = 1 then .ref kq else zd i) 0 2) (cwV 1 hg (gw_giV cin_D_fail tw_955 tw_957 sw_D_fail tw_11) rfl rfl rfl (by decide +kernel) ⟨Nat.le_of_ble_eq_true rfl, Nat.le_of_ble_eq_true rfl⟩) ⟨fun a U g mk q => by obtain ⟨q0, q1, qP, qK, qD⟩ := q; exact ⟨q0, q1, qP, va_K.moved (u := U) (U := U.calling g mk a) (Vm.Alike.refl U.vm) qK, qD⟩, va_recv hKc hPc (ci := 9) (q0 := 0) rfl rfl, fun U hU hW => ⟨rfl, by rw [hU], by rw [hU]; exact hPc, va_K.moved hW.alike hKc, hDc.weaken (fun _ _ _ _ => trivial)⟩⟩ rfl rfl hl.1 rfl (lv_room (Nat.le_of_ble_eq_true rfl)) d_D_rule_85 ⟨Nat.le_of_ble_eq_true rfl, Nat.le_of_ble_eq_true rfl⟩) hS (fun q _ h => hFc q h) hFc (fun r_k_36 u_k_36 t_k_36 H_37 l_k_36 ht hvm hw_k_36 hB hz1 hk1 hS => ?_)
                obtain ⟨hr_k_36, hu_k_36⟩ := hw_k_36
                subst hr_k_36
                subst hu_k_36
                obtain ⟨zd_k_36, hP1, hK1, hD1⟩ := hB
                rw [ht] at hP1
                have hK1 := va_K.moved hvm.symm hK1
                obtain ⟨hP, hD⟩ := va_join (wr := [(kq, .inl (cK, 32, .inl fk)), (hq, .inl (cH, 12, .inl fh))]) (w1 := [(d, .inr (9, [.int 2, (zd_k_36 1), (zd_k_36 2), (zd_k_36 3), (zd_k_36 4), (zd_k_36 5), (zd_k_36 6), (zd_k_36 7), (zd_k_36 8), (zd_k_36 9), (zd_k_36 10), (zd_k_36 11), (zd_k_36 12), (zd_k_36 13), (zd_k_36 14), (zd_k_36 15), (zd_k_36 16), (zd_k_36 17), (zd_k_36 18), (zd_k_36 19), (zd_k_36 20), (zd_k_36 21), (zd_k_36 22), (zd_k_36 23), (zd_k_36 24), (zd_k_36 25), (zd_k_36 26), (zd_k_36 27), (zd_k_36 28), (zd_k_36 29), (zd_k_36 30), (zd_k_36 31), (zd_k_36 32), (zd_k_36 33), (zd_k_36 34), (zd_k_36 35), (zd_k_36 36), (zd_k_36 37), (zd_k_36 38), (zd_k_36 39), (zd_k_36 40), (zd_k_36 41)]))]) hP hD [0] [1, 2] rfl rfl (by decide) (by decide) hk1 hFc hP1 hD1
                have hK := (hK.sub (tys' := [(cK, .int), (cH, .int)]) [0, 1] rfl).app hK1
                have hP : va_P (dC, dI) kcl [(kq, .inl (cK, 32, .inl fk)), (hq, .inl (cH, 12, .inl fh)), (d, .inr (9, [.int 2, (zd_k_36 1), (zd_k_36 2), (zd_k_36 3), (zd_k_36 4), (zd_k_36 5), (zd_k_36 6), (zd_k_36 7), (zd_k_36 8), (zd_k_36 9), (zd_k_36 10), (zd_k_36 11), (zd_k_36 12), (zd_k_36 13), (zd_k_36 14), (zd_k_36 15), (zd_k_36 16), (zd_k_36 17), (zd_k_36 18), (zd_k_36 19), (zd_k_36 20), (zd_k_36 21), (zd_k_36 22), (zd_k_36 23), (zd_k_36 24), (zd_k_36 25), (zd_k_36 26), (zd_k_36 27), (zd_k_36 28), (zd_k_36 29), (zd_k_36 30), (zd_k_36 31), (zd_k_36 32), (zd_k_36 33), (zd_k_36 34), (zd_k_36 35), (zd_k_36 36), (zd_k_36 37), (zd_k_36 38), (zd_k_36 39), (zd_k_36 40), (zd_k_36 41)]))] H_37 := hP
                have hD : va_D A [(kq, .inl (cK, 32, .inl fk)), (hq, .inl (cH, 12, .inl fh)), (d, .inr (9, [.int 2, (zd_k_36 1), (zd_k_36 2), (zd_k_36 3), (zd_k_36 4), (zd_k_36 5), (zd_k_36 6), (zd_k_36 7), (zd_k_36 8), (zd_k_36 9), (zd_k_36 10), (zd_k_36 11), (zd_k_36 12), (zd_k_36 13), (zd_k_36 14), (zd_k_36 15), (zd_k_36 16), (zd_k_36 17), (zd_k_36 18), (zd_k_36 19), (zd_k_36 20), (zd_k_36 21), (zd_k_36 22), (zd_k_36 23), (zd_k_36 24), (zd_k_36 25), (zd_k_36 26), (zd_k_36 27), (zd_k_36 28), (zd_k_36 29), (zd_k_36 30), (zd_k_36 31), (zd_k_36 32), (zd_k_36 33), (zd_k_36 34), (zd_k_36 35), (zd_k_36 36), (zd_k_36 37), (zd_k_36 38), (zd_k_36 39), (zd_k_36 40), (zd_k_36 41)]))] := hD
                have hK : va_K (dC, dI) kcl [(cK, .int), (cH, .int)] s := hK
                have hP9 := hP.sub (ws' := [(d, .inr (9, [.int 2, (zd_k_36 1), (zd_k_36 2), (zd_k_36 3), (zd_k_36 4), (zd_k_36 5), (zd_k_36 6), (zd_k_36 7), (zd_k_36 8), (zd_k_36 9), (zd_k_36 10), (zd_k_36 11), (zd_k_36 12), (zd_k_36 13), (zd_k_36 14), (zd_k_36 15), (zd_k_36 16), (zd_k_36 17), (zd_k_36 18), (zd_k_36 19), (zd_k_36 20), (zd_k_36 21), (zd_k_36 22), (zd_k_36 23), (zd_k_36 24), (zd_k_36 25), (zd_k_36 26), (zd_k_36 27), (zd_k_36 28), (zd_k_36 29), (zd_k_36 30), (zd_k_36 31), (zd_k_36 32), (zd_k_36 33), (zd_k_36 34), (zd_k_36 35), (zd_k_36 36), (zd_k_36 37), (zd_k_36 38), (zd_k_36 39), (zd_k_36 40), (zd_k_36 41)]))]) [2] rfl
                have hD9 := hD.sub (ws' := [(d, .inr (9, [.int 2, (zd_k_36 1), (zd_k_36 2), (zd_k_36 3), (zd_k_36 4), (zd_k_36 5), (zd_k_36 6), (zd_k_36 7), (zd_k_36 8), (zd_k_36 9), (zd_k_36 10), (zd_k_36 11), (zd_k_36 12), (zd_k_36 13), (zd_k_36 14), (zd_k_36 15), (zd_k_36 16), (zd_k_36 17), (zd_k_36 18), (zd_k_36 19), (zd_k_36 20), (zd_k_36 21), (zd_k_36 22), (zd_k_36 23), (zd_k_36 24), (zd_k_36 25), (zd_k_36 26), (zd_k_36 27), (zd_k_36 28), (zd_k_36 29), (zd_k_36 30), (zd_k_36 31), (zd_k_36 32), (zd_k_36 33), (zd_k_36 34), (zd_k_36 35), (zd_k_36 36), (zd_k_36 37), (zd_k_36 38), (zd_k_36 39), (zd_k_36 40), (zd_k_36 41)]))]) [2] (by decide) rfl
                have hK9 := hK.sub (tys' := []) [] rfl
                exact W.iret (v := 0) hx hb hr (fun t ht hW => ⟨⟨0, 2, rfl, rfl, ⟨(fun i => List.getD [Value.int (2 : Int32), (zd_k_36 1), (zd_k_36 2), (zd_k_36 3), (zd_k_36 4), (zd_k_36 5), (zd_k_36 6), (zd_k_36 7), (zd_k_36 8), (zd_k_36 9), (zd_k_36 10), (zd_k_36 11), (zd_k_36 12), (zd_k_36 13), (zd_k_36 14), (zd_k_36 15), (zd_k_36 16), (zd_k_36 17), (zd_k_36 18), (zd_k_36 19), (zd_k_36 20), (zd_k_36 21), (zd_k_36 22), (zd_k_36 23), (zd_k_36 24), (zd_k_36 25), (zd_k_36 26), (zd_k_36 27), (zd_k_36 28), (zd_k_36 29), (zd_k_36 30), (zd_k_36 31), (zd_k_36 32), (zd_k_36 33), (zd_k_36 34), (zd_k_36 35), (zd_k_36 36), (zd_k_36 37), (zd_k_36 38), (zd_k_36 39), (zd_k_36 40), (zd_k_36 41)] i Value.null), by rw [ht]; exact hP9, va_K.moved hW.alike hK9, hD9⟩⟩, hS.F ht⟩) hS.2.2 d_D_rule_88
            · exact absurd rfl c_32
    · exact absurd (by decide) c_4
set_option maxHeartbeats 4000000 in
set_option maxRecDepth 100000 in
theorem c_D_node (l : Launch) (dC : Nat → ClassId) (dI : Nat → Nat → Nat) (sz : Nat) (d kq hq : Nat) (cK cH : ClassId) (zd : Nat → Value) (fk fh : Nat → Int32) (hfk : ∀ j, j < 32 → fk j = -1) (t0 : Int32) (n k lo hi : Int32) : Met l y_D_node ws_D_node ({ frames := 1, cells := 0, slots := 0, locals := 22 }) (va_Pc [.ref d, .int n, .int k, .int lo, .int hi] (fun U => U.heap.size = sz ∧ va_P (dC, dI) kcl [(d, .inr (9, [.int t0, .ref kq, .int 0, .ref hq, .int 0, .int 0, (zd 6), (zd 7), (zd 8), (zd 9), (zd 10), (zd 11), .int 0, (zd 13), (zd 14), (zd 15), (zd 16), (zd 17), (zd 18), (zd 19), .int 0, (zd 21), (zd 22), (zd 23), (zd 24), (zd 25), (zd 26), (zd 27), (zd 28), (zd 29), (zd 30), (zd 31), .int 0, (zd 33), (zd 34), (zd 35), (zd 36), (zd 37), (zd 38), (zd 39), (zd 40), .int 0])), (kq, .inl (cK, 32, .inl fk)), (hq, .inl (cH, 12, .inl fh))] U.heap ∧ va_K (dC, dI) kcl [(cK, .int), (cH, .int)] U ∧ va_D (fun _ => True) [(d, .inr (9, [.int t0, .ref kq, .int 0, .ref hq, .int 0, .int 0, (zd 6), (zd 7), (zd 8), (zd 9), (zd 10), (zd 11), .int 0, (zd 13), (zd 14), (zd 15), (zd 16), (zd 17), (zd 18), (zd 19), .int 0, (zd 21), (zd 22), (zd 23), (zd 24), (zd 25), (zd 26), (zd 27), (zd 28), (zd 29), (zd 30), (zd 31), .int 0, (zd 33), (zd 34), (zd 35), (zd 36), (zd 37), (zd 38), (zd 39), (zd 40), .int 0])), (kq, .inl (cK, 32, .inl fk)), (hq, .inl (cH, 12, .inl fh))])) (va_Qi (fun (_ th : Int32) => th = 1) (fun (th : Int32) (t : State) => ∃ zd2 : Nat → Value, va_P (dC, dI) kcl [(d, .inr (9, [.int th, (zd2 1), (zd2 2), (zd2 3), (zd2 4), (zd2 5), (zd2 6), (zd2 7), (zd2 8), (zd2 9), (zd2 10), (zd2 11), (zd2 12), (zd2 13), (zd2 14), (zd2 15), (zd2 16), (zd2 17), (zd2 18), (zd2 19), (zd2 20), (zd2 21), (zd2 22), (zd2 23), (zd2 24), (zd2 25), (zd2 26), (zd2 27), (zd2 28), (zd2 29), (zd2 30), (zd2 31), (zd2 32), (zd2 33), (zd2 34), (zd2 35), (zd2 36), (zd2 37), (zd2 38), (zd2 39), (zd2 40), (zd2 41)]))] t.heap ∧ va_K (dC, dI) kcl [] t ∧ va_D (va_A [(d, .inr (9, [.int t0, .ref kq, .int 0, .ref hq, .int 0, .int 0, (zd 6), (zd 7), (zd 8), (zd 9), (zd 10), (zd 11), .int 0, (zd 13), (zd 14), (zd 15), (zd 16), (zd 17), (zd 18), (zd 19), .int 0, (zd 21), (zd 22), (zd 23), (zd 24), (zd 25), (zd 26), (zd 27), (zd 28), (zd 29), (zd 30), (zd 31), .int 0, (zd 33), (zd 34), (zd 35), (zd 36), (zd 37), (zd 38), (zd 39), (zd 40), .int 0])), (kq, .inl (cK, 32, .inl fk)), (hq, .inl (cH, 12, .inl fh))] sz) [(d, .inr (9, [.int th, (zd2 1), (zd2 2), (zd2 3), (zd2 4), (zd2 5), (zd2 6), (zd2 7), (zd2 8), (zd2 9), (zd2 10), (zd2 11), (zd2 12), (zd2 13), (zd2 14), (zd2 15), (zd2 16), (zd2 17), (zd2 18), (zd2 19), (zd2 20), (zd2 21), (zd2 22), (zd2 23), (zd2 24), (zd2 25), (zd2 26), (zd2 27), (zd2 28), (zd2 29), (zd2 30), (zd2 31), (zd2 32), (zd2 33), (zd2 34), (zd2 35), (zd2 36), (zd2 37), (zd2 38), (zd2 39), (zd2 40), (zd2 41)]))]) (va_A [(d, .inr (9, [.int t0, .ref kq, .int 0, .ref hq, .int 0, .int 0, (zd 6), (zd 7), (zd 8), (zd 9), (zd 10), (zd 11), .int 0, (zd 13), (zd 14), (zd 15), (zd 16), (zd 17), (zd 18), (zd 19), .int 0, (zd 21), (zd 22), (zd 23), (zd 24), (zd 25), (zd 26), (zd 27), (zd 28), (zd 29), (zd 30), (zd 31), .int 0, (zd 33), (zd 34), (zd 35), (zd 36), (zd 37), (zd 38), (zd 39), (zd 40), .int 0])), (kq, .inl (cK, 32, .inl fk)), (hq, .inl (cH, 12, .inl fh))] sz)) 0 0 (va_A [(d, .inr (9, [.int t0, .ref kq, .int 0, .ref hq, .int 0, .int 0, (zd 6), (zd 7), (zd 8), (zd 9), (zd 10), (zd 11), .int 0, (zd 13), (zd 14), (zd 15), (zd 16), (zd 17), (zd 18), (zd 19), .int 0, (zd 21), (zd 22), (zd 23), (zd 24), (zd 25), (zd 26), (zd 27), (zd 28), (zd 29), (zd 30), (zd 31), .int 0, (zd 33), (zd 34), (zd 35), (zd 36), (zd 37), (zd 38), (zd 39), (zd 40), .int 0])), (kq, .inl (cK, 32, .inl fk)), (hq, .inl (cH, 12, .inl fh))] sz) := by
  refine Met.ofW (cc := b_D_node) (maxL := 11) (ret := (Option.some Jvm.ClassFile.FieldType.int)) (by decide) rfl ?_
  intro p e s m args below meth c s₁ B hml hv
  obtain ⟨rfl, hsz, hP, hK, hD0⟩ := hv
  have hx := B.exec
  have hb := B.bytes
  have hr := B.returns
  have hlocks := B.notSynchronized
  have hg : ∀ w ∈ gw, w.before _ s = true := fun w h => atoms_spec (ws := ws_D_node) B.pre w (List.mem_cons_of_mem _ h)
  have hown : s.vm.findClass "TreeMatcherModel" = some m.cls := findClass_of_methodNamed B.named
  subst hsz
  have hD := hD0.self (sz := s.heap.size)
  have hA : ∀ q : Nat, s.heap.size ≤ q → va_A [(d, .inr (9, [.int t0, .ref kq, .int 0, .ref hq, .int 0, .int 0, (zd 6), (zd 7), (zd 8), (zd 9), (zd 10), (zd 11), .int 0, (zd 13), (zd 14), (zd 15), (zd 16), (zd 17), (zd 18), (zd 19), .int 0, (zd 21), (zd 22), (zd 23), (zd 24), (zd 25), (zd 26), (zd 27), (zd 28), (zd 29), (zd 30), (zd 31), .int 0, (zd 33), (zd 34), (zd 35), (zd 36), (zd 37), (zd 38), (zd 39), (zd 40), .int 0])), (kq, .inl (cK, 32, .inl fk)), (hq, .inl (cH, 12, .inl fh))] s.heap.size q := fun q h => Or.inr h
  generalize hAe : va_A [(d, .inr (9, [.int t0, .ref kq, .int 0, .ref hq, .int 0, .int 0, (zd 6), (zd 7), (zd 8), (zd 9), (zd 10), (zd 11), .int 0, (zd 13), (zd 14), (zd 15), (zd 16), (zd 17), (zd 18), (zd 19), .int 0, (zd 21), (zd 22), (zd 23), (zd 24), (zd 25), (zd 26), (zd 27), (zd 28), (zd 29), (zd 30), (zd 31), .int 0, (zd 33), (zd 34), (zd 35), (zd 36), (zd 37), (zd 38), (zd 39), (zd 40), .int 0])), (kq, .inl (cK, 32, .inl fk)), (hq, .inl (cH, 12, .inl fh))] s.heap.size = A at hD hA ⊢
  have hS : va_S A s.heap s.heap [] := va_S.rf
  have hl := lv_entry ([.ref d, .int n, .int k, .int lo, .int hi] : List Value) (n := 11) (Nat.le_of_ble_eq_true rfl)
  rw [lg_entry_eq]
  generalize (lg_sl ([.ref d, .int n, .int k, .int lo, .int hi] : List Value) ++ List.replicate (11 - (lg_sl ([.ref d, .int n, .int k, .int lo, .int hi] : List Value)).length) Slot.unset).toArray = ls at hl ⊢
  have hl : lv_has ls 11 [(0, .ref d), (1, .int n), (2, .int k), (3, .int lo), (4, .int hi)] := hl
  refine lv_aload_n hx hb d_D_node_0 rfl (lv_at hl 0 rfl) ?_
  refine lv_iconst (v := 0) hx hb d_D_node_1 (by decide) ?_
  refine va_put (D := (dC, dI)) (ci := 9) (v := .int 0) (ty := .int) (C := kR_D) (T := kT_D) (N := 42) hx hb hg kin_D kt_D kty_D knm_D hown hK hP hD hS 0 rfl rfl 0 (by decide) (hg _ tw_817) (fun _ h9 => h9) rfl (by decide +kernel) rfl rfl (Nat.le_of_ble_eq_true rfl) d_D_node_2 (fun H_1 lo_2 hP hD hS => ?_)
  have hP : va_P (dC, dI) kcl [(d, .inr (9, [.int 0, .ref kq, .int 0, .ref hq, .int 0, .int 0, (zd 6), (zd 7), (zd 8), (zd 9), (zd 10), (zd 11), .int 0, (zd 13), (zd 14), (zd 15), (zd 16), (zd 17), (zd 18), (zd 19), .int 0, (zd 21), (zd 22), (zd 23), (zd 24), (zd 25), (zd 26), (zd 27), (zd 28), (zd 29), (zd 30), (zd 31), .int 0, (zd 33), (zd 34), (zd 35), (zd 36), (zd 37), (zd 38), (zd 39), (zd 40), .int 0])), (kq, .inl (cK, 32, .inl fk)), (hq, .inl (cH, 12, .inl fh))] H_1 := hP
  have hD : va_D A [(d, .inr (9, [.int 0, .ref kq, .int 0, .ref hq, .int 0, .int 0, (zd 6), (zd 7), (zd 8), (zd 9), (zd 10), (zd 11), .int 0, (zd 13), (zd 14), (zd 15), (zd 16), (zd 17), (zd 18), (zd 19), .int 0, (zd 21), (zd 22), (zd 23), (zd 24), (zd 25), (zd 26), (zd 27), (zd 28), (zd 29), (zd 30), (zd 31), .int 0, (zd 33), (zd 34), (zd 35), (zd 36), (zd 37), (zd 38), (zd 39), (zd 40), .int 0])), (kq, .inl (cK, 32, .inl fk)), (hq, .inl (cH, 12, .inl fh))] := hD
  refine lv_iload_n hx hb d_D_node_5 rfl (lv_at hl 1 rfl) ?_
  refine lv_iconst (v := 0) hx hb d_D_node_6 (by decide) ?_
  refine lv_bipush (v := 31) hx hb d_D_node_7 (by decide) ?_
  have hPc := hP.sub (ws' := []) [] rfl
  have hKc := hK.sub (tys' := []) [] rfl
  refine va_calli (va_runS (As := [.int n, .int 0, .int 31]) (rest := []) ⟨hx, hb, hml, hown, hg⟩ (c_D_within l dC dI H_1.size n 0 31) (va_cwS 3 hg (gw_giS cin_D_within tw_952 tw_953 tw_11) rfl rfl rfl (by decide +kernel) ⟨Nat.le_of_ble_eq_true rfl, Nat.le_of_ble_eq_true rfl⟩) ⟨fun a U g mk q => by obtain ⟨q0, q1, qP, qK⟩ := q; exact ⟨q0, q1, qP, va_K.moved (u := U) (U := U.calling g mk a) (Vm.Alike.refl U.vm) qK⟩, fun U hU hW => ⟨rfl, by rw [hU], by rw [hU]; exact hPc, va_K.moved hW.alike hKc⟩⟩ rfl rfl hl.1 rfl (lv_room (Nat.le_of_ble_eq_true rfl)) d_D_node_9 ⟨Nat.le_of_ble_eq_true rfl, Nat.le_of_ble_eq_true rfl⟩) hS (fun q h1 h => (tx_pA h1 h).elim) (tx_pF hS hA) (fun r_k_3 u_k_3 t_k_3 H_4 l_k_3 ht hvm hw_k_3 hB hz1 hk1 hS => ?_)
  have hw_k_3 : (if 0 ≤ n ∧ n ≤ 31 then 1 else 0) = r_k_3 := Eq.symm hw_k_3
  subst hw_k_3
  have hP := tx_keep hP hk1
  refine lv_if_eq (tgt := 25) hx hb d_D_node_12 (by decide) (fun c_5 => ?_) (fun c_5 => ?_)
  · refine lv_aload_n hx hb d_D_node_25 rfl (lv_at hl 0 rfl) ?_
    refine lv_iconst (v := 1) hx hb d_D_node_26 (by decide) ?_
    have hPc := hP.sub (ws' := [(d, .inr (9, [.int 0, .ref kq, .int 0, .ref hq, .int 0, .int 0, (zd 6), (zd 7), (zd 8), (zd 9), (zd 10), (zd 11), .int 0, (zd 13), (zd 14), (zd 15), (zd 16), (zd 17), (zd 18), (zd 19), .int 0, (zd 21), (zd 22), (zd 23), (zd 24), (zd 25), (zd 26), (zd 27), (zd 28), (zd 29), (zd 30), (zd 31), .int 0, (zd 33), (zd 34), (zd 35), (zd 36), (zd 37), (zd 38), (zd 39), (zd 40), .int 0]))]) [0] rfl
    have hKc := hK.sub (tys' := []) [] rfl
    have hDc := hD.sub (ws' := [(d, .inr (9, [.int 0, .ref kq, .int 0, .ref hq, .int 0, .int 0, (zd 6), (zd 7), (zd 8), (zd 9), (zd 10), (zd 11), .int 0, (zd 13), (zd 14), (zd 15), (zd 16), (zd 17), (zd 18), (zd 19), .int 0, (zd 21), (zd 22), (zd 23), (zd 24), (zd 25), (zd 26), (zd 27), (zd 28), (zd 29), (zd 30), (zd 31), .int 0, (zd 33), (zd 34), (zd 35), (zd 36), (zd 37), (zd 38), (zd 39), (zd 40), .int 0]))]) [0] (by decide) rfl
    have hFc := va_free (wc := [(d, .inr (9, [.int 0, .ref kq, .int 0, .ref hq, .int 0, .int 0, (zd 6), (zd 7), (zd 8), (zd 9), (zd 10), (zd 11), .int 0, (zd 13), (zd 14), (zd 15), (zd 16), (zd 17), (zd 18), (zd 19), .int 0, (zd 21), (zd 22), (zd 23), (zd 24), (zd 25), (zd 26), (zd 27), (zd 28), (zd 29), (zd 30), (zd 31), .int 0, (zd 33), (zd 34), (zd 35), (zd 36), (zd 37), (zd 38), (zd 39), (zd 40), .int 0]))]) hD hS hA [0] rfl
    refine va_calli (va_runV (As := [.int 1]) (rest := []) ⟨hx, hb, hml, hown, hg⟩ (c_D_fail l dC dI H_4.size d (fun i => if i = 41 then .int 0 else if i = 32 then .int 0 else if i = 20 then .int 0 else if i = 12 then .int 0 else if i = 5 then .int 0 else if i = 4 then .int 0 else if i = 3 then .ref hq else if i = 2 then .int 0 else if i = 1 then .ref kq else zd i) 0 1) (cwV 1 hg (gw_giV cin_D_fail tw_955 tw_957 sw_D_fail tw_11) rfl rfl rfl (by decide +kernel) ⟨Nat.le_of_ble_eq_true rfl, Nat.le_of_ble_eq_true rfl⟩) ⟨fun a U g mk q => by obtain ⟨q0, q1, qP, qK, qD⟩ := q; exact ⟨q0, q1, qP, va_K.moved (u := U) (U := U.calling g mk a) (Vm.Alike.refl U.vm) qK, qD⟩, va_recv hKc hPc (ci := 9) (q0 := 0) rfl rfl, fun U hU hW => ⟨rfl, by rw [hU], by rw [hU]; exact hPc, va_K.moved hW.alike hKc, hDc.weaken (fun _ _ _ _ => trivial)⟩⟩ rfl rfl hl.1 rfl (lv_room (Nat.le_of_ble_eq_true rfl)) d_D_node_27 ⟨Nat.le_of_ble_eq_true rfl, Nat.le_of_ble_eq_true rfl⟩) hS (fun q _ h => hFc q h) hFc (fun r_k_6 u_k_6 t_k_6 H_7 l_k_6 ht hvm hw_k_6 hB hz1 hk1 hS => ?_)
    obtain ⟨hr_k_6, hu_k_6⟩ := hw_k_6
    subst hr_k_6
    subst hu_k_6
    obtain ⟨zd_k_6, hP1, hK1, hD1⟩ := hB
    rw [ht] at hP1
    have hK1 := va_K.moved hvm.symm hK1
    obtain ⟨hP, hD⟩ := va_join (wr := [(kq, .inl (cK, 32, .inl fk)), (hq, .inl (cH, 12, .inl fh))]) (w1 := [(d, .inr (9, [.int 1, (zd_k_6 1), (zd_k_6 2), (zd_k_6 3), (zd_k_6 4), (zd_k_6 5), (zd_k_6 6), (zd_k_6 7), (zd_k_6 8), (zd_k_6 9), (zd_k_6 10), (zd_k_6 11), (zd_k_6 12), (zd_k_6 13), (zd_k_6 14), (zd_k_6 15), (zd_k_6 16), (zd_k_6 17), (zd_k_6 18), (zd_k_6 19), (zd_k_6 20), (zd_k_6 21), (zd_k_6 22), (zd_k_6 23), (zd_k_6 24), (zd_k_6 25), (zd_k_6 26), (zd_k_6 27), (zd_k_6 28), (zd_k_6 29), (zd_k_6 30), (zd_k_6 31), (zd_k_6 32), (zd_k_6 33), (zd_k_6 34), (zd_k_6 35), (zd_k_6 36), (zd_k_6 37), (zd_k_6 38), (zd_k_6 39), (zd_k_6 40), (zd_k_6 41)]))]) hP hD [0] [1, 2] rfl rfl (by decide) (by decide) hk1 hFc hP1 hD1
    have hK := (hK.sub (tys' := [(cK, .int), (cH, .int)]) [0, 1] rfl).app hK1
    have hP : va_P (dC, dI) kcl [(kq, .inl (cK, 32, .inl fk)), (hq, .inl (cH, 12, .inl fh)), (d, .inr (9, [.int 1, (zd_k_6 1), (zd_k_6 2), (zd_k_6 3), (zd_k_6 4), (zd_k_6 5), (zd_k_6 6), (zd_k_6 7), (zd_k_6 8), (zd_k_6 9), (zd_k_6 10), (zd_k_6 11), (zd_k_6 12), (zd_k_6 13), (zd_k_6 14), (zd_k_6 15), (zd_k_6 16), (zd_k_6 17), (zd_k_6 18), (zd_k_6 19), (zd_k_6 20), (zd_k_6 21), (zd_k_6 22), (zd_k_6 23), (zd_k_6 24), (zd_k_6 25), (zd_k_6 26), (zd_k_6 27), (zd_k_6 28), (zd_k_6 29), (zd_k_6 30), (zd_k_6 31), (zd_k_6 32), (zd_k_6 33), (zd_k_6 34), (zd_k_6 35), (zd_k_6 36), (zd_k_6 37), (zd_k_6 38), (zd_k_6 39), (zd_k_6 40), (zd_k_6 41)]))] H_7 := hP
    have hD : va_D A [(kq, .inl (cK, 32, .inl fk)), (hq, .inl (cH, 12, .inl fh)), (d, .inr (9, [.int 1, (zd_k_6 1), (zd_k_6 2), (zd_k_6 3), (zd_k_6 4), (zd_k_6 5), (zd_k_6 6), (zd_k_6 7), (zd_k_6 8), (zd_k_6 9), (zd_k_6 10), (zd_k_6 11), (zd_k_6 12), (zd_k_6 13), (zd_k_6 14), (zd_k_6 15), (zd_k_6 16), (zd_k_6 17), (zd_k_6 18), (zd_k_6 19), (zd_k_6 20), (zd_k_6 21), (zd_k_6 22), (zd_k_6 23), (zd_k_6 24), (zd_k_6 25), (zd_k_6 26), (zd_k_6 27), (zd_k_6 28), (zd_k_6 29), (zd_k_6 30), (zd_k_6 31), (zd_k_6 32), (zd_k_6 33), (zd_k_6 34), (zd_k_6 35), (zd_k_6 36), (zd_k_6 37), (zd_k_6 38), (zd_k_6 39), (zd_k_6 40), (zd_k_6 41)]))] := hD
    have hK : va_K (dC, dI) kcl [(cK, .int), (cH, .int)] s := hK
    have hP9 := hP.sub (ws' := [(d, .inr (9, [.int 1, (zd_k_6 1), (zd_k_6 2), (zd_k_6 3), (zd_k_6 4), (zd_k_6 5), (zd_k_6 6), (zd_k_6 7), (zd_k_6 8), (zd_k_6 9), (zd_k_6 10), (zd_k_6 11), (zd_k_6 12), (zd_k_6 13), (zd_k_6 14), (zd_k_6 15), (zd_k_6 16), (zd_k_6 17), (zd_k_6 18), (zd_k_6 19), (zd_k_6 20), (zd_k_6 21), (zd_k_6 22), (zd_k_6 23), (zd_k_6 24), (zd_k_6 25), (zd_k_6 26), (zd_k_6 27), (zd_k_6 28), (zd_k_6 29), (zd_k_6 30), (zd_k_6 31), (zd_k_6 32), (zd_k_6 33), (zd_k_6 34), (zd_k_6 35), (zd_k_6 36), (zd_k_6 37), (zd_k_6 38), (zd_k_6 39), (zd_k_6 40), (zd_k_6 41)]))]) [2] rfl
    have hD9 := hD.sub (ws' := [(d, .inr (9, [.int 1, (zd_k_6 1), (zd_k_6 2), (zd_k_6 3), (zd_k_6 4), (zd_k_6 5), (zd_k_6 6), (zd_k_6 7), (zd_k_6 8), (zd_k_6 9), (zd_k_6 10), (zd_k_6 11), (zd_k_6 12), (zd_k_6 13), (zd_k_6 14), (zd_k_6 15), (zd_k_6 16), (zd_k_6 17), (zd_k_6 18), (zd_k_6 19), (zd_k_6 20), (zd_k_6 21), (zd_k_6 22), (zd_k_6 23), (zd_k_6 24), (zd_k_6 25), (zd_k_6 26), (zd_k_6 27), (zd_k_6 28), (zd_k_6 29), (zd_k_6 30), (zd_k_6 31), (zd_k_6 32), (zd_k_6 33), (zd_k_6 34), (zd_k_6 35), (zd_k_6 36), (zd_k_6 37), (zd_k_6 38), (zd_k_6 39), (zd_k_6 40), (zd_k_6 41)]))]) [2] (by decide) rfl
    have hK9 := hK.sub (tys' := []) [] rfl
    exact W.iret (v := 0) hx hb hr (fun t ht hW => ⟨⟨0, 1, rfl, rfl, ⟨(fun i => List.getD [Value.int (1 : Int32), (zd_k_6 1), (zd_k_6 2), (zd_k_6 3), (zd_k_6 4), (zd_k_6 5), (zd_k_6 6), (zd_k_6 7), (zd_k_6 8), (zd_k_6 9), (zd_k_6 10), (zd_k_6 11), (zd_k_6 12), (zd_k_6 13), (zd_k_6 14), (zd_k_6 15), (zd_k_6 16), (zd_k_6 17), (zd_k_6 18), (zd_k_6 19), (zd_k_6 20), (zd_k_6 21), (zd_k_6 22), (zd_k_6 23), (zd_k_6 24), (zd_k_6 25), (zd_k_6 26), (zd_k_6 27), (zd_k_6 28), (zd_k_6 29), (zd_k_6 30), (zd_k_6 31), (zd_k_6 32), (zd_k_6 33), (zd_k_6 34), (zd_k_6 35), (zd_k_6 36), (zd_k_6 37), (zd_k_6 38), (zd_k_6 39), (zd_k_6 40), (zd_k_6 41)] i Value.null), by rw [ht]; exact hP9, va_K.moved hW.alike hK9, hD9⟩⟩, hS.F ht⟩) hS.2.2 d_D_node_30
  · refine lv_aload_n hx hb d_D_node_15 rfl (lv_at hl 0 rfl) ?_
    refine va_get (D := (dC, dI)) (ci := 9) (v := .ref kq) (C := kR_D) (T := kT_D) (N := 42) hx hb hg kin_D hown hK hP 0 rfl rfl 1 (by decide) (hg _ tw_818) (fun _ h9 => h9) rfl d_D_node_16 ?_
    refine lv_iload_n hx hb d_D_node_19 rfl (lv_at hl 1 rfl) ?_
    have hi := tx_le31 (tx_if1 c_5)
    refine va_iald hx hb hK hP 1 0 rfl rfl (tx_in32 hi) d_D_node_20 ?_
    refine lv_iconst (v := (-1)) hx hb d_D_node_21 (by decide) ?_
    refine lv_icmp_ne (tgt := 31) hx hb d_D_node_22 (by decide) (fun c_9 => ?_) (fun c_9 => ?_)
    · exact absurd (hfk _ (tx_in32n hi)) c_9
    · refine lv_aload_n hx hb d_D_node_25 rfl (lv_at hl 0 rfl) ?_
      refine lv_iconst (v := 1) hx hb d_D_node_26 (by decide) ?_
      have hPc := hP.sub (ws' := [(d, .inr (9, [.int 0, .ref kq, .int 0, .ref hq, .int 0, .int 0, (zd 6), (zd 7), (zd 8), (zd 9), (zd 10), (zd 11), .int 0, (zd 13), (zd 14), (zd 15), (zd 16), (zd 17), (zd 18), (zd 19), .int 0, (zd 21), (zd 22), (zd 23), (zd 24), (zd 25), (zd 26), (zd 27), (zd 28), (zd 29), (zd 30), (zd 31), .int 0, (zd 33), (zd 34), (zd 35), (zd 36), (zd 37), (zd 38), (zd 39), (zd 40), .int 0]))]) [0] rfl
      have hKc := hK.sub (tys' := []) [] rfl
      have hDc := hD.sub (ws' := [(d, .inr (9, [.int 0, .ref kq, .int 0, .ref hq, .int 0, .int 0, (zd 6), (zd 7), (zd 8), (zd 9), (zd 10), (zd 11), .int 0, (zd 13), (zd 14), (zd 15), (zd 16), (zd 17), (zd 18), (zd 19), .int 0, (zd 21), (zd 22), (zd 23), (zd 24), (zd 25), (zd 26), (zd 27), (zd 28), (zd 29), (zd 30), (zd 31), .int 0, (zd 33), (zd 34), (zd 35), (zd 36), (zd 37), (zd 38), (zd 39), (zd 40), .int 0]))]) [0] (by decide) rfl
      have hFc := va_free (wc := [(d, .inr (9, [.int 0, .ref kq, .int 0, .ref hq, .int 0, .int 0, (zd 6), (zd 7), (zd 8), (zd 9), (zd 10), (zd 11), .int 0, (zd 13), (zd 14), (zd 15), (zd 16), (zd 17), (zd 18), (zd 19), .int 0, (zd 21), (zd 22), (zd 23), (zd 24), (zd 25), (zd 26), (zd 27), (zd 28), (zd 29), (zd 30), (zd 31), .int 0, (zd 33), (zd 34), (zd 35), (zd 36), (zd 37), (zd 38), (zd 39), (zd 40), .int 0]))]) hD hS hA [0] rfl
      refine va_calli (va_runV (As := [.int 1]) (rest := []) ⟨hx, hb, hml, hown, hg⟩ (c_D_fail l dC dI H_4.size d (fun i => if i = 41 then .int 0 else if i = 32 then .int 0 else if i = 20 then .int 0 else if i = 12 then .int 0 else if i = 5 then .int 0 else if i = 4 then .int 0 else if i = 3 then .ref hq else if i = 2 then .int 0 else if i = 1 then .ref kq else zd i) 0 1) (cwV 1 hg (gw_giV cin_D_fail tw_955 tw_957 sw_D_fail tw_11) rfl rfl rfl (by decide +kernel) ⟨Nat.le_of_ble_eq_true rfl, Nat.le_of_ble_eq_true rfl⟩) ⟨fun a U g mk q => by obtain ⟨q0, q1, qP, qK, qD⟩ := q; exact ⟨q0, q1, qP, va_K.moved (u := U) (U := U.calling g mk a) (Vm.Alike.refl U.vm) qK, qD⟩, va_recv hKc hPc (ci := 9) (q0 := 0) rfl rfl, fun U hU hW => ⟨rfl, by rw [hU], by rw [hU]; exact hPc, va_K.moved hW.alike hKc, hDc.weaken (fun _ _ _ _ => trivial)⟩⟩ rfl rfl hl.1 rfl (lv_room (Nat.le_of_ble_eq_true rfl)) d_D_node_27 ⟨Nat.le_of_ble_eq_true rfl, Nat.le_of_ble_eq_true rfl⟩) hS (fun q _ h => hFc q h) hFc (fun r_k_10 u_k_10 t_k_10 H_11 l_k_10 ht hvm hw_k_10 hB hz1 hk1 hS => ?_)
      obtain ⟨hr_k_10, hu_k_10⟩ := hw_k_10
      subst hr_k_10
      subst hu_k_10
      obtain ⟨zd_k_10, hP1, hK1, hD1⟩ := hB
      rw [ht] at hP1
      have hK1 := va_K.moved hvm.symm hK1
      obtain ⟨hP, hD⟩ := va_join (wr := [(kq, .inl (cK, 32, .inl fk)), (hq, .inl (cH, 12, .inl fh))]) (w1 := [(d, .inr (9, [.int 1, (zd_k_10 1), (zd_k_10 2), (zd_k_10 3), (zd_k_10 4), (zd_k_10 5), (zd_k_10 6), (zd_k_10 7), (zd_k_10 8), (zd_k_10 9), (zd_k_10 10), (zd_k_10 11), (zd_k_10 12), (zd_k_10 13), (zd_k_10 14), (zd_k_10 15), (zd_k_10 16), (zd_k_10 17), (zd_k_10 18), (zd_k_10 19), (zd_k_10 20), (zd_k_10 21), (zd_k_10 22), (zd_k_10 23), (zd_k_10 24), (zd_k_10 25), (zd_k_10 26), (zd_k_10 27), (zd_k_10 28), (zd_k_10 29), (zd_k_10 30), (zd_k_10 31), (zd_k_10 32), (zd_k_10 33), (zd_k_10 34), (zd_k_10 35), (zd_k_10 36), (zd_k_10 37), (zd_k_10 38), (zd_k_10 39), (zd_k_10 40), (zd_k_10 41)]))]) hP hD [0] [1, 2] rfl rfl (by decide) (by decide) hk1 hFc hP1 hD1
      have hK := (hK.sub (tys' := [(cK, .int), (cH, .int)]) [0, 1] rfl).app hK1
      have hP : va_P (dC, dI) kcl [(kq, .inl (cK, 32, .inl fk)), (hq, .inl (cH, 12, .inl fh)), (d, .inr (9, [.int 1, (zd_k_10 1), (zd_k_10 2), (zd_k_10 3), (zd_k_10 4), (zd_k_10 5), (zd_k_10 6), (zd_k_10 7), (zd_k_10 8), (zd_k_10 9), (zd_k_10 10), (zd_k_10 11), (zd_k_10 12), (zd_k_10 13), (zd_k_10 14), (zd_k_10 15), (zd_k_10 16), (zd_k_10 17), (zd_k_10 18), (zd_k_10 19), (zd_k_10 20), (zd_k_10 21), (zd_k_10 22), (zd_k_10 23), (zd_k_10 24), (zd_k_10 25), (zd_k_10 26), (zd_k_10 27), (zd_k_10 28), (zd_k_10 29), (zd_k_10 30), (zd_k_10 31), (zd_k_10 32), (zd_k_10 33), (zd_k_10 34), (zd_k_10 35), (zd_k_10 36), (zd_k_10 37), (zd_k_10 38), (zd_k_10 39), (zd_k_10 40), (zd_k_10 41)]))] H_11 := hP
      have hD : va_D A [(kq, .inl (cK, 32, .inl fk)), (hq, .inl (cH, 12, .inl fh)), (d, .inr (9, [.int 1, (zd_k_10 1), (zd_k_10 2), (zd_k_10 3), (zd_k_10 4), (zd_k_10 5), (zd_k_10 6), (zd_k_10 7), (zd_k_10 8), (zd_k_10 9), (zd_k_10 10), (zd_k_10 11), (zd_k_10 12), (zd_k_10 13), (zd_k_10 14), (zd_k_10 15), (zd_k_10 16), (zd_k_10 17), (zd_k_10 18), (zd_k_10 19), (zd_k_10 20), (zd_k_10 21), (zd_k_10 22), (zd_k_10 23), (zd_k_10 24), (zd_k_10 25), (zd_k_10 26), (zd_k_10 27), (zd_k_10 28), (zd_k_10 29), (zd_k_10 30), (zd_k_10 31), (zd_k_10 32), (zd_k_10 33), (zd_k_10 34), (zd_k_10 35), (zd_k_10 36), (zd_k_10 37), (zd_k_10 38), (zd_k_10 39), (zd_k_10 40), (zd_k_10 41)]))] := hD
      have hK : va_K (dC, dI) kcl [(cK, .int), (cH, .int)] s := hK
      have hP9 := hP.sub (ws' := [(d, .inr (9, [.int 1, (zd_k_10 1), (zd_k_10 2), (zd_k_10 3), (zd_k_10 4), (zd_k_10 5), (zd_k_10 6), (zd_k_10 7), (zd_k_10 8), (zd_k_10 9), (zd_k_10 10), (zd_k_10 11), (zd_k_10 12), (zd_k_10 13), (zd_k_10 14), (zd_k_10 15), (zd_k_10 16), (zd_k_10 17), (zd_k_10 18), (zd_k_10 19), (zd_k_10 20), (zd_k_10 21), (zd_k_10 22), (zd_k_10 23), (zd_k_10 24), (zd_k_10 25), (zd_k_10 26), (zd_k_10 27), (zd_k_10 28), (zd_k_10 29), (zd_k_10 30), (zd_k_10 31), (zd_k_10 32), (zd_k_10 33), (zd_k_10 34), (zd_k_10 35), (zd_k_10 36), (zd_k_10 37), (zd_k_10 38), (zd_k_10 39), (zd_k_10 40), (zd_k_10 41)]))]) [2] rfl
      have hD9 := hD.sub (ws' := [(d, .inr (9, [.int 1, (zd_k_10 1), (zd_k_10 2), (zd_k_10 3), (zd_k_10 4), (zd_k_10 5), (zd_k_10 6), (zd_k_10 7), (zd_k_10 8), (zd_k_10 9), (zd_k_10 10), (zd_k_10 11), (zd_k_10 12), (zd_k_10 13), (zd_k_10 14), (zd_k_10 15), (zd_k_10 16), (zd_k_10 17), (zd_k_10 18), (zd_k_10 19), (zd_k_10 20), (zd_k_10 21), (zd_k_10 22), (zd_k_10 23), (zd_k_10 24), (zd_k_10 25), (zd_k_10 26), (zd_k_10 27), (zd_k_10 28), (zd_k_10 29), (zd_k_10 30), (zd_k_10 31), (zd_k_10 32), (zd_k_10 33), (zd_k_10 34), (zd_k_10 35), (zd_k_10 36), (zd_k_10 37), (zd_k_10 38), (zd_k_10 39), (zd_k_10 40), (zd_k_10 41)]))]) [2] (by decide) rfl
      have hK9 := hK.sub (tys' := []) [] rfl
      exact W.iret (v := 0) hx hb hr (fun t ht hW => ⟨⟨0, 1, rfl, rfl, ⟨(fun i => List.getD [Value.int (1 : Int32), (zd_k_10 1), (zd_k_10 2), (zd_k_10 3), (zd_k_10 4), (zd_k_10 5), (zd_k_10 6), (zd_k_10 7), (zd_k_10 8), (zd_k_10 9), (zd_k_10 10), (zd_k_10 11), (zd_k_10 12), (zd_k_10 13), (zd_k_10 14), (zd_k_10 15), (zd_k_10 16), (zd_k_10 17), (zd_k_10 18), (zd_k_10 19), (zd_k_10 20), (zd_k_10 21), (zd_k_10 22), (zd_k_10 23), (zd_k_10 24), (zd_k_10 25), (zd_k_10 26), (zd_k_10 27), (zd_k_10 28), (zd_k_10 29), (zd_k_10 30), (zd_k_10 31), (zd_k_10 32), (zd_k_10 33), (zd_k_10 34), (zd_k_10 35), (zd_k_10 36), (zd_k_10 37), (zd_k_10 38), (zd_k_10 39), (zd_k_10 40), (zd_k_10 41)] i Value.null), by rw [ht]; exact hP9, va_K.moved hW.alike hK9, hD9⟩⟩, hS.F ht⟩) hS.2.2 d_D_node_30
set_option maxHeartbeats 4000000 in
set_option maxRecDepth 100000 in
theorem c_D_cost (l : Launch) (dC : Nat → ClassId) (dI : Nat → Nat → Nat) (sz : Nat) (d kq hq : Nat) (cK cH : ClassId) (zd : Nat → Value) (fk fh : Nat → Int32) (hfk : ∀ j, j < 32 → fk j = -1) (t0 : Int32) (n k : Int32) : Met l y_D_cost ws_D_cost ({ frames := 1, cells := 0, slots := 0, locals := 22 }) (va_Pc [.ref d, .int n, .int k] (fun U => U.heap.size = sz ∧ va_P (dC, dI) kcl [(d, .inr (9, [.int t0, .ref kq, .int 0, .ref hq, .int 0, .int 0, (zd 6), (zd 7), (zd 8), (zd 9), (zd 10), (zd 11), .int 0, (zd 13), (zd 14), (zd 15), (zd 16), (zd 17), (zd 18), (zd 19), .int 0, (zd 21), (zd 22), (zd 23), (zd 24), (zd 25), (zd 26), (zd 27), (zd 28), (zd 29), (zd 30), (zd 31), .int 0, (zd 33), (zd 34), (zd 35), (zd 36), (zd 37), (zd 38), (zd 39), (zd 40), .int 0])), (kq, .inl (cK, 32, .inl fk)), (hq, .inl (cH, 12, .inl fh))] U.heap ∧ va_K (dC, dI) kcl [(cK, .int), (cH, .int)] U ∧ va_D (fun _ => True) [(d, .inr (9, [.int t0, .ref kq, .int 0, .ref hq, .int 0, .int 0, (zd 6), (zd 7), (zd 8), (zd 9), (zd 10), (zd 11), .int 0, (zd 13), (zd 14), (zd 15), (zd 16), (zd 17), (zd 18), (zd 19), .int 0, (zd 21), (zd 22), (zd 23), (zd 24), (zd 25), (zd 26), (zd 27), (zd 28), (zd 29), (zd 30), (zd 31), .int 0, (zd 33), (zd 34), (zd 35), (zd 36), (zd 37), (zd 38), (zd 39), (zd 40), .int 0])), (kq, .inl (cK, 32, .inl fk)), (hq, .inl (cH, 12, .inl fh))])) (va_Qi (fun (_ th : Int32) => th = 1) (fun (th : Int32) (t : State) => ∃ zd2 : Nat → Value, va_P (dC, dI) kcl [(d, .inr (9, [.int th, (zd2 1), (zd2 2), (zd2 3), (zd2 4), (zd2 5), (zd2 6), (zd2 7), (zd2 8), (zd2 9), (zd2 10), (zd2 11), (zd2 12), (zd2 13), (zd2 14), (zd2 15), (zd2 16), (zd2 17), (zd2 18), (zd2 19), (zd2 20), (zd2 21), (zd2 22), (zd2 23), (zd2 24), (zd2 25), (zd2 26), (zd2 27), (zd2 28), (zd2 29), (zd2 30), (zd2 31), (zd2 32), (zd2 33), (zd2 34), (zd2 35), (zd2 36), (zd2 37), (zd2 38), (zd2 39), (zd2 40), (zd2 41)]))] t.heap ∧ va_K (dC, dI) kcl [] t ∧ va_D (va_A [(d, .inr (9, [.int t0, .ref kq, .int 0, .ref hq, .int 0, .int 0, (zd 6), (zd 7), (zd 8), (zd 9), (zd 10), (zd 11), .int 0, (zd 13), (zd 14), (zd 15), (zd 16), (zd 17), (zd 18), (zd 19), .int 0, (zd 21), (zd 22), (zd 23), (zd 24), (zd 25), (zd 26), (zd 27), (zd 28), (zd 29), (zd 30), (zd 31), .int 0, (zd 33), (zd 34), (zd 35), (zd 36), (zd 37), (zd 38), (zd 39), (zd 40), .int 0])), (kq, .inl (cK, 32, .inl fk)), (hq, .inl (cH, 12, .inl fh))] sz) [(d, .inr (9, [.int th, (zd2 1), (zd2 2), (zd2 3), (zd2 4), (zd2 5), (zd2 6), (zd2 7), (zd2 8), (zd2 9), (zd2 10), (zd2 11), (zd2 12), (zd2 13), (zd2 14), (zd2 15), (zd2 16), (zd2 17), (zd2 18), (zd2 19), (zd2 20), (zd2 21), (zd2 22), (zd2 23), (zd2 24), (zd2 25), (zd2 26), (zd2 27), (zd2 28), (zd2 29), (zd2 30), (zd2 31), (zd2 32), (zd2 33), (zd2 34), (zd2 35), (zd2 36), (zd2 37), (zd2 38), (zd2 39), (zd2 40), (zd2 41)]))]) (va_A [(d, .inr (9, [.int t0, .ref kq, .int 0, .ref hq, .int 0, .int 0, (zd 6), (zd 7), (zd 8), (zd 9), (zd 10), (zd 11), .int 0, (zd 13), (zd 14), (zd 15), (zd 16), (zd 17), (zd 18), (zd 19), .int 0, (zd 21), (zd 22), (zd 23), (zd 24), (zd 25), (zd 26), (zd 27), (zd 28), (zd 29), (zd 30), (zd 31), .int 0, (zd 33), (zd 34), (zd 35), (zd 36), (zd 37), (zd 38), (zd 39), (zd 40), .int 0])), (kq, .inl (cK, 32, .inl fk)), (hq, .inl (cH, 12, .inl fh))] sz)) 0 0 (va_A [(d, .inr (9, [.int t0, .ref kq, .int 0, .ref hq, .int 0, .int 0, (zd 6), (zd 7), (zd 8), (zd 9), (zd 10), (zd 11), .int 0, (zd 13), (zd 14), (zd 15), (zd 16), (zd 17), (zd 18), (zd 19), .int 0, (zd 21), (zd 22), (zd 23), (zd 24), (zd 25), (zd 26), (zd 27), (zd 28), (zd 29), (zd 30), (zd 31), .int 0, (zd 33), (zd 34), (zd 35), (zd 36), (zd 37), (zd 38), (zd 39), (zd 40), .int 0])), (kq, .inl (cK, 32, .inl fk)), (hq, .inl (cH, 12, .inl fh))] sz) := by
  refine Met.ofW (cc := b_D_cost) (maxL := 3) (ret := (Option.some Jvm.ClassFile.FieldType.int)) (by decide) rfl ?_
  intro p e s m args below meth c s₁ B hml hv
  obtain ⟨rfl, hsz, hP, hK, hD0⟩ := hv
  have hx := B.exec
  have hb := B.bytes
  have hr := B.returns
  have hlocks := B.notSynchronized
  have hg : ∀ w ∈ gw, w.before _ s = true := fun w h => atoms_spec (ws := ws_D_cost) B.pre w (List.mem_cons_of_mem _ h)
  have hown : s.vm.findClass "TreeMatcherModel" = some m.cls := findClass_of_methodNamed B.named
  subst hsz
  have hD := hD0.self (sz := s.heap.size)
  have hA : ∀ q : Nat, s.heap.size ≤ q → va_A [(d, .inr (9, [.int t0, .ref kq, .int 0, .ref hq, .int 0, .int 0, (zd 6), (zd 7), (zd 8), (zd 9), (zd 10), (zd 11), .int 0, (zd 13), (zd 14), (zd 15), (zd 16), (zd 17), (zd 18), (zd 19), .int 0, (zd 21), (zd 22), (zd 23), (zd 24), (zd 25), (zd 26), (zd 27), (zd 28), (zd 29), (zd 30), (zd 31), .int 0, (zd 33), (zd 34), (zd 35), (zd 36), (zd 37), (zd 38), (zd 39), (zd 40), .int 0])), (kq, .inl (cK, 32, .inl fk)), (hq, .inl (cH, 12, .inl fh))] s.heap.size q := fun q h => Or.inr h
  generalize hAe : va_A [(d, .inr (9, [.int t0, .ref kq, .int 0, .ref hq, .int 0, .int 0, (zd 6), (zd 7), (zd 8), (zd 9), (zd 10), (zd 11), .int 0, (zd 13), (zd 14), (zd 15), (zd 16), (zd 17), (zd 18), (zd 19), .int 0, (zd 21), (zd 22), (zd 23), (zd 24), (zd 25), (zd 26), (zd 27), (zd 28), (zd 29), (zd 30), (zd 31), .int 0, (zd 33), (zd 34), (zd 35), (zd 36), (zd 37), (zd 38), (zd 39), (zd 40), .int 0])), (kq, .inl (cK, 32, .inl fk)), (hq, .inl (cH, 12, .inl fh))] s.heap.size = A at hD hA ⊢
  have hS : va_S A s.heap s.heap [] := va_S.rf
  have hl := lv_entry ([.ref d, .int n, .int k] : List Value) (n := 3) (Nat.le_of_ble_eq_true rfl)
  rw [lg_entry_eq]
  generalize (lg_sl ([.ref d, .int n, .int k] : List Value) ++ List.replicate (3 - (lg_sl ([.ref d, .int n, .int k] : List Value)).length) Slot.unset).toArray = ls at hl ⊢
  have hl : lv_has ls 3 [(0, .ref d), (1, .int n), (2, .int k)] := hl
  refine lv_aload_n hx hb d_D_cost_0 rfl (lv_at hl 0 rfl) ?_
  refine lv_iconst (v := 0) hx hb d_D_cost_1 (by decide) ?_
  refine va_put (D := (dC, dI)) (ci := 9) (v := .int 0) (ty := .int) (C := kR_D) (T := kT_D) (N := 42) hx hb hg kin_D kt_D kty_D knm_D hown hK hP hD hS 0 rfl rfl 0 (by decide) (hg _ tw_817) (fun _ h9 => h9) rfl (by decide +kernel) rfl rfl (Nat.le_of_ble_eq_true rfl) d_D_cost_2 (fun H_1 lo_2 hP hD hS => ?_)
  have hP : va_P (dC, dI) kcl [(d, .inr (9, [.int 0, .ref kq, .int 0, .ref hq, .int 0, .int 0, (zd 6), (zd 7), (zd 8), (zd 9), (zd 10), (zd 11), .int 0, (zd 13), (zd 14), (zd 15), (zd 16), (zd 17), (zd 18), (zd 19), .int 0, (zd 21), (zd 22), (zd 23), (zd 24), (zd 25), (zd 26), (zd 27), (zd 28), (zd 29), (zd 30), (zd 31), .int 0, (zd 33), (zd 34), (zd 35), (zd 36), (zd 37), (zd 38), (zd 39), (zd 40), .int 0])), (kq, .inl (cK, 32, .inl fk)), (hq, .inl (cH, 12, .inl fh))] H_1 := hP
  have hD : va_D A [(d, .inr (9, [.int 0, .ref kq, .int 0, .ref hq, .int 0, .int 0, (zd 6), (zd 7), (zd 8), (zd 9), (zd 10), (zd 11), .int 0, (zd 13), (zd 14), (zd 15), (zd 16), (zd 17), (zd 18), (zd 19), .int 0, (zd 21), (zd 22), (zd 23), (zd 24), (zd 25), (zd 26), (zd 27), (zd 28), (zd 29), (zd 30), (zd 31), .int 0, (zd 33), (zd 34), (zd 35), (zd 36), (zd 37), (zd 38), (zd 39), (zd 40), .int 0])), (kq, .inl (cK, 32, .inl fk)), (hq, .inl (cH, 12, .inl fh))] := hD
  refine lv_iload_n hx hb d_D_cost_5 rfl (lv_at hl 1 rfl) ?_
  refine lv_iconst (v := 0) hx hb d_D_cost_6 (by decide) ?_
  refine lv_aload_n hx hb d_D_cost_7 rfl (lv_at hl 0 rfl) ?_
  refine va_get (D := (dC, dI)) (ci := 9) (v := .int 0) (C := kR_D) (T := kT_D) (N := 42) hx hb hg kin_D hown hK hP 0 rfl rfl 12 (by decide) (hg _ tw_829) (fun _ h9 => h9) rfl d_D_cost_8 ?_
  refine lv_iconst (v := 1) hx hb d_D_cost_11 (by decide) ?_
  refine lv_isub hx hb d_D_cost_12 ?_
  have hPc := hP.sub (ws' := []) [] rfl
  have hKc := hK.sub (tys' := []) [] rfl
  refine va_calli (va_runS (As := [.int n, .int 0, .int (0 - 1)]) (rest := []) ⟨hx, hb, hml, hown, hg⟩ (c_D_within l dC dI H_1.size n 0 (0 - 1)) (va_cwS 3 hg (gw_giS cin_D_within tw_952 tw_953 tw_11) rfl rfl rfl (by decide +kernel) ⟨Nat.le_of_ble_eq_true rfl, Nat.le_of_ble_eq_true rfl⟩) ⟨fun a U g mk q => by obtain ⟨q0, q1, qP, qK⟩ := q; exact ⟨q0, q1, qP, va_K.moved (u := U) (U := U.calling g mk a) (Vm.Alike.refl U.vm) qK⟩, fun U hU hW => ⟨rfl, by rw [hU], by rw [hU]; exact hPc, va_K.moved hW.alike hKc⟩⟩ rfl rfl hl.1 rfl (lv_room (Nat.le_of_ble_eq_true rfl)) d_D_cost_13 ⟨Nat.le_of_ble_eq_true rfl, Nat.le_of_ble_eq_true rfl⟩) hS (fun q h1 h => (tx_pA h1 h).elim) (tx_pF hS hA) (fun r_k_3 u_k_3 t_k_3 H_4 l_k_3 ht hvm hw_k_3 hB hz1 hk1 hS => ?_)
  have hw_k_3 : (if 0 ≤ n ∧ n ≤ (0 - 1) then 1 else 0) = r_k_3 := Eq.symm hw_k_3
  subst hw_k_3
  have hP := tx_keep hP hk1
  refine lv_if_eq (tgt := 43) hx hb d_D_cost_16 (by decide) (fun c_5 => ?_) (fun c_5 => ?_)
  · refine lv_aload_n hx hb d_D_cost_43 rfl (lv_at hl 0 rfl) ?_
    refine lv_iconst (v := 1) hx hb d_D_cost_44 (by decide) ?_
    have hPc := hP.sub (ws' := [(d, .inr (9, [.int 0, .ref kq, .int 0, .ref hq, .int 0, .int 0, (zd 6), (zd 7), (zd 8), (zd 9), (zd 10), (zd 11), .int 0, (zd 13), (zd 14), (zd 15), (zd 16), (zd 17), (zd 18), (zd 19), .int 0, (zd 21), (zd 22), (zd 23), (zd 24), (zd 25), (zd 26), (zd 27), (zd 28), (zd 29), (zd 30), (zd 31), .int 0, (zd 33), (zd 34), (zd 35), (zd 36), (zd 37), (zd 38), (zd 39), (zd 40), .int 0]))]) [0] rfl
    have hKc := hK.sub (tys' := []) [] rfl
    have hDc := hD.sub (ws' := [(d, .inr (9, [.int 0, .ref kq, .int 0, .ref hq, .int 0, .int 0, (zd 6), (zd 7), (zd 8), (zd 9), (zd 10), (zd 11), .int 0, (zd 13), (zd 14), (zd 15), (zd 16), (zd 17), (zd 18), (zd 19), .int 0, (zd 21), (zd 22), (zd 23), (zd 24), (zd 25), (zd 26), (zd 27), (zd 28), (zd 29), (zd 30), (zd 31), .int 0, (zd 33), (zd 34), (zd 35), (zd 36), (zd 37), (zd 38), (zd 39), (zd 40), .int 0]))]) [0] (by decide) rfl
    have hFc := va_free (wc := [(d, .inr (9, [.int 0, .ref kq, .int 0, .ref hq, .int 0, .int 0, (zd 6), (zd 7), (zd 8), (zd 9), (zd 10), (zd 11), .int 0, (zd 13), (zd 14), (zd 15), (zd 16), (zd 17), (zd 18), (zd 19), .int 0, (zd 21), (zd 22), (zd 23), (zd 24), (zd 25), (zd 26), (zd 27), (zd 28), (zd 29), (zd 30), (zd 31), .int 0, (zd 33), (zd 34), (zd 35), (zd 36), (zd 37), (zd 38), (zd 39), (zd 40), .int 0]))]) hD hS hA [0] rfl
    refine va_calli (va_runV (As := [.int 1]) (rest := []) ⟨hx, hb, hml, hown, hg⟩ (c_D_fail l dC dI H_4.size d (fun i => if i = 41 then .int 0 else if i = 32 then .int 0 else if i = 20 then .int 0 else if i = 12 then .int 0 else if i = 5 then .int 0 else if i = 4 then .int 0 else if i = 3 then .ref hq else if i = 2 then .int 0 else if i = 1 then .ref kq else zd i) 0 1) (cwV 1 hg (gw_giV cin_D_fail tw_955 tw_957 sw_D_fail tw_11) rfl rfl rfl (by decide +kernel) ⟨Nat.le_of_ble_eq_true rfl, Nat.le_of_ble_eq_true rfl⟩) ⟨fun a U g mk q => by obtain ⟨q0, q1, qP, qK, qD⟩ := q; exact ⟨q0, q1, qP, va_K.moved (u := U) (U := U.calling g mk a) (Vm.Alike.refl U.vm) qK, qD⟩, va_recv hKc hPc (ci := 9) (q0 := 0) rfl rfl, fun U hU hW => ⟨rfl, by rw [hU], by rw [hU]; exact hPc, va_K.moved hW.alike hKc, hDc.weaken (fun _ _ _ _ => trivial)⟩⟩ rfl rfl hl.1 rfl (lv_room (Nat.le_of_ble_eq_true rfl)) d_D_cost_45 ⟨Nat.le_of_ble_eq_true rfl, Nat.le_of_ble_eq_true rfl⟩) hS (fun q _ h => hFc q h) hFc (fun r_k_6 u_k_6 t_k_6 H_7 l_k_6 ht hvm hw_k_6 hB hz1 hk1 hS => ?_)
    obtain ⟨hr_k_6, hu_k_6⟩ := hw_k_6
    subst hr_k_6
    subst hu_k_6
    obtain ⟨zd_k_6, hP1, hK1, hD1⟩ := hB
    rw [ht] at hP1
    have hK1 := va_K.moved hvm.symm hK1
    obtain ⟨hP, hD⟩ := va_join (wr := [(kq, .inl (cK, 32, .inl fk)), (hq, .inl (cH, 12, .inl fh))]) (w1 := [(d, .inr (9, [.int 1, (zd_k_6 1), (zd_k_6 2), (zd_k_6 3), (zd_k_6 4), (zd_k_6 5), (zd_k_6 6), (zd_k_6 7), (zd_k_6 8), (zd_k_6 9), (zd_k_6 10), (zd_k_6 11), (zd_k_6 12), (zd_k_6 13), (zd_k_6 14), (zd_k_6 15), (zd_k_6 16), (zd_k_6 17), (zd_k_6 18), (zd_k_6 19), (zd_k_6 20), (zd_k_6 21), (zd_k_6 22), (zd_k_6 23), (zd_k_6 24), (zd_k_6 25), (zd_k_6 26), (zd_k_6 27), (zd_k_6 28), (zd_k_6 29), (zd_k_6 30), (zd_k_6 31), (zd_k_6 32), (zd_k_6 33), (zd_k_6 34), (zd_k_6 35), (zd_k_6 36), (zd_k_6 37), (zd_k_6 38), (zd_k_6 39), (zd_k_6 40), (zd_k_6 41)]))]) hP hD [0] [1, 2] rfl rfl (by decide) (by decide) hk1 hFc hP1 hD1
    have hK := (hK.sub (tys' := [(cK, .int), (cH, .int)]) [0, 1] rfl).app hK1
    have hP : va_P (dC, dI) kcl [(kq, .inl (cK, 32, .inl fk)), (hq, .inl (cH, 12, .inl fh)), (d, .inr (9, [.int 1, (zd_k_6 1), (zd_k_6 2), (zd_k_6 3), (zd_k_6 4), (zd_k_6 5), (zd_k_6 6), (zd_k_6 7), (zd_k_6 8), (zd_k_6 9), (zd_k_6 10), (zd_k_6 11), (zd_k_6 12), (zd_k_6 13), (zd_k_6 14), (zd_k_6 15), (zd_k_6 16), (zd_k_6 17), (zd_k_6 18), (zd_k_6 19), (zd_k_6 20), (zd_k_6 21), (zd_k_6 22), (zd_k_6 23), (zd_k_6 24), (zd_k_6 25), (zd_k_6 26), (zd_k_6 27), (zd_k_6 28), (zd_k_6 29), (zd_k_6 30), (zd_k_6 31), (zd_k_6 32), (zd_k_6 33), (zd_k_6 34), (zd_k_6 35), (zd_k_6 36), (zd_k_6 37), (zd_k_6 38), (zd_k_6 39), (zd_k_6 40), (zd_k_6 41)]))] H_7 := hP
    have hD : va_D A [(kq, .inl (cK, 32, .inl fk)), (hq, .inl (cH, 12, .inl fh)), (d, .inr (9, [.int 1, (zd_k_6 1), (zd_k_6 2), (zd_k_6 3), (zd_k_6 4), (zd_k_6 5), (zd_k_6 6), (zd_k_6 7), (zd_k_6 8), (zd_k_6 9), (zd_k_6 10), (zd_k_6 11), (zd_k_6 12), (zd_k_6 13), (zd_k_6 14), (zd_k_6 15), (zd_k_6 16), (zd_k_6 17), (zd_k_6 18), (zd_k_6 19), (zd_k_6 20), (zd_k_6 21), (zd_k_6 22), (zd_k_6 23), (zd_k_6 24), (zd_k_6 25), (zd_k_6 26), (zd_k_6 27), (zd_k_6 28), (zd_k_6 29), (zd_k_6 30), (zd_k_6 31), (zd_k_6 32), (zd_k_6 33), (zd_k_6 34), (zd_k_6 35), (zd_k_6 36), (zd_k_6 37), (zd_k_6 38), (zd_k_6 39), (zd_k_6 40), (zd_k_6 41)]))] := hD
    have hK : va_K (dC, dI) kcl [(cK, .int), (cH, .int)] s := hK
    have hP9 := hP.sub (ws' := [(d, .inr (9, [.int 1, (zd_k_6 1), (zd_k_6 2), (zd_k_6 3), (zd_k_6 4), (zd_k_6 5), (zd_k_6 6), (zd_k_6 7), (zd_k_6 8), (zd_k_6 9), (zd_k_6 10), (zd_k_6 11), (zd_k_6 12), (zd_k_6 13), (zd_k_6 14), (zd_k_6 15), (zd_k_6 16), (zd_k_6 17), (zd_k_6 18), (zd_k_6 19), (zd_k_6 20), (zd_k_6 21), (zd_k_6 22), (zd_k_6 23), (zd_k_6 24), (zd_k_6 25), (zd_k_6 26), (zd_k_6 27), (zd_k_6 28), (zd_k_6 29), (zd_k_6 30), (zd_k_6 31), (zd_k_6 32), (zd_k_6 33), (zd_k_6 34), (zd_k_6 35), (zd_k_6 36), (zd_k_6 37), (zd_k_6 38), (zd_k_6 39), (zd_k_6 40), (zd_k_6 41)]))]) [2] rfl
    have hD9 := hD.sub (ws' := [(d, .inr (9, [.int 1, (zd_k_6 1), (zd_k_6 2), (zd_k_6 3), (zd_k_6 4), (zd_k_6 5), (zd_k_6 6), (zd_k_6 7), (zd_k_6 8), (zd_k_6 9), (zd_k_6 10), (zd_k_6 11), (zd_k_6 12), (zd_k_6 13), (zd_k_6 14), (zd_k_6 15), (zd_k_6 16), (zd_k_6 17), (zd_k_6 18), (zd_k_6 19), (zd_k_6 20), (zd_k_6 21), (zd_k_6 22), (zd_k_6 23), (zd_k_6 24), (zd_k_6 25), (zd_k_6 26), (zd_k_6 27), (zd_k_6 28), (zd_k_6 29), (zd_k_6 30), (zd_k_6 31), (zd_k_6 32), (zd_k_6 33), (zd_k_6 34), (zd_k_6 35), (zd_k_6 36), (zd_k_6 37), (zd_k_6 38), (zd_k_6 39), (zd_k_6 40), (zd_k_6 41)]))]) [2] (by decide) rfl
    have hK9 := hK.sub (tys' := []) [] rfl
    exact W.iret (v := 0) hx hb hr (fun t ht hW => ⟨⟨0, 1, rfl, rfl, ⟨(fun i => List.getD [Value.int (1 : Int32), (zd_k_6 1), (zd_k_6 2), (zd_k_6 3), (zd_k_6 4), (zd_k_6 5), (zd_k_6 6), (zd_k_6 7), (zd_k_6 8), (zd_k_6 9), (zd_k_6 10), (zd_k_6 11), (zd_k_6 12), (zd_k_6 13), (zd_k_6 14), (zd_k_6 15), (zd_k_6 16), (zd_k_6 17), (zd_k_6 18), (zd_k_6 19), (zd_k_6 20), (zd_k_6 21), (zd_k_6 22), (zd_k_6 23), (zd_k_6 24), (zd_k_6 25), (zd_k_6 26), (zd_k_6 27), (zd_k_6 28), (zd_k_6 29), (zd_k_6 30), (zd_k_6 31), (zd_k_6 32), (zd_k_6 33), (zd_k_6 34), (zd_k_6 35), (zd_k_6 36), (zd_k_6 37), (zd_k_6 38), (zd_k_6 39), (zd_k_6 40), (zd_k_6 41)] i Value.null), by rw [ht]; exact hP9, va_K.moved hW.alike hK9, hD9⟩⟩, hS.F ht⟩) hS.2.2 d_D_cost_48
  · exact (tx_none2 (tx_if1 c_5)).elim
set_option maxHeartbeats 4000000 in
set_option maxRecDepth 100000 in
theorem c_D_ruleAt (l : Launch) (dC : Nat → ClassId) (dI : Nat → Nat → Nat) (sz : Nat) (d kq hq : Nat) (cK cH : ClassId) (zd : Nat → Value) (fk fh : Nat → Int32) (hfk : ∀ j, j < 32 → fk j = -1) (t0 : Int32) (n k : Int32) : Met l y_D_ruleAt ws_D_ruleAt ({ frames := 1, cells := 0, slots := 0, locals := 22 }) (va_Pc [.ref d, .int n, .int k] (fun U => U.heap.size = sz ∧ va_P (dC, dI) kcl [(d, .inr (9, [.int t0, .ref kq, .int 0, .ref hq, .int 0, .int 0, (zd 6), (zd 7), (zd 8), (zd 9), (zd 10), (zd 11), .int 0, (zd 13), (zd 14), (zd 15), (zd 16), (zd 17), (zd 18), (zd 19), .int 0, (zd 21), (zd 22), (zd 23), (zd 24), (zd 25), (zd 26), (zd 27), (zd 28), (zd 29), (zd 30), (zd 31), .int 0, (zd 33), (zd 34), (zd 35), (zd 36), (zd 37), (zd 38), (zd 39), (zd 40), .int 0])), (kq, .inl (cK, 32, .inl fk)), (hq, .inl (cH, 12, .inl fh))] U.heap ∧ va_K (dC, dI) kcl [(cK, .int), (cH, .int)] U ∧ va_D (fun _ => True) [(d, .inr (9, [.int t0, .ref kq, .int 0, .ref hq, .int 0, .int 0, (zd 6), (zd 7), (zd 8), (zd 9), (zd 10), (zd 11), .int 0, (zd 13), (zd 14), (zd 15), (zd 16), (zd 17), (zd 18), (zd 19), .int 0, (zd 21), (zd 22), (zd 23), (zd 24), (zd 25), (zd 26), (zd 27), (zd 28), (zd 29), (zd 30), (zd 31), .int 0, (zd 33), (zd 34), (zd 35), (zd 36), (zd 37), (zd 38), (zd 39), (zd 40), .int 0])), (kq, .inl (cK, 32, .inl fk)), (hq, .inl (cH, 12, .inl fh))])) (va_Qi (fun (_ th : Int32) => th = 1) (fun (th : Int32) (t : State) => ∃ zd2 : Nat → Value, va_P (dC, dI) kcl [(d, .inr (9, [.int th, (zd2 1), (zd2 2), (zd2 3), (zd2 4), (zd2 5), (zd2 6), (zd2 7), (zd2 8), (zd2 9), (zd2 10), (zd2 11), (zd2 12), (zd2 13), (zd2 14), (zd2 15), (zd2 16), (zd2 17), (zd2 18), (zd2 19), (zd2 20), (zd2 21), (zd2 22), (zd2 23), (zd2 24), (zd2 25), (zd2 26), (zd2 27), (zd2 28), (zd2 29), (zd2 30), (zd2 31), (zd2 32), (zd2 33), (zd2 34), (zd2 35), (zd2 36), (zd2 37), (zd2 38), (zd2 39), (zd2 40), (zd2 41)]))] t.heap ∧ va_K (dC, dI) kcl [] t ∧ va_D (va_A [(d, .inr (9, [.int t0, .ref kq, .int 0, .ref hq, .int 0, .int 0, (zd 6), (zd 7), (zd 8), (zd 9), (zd 10), (zd 11), .int 0, (zd 13), (zd 14), (zd 15), (zd 16), (zd 17), (zd 18), (zd 19), .int 0, (zd 21), (zd 22), (zd 23), (zd 24), (zd 25), (zd 26), (zd 27), (zd 28), (zd 29), (zd 30), (zd 31), .int 0, (zd 33), (zd 34), (zd 35), (zd 36), (zd 37), (zd 38), (zd 39), (zd 40), .int 0])), (kq, .inl (cK, 32, .inl fk)), (hq, .inl (cH, 12, .inl fh))] sz) [(d, .inr (9, [.int th, (zd2 1), (zd2 2), (zd2 3), (zd2 4), (zd2 5), (zd2 6), (zd2 7), (zd2 8), (zd2 9), (zd2 10), (zd2 11), (zd2 12), (zd2 13), (zd2 14), (zd2 15), (zd2 16), (zd2 17), (zd2 18), (zd2 19), (zd2 20), (zd2 21), (zd2 22), (zd2 23), (zd2 24), (zd2 25), (zd2 26), (zd2 27), (zd2 28), (zd2 29), (zd2 30), (zd2 31), (zd2 32), (zd2 33), (zd2 34), (zd2 35), (zd2 36), (zd2 37), (zd2 38), (zd2 39), (zd2 40), (zd2 41)]))]) (va_A [(d, .inr (9, [.int t0, .ref kq, .int 0, .ref hq, .int 0, .int 0, (zd 6), (zd 7), (zd 8), (zd 9), (zd 10), (zd 11), .int 0, (zd 13), (zd 14), (zd 15), (zd 16), (zd 17), (zd 18), (zd 19), .int 0, (zd 21), (zd 22), (zd 23), (zd 24), (zd 25), (zd 26), (zd 27), (zd 28), (zd 29), (zd 30), (zd 31), .int 0, (zd 33), (zd 34), (zd 35), (zd 36), (zd 37), (zd 38), (zd 39), (zd 40), .int 0])), (kq, .inl (cK, 32, .inl fk)), (hq, .inl (cH, 12, .inl fh))] sz)) 0 0 (va_A [(d, .inr (9, [.int t0, .ref kq, .int 0, .ref hq, .int 0, .int 0, (zd 6), (zd 7), (zd 8), (zd 9), (zd 10), (zd 11), .int 0, (zd 13), (zd 14), (zd 15), (zd 16), (zd 17), (zd 18), (zd 19), .int 0, (zd 21), (zd 22), (zd 23), (zd 24), (zd 25), (zd 26), (zd 27), (zd 28), (zd 29), (zd 30), (zd 31), .int 0, (zd 33), (zd 34), (zd 35), (zd 36), (zd 37), (zd 38), (zd 39), (zd 40), .int 0])), (kq, .inl (cK, 32, .inl fk)), (hq, .inl (cH, 12, .inl fh))] sz) := by
  refine Met.ofW (cc := b_D_ruleAt) (maxL := 3) (ret := (Option.some Jvm.ClassFile.FieldType.int)) (by decide) rfl ?_
  intro p e s m args below meth c s₁ B hml hv
  obtain ⟨rfl, hsz, hP, hK, hD0⟩ := hv
  have hx := B.exec
  have hb := B.bytes
  have hr := B.returns
  have hlocks := B.notSynchronized
  have hg : ∀ w ∈ gw, w.before _ s = true := fun w h => atoms_spec (ws := ws_D_ruleAt) B.pre w (List.mem_cons_of_mem _ h)
  have hown : s.vm.findClass "TreeMatcherModel" = some m.cls := findClass_of_methodNamed B.named
  subst hsz
  have hD := hD0.self (sz := s.heap.size)
  have hA : ∀ q : Nat, s.heap.size ≤ q → va_A [(d, .inr (9, [.int t0, .ref kq, .int 0, .ref hq, .int 0, .int 0, (zd 6), (zd 7), (zd 8), (zd 9), (zd 10), (zd 11), .int 0, (zd 13), (zd 14), (zd 15), (zd 16), (zd 17), (zd 18), (zd 19), .int 0, (zd 21), (zd 22), (zd 23), (zd 24), (zd 25), (zd 26), (zd 27), (zd 28), (zd 29), (zd 30), (zd 31), .int 0, (zd 33), (zd 34), (zd 35), (zd 36), (zd 37), (zd 38), (zd 39), (zd 40), .int 0])), (kq, .inl (cK, 32, .inl fk)), (hq, .inl (cH, 12, .inl fh))] s.heap.size q := fun q h => Or.inr h
  generalize hAe : va_A [(d, .inr (9, [.int t0, .ref kq, .int 0, .ref hq, .int 0, .int 0, (zd 6), (zd 7), (zd 8), (zd 9), (zd 10), (zd 11), .int 0, (zd 13), (zd 14), (zd 15), (zd 16), (zd 17), (zd 18), (zd 19), .int 0, (zd 21), (zd 22), (zd 23), (zd 24), (zd 25), (zd 26), (zd 27), (zd 28), (zd 29), (zd 30), (zd 31), .int 0, (zd 33), (zd 34), (zd 35), (zd 36), (zd 37), (zd 38), (zd 39), (zd 40), .int 0])), (kq, .inl (cK, 32, .inl fk)), (hq, .inl (cH, 12, .inl fh))] s.heap.size = A at hD hA ⊢
  have hS : va_S A s.heap s.heap [] := va_S.rf
  have hl := lv_entry ([.ref d, .int n, .int k] : List Value) (n := 3) (Nat.le_of_ble_eq_true rfl)
  rw [lg_entry_eq]
  generalize (lg_sl ([.ref d, .int n, .int k] : List Value) ++ List.replicate (3 - (lg_sl ([.ref d, .int n, .int k] : List Value)).length) Slot.unset).toArray = ls at hl ⊢
  have hl : lv_has ls 3 [(0, .ref d), (1, .int n), (2, .int k)] := hl
  refine lv_aload_n hx hb d_D_ruleAt_0 rfl (lv_at hl 0 rfl) ?_
  refine lv_iconst (v := 0) hx hb d_D_ruleAt_1 (by decide) ?_
  refine va_put (D := (dC, dI)) (ci := 9) (v := .int 0) (ty := .int) (C := kR_D) (T := kT_D) (N := 42) hx hb hg kin_D kt_D kty_D knm_D hown hK hP hD hS 0 rfl rfl 0 (by decide) (hg _ tw_817) (fun _ h9 => h9) rfl (by decide +kernel) rfl rfl (Nat.le_of_ble_eq_true rfl) d_D_ruleAt_2 (fun H_1 lo_2 hP hD hS => ?_)
  have hP : va_P (dC, dI) kcl [(d, .inr (9, [.int 0, .ref kq, .int 0, .ref hq, .int 0, .int 0, (zd 6), (zd 7), (zd 8), (zd 9), (zd 10), (zd 11), .int 0, (zd 13), (zd 14), (zd 15), (zd 16), (zd 17), (zd 18), (zd 19), .int 0, (zd 21), (zd 22), (zd 23), (zd 24), (zd 25), (zd 26), (zd 27), (zd 28), (zd 29), (zd 30), (zd 31), .int 0, (zd 33), (zd 34), (zd 35), (zd 36), (zd 37), (zd 38), (zd 39), (zd 40), .int 0])), (kq, .inl (cK, 32, .inl fk)), (hq, .inl (cH, 12, .inl fh))] H_1 := hP
  have hD : va_D A [(d, .inr (9, [.int 0, .ref kq, .int 0, .ref hq, .int 0, .int 0, (zd 6), (zd 7), (zd 8), (zd 9), (zd 10), (zd 11), .int 0, (zd 13), (zd 14), (zd 15), (zd 16), (zd 17), (zd 18), (zd 19), .int 0, (zd 21), (zd 22), (zd 23), (zd 24), (zd 25), (zd 26), (zd 27), (zd 28), (zd 29), (zd 30), (zd 31), .int 0, (zd 33), (zd 34), (zd 35), (zd 36), (zd 37), (zd 38), (zd 39), (zd 40), .int 0])), (kq, .inl (cK, 32, .inl fk)), (hq, .inl (cH, 12, .inl fh))] := hD
  refine lv_iload_n hx hb d_D_ruleAt_5 rfl (lv_at hl 1 rfl) ?_
  refine lv_iconst (v := 0) hx hb d_D_ruleAt_6 (by decide) ?_
  refine lv_aload_n hx hb d_D_ruleAt_7 rfl (lv_at hl 0 rfl) ?_
  refine va_get (D := (dC, dI)) (ci := 9) (v := .int 0) (C := kR_D) (T := kT_D) (N := 42) hx hb hg kin_D hown hK hP 0 rfl rfl 12 (by decide) (hg _ tw_829) (fun _ h9 => h9) rfl d_D_ruleAt_8 ?_
  refine lv_iconst (v := 1) hx hb d_D_ruleAt_11 (by decide) ?_
  refine lv_isub hx hb d_D_ruleAt_12 ?_
  have hPc := hP.sub (ws' := []) [] rfl
  have hKc := hK.sub (tys' := []) [] rfl
  refine va_calli (va_runS (As := [.int n, .int 0, .int (0 - 1)]) (rest := []) ⟨hx, hb, hml, hown, hg⟩ (c_D_within l dC dI H_1.size n 0 (0 - 1)) (va_cwS 3 hg (gw_giS cin_D_within tw_952 tw_953 tw_11) rfl rfl rfl (by decide +kernel) ⟨Nat.le_of_ble_eq_true rfl, Nat.le_of_ble_eq_true rfl⟩) ⟨fun a U g mk q => by obtain ⟨q0, q1, qP, qK⟩ := q; exact ⟨q0, q1, qP, va_K.moved (u := U) (U := U.calling g mk a) (Vm.Alike.refl U.vm) qK⟩, fun U hU hW => ⟨rfl, by rw [hU], by rw [hU]; exact hPc, va_K.moved hW.alike hKc⟩⟩ rfl rfl hl.1 rfl (lv_room (Nat.le_of_ble_eq_true rfl)) d_D_ruleAt_13 ⟨Nat.le_of_ble_eq_true rfl, Nat.le_of_ble_eq_true rfl⟩) hS (fun q h1 h => (tx_pA h1 h).elim) (tx_pF hS hA) (fun r_k_3 u_k_3 t_k_3 H_4 l_k_3 ht hvm hw_k_3 hB hz1 hk1 hS => ?_)
  have hw_k_3 : (if 0 ≤ n ∧ n ≤ (0 - 1) then 1 else 0) = r_k_3 := Eq.symm hw_k_3
  subst hw_k_3
  have hP := tx_keep hP hk1
  refine lv_if_eq (tgt := 43) hx hb d_D_ruleAt_16 (by decide) (fun c_5 => ?_) (fun c_5 => ?_)
  · refine lv_aload_n hx hb d_D_ruleAt_43 rfl (lv_at hl 0 rfl) ?_
    refine lv_iconst (v := 1) hx hb d_D_ruleAt_44 (by decide) ?_
    have hPc := hP.sub (ws' := [(d, .inr (9, [.int 0, .ref kq, .int 0, .ref hq, .int 0, .int 0, (zd 6), (zd 7), (zd 8), (zd 9), (zd 10), (zd 11), .int 0, (zd 13), (zd 14), (zd 15), (zd 16), (zd 17), (zd 18), (zd 19), .int 0, (zd 21), (zd 22), (zd 23), (zd 24), (zd 25), (zd 26), (zd 27), (zd 28), (zd 29), (zd 30), (zd 31), .int 0, (zd 33), (zd 34), (zd 35), (zd 36), (zd 37), (zd 38), (zd 39), (zd 40), .int 0]))]) [0] rfl
    have hKc := hK.sub (tys' := []) [] rfl
    have hDc := hD.sub (ws' := [(d, .inr (9, [.int 0, .ref kq, .int 0, .ref hq, .int 0, .int 0, (zd 6), (zd 7), (zd 8), (zd 9), (zd 10), (zd 11), .int 0, (zd 13), (zd 14), (zd 15), (zd 16), (zd 17), (zd 18), (zd 19), .int 0, (zd 21), (zd 22), (zd 23), (zd 24), (zd 25), (zd 26), (zd 27), (zd 28), (zd 29), (zd 30), (zd 31), .int 0, (zd 33), (zd 34), (zd 35), (zd 36), (zd 37), (zd 38), (zd 39), (zd 40), .int 0]))]) [0] (by decide) rfl
    have hFc := va_free (wc := [(d, .inr (9, [.int 0, .ref kq, .int 0, .ref hq, .int 0, .int 0, (zd 6), (zd 7), (zd 8), (zd 9), (zd 10), (zd 11), .int 0, (zd 13), (zd 14), (zd 15), (zd 16), (zd 17), (zd 18), (zd 19), .int 0, (zd 21), (zd 22), (zd 23), (zd 24), (zd 25), (zd 26), (zd 27), (zd 28), (zd 29), (zd 30), (zd 31), .int 0, (zd 33), (zd 34), (zd 35), (zd 36), (zd 37), (zd 38), (zd 39), (zd 40), .int 0]))]) hD hS hA [0] rfl
    refine va_calli (va_runV (As := [.int 1]) (rest := []) ⟨hx, hb, hml, hown, hg⟩ (c_D_fail l dC dI H_4.size d (fun i => if i = 41 then .int 0 else if i = 32 then .int 0 else if i = 20 then .int 0 else if i = 12 then .int 0 else if i = 5 then .int 0 else if i = 4 then .int 0 else if i = 3 then .ref hq else if i = 2 then .int 0 else if i = 1 then .ref kq else zd i) 0 1) (cwV 1 hg (gw_giV cin_D_fail tw_955 tw_957 sw_D_fail tw_11) rfl rfl rfl (by decide +kernel) ⟨Nat.le_of_ble_eq_true rfl, Nat.le_of_ble_eq_true rfl⟩) ⟨fun a U g mk q => by obtain ⟨q0, q1, qP, qK, qD⟩ := q; exact ⟨q0, q1, qP, va_K.moved (u := U) (U := U.calling g mk a) (Vm.Alike.refl U.vm) qK, qD⟩, va_recv hKc hPc (ci := 9) (q0 := 0) rfl rfl, fun U hU hW => ⟨rfl, by rw [hU], by rw [hU]; exact hPc, va_K.moved hW.alike hKc, hDc.weaken (fun _ _ _ _ => trivial)⟩⟩ rfl rfl hl.1 rfl (lv_room (Nat.le_of_ble_eq_true rfl)) d_D_ruleAt_45 ⟨Nat.le_of_ble_eq_true rfl, Nat.le_of_ble_eq_true rfl⟩) hS (fun q _ h => hFc q h) hFc (fun r_k_6 u_k_6 t_k_6 H_7 l_k_6 ht hvm hw_k_6 hB hz1 hk1 hS => ?_)
    obtain ⟨hr_k_6, hu_k_6⟩ := hw_k_6
    subst hr_k_6
    subst hu_k_6
    obtain ⟨zd_k_6, hP1, hK1, hD1⟩ := hB
    rw [ht] at hP1
    have hK1 := va_K.moved hvm.symm hK1
    obtain ⟨hP, hD⟩ := va_join (wr := [(kq, .inl (cK, 32, .inl fk)), (hq, .inl (cH, 12, .inl fh))]) (w1 := [(d, .inr (9, [.int 1, (zd_k_6 1), (zd_k_6 2), (zd_k_6 3), (zd_k_6 4), (zd_k_6 5), (zd_k_6 6), (zd_k_6 7), (zd_k_6 8), (zd_k_6 9), (zd_k_6 10), (zd_k_6 11), (zd_k_6 12), (zd_k_6 13), (zd_k_6 14), (zd_k_6 15), (zd_k_6 16), (zd_k_6 17), (zd_k_6 18), (zd_k_6 19), (zd_k_6 20), (zd_k_6 21), (zd_k_6 22), (zd_k_6 23), (zd_k_6 24), (zd_k_6 25), (zd_k_6 26), (zd_k_6 27), (zd_k_6 28), (zd_k_6 29), (zd_k_6 30), (zd_k_6 31), (zd_k_6 32), (zd_k_6 33), (zd_k_6 34), (zd_k_6 35), (zd_k_6 36), (zd_k_6 37), (zd_k_6 38), (zd_k_6 39), (zd_k_6 40), (zd_k_6 41)]))]) hP hD [0] [1, 2] rfl rfl (by decide) (by decide) hk1 hFc hP1 hD1
    have hK := (hK.sub (tys' := [(cK, .int), (cH, .int)]) [0, 1] rfl).app hK1
    have hP : va_P (dC, dI) kcl [(kq, .inl (cK, 32, .inl fk)), (hq, .inl (cH, 12, .inl fh)), (d, .inr (9, [.int 1, (zd_k_6 1), (zd_k_6 2), (zd_k_6 3), (zd_k_6 4), (zd_k_6 5), (zd_k_6 6), (zd_k_6 7), (zd_k_6 8), (zd_k_6 9), (zd_k_6 10), (zd_k_6 11), (zd_k_6 12), (zd_k_6 13), (zd_k_6 14), (zd_k_6 15), (zd_k_6 16), (zd_k_6 17), (zd_k_6 18), (zd_k_6 19), (zd_k_6 20), (zd_k_6 21), (zd_k_6 22), (zd_k_6 23), (zd_k_6 24), (zd_k_6 25), (zd_k_6 26), (zd_k_6 27), (zd_k_6 28), (zd_k_6 29), (zd_k_6 30), (zd_k_6 31), (zd_k_6 32), (zd_k_6 33), (zd_k_6 34), (zd_k_6 35), (zd_k_6 36), (zd_k_6 37), (zd_k_6 38), (zd_k_6 39), (zd_k_6 40), (zd_k_6 41)]))] H_7 := hP
    have hD : va_D A [(kq, .inl (cK, 32, .inl fk)), (hq, .inl (cH, 12, .inl fh)), (d, .inr (9, [.int 1, (zd_k_6 1), (zd_k_6 2), (zd_k_6 3), (zd_k_6 4), (zd_k_6 5), (zd_k_6 6), (zd_k_6 7), (zd_k_6 8), (zd_k_6 9), (zd_k_6 10), (zd_k_6 11), (zd_k_6 12), (zd_k_6 13), (zd_k_6 14), (zd_k_6 15), (zd_k_6 16), (zd_k_6 17), (zd_k_6 18), (zd_k_6 19), (zd_k_6 20), (zd_k_6 21), (zd_k_6 22), (zd_k_6 23), (zd_k_6 24), (zd_k_6 25), (zd_k_6 26), (zd_k_6 27), (zd_k_6 28), (zd_k_6 29), (zd_k_6 30), (zd_k_6 31), (zd_k_6 32), (zd_k_6 33), (zd_k_6 34), (zd_k_6 35), (zd_k_6 36), (zd_k_6 37), (zd_k_6 38), (zd_k_6 39), (zd_k_6 40), (zd_k_6 41)]))] := hD
    have hK : va_K (dC, dI) kcl [(cK, .int), (cH, .int)] s := hK
    have hP9 := hP.sub (ws' := [(d, .inr (9, [.int 1, (zd_k_6 1), (zd_k_6 2), (zd_k_6 3), (zd_k_6 4), (zd_k_6 5), (zd_k_6 6), (zd_k_6 7), (zd_k_6 8), (zd_k_6 9), (zd_k_6 10), (zd_k_6 11), (zd_k_6 12), (zd_k_6 13), (zd_k_6 14), (zd_k_6 15), (zd_k_6 16), (zd_k_6 17), (zd_k_6 18), (zd_k_6 19), (zd_k_6 20), (zd_k_6 21), (zd_k_6 22), (zd_k_6 23), (zd_k_6 24), (zd_k_6 25), (zd_k_6 26), (zd_k_6 27), (zd_k_6 28), (zd_k_6 29), (zd_k_6 30), (zd_k_6 31), (zd_k_6 32), (zd_k_6 33), (zd_k_6 34), (zd_k_6 35), (zd_k_6 36), (zd_k_6 37), (zd_k_6 38), (zd_k_6 39), (zd_k_6 40), (zd_k_6 41)]))]) [2] rfl
    have hD9 := hD.sub (ws' := [(d, .inr (9, [.int 1, (zd_k_6 1), (zd_k_6 2), (zd_k_6 3), (zd_k_6 4), (zd_k_6 5), (zd_k_6 6), (zd_k_6 7), (zd_k_6 8), (zd_k_6 9), (zd_k_6 10), (zd_k_6 11), (zd_k_6 12), (zd_k_6 13), (zd_k_6 14), (zd_k_6 15), (zd_k_6 16), (zd_k_6 17), (zd_k_6 18), (zd_k_6 19), (zd_k_6 20), (zd_k_6 21), (zd_k_6 22), (zd_k_6 23), (zd_k_6 24), (zd_k_6 25), (zd_k_6 26), (zd_k_6 27), (zd_k_6 28), (zd_k_6 29), (zd_k_6 30), (zd_k_6 31), (zd_k_6 32), (zd_k_6 33), (zd_k_6 34), (zd_k_6 35), (zd_k_6 36), (zd_k_6 37), (zd_k_6 38), (zd_k_6 39), (zd_k_6 40), (zd_k_6 41)]))]) [2] (by decide) rfl
    have hK9 := hK.sub (tys' := []) [] rfl
    exact W.iret (v := 0) hx hb hr (fun t ht hW => ⟨⟨0, 1, rfl, rfl, ⟨(fun i => List.getD [Value.int (1 : Int32), (zd_k_6 1), (zd_k_6 2), (zd_k_6 3), (zd_k_6 4), (zd_k_6 5), (zd_k_6 6), (zd_k_6 7), (zd_k_6 8), (zd_k_6 9), (zd_k_6 10), (zd_k_6 11), (zd_k_6 12), (zd_k_6 13), (zd_k_6 14), (zd_k_6 15), (zd_k_6 16), (zd_k_6 17), (zd_k_6 18), (zd_k_6 19), (zd_k_6 20), (zd_k_6 21), (zd_k_6 22), (zd_k_6 23), (zd_k_6 24), (zd_k_6 25), (zd_k_6 26), (zd_k_6 27), (zd_k_6 28), (zd_k_6 29), (zd_k_6 30), (zd_k_6 31), (zd_k_6 32), (zd_k_6 33), (zd_k_6 34), (zd_k_6 35), (zd_k_6 36), (zd_k_6 37), (zd_k_6 38), (zd_k_6 39), (zd_k_6 40), (zd_k_6 41)] i Value.null), by rw [ht]; exact hP9, va_K.moved hW.alike hK9, hD9⟩⟩, hS.F ht⟩) hS.2.2 d_D_ruleAt_48
  · exact (tx_none2 (tx_if1 c_5)).elim
set_option maxHeartbeats 4000000 in
set_option maxRecDepth 100000 in
theorem c_D_cover (l : Launch) (dC : Nat → ClassId) (dI : Nat → Nat → Nat) (sz : Nat) (d kq hq : Nat) (cK cH : ClassId) (zd : Nat → Value) (fk fh : Nat → Int32) (hfk : ∀ j, j < 32 → fk j = -1) (t0 : Int32) (n k : Int32) : Met l y_D_cover ws_D_cover ({ frames := 1, cells := 0, slots := 0, locals := 22 }) (va_Pc [.ref d, .int n, .int k] (fun U => U.heap.size = sz ∧ va_P (dC, dI) kcl [(d, .inr (9, [.int t0, .ref kq, .int 0, .ref hq, .int 0, .int 0, (zd 6), (zd 7), (zd 8), (zd 9), (zd 10), (zd 11), .int 0, (zd 13), (zd 14), (zd 15), (zd 16), (zd 17), (zd 18), (zd 19), .int 0, (zd 21), (zd 22), (zd 23), (zd 24), (zd 25), (zd 26), (zd 27), (zd 28), (zd 29), (zd 30), (zd 31), .int 0, (zd 33), (zd 34), (zd 35), (zd 36), (zd 37), (zd 38), (zd 39), (zd 40), .int 0])), (kq, .inl (cK, 32, .inl fk)), (hq, .inl (cH, 12, .inl fh))] U.heap ∧ va_K (dC, dI) kcl [(cK, .int), (cH, .int)] U ∧ va_D (fun _ => True) [(d, .inr (9, [.int t0, .ref kq, .int 0, .ref hq, .int 0, .int 0, (zd 6), (zd 7), (zd 8), (zd 9), (zd 10), (zd 11), .int 0, (zd 13), (zd 14), (zd 15), (zd 16), (zd 17), (zd 18), (zd 19), .int 0, (zd 21), (zd 22), (zd 23), (zd 24), (zd 25), (zd 26), (zd 27), (zd 28), (zd 29), (zd 30), (zd 31), .int 0, (zd 33), (zd 34), (zd 35), (zd 36), (zd 37), (zd 38), (zd 39), (zd 40), .int 0])), (kq, .inl (cK, 32, .inl fk)), (hq, .inl (cH, 12, .inl fh))])) (va_Qi (fun (_ th : Int32) => th = 1) (fun (th : Int32) (t : State) => ∃ zd2 : Nat → Value, va_P (dC, dI) kcl [(d, .inr (9, [.int th, (zd2 1), (zd2 2), (zd2 3), (zd2 4), (zd2 5), (zd2 6), (zd2 7), (zd2 8), (zd2 9), (zd2 10), (zd2 11), (zd2 12), (zd2 13), (zd2 14), (zd2 15), (zd2 16), (zd2 17), (zd2 18), (zd2 19), (zd2 20), (zd2 21), (zd2 22), (zd2 23), (zd2 24), (zd2 25), (zd2 26), (zd2 27), (zd2 28), (zd2 29), (zd2 30), (zd2 31), (zd2 32), (zd2 33), (zd2 34), (zd2 35), (zd2 36), (zd2 37), (zd2 38), (zd2 39), (zd2 40), (zd2 41)]))] t.heap ∧ va_K (dC, dI) kcl [] t ∧ va_D (va_A [(d, .inr (9, [.int t0, .ref kq, .int 0, .ref hq, .int 0, .int 0, (zd 6), (zd 7), (zd 8), (zd 9), (zd 10), (zd 11), .int 0, (zd 13), (zd 14), (zd 15), (zd 16), (zd 17), (zd 18), (zd 19), .int 0, (zd 21), (zd 22), (zd 23), (zd 24), (zd 25), (zd 26), (zd 27), (zd 28), (zd 29), (zd 30), (zd 31), .int 0, (zd 33), (zd 34), (zd 35), (zd 36), (zd 37), (zd 38), (zd 39), (zd 40), .int 0])), (kq, .inl (cK, 32, .inl fk)), (hq, .inl (cH, 12, .inl fh))] sz) [(d, .inr (9, [.int th, (zd2 1), (zd2 2), (zd2 3), (zd2 4), (zd2 5), (zd2 6), (zd2 7), (zd2 8), (zd2 9), (zd2 10), (zd2 11), (zd2 12), (zd2 13), (zd2 14), (zd2 15), (zd2 16), (zd2 17), (zd2 18), (zd2 19), (zd2 20), (zd2 21), (zd2 22), (zd2 23), (zd2 24), (zd2 25), (zd2 26), (zd2 27), (zd2 28), (zd2 29), (zd2 30), (zd2 31), (zd2 32), (zd2 33), (zd2 34), (zd2 35), (zd2 36), (zd2 37), (zd2 38), (zd2 39), (zd2 40), (zd2 41)]))]) (va_A [(d, .inr (9, [.int t0, .ref kq, .int 0, .ref hq, .int 0, .int 0, (zd 6), (zd 7), (zd 8), (zd 9), (zd 10), (zd 11), .int 0, (zd 13), (zd 14), (zd 15), (zd 16), (zd 17), (zd 18), (zd 19), .int 0, (zd 21), (zd 22), (zd 23), (zd 24), (zd 25), (zd 26), (zd 27), (zd 28), (zd 29), (zd 30), (zd 31), .int 0, (zd 33), (zd 34), (zd 35), (zd 36), (zd 37), (zd 38), (zd 39), (zd 40), .int 0])), (kq, .inl (cK, 32, .inl fk)), (hq, .inl (cH, 12, .inl fh))] sz)) 0 0 (va_A [(d, .inr (9, [.int t0, .ref kq, .int 0, .ref hq, .int 0, .int 0, (zd 6), (zd 7), (zd 8), (zd 9), (zd 10), (zd 11), .int 0, (zd 13), (zd 14), (zd 15), (zd 16), (zd 17), (zd 18), (zd 19), .int 0, (zd 21), (zd 22), (zd 23), (zd 24), (zd 25), (zd 26), (zd 27), (zd 28), (zd 29), (zd 30), (zd 31), .int 0, (zd 33), (zd 34), (zd 35), (zd 36), (zd 37), (zd 38), (zd 39), (zd 40), .int 0])), (kq, .inl (cK, 32, .inl fk)), (hq, .inl (cH, 12, .inl fh))] sz) := by
  refine Met.ofW (cc := b_D_cover) (maxL := 10) (ret := (Option.some Jvm.ClassFile.FieldType.int)) (by decide) rfl ?_
  intro p e s m args below meth c s₁ B hml hv
  obtain ⟨rfl, hsz, hP, hK, hD0⟩ := hv
  have hx := B.exec
  have hb := B.bytes
  have hr := B.returns
  have hlocks := B.notSynchronized
  have hg : ∀ w ∈ gw, w.before _ s = true := fun w h => atoms_spec (ws := ws_D_cover) B.pre w (List.mem_cons_of_mem _ h)
  have hown : s.vm.findClass "TreeMatcherModel" = some m.cls := findClass_of_methodNamed B.named
  subst hsz
  have hD := hD0.self (sz := s.heap.size)
  have hA : ∀ q : Nat, s.heap.size ≤ q → va_A [(d, .inr (9, [.int t0, .ref kq, .int 0, .ref hq, .int 0, .int 0, (zd 6), (zd 7), (zd 8), (zd 9), (zd 10), (zd 11), .int 0, (zd 13), (zd 14), (zd 15), (zd 16), (zd 17), (zd 18), (zd 19), .int 0, (zd 21), (zd 22), (zd 23), (zd 24), (zd 25), (zd 26), (zd 27), (zd 28), (zd 29), (zd 30), (zd 31), .int 0, (zd 33), (zd 34), (zd 35), (zd 36), (zd 37), (zd 38), (zd 39), (zd 40), .int 0])), (kq, .inl (cK, 32, .inl fk)), (hq, .inl (cH, 12, .inl fh))] s.heap.size q := fun q h => Or.inr h
  generalize hAe : va_A [(d, .inr (9, [.int t0, .ref kq, .int 0, .ref hq, .int 0, .int 0, (zd 6), (zd 7), (zd 8), (zd 9), (zd 10), (zd 11), .int 0, (zd 13), (zd 14), (zd 15), (zd 16), (zd 17), (zd 18), (zd 19), .int 0, (zd 21), (zd 22), (zd 23), (zd 24), (zd 25), (zd 26), (zd 27), (zd 28), (zd 29), (zd 30), (zd 31), .int 0, (zd 33), (zd 34), (zd 35), (zd 36), (zd 37), (zd 38), (zd 39), (zd 40), .int 0])), (kq, .inl (cK, 32, .inl fk)), (hq, .inl (cH, 12, .inl fh))] s.heap.size = A at hD hA ⊢
  have hS : va_S A s.heap s.heap [] := va_S.rf
  have hl := lv_entry ([.ref d, .int n, .int k] : List Value) (n := 10) (Nat.le_of_ble_eq_true rfl)
  rw [lg_entry_eq]
  generalize (lg_sl ([.ref d, .int n, .int k] : List Value) ++ List.replicate (10 - (lg_sl ([.ref d, .int n, .int k] : List Value)).length) Slot.unset).toArray = ls at hl ⊢
  have hl : lv_has ls 10 [(0, .ref d), (1, .int n), (2, .int k)] := hl
  refine lv_aload_n hx hb d_D_cover_0 rfl (lv_at hl 0 rfl) ?_
  refine lv_iconst (v := 0) hx hb d_D_cover_1 (by decide) ?_
  refine va_put (D := (dC, dI)) (ci := 9) (v := .int 0) (ty := .int) (C := kR_D) (T := kT_D) (N := 42) hx hb hg kin_D kt_D kty_D knm_D hown hK hP hD hS 0 rfl rfl 0 (by decide) (hg _ tw_817) (fun _ h9 => h9) rfl (by decide +kernel) rfl rfl (Nat.le_of_ble_eq_true rfl) d_D_cover_2 (fun H_1 lo_2 hP hD hS => ?_)
  have hP : va_P (dC, dI) kcl [(d, .inr (9, [.int 0, .ref kq, .int 0, .ref hq, .int 0, .int 0, (zd 6), (zd 7), (zd 8), (zd 9), (zd 10), (zd 11), .int 0, (zd 13), (zd 14), (zd 15), (zd 16), (zd 17), (zd 18), (zd 19), .int 0, (zd 21), (zd 22), (zd 23), (zd 24), (zd 25), (zd 26), (zd 27), (zd 28), (zd 29), (zd 30), (zd 31), .int 0, (zd 33), (zd 34), (zd 35), (zd 36), (zd 37), (zd 38), (zd 39), (zd 40), .int 0])), (kq, .inl (cK, 32, .inl fk)), (hq, .inl (cH, 12, .inl fh))] H_1 := hP
  have hD : va_D A [(d, .inr (9, [.int 0, .ref kq, .int 0, .ref hq, .int 0, .int 0, (zd 6), (zd 7), (zd 8), (zd 9), (zd 10), (zd 11), .int 0, (zd 13), (zd 14), (zd 15), (zd 16), (zd 17), (zd 18), (zd 19), .int 0, (zd 21), (zd 22), (zd 23), (zd 24), (zd 25), (zd 26), (zd 27), (zd 28), (zd 29), (zd 30), (zd 31), .int 0, (zd 33), (zd 34), (zd 35), (zd 36), (zd 37), (zd 38), (zd 39), (zd 40), .int 0])), (kq, .inl (cK, 32, .inl fk)), (hq, .inl (cH, 12, .inl fh))] := hD
  refine lv_iload_n hx hb d_D_cover_5 rfl (lv_at hl 1 rfl) ?_
  refine lv_iconst (v := 0) hx hb d_D_cover_6 (by decide) ?_
  refine lv_aload_n hx hb d_D_cover_7 rfl (lv_at hl 0 rfl) ?_
  refine va_get (D := (dC, dI)) (ci := 9) (v := .int 0) (C := kR_D) (T := kT_D) (N := 42) hx hb hg kin_D hown hK hP 0 rfl rfl 12 (by decide) (hg _ tw_829) (fun _ h9 => h9) rfl d_D_cover_8 ?_
  refine lv_iconst (v := 1) hx hb d_D_cover_11 (by decide) ?_
  refine lv_isub hx hb d_D_cover_12 ?_
  have hPc := hP.sub (ws' := []) [] rfl
  have hKc := hK.sub (tys' := []) [] rfl
  refine va_calli (va_runS (As := [.int n, .int 0, .int (0 - 1)]) (rest := []) ⟨hx, hb, hml, hown, hg⟩ (c_D_within l dC dI H_1.size n 0 (0 - 1)) (va_cwS 3 hg (gw_giS cin_D_within tw_952 tw_953 tw_11) rfl rfl rfl (by decide +kernel) ⟨Nat.le_of_ble_eq_true rfl, Nat.le_of_ble_eq_true rfl⟩) ⟨fun a U g mk q => by obtain ⟨q0, q1, qP, qK⟩ := q; exact ⟨q0, q1, qP, va_K.moved (u := U) (U := U.calling g mk a) (Vm.Alike.refl U.vm) qK⟩, fun U hU hW => ⟨rfl, by rw [hU], by rw [hU]; exact hPc, va_K.moved hW.alike hKc⟩⟩ rfl rfl hl.1 rfl (lv_room (Nat.le_of_ble_eq_true rfl)) d_D_cover_13 ⟨Nat.le_of_ble_eq_true rfl, Nat.le_of_ble_eq_true rfl⟩) hS (fun q h1 h => (tx_pA h1 h).elim) (tx_pF hS hA) (fun r_k_3 u_k_3 t_k_3 H_4 l_k_3 ht hvm hw_k_3 hB hz1 hk1 hS => ?_)
  have hw_k_3 : (if 0 ≤ n ∧ n ≤ (0 - 1) then 1 else 0) = r_k_3 := Eq.symm hw_k_3
  subst hw_k_3
  have hP := tx_keep hP hk1
  refine lv_if_eq (tgt := 29) hx hb d_D_cover_16 (by decide) (fun c_5 => ?_) (fun c_5 => ?_)
  · refine lv_aload_n hx hb d_D_cover_29 rfl (lv_at hl 0 rfl) ?_
    refine lv_iconst (v := 1) hx hb d_D_cover_30 (by decide) ?_
    have hPc := hP.sub (ws' := [(d, .inr (9, [.int 0, .ref kq, .int 0, .ref hq, .int 0, .int 0, (zd 6), (zd 7), (zd 8), (zd 9), (zd 10), (zd 11), .int 0, (zd 13), (zd 14), (zd 15), (zd 16), (zd 17), (zd 18), (zd 19), .int 0, (zd 21), (zd 22), (zd 23), (zd 24), (zd 25), (zd 26), (zd 27), (zd 28), (zd 29), (zd 30), (zd 31), .int 0, (zd 33), (zd 34), (zd 35), (zd 36), (zd 37), (zd 38), (zd 39), (zd 40), .int 0]))]) [0] rfl
    have hKc := hK.sub (tys' := []) [] rfl
    have hDc := hD.sub (ws' := [(d, .inr (9, [.int 0, .ref kq, .int 0, .ref hq, .int 0, .int 0, (zd 6), (zd 7), (zd 8), (zd 9), (zd 10), (zd 11), .int 0, (zd 13), (zd 14), (zd 15), (zd 16), (zd 17), (zd 18), (zd 19), .int 0, (zd 21), (zd 22), (zd 23), (zd 24), (zd 25), (zd 26), (zd 27), (zd 28), (zd 29), (zd 30), (zd 31), .int 0, (zd 33), (zd 34), (zd 35), (zd 36), (zd 37), (zd 38), (zd 39), (zd 40), .int 0]))]) [0] (by decide) rfl
    have hFc := va_free (wc := [(d, .inr (9, [.int 0, .ref kq, .int 0, .ref hq, .int 0, .int 0, (zd 6), (zd 7), (zd 8), (zd 9), (zd 10), (zd 11), .int 0, (zd 13), (zd 14), (zd 15), (zd 16), (zd 17), (zd 18), (zd 19), .int 0, (zd 21), (zd 22), (zd 23), (zd 24), (zd 25), (zd 26), (zd 27), (zd 28), (zd 29), (zd 30), (zd 31), .int 0, (zd 33), (zd 34), (zd 35), (zd 36), (zd 37), (zd 38), (zd 39), (zd 40), .int 0]))]) hD hS hA [0] rfl
    refine va_calli (va_runV (As := [.int 1]) (rest := []) ⟨hx, hb, hml, hown, hg⟩ (c_D_fail l dC dI H_4.size d (fun i => if i = 41 then .int 0 else if i = 32 then .int 0 else if i = 20 then .int 0 else if i = 12 then .int 0 else if i = 5 then .int 0 else if i = 4 then .int 0 else if i = 3 then .ref hq else if i = 2 then .int 0 else if i = 1 then .ref kq else zd i) 0 1) (cwV 1 hg (gw_giV cin_D_fail tw_955 tw_957 sw_D_fail tw_11) rfl rfl rfl (by decide +kernel) ⟨Nat.le_of_ble_eq_true rfl, Nat.le_of_ble_eq_true rfl⟩) ⟨fun a U g mk q => by obtain ⟨q0, q1, qP, qK, qD⟩ := q; exact ⟨q0, q1, qP, va_K.moved (u := U) (U := U.calling g mk a) (Vm.Alike.refl U.vm) qK, qD⟩, va_recv hKc hPc (ci := 9) (q0 := 0) rfl rfl, fun U hU hW => ⟨rfl, by rw [hU], by rw [hU]; exact hPc, va_K.moved hW.alike hKc, hDc.weaken (fun _ _ _ _ => trivial)⟩⟩ rfl rfl hl.1 rfl (lv_room (Nat.le_of_ble_eq_true rfl)) d_D_cover_31 ⟨Nat.le_of_ble_eq_true rfl, Nat.le_of_ble_eq_true rfl⟩) hS (fun q _ h => hFc q h) hFc (fun r_k_6 u_k_6 t_k_6 H_7 l_k_6 ht hvm hw_k_6 hB hz1 hk1 hS => ?_)
    obtain ⟨hr_k_6, hu_k_6⟩ := hw_k_6
    subst hr_k_6
    subst hu_k_6
    obtain ⟨zd_k_6, hP1, hK1, hD1⟩ := hB
    rw [ht] at hP1
    have hK1 := va_K.moved hvm.symm hK1
    obtain ⟨hP, hD⟩ := va_join (wr := [(kq, .inl (cK, 32, .inl fk)), (hq, .inl (cH, 12, .inl fh))]) (w1 := [(d, .inr (9, [.int 1, (zd_k_6 1), (zd_k_6 2), (zd_k_6 3), (zd_k_6 4), (zd_k_6 5), (zd_k_6 6), (zd_k_6 7), (zd_k_6 8), (zd_k_6 9), (zd_k_6 10), (zd_k_6 11), (zd_k_6 12), (zd_k_6 13), (zd_k_6 14), (zd_k_6 15), (zd_k_6 16), (zd_k_6 17), (zd_k_6 18), (zd_k_6 19), (zd_k_6 20), (zd_k_6 21), (zd_k_6 22), (zd_k_6 23), (zd_k_6 24), (zd_k_6 25), (zd_k_6 26), (zd_k_6 27), (zd_k_6 28), (zd_k_6 29), (zd_k_6 30), (zd_k_6 31), (zd_k_6 32), (zd_k_6 33), (zd_k_6 34), (zd_k_6 35), (zd_k_6 36), (zd_k_6 37), (zd_k_6 38), (zd_k_6 39), (zd_k_6 40), (zd_k_6 41)]))]) hP hD [0] [1, 2] rfl rfl (by decide) (by decide) hk1 hFc hP1 hD1
    have hK := (hK.sub (tys' := [(cK, .int), (cH, .int)]) [0, 1] rfl).app hK1
    have hP : va_P (dC, dI) kcl [(kq, .inl (cK, 32, .inl fk)), (hq, .inl (cH, 12, .inl fh)), (d, .inr (9, [.int 1, (zd_k_6 1), (zd_k_6 2), (zd_k_6 3), (zd_k_6 4), (zd_k_6 5), (zd_k_6 6), (zd_k_6 7), (zd_k_6 8), (zd_k_6 9), (zd_k_6 10), (zd_k_6 11), (zd_k_6 12), (zd_k_6 13), (zd_k_6 14), (zd_k_6 15), (zd_k_6 16), (zd_k_6 17), (zd_k_6 18), (zd_k_6 19), (zd_k_6 20), (zd_k_6 21), (zd_k_6 22), (zd_k_6 23), (zd_k_6 24), (zd_k_6 25), (zd_k_6 26), (zd_k_6 27), (zd_k_6 28), (zd_k_6 29), (zd_k_6 30), (zd_k_6 31), (zd_k_6 32), (zd_k_6 33), (zd_k_6 34), (zd_k_6 35), (zd_k_6 36), (zd_k_6 37), (zd_k_6 38), (zd_k_6 39), (zd_k_6 40), (zd_k_6 41)]))] H_7 := hP
    have hD : va_D A [(kq, .inl (cK, 32, .inl fk)), (hq, .inl (cH, 12, .inl fh)), (d, .inr (9, [.int 1, (zd_k_6 1), (zd_k_6 2), (zd_k_6 3), (zd_k_6 4), (zd_k_6 5), (zd_k_6 6), (zd_k_6 7), (zd_k_6 8), (zd_k_6 9), (zd_k_6 10), (zd_k_6 11), (zd_k_6 12), (zd_k_6 13), (zd_k_6 14), (zd_k_6 15), (zd_k_6 16), (zd_k_6 17), (zd_k_6 18), (zd_k_6 19), (zd_k_6 20), (zd_k_6 21), (zd_k_6 22), (zd_k_6 23), (zd_k_6 24), (zd_k_6 25), (zd_k_6 26), (zd_k_6 27), (zd_k_6 28), (zd_k_6 29), (zd_k_6 30), (zd_k_6 31), (zd_k_6 32), (zd_k_6 33), (zd_k_6 34), (zd_k_6 35), (zd_k_6 36), (zd_k_6 37), (zd_k_6 38), (zd_k_6 39), (zd_k_6 40), (zd_k_6 41)]))] := hD
    have hK : va_K (dC, dI) kcl [(cK, .int), (cH, .int)] s := hK
    have hP9 := hP.sub (ws' := [(d, .inr (9, [.int 1, (zd_k_6 1), (zd_k_6 2), (zd_k_6 3), (zd_k_6 4), (zd_k_6 5), (zd_k_6 6), (zd_k_6 7), (zd_k_6 8), (zd_k_6 9), (zd_k_6 10), (zd_k_6 11), (zd_k_6 12), (zd_k_6 13), (zd_k_6 14), (zd_k_6 15), (zd_k_6 16), (zd_k_6 17), (zd_k_6 18), (zd_k_6 19), (zd_k_6 20), (zd_k_6 21), (zd_k_6 22), (zd_k_6 23), (zd_k_6 24), (zd_k_6 25), (zd_k_6 26), (zd_k_6 27), (zd_k_6 28), (zd_k_6 29), (zd_k_6 30), (zd_k_6 31), (zd_k_6 32), (zd_k_6 33), (zd_k_6 34), (zd_k_6 35), (zd_k_6 36), (zd_k_6 37), (zd_k_6 38), (zd_k_6 39), (zd_k_6 40), (zd_k_6 41)]))]) [2] rfl
    have hD9 := hD.sub (ws' := [(d, .inr (9, [.int 1, (zd_k_6 1), (zd_k_6 2), (zd_k_6 3), (zd_k_6 4), (zd_k_6 5), (zd_k_6 6), (zd_k_6 7), (zd_k_6 8), (zd_k_6 9), (zd_k_6 10), (zd_k_6 11), (zd_k_6 12), (zd_k_6 13), (zd_k_6 14), (zd_k_6 15), (zd_k_6 16), (zd_k_6 17), (zd_k_6 18), (zd_k_6 19), (zd_k_6 20), (zd_k_6 21), (zd_k_6 22), (zd_k_6 23), (zd_k_6 24), (zd_k_6 25), (zd_k_6 26), (zd_k_6 27), (zd_k_6 28), (zd_k_6 29), (zd_k_6 30), (zd_k_6 31), (zd_k_6 32), (zd_k_6 33), (zd_k_6 34), (zd_k_6 35), (zd_k_6 36), (zd_k_6 37), (zd_k_6 38), (zd_k_6 39), (zd_k_6 40), (zd_k_6 41)]))]) [2] (by decide) rfl
    have hK9 := hK.sub (tys' := []) [] rfl
    exact W.iret (v := 0) hx hb hr (fun t ht hW => ⟨⟨0, 1, rfl, rfl, ⟨(fun i => List.getD [Value.int (1 : Int32), (zd_k_6 1), (zd_k_6 2), (zd_k_6 3), (zd_k_6 4), (zd_k_6 5), (zd_k_6 6), (zd_k_6 7), (zd_k_6 8), (zd_k_6 9), (zd_k_6 10), (zd_k_6 11), (zd_k_6 12), (zd_k_6 13), (zd_k_6 14), (zd_k_6 15), (zd_k_6 16), (zd_k_6 17), (zd_k_6 18), (zd_k_6 19), (zd_k_6 20), (zd_k_6 21), (zd_k_6 22), (zd_k_6 23), (zd_k_6 24), (zd_k_6 25), (zd_k_6 26), (zd_k_6 27), (zd_k_6 28), (zd_k_6 29), (zd_k_6 30), (zd_k_6 31), (zd_k_6 32), (zd_k_6 33), (zd_k_6 34), (zd_k_6 35), (zd_k_6 36), (zd_k_6 37), (zd_k_6 38), (zd_k_6 39), (zd_k_6 40), (zd_k_6 41)] i Value.null), by rw [ht]; exact hP9, va_K.moved hW.alike hK9, hD9⟩⟩, hS.F ht⟩) hS.2.2 d_D_cover_34
  · exact (tx_none2 (tx_if1 c_5)).elim
set_option maxHeartbeats 4000000 in
set_option maxRecDepth 100000 in
theorem c_D_pair (l : Launch) (dC : Nat → ClassId) (dI : Nat → Nat → Nat) (sz : Nat) (d kq hq : Nat) (cK cH : ClassId) (zd : Nat → Value) (fk fh : Nat → Int32) (hfk : ∀ j, j < 32 → fk j = -1) (t0 : Int32) (n k : Int32) : Met l y_D_pair ws_D_pair ({ frames := 1, cells := 0, slots := 0, locals := 22 }) (va_Pc [.ref d, .int n, .int k] (fun U => U.heap.size = sz ∧ va_P (dC, dI) kcl [(d, .inr (9, [.int t0, .ref kq, .int 0, .ref hq, .int 0, .int 0, (zd 6), (zd 7), (zd 8), (zd 9), (zd 10), (zd 11), .int 0, (zd 13), (zd 14), (zd 15), (zd 16), (zd 17), (zd 18), (zd 19), .int 0, (zd 21), (zd 22), (zd 23), (zd 24), (zd 25), (zd 26), (zd 27), (zd 28), (zd 29), (zd 30), (zd 31), .int 0, (zd 33), (zd 34), (zd 35), (zd 36), (zd 37), (zd 38), (zd 39), (zd 40), .int 0])), (kq, .inl (cK, 32, .inl fk)), (hq, .inl (cH, 12, .inl fh))] U.heap ∧ va_K (dC, dI) kcl [(cK, .int), (cH, .int)] U ∧ va_D (fun _ => True) [(d, .inr (9, [.int t0, .ref kq, .int 0, .ref hq, .int 0, .int 0, (zd 6), (zd 7), (zd 8), (zd 9), (zd 10), (zd 11), .int 0, (zd 13), (zd 14), (zd 15), (zd 16), (zd 17), (zd 18), (zd 19), .int 0, (zd 21), (zd 22), (zd 23), (zd 24), (zd 25), (zd 26), (zd 27), (zd 28), (zd 29), (zd 30), (zd 31), .int 0, (zd 33), (zd 34), (zd 35), (zd 36), (zd 37), (zd 38), (zd 39), (zd 40), .int 0])), (kq, .inl (cK, 32, .inl fk)), (hq, .inl (cH, 12, .inl fh))])) (va_Qi (fun (_ th : Int32) => th = 1) (fun (th : Int32) (t : State) => ∃ zd2 : Nat → Value, va_P (dC, dI) kcl [(d, .inr (9, [.int th, (zd2 1), (zd2 2), (zd2 3), (zd2 4), (zd2 5), (zd2 6), (zd2 7), (zd2 8), (zd2 9), (zd2 10), (zd2 11), (zd2 12), (zd2 13), (zd2 14), (zd2 15), (zd2 16), (zd2 17), (zd2 18), (zd2 19), (zd2 20), (zd2 21), (zd2 22), (zd2 23), (zd2 24), (zd2 25), (zd2 26), (zd2 27), (zd2 28), (zd2 29), (zd2 30), (zd2 31), (zd2 32), (zd2 33), (zd2 34), (zd2 35), (zd2 36), (zd2 37), (zd2 38), (zd2 39), (zd2 40), (zd2 41)]))] t.heap ∧ va_K (dC, dI) kcl [] t ∧ va_D (va_A [(d, .inr (9, [.int t0, .ref kq, .int 0, .ref hq, .int 0, .int 0, (zd 6), (zd 7), (zd 8), (zd 9), (zd 10), (zd 11), .int 0, (zd 13), (zd 14), (zd 15), (zd 16), (zd 17), (zd 18), (zd 19), .int 0, (zd 21), (zd 22), (zd 23), (zd 24), (zd 25), (zd 26), (zd 27), (zd 28), (zd 29), (zd 30), (zd 31), .int 0, (zd 33), (zd 34), (zd 35), (zd 36), (zd 37), (zd 38), (zd 39), (zd 40), .int 0])), (kq, .inl (cK, 32, .inl fk)), (hq, .inl (cH, 12, .inl fh))] sz) [(d, .inr (9, [.int th, (zd2 1), (zd2 2), (zd2 3), (zd2 4), (zd2 5), (zd2 6), (zd2 7), (zd2 8), (zd2 9), (zd2 10), (zd2 11), (zd2 12), (zd2 13), (zd2 14), (zd2 15), (zd2 16), (zd2 17), (zd2 18), (zd2 19), (zd2 20), (zd2 21), (zd2 22), (zd2 23), (zd2 24), (zd2 25), (zd2 26), (zd2 27), (zd2 28), (zd2 29), (zd2 30), (zd2 31), (zd2 32), (zd2 33), (zd2 34), (zd2 35), (zd2 36), (zd2 37), (zd2 38), (zd2 39), (zd2 40), (zd2 41)]))]) (va_A [(d, .inr (9, [.int t0, .ref kq, .int 0, .ref hq, .int 0, .int 0, (zd 6), (zd 7), (zd 8), (zd 9), (zd 10), (zd 11), .int 0, (zd 13), (zd 14), (zd 15), (zd 16), (zd 17), (zd 18), (zd 19), .int 0, (zd 21), (zd 22), (zd 23), (zd 24), (zd 25), (zd 26), (zd 27), (zd 28), (zd 29), (zd 30), (zd 31), .int 0, (zd 33), (zd 34), (zd 35), (zd 36), (zd 37), (zd 38), (zd 39), (zd 40), .int 0])), (kq, .inl (cK, 32, .inl fk)), (hq, .inl (cH, 12, .inl fh))] sz)) 0 0 (va_A [(d, .inr (9, [.int t0, .ref kq, .int 0, .ref hq, .int 0, .int 0, (zd 6), (zd 7), (zd 8), (zd 9), (zd 10), (zd 11), .int 0, (zd 13), (zd 14), (zd 15), (zd 16), (zd 17), (zd 18), (zd 19), .int 0, (zd 21), (zd 22), (zd 23), (zd 24), (zd 25), (zd 26), (zd 27), (zd 28), (zd 29), (zd 30), (zd 31), .int 0, (zd 33), (zd 34), (zd 35), (zd 36), (zd 37), (zd 38), (zd 39), (zd 40), .int 0])), (kq, .inl (cK, 32, .inl fk)), (hq, .inl (cH, 12, .inl fh))] sz) := by
  refine Met.ofW (cc := b_D_pair) (maxL := 3) (ret := (Option.some Jvm.ClassFile.FieldType.int)) (by decide) rfl ?_
  intro p e s m args below meth c s₁ B hml hv
  obtain ⟨rfl, hsz, hP, hK, hD0⟩ := hv
  have hx := B.exec
  have hb := B.bytes
  have hr := B.returns
  have hlocks := B.notSynchronized
  have hg : ∀ w ∈ gw, w.before _ s = true := fun w h => atoms_spec (ws := ws_D_pair) B.pre w (List.mem_cons_of_mem _ h)
  have hown : s.vm.findClass "TreeMatcherModel" = some m.cls := findClass_of_methodNamed B.named
  subst hsz
  have hD := hD0.self (sz := s.heap.size)
  have hA : ∀ q : Nat, s.heap.size ≤ q → va_A [(d, .inr (9, [.int t0, .ref kq, .int 0, .ref hq, .int 0, .int 0, (zd 6), (zd 7), (zd 8), (zd 9), (zd 10), (zd 11), .int 0, (zd 13), (zd 14), (zd 15), (zd 16), (zd 17), (zd 18), (zd 19), .int 0, (zd 21), (zd 22), (zd 23), (zd 24), (zd 25), (zd 26), (zd 27), (zd 28), (zd 29), (zd 30), (zd 31), .int 0, (zd 33), (zd 34), (zd 35), (zd 36), (zd 37), (zd 38), (zd 39), (zd 40), .int 0])), (kq, .inl (cK, 32, .inl fk)), (hq, .inl (cH, 12, .inl fh))] s.heap.size q := fun q h => Or.inr h
  generalize hAe : va_A [(d, .inr (9, [.int t0, .ref kq, .int 0, .ref hq, .int 0, .int 0, (zd 6), (zd 7), (zd 8), (zd 9), (zd 10), (zd 11), .int 0, (zd 13), (zd 14), (zd 15), (zd 16), (zd 17), (zd 18), (zd 19), .int 0, (zd 21), (zd 22), (zd 23), (zd 24), (zd 25), (zd 26), (zd 27), (zd 28), (zd 29), (zd 30), (zd 31), .int 0, (zd 33), (zd 34), (zd 35), (zd 36), (zd 37), (zd 38), (zd 39), (zd 40), .int 0])), (kq, .inl (cK, 32, .inl fk)), (hq, .inl (cH, 12, .inl fh))] s.heap.size = A at hD hA ⊢
  have hS : va_S A s.heap s.heap [] := va_S.rf
  have hl := lv_entry ([.ref d, .int n, .int k] : List Value) (n := 3) (Nat.le_of_ble_eq_true rfl)
  rw [lg_entry_eq]
  generalize (lg_sl ([.ref d, .int n, .int k] : List Value) ++ List.replicate (3 - (lg_sl ([.ref d, .int n, .int k] : List Value)).length) Slot.unset).toArray = ls at hl ⊢
  have hl : lv_has ls 3 [(0, .ref d), (1, .int n), (2, .int k)] := hl
  refine lv_aload_n hx hb d_D_pair_0 rfl (lv_at hl 0 rfl) ?_
  refine lv_iconst (v := 0) hx hb d_D_pair_1 (by decide) ?_
  refine va_put (D := (dC, dI)) (ci := 9) (v := .int 0) (ty := .int) (C := kR_D) (T := kT_D) (N := 42) hx hb hg kin_D kt_D kty_D knm_D hown hK hP hD hS 0 rfl rfl 0 (by decide) (hg _ tw_817) (fun _ h9 => h9) rfl (by decide +kernel) rfl rfl (Nat.le_of_ble_eq_true rfl) d_D_pair_2 (fun H_1 lo_2 hP hD hS => ?_)
  have hP : va_P (dC, dI) kcl [(d, .inr (9, [.int 0, .ref kq, .int 0, .ref hq, .int 0, .int 0, (zd 6), (zd 7), (zd 8), (zd 9), (zd 10), (zd 11), .int 0, (zd 13), (zd 14), (zd 15), (zd 16), (zd 17), (zd 18), (zd 19), .int 0, (zd 21), (zd 22), (zd 23), (zd 24), (zd 25), (zd 26), (zd 27), (zd 28), (zd 29), (zd 30), (zd 31), .int 0, (zd 33), (zd 34), (zd 35), (zd 36), (zd 37), (zd 38), (zd 39), (zd 40), .int 0])), (kq, .inl (cK, 32, .inl fk)), (hq, .inl (cH, 12, .inl fh))] H_1 := hP
  have hD : va_D A [(d, .inr (9, [.int 0, .ref kq, .int 0, .ref hq, .int 0, .int 0, (zd 6), (zd 7), (zd 8), (zd 9), (zd 10), (zd 11), .int 0, (zd 13), (zd 14), (zd 15), (zd 16), (zd 17), (zd 18), (zd 19), .int 0, (zd 21), (zd 22), (zd 23), (zd 24), (zd 25), (zd 26), (zd 27), (zd 28), (zd 29), (zd 30), (zd 31), .int 0, (zd 33), (zd 34), (zd 35), (zd 36), (zd 37), (zd 38), (zd 39), (zd 40), .int 0])), (kq, .inl (cK, 32, .inl fk)), (hq, .inl (cH, 12, .inl fh))] := hD
  refine lv_iload_n hx hb d_D_pair_5 rfl (lv_at hl 1 rfl) ?_
  refine lv_iconst (v := 0) hx hb d_D_pair_6 (by decide) ?_
  refine lv_aload_n hx hb d_D_pair_7 rfl (lv_at hl 0 rfl) ?_
  refine va_get (D := (dC, dI)) (ci := 9) (v := .int 0) (C := kR_D) (T := kT_D) (N := 42) hx hb hg kin_D hown hK hP 0 rfl rfl 20 (by decide) (hg _ tw_837) (fun _ h9 => h9) rfl d_D_pair_8 ?_
  refine lv_iconst (v := 1) hx hb d_D_pair_11 (by decide) ?_
  refine lv_isub hx hb d_D_pair_12 ?_
  have hPc := hP.sub (ws' := []) [] rfl
  have hKc := hK.sub (tys' := []) [] rfl
  refine va_calli (va_runS (As := [.int n, .int 0, .int (0 - 1)]) (rest := []) ⟨hx, hb, hml, hown, hg⟩ (c_D_within l dC dI H_1.size n 0 (0 - 1)) (va_cwS 3 hg (gw_giS cin_D_within tw_952 tw_953 tw_11) rfl rfl rfl (by decide +kernel) ⟨Nat.le_of_ble_eq_true rfl, Nat.le_of_ble_eq_true rfl⟩) ⟨fun a U g mk q => by obtain ⟨q0, q1, qP, qK⟩ := q; exact ⟨q0, q1, qP, va_K.moved (u := U) (U := U.calling g mk a) (Vm.Alike.refl U.vm) qK⟩, fun U hU hW => ⟨rfl, by rw [hU], by rw [hU]; exact hPc, va_K.moved hW.alike hKc⟩⟩ rfl rfl hl.1 rfl (lv_room (Nat.le_of_ble_eq_true rfl)) d_D_pair_13 ⟨Nat.le_of_ble_eq_true rfl, Nat.le_of_ble_eq_true rfl⟩) hS (fun q h1 h => (tx_pA h1 h).elim) (tx_pF hS hA) (fun r_k_3 u_k_3 t_k_3 H_4 l_k_3 ht hvm hw_k_3 hB hz1 hk1 hS => ?_)
  have hw_k_3 : (if 0 ≤ n ∧ n ≤ (0 - 1) then 1 else 0) = r_k_3 := Eq.symm hw_k_3
  subst hw_k_3
  have hP := tx_keep hP hk1
  refine lv_if_eq (tgt := 28) hx hb d_D_pair_16 (by decide) (fun c_5 => ?_) (fun c_5 => ?_)
  · refine lv_aload_n hx hb d_D_pair_28 rfl (lv_at hl 0 rfl) ?_
    refine lv_iconst (v := 1) hx hb d_D_pair_29 (by decide) ?_
    have hPc := hP.sub (ws' := [(d, .inr (9, [.int 0, .ref kq, .int 0, .ref hq, .int 0, .int 0, (zd 6), (zd 7), (zd 8), (zd 9), (zd 10), (zd 11), .int 0, (zd 13), (zd 14), (zd 15), (zd 16), (zd 17), (zd 18), (zd 19), .int 0, (zd 21), (zd 22), (zd 23), (zd 24), (zd 25), (zd 26), (zd 27), (zd 28), (zd 29), (zd 30), (zd 31), .int 0, (zd 33), (zd 34), (zd 35), (zd 36), (zd 37), (zd 38), (zd 39), (zd 40), .int 0]))]) [0] rfl
    have hKc := hK.sub (tys' := []) [] rfl
    have hDc := hD.sub (ws' := [(d, .inr (9, [.int 0, .ref kq, .int 0, .ref hq, .int 0, .int 0, (zd 6), (zd 7), (zd 8), (zd 9), (zd 10), (zd 11), .int 0, (zd 13), (zd 14), (zd 15), (zd 16), (zd 17), (zd 18), (zd 19), .int 0, (zd 21), (zd 22), (zd 23), (zd 24), (zd 25), (zd 26), (zd 27), (zd 28), (zd 29), (zd 30), (zd 31), .int 0, (zd 33), (zd 34), (zd 35), (zd 36), (zd 37), (zd 38), (zd 39), (zd 40), .int 0]))]) [0] (by decide) rfl
    have hFc := va_free (wc := [(d, .inr (9, [.int 0, .ref kq, .int 0, .ref hq, .int 0, .int 0, (zd 6), (zd 7), (zd 8), (zd 9), (zd 10), (zd 11), .int 0, (zd 13), (zd 14), (zd 15), (zd 16), (zd 17), (zd 18), (zd 19), .int 0, (zd 21), (zd 22), (zd 23), (zd 24), (zd 25), (zd 26), (zd 27), (zd 28), (zd 29), (zd 30), (zd 31), .int 0, (zd 33), (zd 34), (zd 35), (zd 36), (zd 37), (zd 38), (zd 39), (zd 40), .int 0]))]) hD hS hA [0] rfl
    refine va_calli (va_runV (As := [.int 1]) (rest := []) ⟨hx, hb, hml, hown, hg⟩ (c_D_fail l dC dI H_4.size d (fun i => if i = 41 then .int 0 else if i = 32 then .int 0 else if i = 20 then .int 0 else if i = 12 then .int 0 else if i = 5 then .int 0 else if i = 4 then .int 0 else if i = 3 then .ref hq else if i = 2 then .int 0 else if i = 1 then .ref kq else zd i) 0 1) (cwV 1 hg (gw_giV cin_D_fail tw_955 tw_957 sw_D_fail tw_11) rfl rfl rfl (by decide +kernel) ⟨Nat.le_of_ble_eq_true rfl, Nat.le_of_ble_eq_true rfl⟩) ⟨fun a U g mk q => by obtain ⟨q0, q1, qP, qK, qD⟩ := q; exact ⟨q0, q1, qP, va_K.moved (u := U) (U := U.calling g mk a) (Vm.Alike.refl U.vm) qK, qD⟩, va_recv hKc hPc (ci := 9) (q0 := 0) rfl rfl, fun U hU hW => ⟨rfl, by rw [hU], by rw [hU]; exact hPc, va_K.moved hW.alike hKc, hDc.weaken (fun _ _ _ _ => trivial)⟩⟩ rfl rfl hl.1 rfl (lv_room (Nat.le_of_ble_eq_true rfl)) d_D_pair_30 ⟨Nat.le_of_ble_eq_true rfl, Nat.le_of_ble_eq_true rfl⟩) hS (fun q _ h => hFc q h) hFc (fun r_k_6 u_k_6 t_k_6 H_7 l_k_6 ht hvm hw_k_6 hB hz1 hk1 hS => ?_)
    obtain ⟨hr_k_6, hu_k_6⟩ := hw_k_6
    subst hr_k_6
    subst hu_k_6
    obtain ⟨zd_k_6, hP1, hK1, hD1⟩ := hB
    rw [ht] at hP1
    have hK1 := va_K.moved hvm.symm hK1
    obtain ⟨hP, hD⟩ := va_join (wr := [(kq, .inl (cK, 32, .inl fk)), (hq, .inl (cH, 12, .inl fh))]) (w1 := [(d, .inr (9, [.int 1, (zd_k_6 1), (zd_k_6 2), (zd_k_6 3), (zd_k_6 4), (zd_k_6 5), (zd_k_6 6), (zd_k_6 7), (zd_k_6 8), (zd_k_6 9), (zd_k_6 10), (zd_k_6 11), (zd_k_6 12), (zd_k_6 13), (zd_k_6 14), (zd_k_6 15), (zd_k_6 16), (zd_k_6 17), (zd_k_6 18), (zd_k_6 19), (zd_k_6 20), (zd_k_6 21), (zd_k_6 22), (zd_k_6 23), (zd_k_6 24), (zd_k_6 25), (zd_k_6 26), (zd_k_6 27), (zd_k_6 28), (zd_k_6 29), (zd_k_6 30), (zd_k_6 31), (zd_k_6 32), (zd_k_6 33), (zd_k_6 34), (zd_k_6 35), (zd_k_6 36), (zd_k_6 37), (zd_k_6 38), (zd_k_6 39), (zd_k_6 40), (zd_k_6 41)]))]) hP hD [0] [1, 2] rfl rfl (by decide) (by decide) hk1 hFc hP1 hD1
    have hK := (hK.sub (tys' := [(cK, .int), (cH, .int)]) [0, 1] rfl).app hK1
    have hP : va_P (dC, dI) kcl [(kq, .inl (cK, 32, .inl fk)), (hq, .inl (cH, 12, .inl fh)), (d, .inr (9, [.int 1, (zd_k_6 1), (zd_k_6 2), (zd_k_6 3), (zd_k_6 4), (zd_k_6 5), (zd_k_6 6), (zd_k_6 7), (zd_k_6 8), (zd_k_6 9), (zd_k_6 10), (zd_k_6 11), (zd_k_6 12), (zd_k_6 13), (zd_k_6 14), (zd_k_6 15), (zd_k_6 16), (zd_k_6 17), (zd_k_6 18), (zd_k_6 19), (zd_k_6 20), (zd_k_6 21), (zd_k_6 22), (zd_k_6 23), (zd_k_6 24), (zd_k_6 25), (zd_k_6 26), (zd_k_6 27), (zd_k_6 28), (zd_k_6 29), (zd_k_6 30), (zd_k_6 31), (zd_k_6 32), (zd_k_6 33), (zd_k_6 34), (zd_k_6 35), (zd_k_6 36), (zd_k_6 37), (zd_k_6 38), (zd_k_6 39), (zd_k_6 40), (zd_k_6 41)]))] H_7 := hP
    have hD : va_D A [(kq, .inl (cK, 32, .inl fk)), (hq, .inl (cH, 12, .inl fh)), (d, .inr (9, [.int 1, (zd_k_6 1), (zd_k_6 2), (zd_k_6 3), (zd_k_6 4), (zd_k_6 5), (zd_k_6 6), (zd_k_6 7), (zd_k_6 8), (zd_k_6 9), (zd_k_6 10), (zd_k_6 11), (zd_k_6 12), (zd_k_6 13), (zd_k_6 14), (zd_k_6 15), (zd_k_6 16), (zd_k_6 17), (zd_k_6 18), (zd_k_6 19), (zd_k_6 20), (zd_k_6 21), (zd_k_6 22), (zd_k_6 23), (zd_k_6 24), (zd_k_6 25), (zd_k_6 26), (zd_k_6 27), (zd_k_6 28), (zd_k_6 29), (zd_k_6 30), (zd_k_6 31), (zd_k_6 32), (zd_k_6 33), (zd_k_6 34), (zd_k_6 35), (zd_k_6 36), (zd_k_6 37), (zd_k_6 38), (zd_k_6 39), (zd_k_6 40), (zd_k_6 41)]))] := hD
    have hK : va_K (dC, dI) kcl [(cK, .int), (cH, .int)] s := hK
    have hP9 := hP.sub (ws' := [(d, .inr (9, [.int 1, (zd_k_6 1), (zd_k_6 2), (zd_k_6 3), (zd_k_6 4), (zd_k_6 5), (zd_k_6 6), (zd_k_6 7), (zd_k_6 8), (zd_k_6 9), (zd_k_6 10), (zd_k_6 11), (zd_k_6 12), (zd_k_6 13), (zd_k_6 14), (zd_k_6 15), (zd_k_6 16), (zd_k_6 17), (zd_k_6 18), (zd_k_6 19), (zd_k_6 20), (zd_k_6 21), (zd_k_6 22), (zd_k_6 23), (zd_k_6 24), (zd_k_6 25), (zd_k_6 26), (zd_k_6 27), (zd_k_6 28), (zd_k_6 29), (zd_k_6 30), (zd_k_6 31), (zd_k_6 32), (zd_k_6 33), (zd_k_6 34), (zd_k_6 35), (zd_k_6 36), (zd_k_6 37), (zd_k_6 38), (zd_k_6 39), (zd_k_6 40), (zd_k_6 41)]))]) [2] rfl
    have hD9 := hD.sub (ws' := [(d, .inr (9, [.int 1, (zd_k_6 1), (zd_k_6 2), (zd_k_6 3), (zd_k_6 4), (zd_k_6 5), (zd_k_6 6), (zd_k_6 7), (zd_k_6 8), (zd_k_6 9), (zd_k_6 10), (zd_k_6 11), (zd_k_6 12), (zd_k_6 13), (zd_k_6 14), (zd_k_6 15), (zd_k_6 16), (zd_k_6 17), (zd_k_6 18), (zd_k_6 19), (zd_k_6 20), (zd_k_6 21), (zd_k_6 22), (zd_k_6 23), (zd_k_6 24), (zd_k_6 25), (zd_k_6 26), (zd_k_6 27), (zd_k_6 28), (zd_k_6 29), (zd_k_6 30), (zd_k_6 31), (zd_k_6 32), (zd_k_6 33), (zd_k_6 34), (zd_k_6 35), (zd_k_6 36), (zd_k_6 37), (zd_k_6 38), (zd_k_6 39), (zd_k_6 40), (zd_k_6 41)]))]) [2] (by decide) rfl
    have hK9 := hK.sub (tys' := []) [] rfl
    exact W.iret (v := 0) hx hb hr (fun t ht hW => ⟨⟨0, 1, rfl, rfl, ⟨(fun i => List.getD [Value.int (1 : Int32), (zd_k_6 1), (zd_k_6 2), (zd_k_6 3), (zd_k_6 4), (zd_k_6 5), (zd_k_6 6), (zd_k_6 7), (zd_k_6 8), (zd_k_6 9), (zd_k_6 10), (zd_k_6 11), (zd_k_6 12), (zd_k_6 13), (zd_k_6 14), (zd_k_6 15), (zd_k_6 16), (zd_k_6 17), (zd_k_6 18), (zd_k_6 19), (zd_k_6 20), (zd_k_6 21), (zd_k_6 22), (zd_k_6 23), (zd_k_6 24), (zd_k_6 25), (zd_k_6 26), (zd_k_6 27), (zd_k_6 28), (zd_k_6 29), (zd_k_6 30), (zd_k_6 31), (zd_k_6 32), (zd_k_6 33), (zd_k_6 34), (zd_k_6 35), (zd_k_6 36), (zd_k_6 37), (zd_k_6 38), (zd_k_6 39), (zd_k_6 40), (zd_k_6 41)] i Value.null), by rw [ht]; exact hP9, va_K.moved hW.alike hK9, hD9⟩⟩, hS.F ht⟩) hS.2.2 d_D_pair_33
  · exact (tx_none2 (tx_if1 c_5)).elim
set_option maxHeartbeats 4000000 in
set_option maxRecDepth 100000 in
theorem c_D_same (l : Launch) (dC : Nat → ClassId) (dI : Nat → Nat → Nat) (sz : Nat) (d kq hq : Nat) (cK cH : ClassId) (zd : Nat → Value) (fk fh : Nat → Int32) (hfk : ∀ j, j < 32 → fk j = -1) (t0 : Int32) (n k : Int32) : Met l y_D_same ws_D_same ({ frames := 1, cells := 0, slots := 0, locals := 22 }) (va_Pc [.ref d, .int n, .int k] (fun U => U.heap.size = sz ∧ va_P (dC, dI) kcl [(d, .inr (9, [.int t0, .ref kq, .int 0, .ref hq, .int 0, .int 0, (zd 6), (zd 7), (zd 8), (zd 9), (zd 10), (zd 11), .int 0, (zd 13), (zd 14), (zd 15), (zd 16), (zd 17), (zd 18), (zd 19), .int 0, (zd 21), (zd 22), (zd 23), (zd 24), (zd 25), (zd 26), (zd 27), (zd 28), (zd 29), (zd 30), (zd 31), .int 0, (zd 33), (zd 34), (zd 35), (zd 36), (zd 37), (zd 38), (zd 39), (zd 40), .int 0])), (kq, .inl (cK, 32, .inl fk)), (hq, .inl (cH, 12, .inl fh))] U.heap ∧ va_K (dC, dI) kcl [(cK, .int), (cH, .int)] U ∧ va_D (fun _ => True) [(d, .inr (9, [.int t0, .ref kq, .int 0, .ref hq, .int 0, .int 0, (zd 6), (zd 7), (zd 8), (zd 9), (zd 10), (zd 11), .int 0, (zd 13), (zd 14), (zd 15), (zd 16), (zd 17), (zd 18), (zd 19), .int 0, (zd 21), (zd 22), (zd 23), (zd 24), (zd 25), (zd 26), (zd 27), (zd 28), (zd 29), (zd 30), (zd 31), .int 0, (zd 33), (zd 34), (zd 35), (zd 36), (zd 37), (zd 38), (zd 39), (zd 40), .int 0])), (kq, .inl (cK, 32, .inl fk)), (hq, .inl (cH, 12, .inl fh))])) (va_Qi (fun (_ th : Int32) => th = 1) (fun (th : Int32) (t : State) => ∃ zd2 : Nat → Value, va_P (dC, dI) kcl [(d, .inr (9, [.int th, (zd2 1), (zd2 2), (zd2 3), (zd2 4), (zd2 5), (zd2 6), (zd2 7), (zd2 8), (zd2 9), (zd2 10), (zd2 11), (zd2 12), (zd2 13), (zd2 14), (zd2 15), (zd2 16), (zd2 17), (zd2 18), (zd2 19), (zd2 20), (zd2 21), (zd2 22), (zd2 23), (zd2 24), (zd2 25), (zd2 26), (zd2 27), (zd2 28), (zd2 29), (zd2 30), (zd2 31), (zd2 32), (zd2 33), (zd2 34), (zd2 35), (zd2 36), (zd2 37), (zd2 38), (zd2 39), (zd2 40), (zd2 41)]))] t.heap ∧ va_K (dC, dI) kcl [] t ∧ va_D (va_A [(d, .inr (9, [.int t0, .ref kq, .int 0, .ref hq, .int 0, .int 0, (zd 6), (zd 7), (zd 8), (zd 9), (zd 10), (zd 11), .int 0, (zd 13), (zd 14), (zd 15), (zd 16), (zd 17), (zd 18), (zd 19), .int 0, (zd 21), (zd 22), (zd 23), (zd 24), (zd 25), (zd 26), (zd 27), (zd 28), (zd 29), (zd 30), (zd 31), .int 0, (zd 33), (zd 34), (zd 35), (zd 36), (zd 37), (zd 38), (zd 39), (zd 40), .int 0])), (kq, .inl (cK, 32, .inl fk)), (hq, .inl (cH, 12, .inl fh))] sz) [(d, .inr (9, [.int th, (zd2 1), (zd2 2), (zd2 3), (zd2 4), (zd2 5), (zd2 6), (zd2 7), (zd2 8), (zd2 9), (zd2 10), (zd2 11), (zd2 12), (zd2 13), (zd2 14), (zd2 15), (zd2 16), (zd2 17), (zd2 18), (zd2 19), (zd2 20), (zd2 21), (zd2 22), (zd2 23), (zd2 24), (zd2 25), (zd2 26), (zd2 27), (zd2 28), (zd2 29), (zd2 30), (zd2 31), (zd2 32), (zd2 33), (zd2 34), (zd2 35), (zd2 36), (zd2 37), (zd2 38), (zd2 39), (zd2 40), (zd2 41)]))]) (va_A [(d, .inr (9, [.int t0, .ref kq, .int 0, .ref hq, .int 0, .int 0, (zd 6), (zd 7), (zd 8), (zd 9), (zd 10), (zd 11), .int 0, (zd 13), (zd 14), (zd 15), (zd 16), (zd 17), (zd 18), (zd 19), .int 0, (zd 21), (zd 22), (zd 23), (zd 24), (zd 25), (zd 26), (zd 27), (zd 28), (zd 29), (zd 30), (zd 31), .int 0, (zd 33), (zd 34), (zd 35), (zd 36), (zd 37), (zd 38), (zd 39), (zd 40), .int 0])), (kq, .inl (cK, 32, .inl fk)), (hq, .inl (cH, 12, .inl fh))] sz)) 0 0 (va_A [(d, .inr (9, [.int t0, .ref kq, .int 0, .ref hq, .int 0, .int 0, (zd 6), (zd 7), (zd 8), (zd 9), (zd 10), (zd 11), .int 0, (zd 13), (zd 14), (zd 15), (zd 16), (zd 17), (zd 18), (zd 19), .int 0, (zd 21), (zd 22), (zd 23), (zd 24), (zd 25), (zd 26), (zd 27), (zd 28), (zd 29), (zd 30), (zd 31), .int 0, (zd 33), (zd 34), (zd 35), (zd 36), (zd 37), (zd 38), (zd 39), (zd 40), .int 0])), (kq, .inl (cK, 32, .inl fk)), (hq, .inl (cH, 12, .inl fh))] sz) := by
  refine Met.ofW (cc := b_D_same) (maxL := 4) (ret := (Option.some Jvm.ClassFile.FieldType.boolean)) (by decide) rfl ?_
  intro p e s m args below meth c s₁ B hml hv
  obtain ⟨rfl, hsz, hP, hK, hD0⟩ := hv
  have hx := B.exec
  have hb := B.bytes
  have hr := B.returns
  have hlocks := B.notSynchronized
  have hg : ∀ w ∈ gw, w.before _ s = true := fun w h => atoms_spec (ws := ws_D_same) B.pre w (List.mem_cons_of_mem _ h)
  have hown : s.vm.findClass "TreeMatcherModel" = some m.cls := findClass_of_methodNamed B.named
  subst hsz
  have hD := hD0.self (sz := s.heap.size)
  have hA : ∀ q : Nat, s.heap.size ≤ q → va_A [(d, .inr (9, [.int t0, .ref kq, .int 0, .ref hq, .int 0, .int 0, (zd 6), (zd 7), (zd 8), (zd 9), (zd 10), (zd 11), .int 0, (zd 13), (zd 14), (zd 15), (zd 16), (zd 17), (zd 18), (zd 19), .int 0, (zd 21), (zd 22), (zd 23), (zd 24), (zd 25), (zd 26), (zd 27), (zd 28), (zd 29), (zd 30), (zd 31), .int 0, (zd 33), (zd 34), (zd 35), (zd 36), (zd 37), (zd 38), (zd 39), (zd 40), .int 0])), (kq, .inl (cK, 32, .inl fk)), (hq, .inl (cH, 12, .inl fh))] s.heap.size q := fun q h => Or.inr h
  generalize hAe : va_A [(d, .inr (9, [.int t0, .ref kq, .int 0, .ref hq, .int 0, .int 0, (zd 6), (zd 7), (zd 8), (zd 9), (zd 10), (zd 11), .int 0, (zd 13), (zd 14), (zd 15), (zd 16), (zd 17), (zd 18), (zd 19), .int 0, (zd 21), (zd 22), (zd 23), (zd 24), (zd 25), (zd 26), (zd 27), (zd 28), (zd 29), (zd 30), (zd 31), .int 0, (zd 33), (zd 34), (zd 35), (zd 36), (zd 37), (zd 38), (zd 39), (zd 40), .int 0])), (kq, .inl (cK, 32, .inl fk)), (hq, .inl (cH, 12, .inl fh))] s.heap.size = A at hD hA ⊢
  have hS : va_S A s.heap s.heap [] := va_S.rf
  have hl := lv_entry ([.ref d, .int n, .int k] : List Value) (n := 4) (Nat.le_of_ble_eq_true rfl)
  rw [lg_entry_eq]
  generalize (lg_sl ([.ref d, .int n, .int k] : List Value) ++ List.replicate (4 - (lg_sl ([.ref d, .int n, .int k] : List Value)).length) Slot.unset).toArray = ls at hl ⊢
  have hl : lv_has ls 4 [(0, .ref d), (1, .int n), (2, .int k)] := hl
  refine lv_aload_n hx hb d_D_same_0 rfl (lv_at hl 0 rfl) ?_
  refine lv_iconst (v := 0) hx hb d_D_same_1 (by decide) ?_
  refine va_put (D := (dC, dI)) (ci := 9) (v := .int 0) (ty := .int) (C := kR_D) (T := kT_D) (N := 42) hx hb hg kin_D kt_D kty_D knm_D hown hK hP hD hS 0 rfl rfl 0 (by decide) (hg _ tw_817) (fun _ h9 => h9) rfl (by decide +kernel) rfl rfl (Nat.le_of_ble_eq_true rfl) d_D_same_2 (fun H_1 lo_2 hP hD hS => ?_)
  have hP : va_P (dC, dI) kcl [(d, .inr (9, [.int 0, .ref kq, .int 0, .ref hq, .int 0, .int 0, (zd 6), (zd 7), (zd 8), (zd 9), (zd 10), (zd 11), .int 0, (zd 13), (zd 14), (zd 15), (zd 16), (zd 17), (zd 18), (zd 19), .int 0, (zd 21), (zd 22), (zd 23), (zd 24), (zd 25), (zd 26), (zd 27), (zd 28), (zd 29), (zd 30), (zd 31), .int 0, (zd 33), (zd 34), (zd 35), (zd 36), (zd 37), (zd 38), (zd 39), (zd 40), .int 0])), (kq, .inl (cK, 32, .inl fk)), (hq, .inl (cH, 12, .inl fh))] H_1 := hP
  have hD : va_D A [(d, .inr (9, [.int 0, .ref kq, .int 0, .ref hq, .int 0, .int 0, (zd 6), (zd 7), (zd 8), (zd 9), (zd 10), (zd 11), .int 0, (zd 13), (zd 14), (zd 15), (zd 16), (zd 17), (zd 18), (zd 19), .int 0, (zd 21), (zd 22), (zd 23), (zd 24), (zd 25), (zd 26), (zd 27), (zd 28), (zd 29), (zd 30), (zd 31), .int 0, (zd 33), (zd 34), (zd 35), (zd 36), (zd 37), (zd 38), (zd 39), (zd 40), .int 0])), (kq, .inl (cK, 32, .inl fk)), (hq, .inl (cH, 12, .inl fh))] := hD
  refine lv_iload_n hx hb d_D_same_5 rfl (lv_at hl 1 rfl) ?_
  refine lv_iconst (v := 0) hx hb d_D_same_6 (by decide) ?_
  refine lv_aload_n hx hb d_D_same_7 rfl (lv_at hl 0 rfl) ?_
  refine va_get (D := (dC, dI)) (ci := 9) (v := .int 0) (C := kR_D) (T := kT_D) (N := 42) hx hb hg kin_D hown hK hP 0 rfl rfl 12 (by decide) (hg _ tw_829) (fun _ h9 => h9) rfl d_D_same_8 ?_
  refine lv_iconst (v := 1) hx hb d_D_same_11 (by decide) ?_
  refine lv_isub hx hb d_D_same_12 ?_
  have hPc := hP.sub (ws' := []) [] rfl
  have hKc := hK.sub (tys' := []) [] rfl
  refine va_calli (va_runS (As := [.int n, .int 0, .int (0 - 1)]) (rest := []) ⟨hx, hb, hml, hown, hg⟩ (c_D_within l dC dI H_1.size n 0 (0 - 1)) (va_cwS 3 hg (gw_giS cin_D_within tw_952 tw_953 tw_11) rfl rfl rfl (by decide +kernel) ⟨Nat.le_of_ble_eq_true rfl, Nat.le_of_ble_eq_true rfl⟩) ⟨fun a U g mk q => by obtain ⟨q0, q1, qP, qK⟩ := q; exact ⟨q0, q1, qP, va_K.moved (u := U) (U := U.calling g mk a) (Vm.Alike.refl U.vm) qK⟩, fun U hU hW => ⟨rfl, by rw [hU], by rw [hU]; exact hPc, va_K.moved hW.alike hKc⟩⟩ rfl rfl hl.1 rfl (lv_room (Nat.le_of_ble_eq_true rfl)) d_D_same_13 ⟨Nat.le_of_ble_eq_true rfl, Nat.le_of_ble_eq_true rfl⟩) hS (fun q h1 h => (tx_pA h1 h).elim) (tx_pF hS hA) (fun r_k_3 u_k_3 t_k_3 H_4 l_k_3 ht hvm hw_k_3 hB hz1 hk1 hS => ?_)
  have hw_k_3 : (if 0 ≤ n ∧ n ≤ (0 - 1) then 1 else 0) = r_k_3 := Eq.symm hw_k_3
  subst hw_k_3
  have hP := tx_keep hP hk1
  refine lv_if_eq (tgt := 33) hx hb d_D_same_16 (by decide) (fun c_5 => ?_) (fun c_5 => ?_)
  · refine lv_aload_n hx hb d_D_same_33 rfl (lv_at hl 0 rfl) ?_
    refine lv_iconst (v := 1) hx hb d_D_same_34 (by decide) ?_
    have hPc := hP.sub (ws' := [(d, .inr (9, [.int 0, .ref kq, .int 0, .ref hq, .int 0, .int 0, (zd 6), (zd 7), (zd 8), (zd 9), (zd 10), (zd 11), .int 0, (zd 13), (zd 14), (zd 15), (zd 16), (zd 17), (zd 18), (zd 19), .int 0, (zd 21), (zd 22), (zd 23), (zd 24), (zd 25), (zd 26), (zd 27), (zd 28), (zd 29), (zd 30), (zd 31), .int 0, (zd 33), (zd 34), (zd 35), (zd 36), (zd 37), (zd 38), (zd 39), (zd 40), .int 0]))]) [0] rfl
    have hKc := hK.sub (tys' := []) [] rfl
    have hDc := hD.sub (ws' := [(d, .inr (9, [.int 0, .ref kq, .int 0, .ref hq, .int 0, .int 0, (zd 6), (zd 7), (zd 8), (zd 9), (zd 10), (zd 11), .int 0, (zd 13), (zd 14), (zd 15), (zd 16), (zd 17), (zd 18), (zd 19), .int 0, (zd 21), (zd 22), (zd 23), (zd 24), (zd 25), (zd 26), (zd 27), (zd 28), (zd 29), (zd 30), (zd 31), .int 0, (zd 33), (zd 34), (zd 35), (zd 36), (zd 37), (zd 38), (zd 39), (zd 40), .int 0]))]) [0] (by decide) rfl
    have hFc := va_free (wc := [(d, .inr (9, [.int 0, .ref kq, .int 0, .ref hq, .int 0, .int 0, (zd 6), (zd 7), (zd 8), (zd 9), (zd 10), (zd 11), .int 0, (zd 13), (zd 14), (zd 15), (zd 16), (zd 17), (zd 18), (zd 19), .int 0, (zd 21), (zd 22), (zd 23), (zd 24), (zd 25), (zd 26), (zd 27), (zd 28), (zd 29), (zd 30), (zd 31), .int 0, (zd 33), (zd 34), (zd 35), (zd 36), (zd 37), (zd 38), (zd 39), (zd 40), .int 0]))]) hD hS hA [0] rfl
    refine va_calli (va_runV (As := [.int 1]) (rest := []) ⟨hx, hb, hml, hown, hg⟩ (c_D_fail l dC dI H_4.size d (fun i => if i = 41 then .int 0 else if i = 32 then .int 0 else if i = 20 then .int 0 else if i = 12 then .int 0 else if i = 5 then .int 0 else if i = 4 then .int 0 else if i = 3 then .ref hq else if i = 2 then .int 0 else if i = 1 then .ref kq else zd i) 0 1) (cwV 1 hg (gw_giV cin_D_fail tw_955 tw_957 sw_D_fail tw_11) rfl rfl rfl (by decide +kernel) ⟨Nat.le_of_ble_eq_true rfl, Nat.le_of_ble_eq_true rfl⟩) ⟨fun a U g mk q => by obtain ⟨q0, q1, qP, qK, qD⟩ := q; exact ⟨q0, q1, qP, va_K.moved (u := U) (U := U.calling g mk a) (Vm.Alike.refl U.vm) qK, qD⟩, va_recv hKc hPc (ci := 9) (q0 := 0) rfl rfl, fun U hU hW => ⟨rfl, by rw [hU], by rw [hU]; exact hPc, va_K.moved hW.alike hKc, hDc.weaken (fun _ _ _ _ => trivial)⟩⟩ rfl rfl hl.1 rfl (lv_room (Nat.le_of_ble_eq_true rfl)) d_D_same_35 ⟨Nat.le_of_ble_eq_true rfl, Nat.le_of_ble_eq_true rfl⟩) hS (fun q _ h => hFc q h) hFc (fun r_k_6 u_k_6 t_k_6 H_7 l_k_6 ht hvm hw_k_6 hB hz1 hk1 hS => ?_)
    obtain ⟨hr_k_6, hu_k_6⟩ := hw_k_6
    subst hr_k_6
    subst hu_k_6
    obtain ⟨zd_k_6, hP1, hK1, hD1⟩ := hB
    rw [ht] at hP1
    have hK1 := va_K.moved hvm.symm hK1
    obtain ⟨hP, hD⟩ := va_join (wr := [(kq, .inl (cK, 32, .inl fk)), (hq, .inl (cH, 12, .inl fh))]) (w1 := [(d, .inr (9, [.int 1, (zd_k_6 1), (zd_k_6 2), (zd_k_6 3), (zd_k_6 4), (zd_k_6 5), (zd_k_6 6), (zd_k_6 7), (zd_k_6 8), (zd_k_6 9), (zd_k_6 10), (zd_k_6 11), (zd_k_6 12), (zd_k_6 13), (zd_k_6 14), (zd_k_6 15), (zd_k_6 16), (zd_k_6 17), (zd_k_6 18), (zd_k_6 19), (zd_k_6 20), (zd_k_6 21), (zd_k_6 22), (zd_k_6 23), (zd_k_6 24), (zd_k_6 25), (zd_k_6 26), (zd_k_6 27), (zd_k_6 28), (zd_k_6 29), (zd_k_6 30), (zd_k_6 31), (zd_k_6 32), (zd_k_6 33), (zd_k_6 34), (zd_k_6 35), (zd_k_6 36), (zd_k_6 37), (zd_k_6 38), (zd_k_6 39), (zd_k_6 40), (zd_k_6 41)]))]) hP hD [0] [1, 2] rfl rfl (by decide) (by decide) hk1 hFc hP1 hD1
    have hK := (hK.sub (tys' := [(cK, .int), (cH, .int)]) [0, 1] rfl).app hK1
    have hP : va_P (dC, dI) kcl [(kq, .inl (cK, 32, .inl fk)), (hq, .inl (cH, 12, .inl fh)), (d, .inr (9, [.int 1, (zd_k_6 1), (zd_k_6 2), (zd_k_6 3), (zd_k_6 4), (zd_k_6 5), (zd_k_6 6), (zd_k_6 7), (zd_k_6 8), (zd_k_6 9), (zd_k_6 10), (zd_k_6 11), (zd_k_6 12), (zd_k_6 13), (zd_k_6 14), (zd_k_6 15), (zd_k_6 16), (zd_k_6 17), (zd_k_6 18), (zd_k_6 19), (zd_k_6 20), (zd_k_6 21), (zd_k_6 22), (zd_k_6 23), (zd_k_6 24), (zd_k_6 25), (zd_k_6 26), (zd_k_6 27), (zd_k_6 28), (zd_k_6 29), (zd_k_6 30), (zd_k_6 31), (zd_k_6 32), (zd_k_6 33), (zd_k_6 34), (zd_k_6 35), (zd_k_6 36), (zd_k_6 37), (zd_k_6 38), (zd_k_6 39), (zd_k_6 40), (zd_k_6 41)]))] H_7 := hP
    have hD : va_D A [(kq, .inl (cK, 32, .inl fk)), (hq, .inl (cH, 12, .inl fh)), (d, .inr (9, [.int 1, (zd_k_6 1), (zd_k_6 2), (zd_k_6 3), (zd_k_6 4), (zd_k_6 5), (zd_k_6 6), (zd_k_6 7), (zd_k_6 8), (zd_k_6 9), (zd_k_6 10), (zd_k_6 11), (zd_k_6 12), (zd_k_6 13), (zd_k_6 14), (zd_k_6 15), (zd_k_6 16), (zd_k_6 17), (zd_k_6 18), (zd_k_6 19), (zd_k_6 20), (zd_k_6 21), (zd_k_6 22), (zd_k_6 23), (zd_k_6 24), (zd_k_6 25), (zd_k_6 26), (zd_k_6 27), (zd_k_6 28), (zd_k_6 29), (zd_k_6 30), (zd_k_6 31), (zd_k_6 32), (zd_k_6 33), (zd_k_6 34), (zd_k_6 35), (zd_k_6 36), (zd_k_6 37), (zd_k_6 38), (zd_k_6 39), (zd_k_6 40), (zd_k_6 41)]))] := hD
    have hK : va_K (dC, dI) kcl [(cK, .int), (cH, .int)] s := hK
    refine lv_if_le (tgt := 45) hx hb d_D_same_38 (by decide) (fun c_8 => ?_) (fun c_8 => ?_)
    · refine lv_iconst (v := 0) hx hb d_D_same_45 (by decide) ?_
      have hP9 := hP.sub (ws' := [(d, .inr (9, [.int 1, (zd_k_6 1), (zd_k_6 2), (zd_k_6 3), (zd_k_6 4), (zd_k_6 5), (zd_k_6 6), (zd_k_6 7), (zd_k_6 8), (zd_k_6 9), (zd_k_6 10), (zd_k_6 11), (zd_k_6 12), (zd_k_6 13), (zd_k_6 14), (zd_k_6 15), (zd_k_6 16), (zd_k_6 17), (zd_k_6 18), (zd_k_6 19), (zd_k_6 20), (zd_k_6 21), (zd_k_6 22), (zd_k_6 23), (zd_k_6 24), (zd_k_6 25), (zd_k_6 26), (zd_k_6 27), (zd_k_6 28), (zd_k_6 29), (zd_k_6 30), (zd_k_6 31), (zd_k_6 32), (zd_k_6 33), (zd_k_6 34), (zd_k_6 35), (zd_k_6 36), (zd_k_6 37), (zd_k_6 38), (zd_k_6 39), (zd_k_6 40), (zd_k_6 41)]))]) [2] rfl
      have hD9 := hD.sub (ws' := [(d, .inr (9, [.int 1, (zd_k_6 1), (zd_k_6 2), (zd_k_6 3), (zd_k_6 4), (zd_k_6 5), (zd_k_6 6), (zd_k_6 7), (zd_k_6 8), (zd_k_6 9), (zd_k_6 10), (zd_k_6 11), (zd_k_6 12), (zd_k_6 13), (zd_k_6 14), (zd_k_6 15), (zd_k_6 16), (zd_k_6 17), (zd_k_6 18), (zd_k_6 19), (zd_k_6 20), (zd_k_6 21), (zd_k_6 22), (zd_k_6 23), (zd_k_6 24), (zd_k_6 25), (zd_k_6 26), (zd_k_6 27), (zd_k_6 28), (zd_k_6 29), (zd_k_6 30), (zd_k_6 31), (zd_k_6 32), (zd_k_6 33), (zd_k_6 34), (zd_k_6 35), (zd_k_6 36), (zd_k_6 37), (zd_k_6 38), (zd_k_6 39), (zd_k_6 40), (zd_k_6 41)]))]) [2] (by decide) rfl
      have hK9 := hK.sub (tys' := []) [] rfl
      exact W.zret (v := 0) hx hb hr rfl (fun t ht hW => ⟨⟨0, 1, rfl, rfl, ⟨(fun i => List.getD [Value.int (1 : Int32), (zd_k_6 1), (zd_k_6 2), (zd_k_6 3), (zd_k_6 4), (zd_k_6 5), (zd_k_6 6), (zd_k_6 7), (zd_k_6 8), (zd_k_6 9), (zd_k_6 10), (zd_k_6 11), (zd_k_6 12), (zd_k_6 13), (zd_k_6 14), (zd_k_6 15), (zd_k_6 16), (zd_k_6 17), (zd_k_6 18), (zd_k_6 19), (zd_k_6 20), (zd_k_6 21), (zd_k_6 22), (zd_k_6 23), (zd_k_6 24), (zd_k_6 25), (zd_k_6 26), (zd_k_6 27), (zd_k_6 28), (zd_k_6 29), (zd_k_6 30), (zd_k_6 31), (zd_k_6 32), (zd_k_6 33), (zd_k_6 34), (zd_k_6 35), (zd_k_6 36), (zd_k_6 37), (zd_k_6 38), (zd_k_6 39), (zd_k_6 40), (zd_k_6 41)] i Value.null), by rw [ht]; exact hP9, va_K.moved hW.alike hK9, hD9⟩⟩, hS.F ht⟩) hS.2.2 d_D_same_46
    · exact absurd (by decide) c_8
  · exact (tx_none2 (tx_if1 c_5)).elim
set_option maxHeartbeats 4000000 in
set_option maxRecDepth 100000 in
theorem c_D_clear (l : Launch) (dC : Nat → ClassId) (dI : Nat → Nat → Nat) (sz : Nat) (d kq hq : Nat) (cK cH : ClassId) (zd : Nat → Value) (fk fh : Nat → Int32) (hfk : ∀ j, j < 32 → fk j = -1) (t0 : Int32) : Met l y_D_clear ws_D_clear ({ frames := 0, cells := 0, slots := 0, locals := 0 }) (va_Pc [.ref d] (fun U => U.heap.size = sz ∧ va_P (dC, dI) kcl [(d, .inr (9, [.int t0, .ref kq, .int 0, .ref hq, .int 0, .int 0, (zd 6), (zd 7), (zd 8), (zd 9), (zd 10), (zd 11), .int 0, (zd 13), (zd 14), (zd 15), (zd 16), (zd 17), (zd 18), (zd 19), .int 0, (zd 21), (zd 22), (zd 23), (zd 24), (zd 25), (zd 26), (zd 27), (zd 28), (zd 29), (zd 30), (zd 31), .int 0, (zd 33), (zd 34), (zd 35), (zd 36), (zd 37), (zd 38), (zd 39), (zd 40), .int 0])), (kq, .inl (cK, 32, .inl fk)), (hq, .inl (cH, 12, .inl fh))] U.heap ∧ va_K (dC, dI) kcl [(cK, .int), (cH, .int)] U ∧ va_D (fun _ => True) [(d, .inr (9, [.int t0, .ref kq, .int 0, .ref hq, .int 0, .int 0, (zd 6), (zd 7), (zd 8), (zd 9), (zd 10), (zd 11), .int 0, (zd 13), (zd 14), (zd 15), (zd 16), (zd 17), (zd 18), (zd 19), .int 0, (zd 21), (zd 22), (zd 23), (zd 24), (zd 25), (zd 26), (zd 27), (zd 28), (zd 29), (zd 30), (zd 31), .int 0, (zd 33), (zd 34), (zd 35), (zd 36), (zd 37), (zd 38), (zd 39), (zd 40), .int 0])), (kq, .inl (cK, 32, .inl fk)), (hq, .inl (cH, 12, .inl fh))])) (va_Qi (fun (r _ : Int32) => r = 0) (fun (th : Int32) (t : State) => ∃ zd2 : Nat → Value, va_P (dC, dI) kcl [(d, .inr (9, [.int th, (zd2 1), (zd2 2), (zd2 3), (zd2 4), (zd2 5), (zd2 6), (zd2 7), (zd2 8), (zd2 9), (zd2 10), (zd2 11), (zd2 12), (zd2 13), (zd2 14), (zd2 15), (zd2 16), (zd2 17), (zd2 18), (zd2 19), (zd2 20), (zd2 21), (zd2 22), (zd2 23), (zd2 24), (zd2 25), (zd2 26), (zd2 27), (zd2 28), (zd2 29), (zd2 30), (zd2 31), (zd2 32), (zd2 33), (zd2 34), (zd2 35), (zd2 36), (zd2 37), (zd2 38), (zd2 39), (zd2 40), (zd2 41)]))] t.heap ∧ va_K (dC, dI) kcl [] t ∧ va_D (va_A [(d, .inr (9, [.int t0, .ref kq, .int 0, .ref hq, .int 0, .int 0, (zd 6), (zd 7), (zd 8), (zd 9), (zd 10), (zd 11), .int 0, (zd 13), (zd 14), (zd 15), (zd 16), (zd 17), (zd 18), (zd 19), .int 0, (zd 21), (zd 22), (zd 23), (zd 24), (zd 25), (zd 26), (zd 27), (zd 28), (zd 29), (zd 30), (zd 31), .int 0, (zd 33), (zd 34), (zd 35), (zd 36), (zd 37), (zd 38), (zd 39), (zd 40), .int 0])), (kq, .inl (cK, 32, .inl fk)), (hq, .inl (cH, 12, .inl fh))] sz) [(d, .inr (9, [.int th, (zd2 1), (zd2 2), (zd2 3), (zd2 4), (zd2 5), (zd2 6), (zd2 7), (zd2 8), (zd2 9), (zd2 10), (zd2 11), (zd2 12), (zd2 13), (zd2 14), (zd2 15), (zd2 16), (zd2 17), (zd2 18), (zd2 19), (zd2 20), (zd2 21), (zd2 22), (zd2 23), (zd2 24), (zd2 25), (zd2 26), (zd2 27), (zd2 28), (zd2 29), (zd2 30), (zd2 31), (zd2 32), (zd2 33), (zd2 34), (zd2 35), (zd2 36), (zd2 37), (zd2 38), (zd2 39), (zd2 40), (zd2 41)]))]) (va_A [(d, .inr (9, [.int t0, .ref kq, .int 0, .ref hq, .int 0, .int 0, (zd 6), (zd 7), (zd 8), (zd 9), (zd 10), (zd 11), .int 0, (zd 13), (zd 14), (zd 15), (zd 16), (zd 17), (zd 18), (zd 19), .int 0, (zd 21), (zd 22), (zd 23), (zd 24), (zd 25), (zd 26), (zd 27), (zd 28), (zd 29), (zd 30), (zd 31), .int 0, (zd 33), (zd 34), (zd 35), (zd 36), (zd 37), (zd 38), (zd 39), (zd 40), .int 0])), (kq, .inl (cK, 32, .inl fk)), (hq, .inl (cH, 12, .inl fh))] sz)) 0 0 (va_A [(d, .inr (9, [.int t0, .ref kq, .int 0, .ref hq, .int 0, .int 0, (zd 6), (zd 7), (zd 8), (zd 9), (zd 10), (zd 11), .int 0, (zd 13), (zd 14), (zd 15), (zd 16), (zd 17), (zd 18), (zd 19), .int 0, (zd 21), (zd 22), (zd 23), (zd 24), (zd 25), (zd 26), (zd 27), (zd 28), (zd 29), (zd 30), (zd 31), .int 0, (zd 33), (zd 34), (zd 35), (zd 36), (zd 37), (zd 38), (zd 39), (zd 40), .int 0])), (kq, .inl (cK, 32, .inl fk)), (hq, .inl (cH, 12, .inl fh))] sz) := by
  refine Met.ofW (cc := b_D_clear) (maxL := 2) (ret := (Option.some Jvm.ClassFile.FieldType.int)) (by decide) rfl ?_
  intro p e s m args below meth c s₁ B hml hv
  obtain ⟨rfl, hsz, hP, hK, hD0⟩ := hv
  have hx := B.exec
  have hb := B.bytes
  have hr := B.returns
  have hlocks := B.notSynchronized
  have hg : ∀ w ∈ gw, w.before _ s = true := fun w h => atoms_spec (ws := ws_D_clear) B.pre w (List.mem_cons_of_mem _ h)
  have hown : s.vm.findClass "TreeMatcherModel" = some m.cls := findClass_of_methodNamed B.named
  subst hsz
  have hD := hD0.self (sz := s.heap.size)
  have hA : ∀ q : Nat, s.heap.size ≤ q → va_A [(d, .inr (9, [.int t0, .ref kq, .int 0, .ref hq, .int 0, .int 0, (zd 6), (zd 7), (zd 8), (zd 9), (zd 10), (zd 11), .int 0, (zd 13), (zd 14), (zd 15), (zd 16), (zd 17), (zd 18), (zd 19), .int 0, (zd 21), (zd 22), (zd 23), (zd 24), (zd 25), (zd 26), (zd 27), (zd 28), (zd 29), (zd 30), (zd 31), .int 0, (zd 33), (zd 34), (zd 35), (zd 36), (zd 37), (zd 38), (zd 39), (zd 40), .int 0])), (kq, .inl (cK, 32, .inl fk)), (hq, .inl (cH, 12, .inl fh))] s.heap.size q := fun q h => Or.inr h
  generalize hAe : va_A [(d, .inr (9, [.int t0, .ref kq, .int 0, .ref hq, .int 0, .int 0, (zd 6), (zd 7), (zd 8), (zd 9), (zd 10), (zd 11), .int 0, (zd 13), (zd 14), (zd 15), (zd 16), (zd 17), (zd 18), (zd 19), .int 0, (zd 21), (zd 22), (zd 23), (zd 24), (zd 25), (zd 26), (zd 27), (zd 28), (zd 29), (zd 30), (zd 31), .int 0, (zd 33), (zd 34), (zd 35), (zd 36), (zd 37), (zd 38), (zd 39), (zd 40), .int 0])), (kq, .inl (cK, 32, .inl fk)), (hq, .inl (cH, 12, .inl fh))] s.heap.size = A at hD hA ⊢
  have hS : va_S A s.heap s.heap [] := va_S.rf
  have hl := lv_entry ([.ref d] : List Value) (n := 2) (Nat.le_of_ble_eq_true rfl)
  rw [lg_entry_eq]
  generalize (lg_sl ([.ref d] : List Value) ++ List.replicate (2 - (lg_sl ([.ref d] : List Value)).length) Slot.unset).toArray = ls at hl ⊢
  have hl : lv_has ls 2 [(0, .ref d)] := hl
  refine lv_aload_n hx hb d_D_clear_0 rfl (lv_at hl 0 rfl) ?_
  refine lv_iconst (v := 0) hx hb d_D_clear_1 (by decide) ?_
  refine va_put (D := (dC, dI)) (ci := 9) (v := .int 0) (ty := .int) (C := kR_D) (T := kT_D) (N := 42) hx hb hg kin_D kt_D kty_D knm_D hown hK hP hD hS 0 rfl rfl 0 (by decide) (hg _ tw_817) (fun _ h9 => h9) rfl (by decide +kernel) rfl rfl (Nat.le_of_ble_eq_true rfl) d_D_clear_2 (fun H_1 lo_2 hP hD hS => ?_)
  have hP : va_P (dC, dI) kcl [(d, .inr (9, [.int 0, .ref kq, .int 0, .ref hq, .int 0, .int 0, (zd 6), (zd 7), (zd 8), (zd 9), (zd 10), (zd 11), .int 0, (zd 13), (zd 14), (zd 15), (zd 16), (zd 17), (zd 18), (zd 19), .int 0, (zd 21), (zd 22), (zd 23), (zd 24), (zd 25), (zd 26), (zd 27), (zd 28), (zd 29), (zd 30), (zd 31), .int 0, (zd 33), (zd 34), (zd 35), (zd 36), (zd 37), (zd 38), (zd 39), (zd 40), .int 0])), (kq, .inl (cK, 32, .inl fk)), (hq, .inl (cH, 12, .inl fh))] H_1 := hP
  have hD : va_D A [(d, .inr (9, [.int 0, .ref kq, .int 0, .ref hq, .int 0, .int 0, (zd 6), (zd 7), (zd 8), (zd 9), (zd 10), (zd 11), .int 0, (zd 13), (zd 14), (zd 15), (zd 16), (zd 17), (zd 18), (zd 19), .int 0, (zd 21), (zd 22), (zd 23), (zd 24), (zd 25), (zd 26), (zd 27), (zd 28), (zd 29), (zd 30), (zd 31), .int 0, (zd 33), (zd 34), (zd 35), (zd 36), (zd 37), (zd 38), (zd 39), (zd 40), .int 0])), (kq, .inl (cK, 32, .inl fk)), (hq, .inl (cH, 12, .inl fh))] := hD
  refine lv_aload_n hx hb d_D_clear_5 rfl (lv_at hl 0 rfl) ?_
  refine va_get (D := (dC, dI)) (ci := 9) (v := .int 0) (C := kR_D) (T := kT_D) (N := 42) hx hb hg kin_D hown hK hP 0 rfl rfl 12 (by decide) (hg _ tw_829) (fun _ h9 => h9) rfl d_D_clear_6 ?_
  refine lv_istore_n (lv' := [(1, .int 0), (0, .ref d)]) hx hb d_D_clear_9 rfl hl (by decide) rfl (fun ls hl => ?_)
  refine lv_aload_n hx hb d_D_clear_10 rfl (lv_at hl 1 rfl) ?_
  refine lv_iconst (v := 0) hx hb d_D_clear_11 (by decide) ?_
  refine va_put (D := (dC, dI)) (ci := 9) (v := .int 0) (ty := .int) (C := kR_D) (T := kT_D) (N := 42) hx hb hg kin_D kt_D kty_D knm_D hown hK hP hD hS 0 rfl rfl 12 (by decide) (hg _ tw_829) (fun _ h9 => h9) rfl (by decide +kernel) rfl rfl (Nat.le_of_ble_eq_true rfl) d_D_clear_12 (fun H_3 lo_4 hP hD hS => ?_)
  have hP : va_P (dC, dI) kcl [(d, .inr (9, [.int 0, .ref kq, .int 0, .ref hq, .int 0, .int 0, (zd 6), (zd 7), (zd 8), (zd 9), (zd 10), (zd 11), .int 0, (zd 13), (zd 14), (zd 15), (zd 16), (zd 17), (zd 18), (zd 19), .int 0, (zd 21), (zd 22), (zd 23), (zd 24), (zd 25), (zd 26), (zd 27), (zd 28), (zd 29), (zd 30), (zd 31), .int 0, (zd 33), (zd 34), (zd 35), (zd 36), (zd 37), (zd 38), (zd 39), (zd 40), .int 0])), (kq, .inl (cK, 32, .inl fk)), (hq, .inl (cH, 12, .inl fh))] H_3 := hP
  have hD : va_D A [(d, .inr (9, [.int 0, .ref kq, .int 0, .ref hq, .int 0, .int 0, (zd 6), (zd 7), (zd 8), (zd 9), (zd 10), (zd 11), .int 0, (zd 13), (zd 14), (zd 15), (zd 16), (zd 17), (zd 18), (zd 19), .int 0, (zd 21), (zd 22), (zd 23), (zd 24), (zd 25), (zd 26), (zd 27), (zd 28), (zd 29), (zd 30), (zd 31), .int 0, (zd 33), (zd 34), (zd 35), (zd 36), (zd 37), (zd 38), (zd 39), (zd 40), .int 0])), (kq, .inl (cK, 32, .inl fk)), (hq, .inl (cH, 12, .inl fh))] := hD
  refine lv_aload_n hx hb d_D_clear_15 rfl (lv_at hl 1 rfl) ?_
  refine lv_iconst (v := 0) hx hb d_D_clear_16 (by decide) ?_
  refine va_put (D := (dC, dI)) (ci := 9) (v := .int 0) (ty := .int) (C := kR_D) (T := kT_D) (N := 42) hx hb hg kin_D kt_D kty_D knm_D hown hK hP hD hS 0 rfl rfl 20 (by decide) (hg _ tw_837) (fun _ h9 => h9) rfl (by decide +kernel) rfl rfl (Nat.le_of_ble_eq_true rfl) d_D_clear_17 (fun H_5 lo_6 hP hD hS => ?_)
  have hP : va_P (dC, dI) kcl [(d, .inr (9, [.int 0, .ref kq, .int 0, .ref hq, .int 0, .int 0, (zd 6), (zd 7), (zd 8), (zd 9), (zd 10), (zd 11), .int 0, (zd 13), (zd 14), (zd 15), (zd 16), (zd 17), (zd 18), (zd 19), .int 0, (zd 21), (zd 22), (zd 23), (zd 24), (zd 25), (zd 26), (zd 27), (zd 28), (zd 29), (zd 30), (zd 31), .int 0, (zd 33), (zd 34), (zd 35), (zd 36), (zd 37), (zd 38), (zd 39), (zd 40), .int 0])), (kq, .inl (cK, 32, .inl fk)), (hq, .inl (cH, 12, .inl fh))] H_5 := hP
  have hD : va_D A [(d, .inr (9, [.int 0, .ref kq, .int 0, .ref hq, .int 0, .int 0, (zd 6), (zd 7), (zd 8), (zd 9), (zd 10), (zd 11), .int 0, (zd 13), (zd 14), (zd 15), (zd 16), (zd 17), (zd 18), (zd 19), .int 0, (zd 21), (zd 22), (zd 23), (zd 24), (zd 25), (zd 26), (zd 27), (zd 28), (zd 29), (zd 30), (zd 31), .int 0, (zd 33), (zd 34), (zd 35), (zd 36), (zd 37), (zd 38), (zd 39), (zd 40), .int 0])), (kq, .inl (cK, 32, .inl fk)), (hq, .inl (cH, 12, .inl fh))] := hD
  refine lv_iload_n hx hb d_D_clear_20 rfl (lv_at hl 0 rfl) ?_
  have hP9 := hP.sub (ws' := [(d, .inr (9, [.int 0, .ref kq, .int 0, .ref hq, .int 0, .int 0, (zd 6), (zd 7), (zd 8), (zd 9), (zd 10), (zd 11), .int 0, (zd 13), (zd 14), (zd 15), (zd 16), (zd 17), (zd 18), (zd 19), .int 0, (zd 21), (zd 22), (zd 23), (zd 24), (zd 25), (zd 26), (zd 27), (zd 28), (zd 29), (zd 30), (zd 31), .int 0, (zd 33), (zd 34), (zd 35), (zd 36), (zd 37), (zd 38), (zd 39), (zd 40), .int 0]))]) [0] rfl
  have hD9 := hD.sub (ws' := [(d, .inr (9, [.int 0, .ref kq, .int 0, .ref hq, .int 0, .int 0, (zd 6), (zd 7), (zd 8), (zd 9), (zd 10), (zd 11), .int 0, (zd 13), (zd 14), (zd 15), (zd 16), (zd 17), (zd 18), (zd 19), .int 0, (zd 21), (zd 22), (zd 23), (zd 24), (zd 25), (zd 26), (zd 27), (zd 28), (zd 29), (zd 30), (zd 31), .int 0, (zd 33), (zd 34), (zd 35), (zd 36), (zd 37), (zd 38), (zd 39), (zd 40), .int 0]))]) [0] (by decide) rfl
  have hK9 := hK.sub (tys' := []) [] rfl
  exact W.iret (v := 0) hx hb hr (fun t ht hW => ⟨⟨0, 0, rfl, rfl, ⟨(fun i => List.getD [Value.int (0 : Int32), Value.ref kq, Value.int (0 : Int32), Value.ref hq, Value.int (0 : Int32), Value.int (0 : Int32), (zd 6), (zd 7), (zd 8), (zd 9), (zd 10), (zd 11), Value.int (0 : Int32), (zd 13), (zd 14), (zd 15), (zd 16), (zd 17), (zd 18), (zd 19), Value.int (0 : Int32), (zd 21), (zd 22), (zd 23), (zd 24), (zd 25), (zd 26), (zd 27), (zd 28), (zd 29), (zd 30), (zd 31), Value.int (0 : Int32), (zd 33), (zd 34), (zd 35), (zd 36), (zd 37), (zd 38), (zd 39), (zd 40), Value.int (0 : Int32)] i Value.null), by rw [ht]; exact hP9, va_K.moved hW.alike hK9, hD9⟩⟩, hS.F ht⟩) hS.2.2 d_D_clear_21
end
