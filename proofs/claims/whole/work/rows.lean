section
/-! A METHOD THAT MAY END IN A THROW; a call of it; the throw of a new exception with a literal; its catch -/
section TX1
variable {l : Launch}
/-- what a method leaves, however it ends -/
def tx_E (st t : State) (L : List Loc) (k n : Nat) : Prop := st.WarmedH t.vm ∧ st.sameButNew ({ t with vm := st.vm } : State) L k n
def tx_Met (l : Launch) (y : MethodName) (ws : List Cond) (rm : Room) (Pc : Array Value → State → Prop) (Qc : Array Value → State → Outcome → State → Prop) (mc ms : Nat) (free : Addr → Prop) : Prop :=
  MetFree l y (headSpec ws rm) Pc (fun _ _ _ _ _ => True) (fun a st o t => Qc a st o t ∧ ∃ L, tx_E st t L mc ms ∧ ∀ q ∈ L, free q.base)
def tx_MQ (below : List Frame) (Qc : Array Value → State → Outcome → State → Prop) (a : Array Value) (s : State) (mc ms : Nat) (free : Addr → Prop) : State → Prop := fun t =>
  ∃ o, t.status = .running ∧ Ended t below o ∧ Qc a s o t ∧ ∃ L, tx_E s t L mc ms ∧ ∀ q ∈ L, free q.base
/-- a walk of the body gives the contract -/
theorem tx_ofW {y : MethodName} {ws ws' : List Cond} {rm : Room} {Pc : Array Value → State → Prop} {Qc : Array Value → State → Outcome → State → Prop} {mc ms : Nat} {free : Addr → Prop} {cc : ByteArray} {maxL : Nat} {ret : Option FieldType}
    (hy : plainName y.cls = true) (hw : ws = Cond.code y cc maxL ret :: ws')
    (body : ∀ p e s m args below meth c s₁, BodyLoose p l y (headSpec ws rm) cc maxL ret e s m args below meth c s₁ → c.maxLocals = maxL → (∀ z ∈ c.exceptionTable.toList, ∀ pc, covers z pc = false) → l.admits e → Pc args s →
      W p l e (headSpec ws rm).room s m args below meth c s.heap [] 0 0 (tx_MQ below Qc args s mc ms free) (entryFrame m args maxL)) : tx_Met l y ws rm Pc Qc mc ms free := by
  refine MetFree.of_bodyS (code := cc) (maxLocals := maxL) (ret := ret) hy ?_ ?_
  · intro args s m h hn
    obtain ⟨meth, c, h1, h2, h3, h4, h5, h6, -, -⟩ := Cond.code_spec hn (atoms_spec (ws := ws) h _ (by rw [hw]; exact List.mem_cons_self))
    exact ⟨meth, c, h1, h2, h3, h4, h5, h6⟩
  · intro p e s m args below meth c s₁ B hml hP _
    have hh0 : s₁.heap = s.heap := by rw [B.state]; rfl
    have X := Stand.of_body B
    obtain ⟨meth', c', g1, g2, -, -, -, -, hempty, -⟩ := Cond.code_spec B.named (atoms_spec (ws := ws) B.pre _ (by rw [hw]; exact List.mem_cons_self))
    have hcc : c' = c := by
      cases X.method.symm.trans g1
      exact Option.some.inj (g2.symm.trans X.code)
    subst hcc
    have h0 : c'.exceptionTable.toList = [] := List.eq_nil_of_length_eq_zero (by simpa [Array.isEmpty] using hempty)
    obtain ⟨t, a1, o, b1, b2, b3⟩ := body p e s m args below meth c' s₁ B hml (fun z hz => by rw [h0] at hz; cases hz) X.admits hP s₁ hh0 X
    exact ⟨t, o, a1, b1, b2, ⟨b3.1, b3.2⟩⟩
end TX1
section TX2
variable {p : Program} {l : Launch} {e : Env} {R : Room} {s : State} {m : MethodId} {args : Array Value} {below : List Frame} {meth : Method} {c : Code} {H : Heap} {locs : List Loc} {cells slots : Nat} {Q : State → Prop}
theorem tx_mono {Q' : State → Prop} {g : JFrame} (h : W p l e R s m args below meth c H locs cells slots Q g) (hq : ∀ t, Q t → Q' t) : W p l e R s m args below meth c H locs cells slots Q' g := by
  intro T hT X
  obtain ⟨t, a, b⟩ := h T hT X
  exact ⟨t, a, hq t b⟩
/-- a return of a method that might have thrown -/
theorem tx_ret {Qc : Array Value → State → Outcome → State → Prop} {mc ms : Nat} {free : Addr → Prop} {g : JFrame} (h : W p l e R s m args below meth c H locs cells slots (MQ below Qc args s mc ms free) g) : W p l e R s m args below meth c H locs cells slots (tx_MQ below Qc args s mc ms free) g :=
  tx_mono h (fun t ⟨o, h1, h2, h3, L, hF, hL⟩ => ⟨o, h1, h2, h3, L, ⟨hF.2.1, hF.2.2⟩, hL⟩)
/-- a Met of a method that never throws, where one that may throw is wanted -/
theorem tx_ofMet {y : MethodName} {ws : List Cond} {rm : Room} {Pc : Array Value → State → Prop} {Qc : Array Value → State → Outcome → State → Prop} {mc ms : Nat} {free : Addr → Prop} (h : Met l y ws rm Pc Qc mc ms free) : tx_Met l y ws rm Pc Qc mc ms free := by
  intro p e ha hc hk s m args below hf happ hP hK
  obtain ⟨n, o, h1, h2, h3, h4, L, hF, hL⟩ := h p e ha hc hk s m args below hf happ hP hK
  exact ⟨n, o, h1, h2, h3, h4, L, ⟨hF.2.1, hF.2.2⟩, hL⟩
/-- the machine with the note 'x is being thrown' over the frame g comes to a state with Q -/
def tx_WT (p : Program) (l : Launch) (e : Env) (R : Room) (s : State) (m : MethodId) (args : Array Value) (below : List Frame) (meth : Method) (c : Code) (H : Heap) (locs : List Loc) (cells slots : Nat) (Q : State → Prop) (g : JFrame) (x : Addr) : Prop :=
  ∀ T : State, T.heap = H → Stand p l e R s m args below meth c T locs cells slots → ∃ t, Steps p.tables e below ((T.setTop g).pushFrame (.throwing x)) t ∧ Q t
/-- no handler covers the place: the method ends so -/
theorem tx_leave {Qc : Array Value → State → Outcome → State → Prop} {free : Addr → Prop} {x : Addr} {g : JFrame} (hg : g.method = m) (hlocked : g.locked = none) (hentered : g.entered = []) (hlocks : meth.locks = false) (hout : ∀ z ∈ c.exceptionTable.toList, ∀ pc, covers z pc = false)
    (hq : ∀ t : State, t.heap = H → s.WarmedH t.vm → Qc args s (.threw x) t) (hf : ∀ q ∈ locs, free q.base) : tx_WT p l e R s m args below meth c H locs cells slots (tx_MQ below Qc args s cells slots free) g x := by
  intro T hT X
  obtain ⟨h1, h2, h3, h4, h5⟩ := X.leaveThrown x hg hlocked hentered (fun z hz => hout z hz g.pc) hlocks
  exact ⟨_, h1, _, h2, h3, hq _ hT h4, locs, ⟨h4, h5⟩, hf⟩
end TX2
end
section
/-! A CATCH, its class resolved already or not yet -/
section TX3
variable {e : Env} {s : State} {f : JFrame} {a : Addr}
theorem tx_go {E : CtlPost} {d : Bool} {acts : List Action} {Q : Handler → Pre} {x : ExceptionTableEntry} {t : List ExceptionTableEntry} {c : ClassId} {cell : Cell} {vm' : Vm} (hx : covers x f.pc = true) (h0 : x.catchType ≠ 0)
    (hg : (resolveClass f.method.cls x.catchType).Gives e.toSetting s.vm (.ok c) vm') (hsz : vm'.classes.size ≤ s.vm.classes.size) (hcell : s.heap[a]? = some cell) (hobj : ∀ k, cell.vm ≠ .statics k)
    (hk : ∃ k, vm'.classes[cell.cls]? = some k) (hc : ∃ k, vm'.classes[c]? = some k) :
    wp (findHandler.go f a (x :: t)) Q E e d acts s ↔ if vm'.assignable cell.cls c = true then Q (.found x.handlerPc) d acts (s.setVm vm') else wp (findHandler.go f a t) Q E e d acts (s.setVm vm') := by
  simp only [covers] at hx
  obtain ⟨ha, ht⟩ := hg.op (op := VmOp.resolveClass f.method.cls x.catchType) rfl
  cases hfit : vm'.assignable cell.cls c <;>
    simp [findHandler.go, hx, h0, ha, ht, hsz, hcell, hobj, hk, hc, hfit, VmOp.dirties, VmOp.acts]
/-- what the search gives, and the tables that it leaves -/
def tx_Finds (e : Env) (s : State) (f : JFrame) (a : Addr) (h : Handler) (vm' : Vm) : Prop :=
  ∀ (Q : Handler → Pre) (E : CtlPost) (d : Bool) (acts : List Action), wp (findHandler f a) Q E e d acts s ↔ Q h d acts (s.setVm vm')
theorem tx_stepCatch {r : List Frame} {pc : Nat} {vm' : Vm} (hfind : tx_Finds e s f a (.found pc) vm') :
    (stepThrowing e s a (.java f :: r)).Is ((s.setVm vm').setFrames (.java { f with pc := pc, stack := [.ref a] } :: r)) [] := by
  simp only [stepThrowing, searchFrame, vmDo]
  generalize hr : Sem.go _ e false [] s = res
  obtain ⟨as, rfl, ha⟩ := Sem.eq_ok_of hr (a := Handler.found pc) (s' := s.setVm vm') (acts' := []) (by simp [hfind _ _ _ _])
  exact ⟨rfl, ha⟩
theorem tx_caught {tb : Tables} {target : State} {g : JFrame} {c : Code} {below : List Frame} {vm' : Vm} (h : At s g.method c below) {pc : Nat} (hfind : tx_Finds e ((s.setTop g).pushFrame (.throwing a)) g a (.found pc) vm')
    (hrest : Steps tb e below ((s.setVm vm').setTop { g with pc := pc, stack := [.ref a] }) target) :
    Steps tb e below ((s.setTop g).pushFrame (.throwing a)) target := by
  obtain ⟨hgo, hw⟩ := h.throwing a
  refine Steps.head hgo hw ?_
  rw [stepThread_throwing (frames_entered h.top _), (tx_stepCatch (s := (s.setTop g).pushFrame (.throwing a)) hfind).1]
  obtain ⟨g₀, hg⟩ := Option.isSome_iff_exists.mp h.top
  obtain ⟨r, hr⟩ := State.topJava?_eq_some.mp hg
  have hr' : (s.setVm vm').frames = .java g₀ :: r := hr
  rw [State.setTop_of_frames _ hr'] at hrest
  rw [hr, State.pushFrame, State.setTop_of_frames _ hr, State.setFrames_setFrames]
  have e1 : ((s.setFrames (.throwing a :: (s.setFrames (.java g :: r)).frames)).setVm vm').setFrames (.java { g with pc := pc, stack := [.ref a] } :: r) = (s.setVm vm').setFrames (.java { g with pc := pc, stack := [.ref a] } :: r) := by
    rw [show (s.setFrames (.throwing a :: (s.setFrames (.java g :: r)).frames)).setVm vm' = (s.setVm vm').setFrames (.throwing a :: (s.setFrames (.java g :: r)).frames) from rfl, State.setFrames_setFrames]
  first
    | exact e1 ▸ hrest
    | (rw [e1]; exact hrest)
    | exact hrest
end TX3
section TX4
variable {p : Program} {l : Launch} {e : Env} {R : Room} {s : State} {m : MethodId} {args : Array Value} {below : List Frame} {meth : Method} {c : Code} {T : State} {locs : List Loc} {cells slots : Nat}
/-- a row's class, resolved from the point T with tables vm -/
theorem tx_link (hpl : e.platform.magicAccessors = ({} : Platform).magicAccessors) {vm : Vm} (hw : s.WarmedH vm) {own C : String} {ix : Nat} (hown : s.vm.findClass own = some m.cls) (hlink : (Cond.classLink own ix C).before args s = true) {cC : ClassId} (hC : s.vm.findClass C = some cC) :
    ∃ vm', s.WarmedH vm' ∧ (resolveClass m.cls ix).Gives e.toSetting vm (.ok cC) vm' ∧ vm'.classes.size ≤ vm.classes.size := by
  obtain ⟨c', hc', hcl⟩ := Cond.classLink_spec hown hlink e.platform hpl
  cases hC.symm.trans hc'
  obtain ⟨dk, _, _, kt, hd, _, _, _, _, hkt, _, hopen⟩ := hcl.here
  have hcl₀ := hw.classLinks hcl
  exact ⟨_, hw.noted hd hopen (State.rightAt_cls hcl), resolveClass_links e.toSetting hcl₀, Nat.le_of_eq (by rw [Vm.size_noted])⟩
theorem tx_catch1 (X : Stand p l e R s m args below meth c T locs cells slots) {own C : String} {ix hpc : Nat} {x : ExceptionTableEntry} {rest : List ExceptionTableEntry} {g : JFrame} (hg : g.method = m) (htab : c.exceptionTable.toList = x :: rest) (hcov : covers x g.pc = true) (hix : x.catchType = ix) (hne : ix ≠ 0) (hh : x.handlerPc = hpc)
    (hown : s.vm.findClass own = some m.cls) (hlink : (Cond.classLink own ix C).before args s = true) {a : Addr} {cell : Cell} (hcell : T.heap[a]? = some cell) (hobj : cell.vm.isStatics = false) (hcls : s.vm.findClass C = some cell.cls) (hself : s.vm.assignable cell.cls cell.cls = true) :
    ∃ vm', s.WarmedH vm' ∧ ∀ tg, Steps p.tables e below ((T.setVm vm').setTop { g with pc := hpc, stack := [.ref a] }) tg → Steps p.tables e below ((T.setTop g).pushFrame (.throwing a)) tg := by
  have hpl : e.platform.magicAccessors = ({} : Platform).magicAccessors := by rw [X.admits.platform]
  obtain ⟨vm', hW', hgv, hsz⟩ := tx_link (e := e) hpl X.warmed hown hlink hcls
  refine ⟨vm', hW', fun tg hrest => ?_⟩
  have h : At T g.method c below := by rw [hg]; exact X.here
  obtain ⟨k, hk⟩ := Vm.classAt_of_findClass hcls
  obtain ⟨k', hk', -⟩ := hW'.alike.2.2 _ _ hk
  refine tx_caught h (vm' := vm') (pc := hpc) ?_ hrest
  intro Q E d acts
  have hm : ((T.setTop g).pushFrame (.throwing a)).vm.method? g.method = some meth := by rw [throwing_vm, hg]; exact X.method'
  rw [Jvm.W.findHandler_eq hm X.code, htab]
  rw [tx_go (c := cell.cls) (cell := cell) (vm' := vm') hcov (by rw [hix]; exact hne) (by rw [hg, hix, throwing_vm]; exact hgv) (by rw [throwing_vm]; exact hsz) (by rw [throwing_heap]; exact hcell) (fun z h => by rw [h] at hobj; cases hobj) ⟨k', hk'⟩ ⟨k', hk'⟩]
  rw [if_pos (by rw [hW'.alike.assignable]; exact hself), hh]
theorem tx_catch2 (X : Stand p l e R s m args below meth c T locs cells slots) {own C C0 : String} {ix ix0 hpc : Nat} {x0 x : ExceptionTableEntry} {rest : List ExceptionTableEntry} {g : JFrame} (hg : g.method = m) (htab : c.exceptionTable.toList = x0 :: x :: rest) (hcov0 : covers x0 g.pc = true) (hix0 : x0.catchType = ix0) (hne0 : ix0 ≠ 0) (hcov : covers x g.pc = true) (hix : x.catchType = ix) (hne : ix ≠ 0) (hh : x.handlerPc = hpc)
    (hown : s.vm.findClass own = some m.cls) (hlink0 : (Cond.classLink own ix0 C0).before args s = true) (hlink : (Cond.classLink own ix C).before args s = true) {a : Addr} {cell : Cell} {c0 : ClassId} (hcell : T.heap[a]? = some cell) (hobj : cell.vm.isStatics = false) (hcls : s.vm.findClass C = some cell.cls) (hself : s.vm.assignable cell.cls cell.cls = true) (hcls0 : s.vm.findClass C0 = some c0) (hnot : s.vm.assignable cell.cls c0 = false) :
    ∃ vm', s.WarmedH vm' ∧ ∀ tg, Steps p.tables e below ((T.setVm vm').setTop { g with pc := hpc, stack := [.ref a] }) tg → Steps p.tables e below ((T.setTop g).pushFrame (.throwing a)) tg := by
  have hpl : e.platform.magicAccessors = ({} : Platform).magicAccessors := by rw [X.admits.platform]
  obtain ⟨vm0, hW0, hgv0, hsz0⟩ := tx_link (e := e) hpl X.warmed hown hlink0 hcls0
  obtain ⟨vm', hW', hgv, hsz⟩ := tx_link (e := e) hpl hW0 hown hlink hcls
  refine ⟨vm', hW', fun tg hrest => ?_⟩
  have h : At T g.method c below := by rw [hg]; exact X.here
  obtain ⟨k, hk⟩ := Vm.classAt_of_findClass hcls
  obtain ⟨k', hk', -⟩ := hW'.alike.2.2 _ _ hk
  obtain ⟨k1, hk1, -⟩ := hW0.alike.2.2 _ _ hk
  obtain ⟨j, hj⟩ := Vm.classAt_of_findClass hcls0
  obtain ⟨j1, hj1, -⟩ := hW0.alike.2.2 _ _ hj
  refine tx_caught h (vm' := vm') (pc := hpc) ?_ hrest
  intro Q E d acts
  have hm : ((T.setTop g).pushFrame (.throwing a)).vm.method? g.method = some meth := by rw [throwing_vm, hg]; exact X.method'
  rw [Jvm.W.findHandler_eq hm X.code, htab]
  rw [tx_go (c := c0) (cell := cell) (vm' := vm0) hcov0 (by rw [hix0]; exact hne0) (by rw [hg, hix0, throwing_vm]; exact hgv0) (by rw [throwing_vm]; exact hsz0) (by rw [throwing_heap]; exact hcell) (fun z h => by rw [h] at hobj; cases hobj) ⟨k1, hk1⟩ ⟨j1, hj1⟩]
  rw [if_neg (by rw [hW0.alike.assignable, hnot]; decide)]
  rw [tx_go (c := cell.cls) (cell := cell) (vm' := vm') hcov (by rw [hix]; exact hne) (by rw [hg, hix]; exact hgv) hsz (by
      have q : (((T.setTop g).pushFrame (.throwing a)).setVm vm0).heap = T.heap := throwing_heap T g a
      rw [q]; exact hcell) (fun z h => by rw [h] at hobj; cases hobj) ⟨k', hk'⟩ ⟨k', hk'⟩]
  rw [if_pos (by rw [hW'.alike.assignable]; exact hself), hh]
  exact Iff.rfl
end TX4
end
section
/-! A CALL OF A METHOD THAT MAY THROW; a throw of a new exception -/
section TX5
variable {p : Program} {l : Launch} {e : Env} {R : Room} {s : State} {m : MethodId} {args : Array Value} {below : List Frame} {meth : Method} {c : Code} {T : State} {locs : List Loc} {cells slots : Nat}
/-- where the caller stands behind the call: on, with the value; or with the note that x is thrown -/
def tx_on (p : Program) (e : Env) (below : List Frame) (S0 T' : State) (g : JFrame) (len : Nat) (o : Outcome) : Prop := match o with
  | .returned v => Steps p.tables e below S0 (T'.setTop { g with pc := g.pc + len, stack := v.toList ++ g.stack })
  | .threw x => Steps p.tables e below S0 ((T'.setTop g).pushFrame (.throwing x))
theorem tx_back (X : Stand p l e R s m args below meth c T locs cells slots) {y : MethodName} {ws : List Cond} {rm : Room} {Pc : Array Value → State → Prop} {Qc : Array Value → State → Outcome → State → Prop} {mc ms : Nat} {free : Addr → Prop} {bytes : ByteArray} {maxL : Nat} {ret : Option FieldType}
    (hM : tx_Met l y ws rm Pc Qc mc ms free) (hbl : FrameBlind Pc) (hrc : rm.cells = mc) (hrs : rm.slots = ms) (hframes : rm.frames + 1 ≤ R.frames) (hlocals : 8 + (maxL + 11) + rm.locals ≤ R.locals)
    (hws : ∀ w ∈ ws, ∀ (a' : Array Value) (U : State), s.WarmedH U.vm → w.before a' U = true) (hcode : Cond.code y bytes maxL ret ∈ ws) (hinit : ∀ (a' : Array Value) (U : State), s.WarmedH U.vm → (Cond.initialized y.cls).before a' U = true)
    (hf : cells + mc ≤ R.cells ∧ slots + ms ≤ R.slots) {g : JFrame} (hg : g.method = m) (hsize : g.locals.size = c.maxLocals) {ig : Instr} {len : Nat} (hdg : decode c.code g.pc = .ok (ig, len)) (hW : 2 * g.monitorRoom + (g.stack.map fun v => v.category).sum ≤ 8)
    {mk : MethodId} (hn : T.methodNamed? y = some mk) {a : Array Value} (hPc : Pc a T) :
    ∃ (o : Outcome) (t T' : State) (L : List Loc), Stand p l e R s m args below meth c T' (locs ++ L) (cells + mc) (slots + ms) ∧ (∀ q ∈ L, free q.base) ∧ T'.heap = t.heap ∧ T'.vm = t.vm ∧ Qc a (T.calling g mk a) o t ∧ tx_on p e below (doInvoke e (T.setTop g) [] mk a).1 T' g len o := by
  have h2 := hws _ hcode a T X.warmed
  obtain ⟨methY, cY, hmY, hcY, -, hlY, -, -, -, -⟩ := Cond.code_spec hn h2
  obtain ⟨kY, hkY, -⟩ := className_of_methodNamed hn
  have hinitY : kY.init = .initialized := Cond.initialized_spec (findClass_of_methodNamed hn) hkY (hinit a T X.warmed)
  have h : At T g.method c below := by rw [hg]; exact X.here
  have happ : (headSpec ws rm).appliesLoose y e.platform (T.calling g mk a) = true :=
    Spec.appliesLoose_calling (g := g) h hdg hn hkY hinitY
      (X.room_calling (g := g) (R' := (headSpec ws rm).room) hsize hmY hcY hframes (by rw [hlY]; show _ + rm.locals ≤ _; omega) (by rw [show (headSpec ws rm).room.cells = mc from hrc]; exact hf.1) (by rw [show (headSpec ws rm).room.slots = ms from hrs]; exact hf.2)) (atoms_intro fun w hw => hws w hw _ _ X.warmed)
  obtain ⟨mid, hmid⟩ := h.above
  have hfr : (T.setTop g).frames = (.java g :: mid) ++ below := by rw [State.frames_setTop' g h.top, hmid]; rfl
  obtain ⟨o, s₂, hsteps, -, hend, hq⟩ := Steps.callFree hM p X.admits X.cas X.clock (acts := []) hfr happ (hbl _ _ _ _ hPc) trivial
  have hq' : Qc a (T.calling g mk a) o s₂ ∧ ∃ L, tx_E (T.calling g mk a) s₂ L mc ms ∧ ∀ q ∈ L, free q.base := hq
  rw [State.frames_setTop' g h.top] at hend
  obtain ⟨hqc, L, ⟨hW₂, e2, q2, q3, q4, q5, q6⟩, hL⟩ := hq'
  have e3 : s₂ = ({ (T.calling g mk a).setFrames s₂.frames with heap := s₂.heap, slotsUsed := s₂.slotsUsed } : State).setVm s₂.vm := by
    have : s₂ = ({ s₂ with vm := (T.calling g mk a).vm } : State).setVm s₂.vm := rfl
    rw [e2] at this
    exact this
  have hW' : T.WarmedH s₂.vm := hW₂
  obtain ⟨g₀, hg0⟩ := Option.isSome_iff_exists.mp h.top
  obtain ⟨r, hr⟩ := State.topJava?_eq_some.mp hg0
  have hr' : (({ T with heap := s₂.heap, slotsUsed := s₂.slotsUsed } : State).setVm s₂.vm).frames = .java g₀ :: r := hr
  have hsame : T.sameButNew ({ T with heap := s₂.heap, slotsUsed := s₂.slotsUsed } : State) L mc ms := by
    refine ⟨?_, q2, q3, q4, q5, q6⟩
    obtain ⟨t, ht, -⟩ := State.frames_cons hr
    show ({ T with heap := s₂.heap, slotsUsed := s₂.slotsUsed } : State) = { T.setFrames T.frames with heap := s₂.heap, slotsUsed := s₂.slotsUsed }
    rw [State.setFrames_self ht]
  subst hg
  refine ⟨o, s₂, (({ T with heap := s₂.heap, slotsUsed := s₂.slotsUsed } : State).setVm s₂.vm), L,
    ⟨X.admits, X.cas, X.clock, X.frames, X.room, X.hears, X.method, X.code, (X.here.setHeapUsed s₂.heap s₂.slotsUsed).setVm hW'.alike, X.tail, State.WarmedH.trans X.warmed hW', X.limits, X.bytes, X.same.trans (hsame.setVm s.vm)⟩, hL, rfl, rfl, hqc, ?_⟩
  cases o with
  | returned v =>
    obtain ⟨c₂, i₂, len₂, hc₂, hd₂, hf₂⟩ := hend
    have hcc : c₂ = c := by
      have h1 : s₂.code? g.method = T.code? g.method := by
        rw [State.code?_eq, State.code?_eq, hW'.alike.method?]
      exact Option.some.inj (hc₂.symm.trans (h1.trans h.code))
    subst hcc
    have hlen : len₂ = len := by rw [hdg] at hd₂; cases hd₂; rfl
    subst hlen
    have hs₂ : s₂ = (({ T with heap := s₂.heap, slotsUsed := s₂.slotsUsed } : State).setVm s₂.vm).setTop { g with pc := g.pc + len₂, stack := v.toList ++ g.stack } := by
      refine e3.trans ?_
      rw [hf₂, State.calling_eq h.top, State.setFrames_setFrames, State.setTop_of_frames _ hr', hr]
      rfl
    show Steps p.tables e below _ ((({ T with heap := s₂.heap, slotsUsed := s₂.slotsUsed } : State).setVm s₂.vm).setTop { g with pc := g.pc + len₂, stack := v.toList ++ g.stack })
    rw [← hs₂]
    exact hsteps
  | threw x =>
    have hf₂ : s₂.frames = .throwing x :: .java g :: T.frames.tail := hend
    have hs₂ : s₂ = ((({ T with heap := s₂.heap, slotsUsed := s₂.slotsUsed } : State).setVm s₂.vm).setTop g).pushFrame (.throwing x) := by
      refine e3.trans ?_
      rw [hf₂, State.calling_eq h.top, State.setFrames_setFrames, State.pushFrame, State.frames_setTop _ hr', State.setTop_of_frames _ hr', State.setFrames_setFrames, hr]
      rfl
    show Steps p.tables e below _ (((({ T with heap := s₂.heap, slotsUsed := s₂.slotsUsed } : State).setVm s₂.vm).setTop g).pushFrame (.throwing x))
    rw [← hs₂]
    exact hsteps
end TX5
section TX6
variable {p : Program} {l : Launch} {e : Env} {R : Room} {s : State} {m : MethodId} {args : Array Value} {below : List Frame} {meth : Method} {c : Code} {H : Heap} {locs : List Loc} {cells slots : Nat} {Q : State → Prop}
def tx_Run (p : Program) (l : Launch) (e : Env) (R : Room) (s : State) (m : MethodId) (args : Array Value) (below : List Frame) (meth : Method) (c : Code) (H : Heap) (locs : List Loc) (cells slots mc ms : Nat) (g : JFrame) (rest : List Value) (Qa : State → Outcome → State → Prop) (free : Addr → Prop) : Prop :=
  ∀ T : State, T.heap = H → Stand p l e R s m args below meth c T locs cells slots → ∃ (o : Outcome) (st₀ t T' : State) (L : List Loc), st₀.heap = H ∧ Stand p l e R s m args below meth c T' (locs ++ L) (cells + mc) (slots + ms) ∧ (∀ q ∈ L, free q.base) ∧ T'.heap = t.heap ∧ T'.vm = t.vm ∧ Qa st₀ o t ∧ tx_on p e below (T.setTop g) T' { g with stack := rest } 3 o
variable {y : MethodName} {bytes cc : ByteArray} {maxL nL mc ms n index : Nat} {ret : Option FieldType} {ws : List Cond} {rm : Room} {Pc : Array Value → State → Prop} {Qc : Array Value → State → Outcome → State → Prop} {free : Addr → Prop} {Ts : List Cond} {own C : String} {b : Addr} {As rest : List Value} {g : JFrame}
theorem tx_on.head {S0 S1 T' : State} {len : Nat} {o : Outcome} (h : tx_on p e below S1 T' g len o) (hs : ∀ tg, Steps p.tables e below S1 tg → Steps p.tables e below S0 tg) : tx_on p e below S0 T' g len o := by
  cases o with
  | returned v => exact hs _ h
  | threw x => exact hs _ h
theorem tx_runV (S : CallFix p m c cc nL s args Ts own) (hM : tx_Met l y ws rm Pc Qc mc ms free) (cw : CallW R s args own C index y bytes maxL ret ws rm mc ms n) (hp : PreV s H C b Pc As)
    (hg : g.method = m) (hn : As.length = n) (hsize : g.locals.size = nL) (hstack : g.stack = As.reverse ++ .ref b :: rest) (hW : 2 * g.monitorRoom + (rest.map fun v => v.category).sum ≤ 8) (hdg : decode cc g.pc = .ok (.invokevirtual index, 3)) (hf : cells + mc ≤ R.cells ∧ slots + ms ≤ R.slots) :
    tx_Run p l e R s m args below meth c H locs cells slots mc ms g rest (Qc (Value.ref b :: As).toArray) (free) := by
  obtain ⟨⟨hrc, hrs, hfr, hlo, hws, hcw, hcode, hini, hy, hlen, hl⟩, hinst, hsel⟩ := cw
  obtain ⟨hx, hb, hml, ho, -⟩ := S
  obtain ⟨hbl, ⟨cellB, hcB, hoB, hclB⟩, hPc⟩ := hp
  intro T hT X
  obtain ⟨mk, methM, hnamed, hmethM, hstM, habM⟩ := Cond.instanceMethod_spec hinst
  obtain ⟨methM', cM, hmethM', -, -, -, -, -, -, hsigM⟩ := Cond.code_spec hnamed hcode
  cases hmethM.symm.trans hmethM'
  obtain ⟨c2, r2, m2, q1, q2, q3, q4, kP, hkP, hkPi⟩ := Cond.selects_spec hsel
  cases hclB.symm.trans q1
  cases (State.methodFound?_of_named hnamed hy).symm.trans q2
  cases hnamed.symm.trans q3
  have hselP : selectMethod e.platform s.vm cellB.cls mk = .method mk := by rw [Launch.admits_selectMethod X.admits]; exact q4
  obtain ⟨vm₁, X₁, hstep₁⟩ := X.invokevirtual hx ho hl hnamed hmethM hstM hkP hkPi hy (a := b) (cell := cellB) (by rw [hT]; exact hcB)
    (fun z h => by rw [h] at hoB; cases hoB) hselP hmethM habM hkP hkPi (g := g) hg (argsL := As) (rest := rest) (hn.trans (hlen _ hsigM)) hstack (by rw [hb]; exact hdg)
  obtain ⟨o, t, T', L, X', hL, e1, e2, hq, hon⟩ := tx_back (g := { g with stack := rest }) X₁ hM hbl hrc hrs hfr hlo hws hcw (fun a' U hW => word_at hW (Or.inl (by first | rfl | simp [Cond.onTables, Cond.keeps, Cond.steady])) hini) hf hg (hsize.trans hml.symm) (by rw [hb]; exact hdg) hW (X₁.named hnamed) (hPc (T.setVm vm₁) hT X₁.warmed)
  exact ⟨o, (T.setVm vm₁).calling { g with stack := rest } mk (Value.ref b :: As).toArray, t, T', L, hT, X', hL, e1, e2, hq, hon.head (fun tg h => hstep₁ _ fun acts => by rw [doInvoke_state]; exact h)⟩
/-- an exception of class X: what a catch asks of it -/
def tx_X (X : String) (x : Addr) (U : State) (H : Heap) : Prop := ∃ ce : Cell, H[x]? = some ce ∧ ce.vm.isStatics = false ∧ U.vm.findClass X = some ce.cls ∧ U.vm.assignable ce.cls ce.cls = true
theorem tx_X.moved {X : String} {x : Addr} {u U : State} {H : Heap} (hvm : u.vm.Alike U.vm) (h : tx_X X x u H) : tx_X X x U H := by
  obtain ⟨ce, h1, h2, h3, h4⟩ := h
  exact ⟨ce, h1, h2, by rw [hvm.findClass]; exact h3, by rw [hvm.assignable]; exact h4⟩
/-- an end with a value, or with an exception -/
def tx_Q (post : Option Value → Prop) (exc : String → Prop) (A : Nat → Prop) : Array Value → State → Outcome → State → Prop := fun _ st o t =>
  ((∃ v, o = .returned v ∧ post v) ∨ ∃ (x : Addr) (X : String), o = .threw x ∧ exc X ∧ tx_X X x t t.heap) ∧ va_F A st t
variable {pc : Nat} {ls : Array Slot} {st0 : List Value} {a : Array Value} {A0 A1 : Nat → Prop} {H0 : Heap}
theorem tx_call {post : Option Value → Prop} {exc : String → Prop} (hr : tx_Run p l e R s m args below meth c H locs cells slots mc ms (F0 m pc ls st0) rest (tx_Q post exc A1 a) free) (hS : va_S A0 H0 H locs) (hA : ∀ q, q < H.size → A1 q → A0 q) (hf : ∀ q, free q → A0 q)
    (kr : ∀ (v : Option Value) (H1 : Heap) (locs1 : List Loc), post v → H.size ≤ H1.size → (∀ q : Nat, q < H.size → ¬ A1 q → H1[q]? = H[q]?) → va_S A0 H0 H1 locs1 → W p l e R s m args below meth c H1 locs1 (cells + mc) (slots + ms) Q (F0 m (pc + 3) ls (v.toList ++ rest)))
    (kx : ∀ (x : Addr) (X : String) (H1 : Heap) (locs1 : List Loc), exc X → tx_X X x s H1 → H.size ≤ H1.size → (∀ q : Nat, q < H.size → ¬ A1 q → H1[q]? = H[q]?) → va_S A0 H0 H1 locs1 → tx_WT p l e R s m args below meth c H1 locs1 (cells + mc) (slots + ms) Q (F0 m pc ls rest) x) : W p l e R s m args below meth c H locs cells slots Q (F0 m pc ls st0) := by
  intro T hT X
  obtain ⟨o, st₀, t, T', L, h0, X', hL, e1, e2, ⟨ho, hz, hk⟩, hon⟩ := hr T hT X
  rw [h0] at hz hk
  have hz' : H.size ≤ T'.heap.size := by rw [e1]; exact hz
  have hk' : ∀ q : Nat, q < H.size → ¬ A1 q → T'.heap[q]? = H[q]? := fun q h1 h2 => by rw [e1]; exact hk q h1 h2
  have hS' : va_S A0 H0 T'.heap (locs ++ L) := ⟨Nat.le_trans hS.1 hz', fun q h1 h2 => by rw [hk' q (Nat.lt_of_lt_of_le h1 hS.1) (fun z => h2 (hA q (Nat.lt_of_lt_of_le h1 hS.1) z))]; exact hS.2.1 q h1 h2, fun q hq => by
      rcases List.mem_append.mp hq with h | h
      · exact hS.2.2 q h
      · exact hf _ (hL q h)⟩
  rcases ho with ⟨v, rfl, hp⟩ | ⟨x, E, rfl, hp, hx⟩
  · obtain ⟨t2, a1, b1⟩ := kr v T'.heap (locs ++ L) hp hz' hk' hS' T' rfl X'
    exact ⟨t2, Steps.trans hon a1, b1⟩
  · obtain ⟨t2, a1, b1⟩ := kx x E T'.heap (locs ++ L) hp (by rw [e1]; exact tx_X.moved (by rw [← e2]; exact X'.warmed.alike.symm) hx) hz' hk' hS' T' rfl X'
    exact ⟨t2, Steps.trans hon a1, b1⟩
end TX6
end
section
-- ===== PART A: goes FIRST, ahead of the names: the tables' words, and 'selects' of the private methods out of them =====
/-- a private method of a class that the tables say can be made, by its rows of tables_1 -/
def lw_okq (q : MethodName × Nat) : Prop := (q.1.cls ≠ "java/lang/invoke/MethodHandle" ∧ q.1.cls ≠ "java/lang/invoke/VarHandle") ∧ Cond.instantiable q.1.cls q.2 ∈ tables_1 ∧ Cond.privateMethod q.1 ∈ tables_1 ∧ Cond.instanceMethod q.1 ∈ tables_1
theorem lw_p0 : lw_okq (⟨"java/lang/Throwable", "fillInStackTrace", "(I)Ljava/lang/Throwable;"⟩, 6) := ⟨⟨by decide +kernel, by decide +kernel⟩, List.mem_of_getElem? (i := 363) (by decide +kernel), List.mem_of_getElem? (i := 361) (by decide +kernel), List.mem_of_getElem? (i := 362) (by decide +kernel)⟩
theorem lw_p1 : lw_okq (⟨"TreeMatcher$Parts", "addPart", "(II)I"⟩, 6) := ⟨⟨by decide +kernel, by decide +kernel⟩, List.mem_of_getElem? (i := 52) (by decide +kernel), List.mem_of_getElem? (i := 479) (by decide +kernel), List.mem_of_getElem? (i := 480) (by decide +kernel)⟩
theorem lw_p2 : lw_okq (⟨"TreeMatcher$Forest", "isFree", "(I)Z"⟩, 14) := ⟨⟨by decide +kernel, by decide +kernel⟩, List.mem_of_getElem? (i := 125) (by decide +kernel), List.mem_of_getElem? (i := 500) (by decide +kernel), List.mem_of_getElem? (i := 501) (by decide +kernel)⟩
theorem lw_p3 : lw_okq (⟨"TreeMatcher$Forest", "adopt", "(I)I"⟩, 14) := ⟨⟨by decide +kernel, by decide +kernel⟩, List.mem_of_getElem? (i := 125) (by decide +kernel), List.mem_of_getElem? (i := 511) (by decide +kernel), List.mem_of_getElem? (i := 512) (by decide +kernel)⟩
theorem lw_p4 : lw_okq (⟨"TreeMatcher$Vectors", "compose", "(III)J"⟩, 8) := ⟨⟨by decide +kernel, by decide +kernel⟩, List.mem_of_getElem? (i := 149) (by decide +kernel), List.mem_of_getElem? (i := 519) (by decide +kernel), List.mem_of_getElem? (i := 520) (by decide +kernel)⟩
theorem lw_p5 : lw_okq (⟨"TreeMatcher$Vectors", "entry", "(II)J"⟩, 8) := ⟨⟨by decide +kernel, by decide +kernel⟩, List.mem_of_getElem? (i := 149) (by decide +kernel), List.mem_of_getElem? (i := 540) (by decide +kernel), List.mem_of_getElem? (i := 541) (by decide +kernel)⟩
theorem lw_p6 : lw_okq (⟨"TreeMatcher$Vectors", "subtract", "(IJ)V"⟩, 8) := ⟨⟨by decide +kernel, by decide +kernel⟩, List.mem_of_getElem? (i := 149) (by decide +kernel), List.mem_of_getElem? (i := 556) (by decide +kernel), List.mem_of_getElem? (i := 557) (by decide +kernel)⟩
theorem lw_p7 : lw_okq (⟨"TreeMatcher$Vectors", "isFresh", "(II)Z"⟩, 8) := ⟨⟨by decide +kernel, by decide +kernel⟩, List.mem_of_getElem? (i := 149) (by decide +kernel), List.mem_of_getElem? (i := 560) (by decide +kernel), List.mem_of_getElem? (i := 561) (by decide +kernel)⟩
theorem lw_p8 : lw_okq (⟨"TreeMatcher$Vectors", "keep", "(II)I"⟩, 8) := ⟨⟨by decide +kernel, by decide +kernel⟩, List.mem_of_getElem? (i := 149) (by decide +kernel), List.mem_of_getElem? (i := 564) (by decide +kernel), List.mem_of_getElem? (i := 565) (by decide +kernel)⟩
theorem lw_p9 : lw_okq (⟨"TreeMatcher$Vectors", "fill", "([JI)V"⟩, 8) := ⟨⟨by decide +kernel, by decide +kernel⟩, List.mem_of_getElem? (i := 149) (by decide +kernel), List.mem_of_getElem? (i := 572) (by decide +kernel), List.mem_of_getElem? (i := 573) (by decide +kernel)⟩
theorem lw_p10 : lw_okq (⟨"TreeMatcher$Forest", "label", "(I)V"⟩, 14) := ⟨⟨by decide +kernel, by decide +kernel⟩, List.mem_of_getElem? (i := 125) (by decide +kernel), List.mem_of_getElem? (i := 615) (by decide +kernel), List.mem_of_getElem? (i := 616) (by decide +kernel)⟩
theorem lw_p11 : lw_okq (⟨"TreeMatcher$Forest", "fit", "(II)I"⟩, 14) := ⟨⟨by decide +kernel, by decide +kernel⟩, List.mem_of_getElem? (i := 125) (by decide +kernel), List.mem_of_getElem? (i := 624) (by decide +kernel), List.mem_of_getElem? (i := 625) (by decide +kernel)⟩
theorem lw_p12 : lw_okq (⟨"TreeMatcher", "checkLabel", "(II)V"⟩, 4) := ⟨⟨by decide +kernel, by decide +kernel⟩, List.mem_of_getElem? (i := 21) (by decide +kernel), List.mem_of_getElem? (i := 662) (by decide +kernel), List.mem_of_getElem? (i := 663) (by decide +kernel)⟩
theorem lw_p13 : lw_okq (⟨"TreeMatcher$Covering", "push", "(I)V"⟩, 7) := ⟨⟨by decide +kernel, by decide +kernel⟩, List.mem_of_getElem? (i := 235) (by decide +kernel), List.mem_of_getElem? (i := 709) (by decide +kernel), List.mem_of_getElem? (i := 710) (by decide +kernel)⟩
theorem lw_p14 : lw_okq (⟨"TreeMatcher$Covering", "pushKids", "(I)V"⟩, 7) := ⟨⟨by decide +kernel, by decide +kernel⟩, List.mem_of_getElem? (i := 235) (by decide +kernel), List.mem_of_getElem? (i := 713) (by decide +kernel), List.mem_of_getElem? (i := 714) (by decide +kernel)⟩
theorem lw_p15 : lw_okq (⟨"TreeMatcher$Tally", "putAbove", "(II)V"⟩, 4) := ⟨⟨by decide +kernel, by decide +kernel⟩, List.mem_of_getElem? (i := 263) (by decide +kernel), List.mem_of_getElem? (i := 775) (by decide +kernel), List.mem_of_getElem? (i := 776) (by decide +kernel)⟩
def lw_privs_1 : List (MethodName × Nat) := [(⟨"java/lang/Throwable", "fillInStackTrace", "(I)Ljava/lang/Throwable;"⟩, 6), (⟨"TreeMatcher$Parts", "addPart", "(II)I"⟩, 6), (⟨"TreeMatcher$Forest", "isFree", "(I)Z"⟩, 14), (⟨"TreeMatcher$Forest", "adopt", "(I)I"⟩, 14), (⟨"TreeMatcher$Vectors", "compose", "(III)J"⟩, 8), (⟨"TreeMatcher$Vectors", "entry", "(II)J"⟩, 8), (⟨"TreeMatcher$Vectors", "subtract", "(IJ)V"⟩, 8), (⟨"TreeMatcher$Vectors", "isFresh", "(II)Z"⟩, 8), (⟨"TreeMatcher$Vectors", "keep", "(II)I"⟩, 8), (⟨"TreeMatcher$Vectors", "fill", "([JI)V"⟩, 8), (⟨"TreeMatcher$Forest", "label", "(I)V"⟩, 14), (⟨"TreeMatcher$Forest", "fit", "(II)I"⟩, 14), (⟨"TreeMatcher", "checkLabel", "(II)V"⟩, 4), (⟨"TreeMatcher$Covering", "push", "(I)V"⟩, 7), (⟨"TreeMatcher$Covering", "pushKids", "(I)V"⟩, 7), (⟨"TreeMatcher$Tally", "putAbove", "(II)V"⟩, 4)]
theorem lw_r1 : ∀ q ∈ lw_privs_1, lw_okq q := List.forall_mem_cons.mpr ⟨lw_p0, List.forall_mem_cons.mpr ⟨lw_p1, List.forall_mem_cons.mpr ⟨lw_p2, List.forall_mem_cons.mpr ⟨lw_p3, List.forall_mem_cons.mpr ⟨lw_p4, List.forall_mem_cons.mpr ⟨lw_p5, List.forall_mem_cons.mpr ⟨lw_p6, List.forall_mem_cons.mpr ⟨lw_p7, List.forall_mem_cons.mpr ⟨lw_p8, List.forall_mem_cons.mpr ⟨lw_p9, List.forall_mem_cons.mpr ⟨lw_p10, List.forall_mem_cons.mpr ⟨lw_p11, List.forall_mem_cons.mpr ⟨lw_p12, List.forall_mem_cons.mpr ⟨lw_p13, List.forall_mem_cons.mpr ⟨lw_p14, List.forall_mem_cons.mpr ⟨lw_p15, fun _ h => absurd h List.not_mem_nil⟩⟩⟩⟩⟩⟩⟩⟩⟩⟩⟩⟩⟩⟩⟩⟩
theorem lw_p16 : lw_okq (⟨"TreeMatcherModel", "fail", "(I)I"⟩, 42) := ⟨⟨by decide +kernel, by decide +kernel⟩, List.mem_of_getElem? (i := 810) (by decide +kernel), List.mem_of_getElem? (i := 956) (by decide +kernel), List.mem_of_getElem? (i := 957) (by decide +kernel)⟩
theorem lw_p17 : lw_okq (⟨"TreeMatcherModel", "isPattern", "()Z"⟩, 42) := ⟨⟨by decide +kernel, by decide +kernel⟩, List.mem_of_getElem? (i := 810) (by decide +kernel), List.mem_of_getElem? (i := 968) (by decide +kernel), List.mem_of_getElem? (i := 969) (by decide +kernel)⟩
theorem lw_p18 : lw_okq (⟨"TreeMatcherModel", "isFree", "(I)Z"⟩, 42) := ⟨⟨by decide +kernel, by decide +kernel⟩, List.mem_of_getElem? (i := 810) (by decide +kernel), List.mem_of_getElem? (i := 976) (by decide +kernel), List.mem_of_getElem? (i := 977) (by decide +kernel)⟩
theorem lw_p19 : lw_okq (⟨"TreeMatcherModel", "isChain", "(I)Z"⟩, 42) := ⟨⟨by decide +kernel, by decide +kernel⟩, List.mem_of_getElem? (i := 810) (by decide +kernel), List.mem_of_getElem? (i := 980) (by decide +kernel), List.mem_of_getElem? (i := 981) (by decide +kernel)⟩
theorem lw_p20 : lw_okq (⟨"TreeMatcherModel", "fits", "(II)I"⟩, 42) := ⟨⟨by decide +kernel, by decide +kernel⟩, List.mem_of_getElem? (i := 810) (by decide +kernel), List.mem_of_getElem? (i := 984) (by decide +kernel), List.mem_of_getElem? (i := 985) (by decide +kernel)⟩
theorem lw_p21 : lw_okq (⟨"TreeMatcherModel", "lay", "(II)Z"⟩, 42) := ⟨⟨by decide +kernel, by decide +kernel⟩, List.mem_of_getElem? (i := 810) (by decide +kernel), List.mem_of_getElem? (i := 988) (by decide +kernel), List.mem_of_getElem? (i := 989) (by decide +kernel)⟩
theorem lw_p22 : lw_okq (⟨"TreeMatcherModel", "close", "([II[III)V"⟩, 42) := ⟨⟨by decide +kernel, by decide +kernel⟩, List.mem_of_getElem? (i := 810) (by decide +kernel), List.mem_of_getElem? (i := 992) (by decide +kernel), List.mem_of_getElem? (i := 993) (by decide +kernel)⟩
theorem lw_p23 : lw_okq (⟨"TreeMatcherModel", "findParts", "()V"⟩, 42) := ⟨⟨by decide +kernel, by decide +kernel⟩, List.mem_of_getElem? (i := 810) (by decide +kernel), List.mem_of_getElem? (i := 1018) (by decide +kernel), List.mem_of_getElem? (i := 1019) (by decide +kernel)⟩
theorem lw_p24 : lw_okq (⟨"TreeMatcherModel", "partAt", "(II)I"⟩, 42) := ⟨⟨by decide +kernel, by decide +kernel⟩, List.mem_of_getElem? (i := 810) (by decide +kernel), List.mem_of_getElem? (i := 1022) (by decide +kernel), List.mem_of_getElem? (i := 1023) (by decide +kernel)⟩
theorem lw_p25 : lw_okq (⟨"TreeMatcherModel", "sizeFrom", "(II)I"⟩, 42) := ⟨⟨by decide +kernel, by decide +kernel⟩, List.mem_of_getElem? (i := 810) (by decide +kernel), List.mem_of_getElem? (i := 1026) (by decide +kernel), List.mem_of_getElem? (i := 1027) (by decide +kernel)⟩
theorem lw_p26 : lw_okq (⟨"TreeMatcherModel", "make", "([III[III)V"⟩, 42) := ⟨⟨by decide +kernel, by decide +kernel⟩, List.mem_of_getElem? (i := 810) (by decide +kernel), List.mem_of_getElem? (i := 1030) (by decide +kernel), List.mem_of_getElem? (i := 1031) (by decide +kernel)⟩
theorem lw_p27 : lw_okq (⟨"TreeMatcherModel", "isNew", "()Z"⟩, 42) := ⟨⟨by decide +kernel, by decide +kernel⟩, List.mem_of_getElem? (i := 810) (by decide +kernel), List.mem_of_getElem? (i := 1034) (by decide +kernel), List.mem_of_getElem? (i := 1035) (by decide +kernel)⟩
def lw_privs_2 : List (MethodName × Nat) := [(⟨"TreeMatcherModel", "fail", "(I)I"⟩, 42), (⟨"TreeMatcherModel", "isPattern", "()Z"⟩, 42), (⟨"TreeMatcherModel", "isFree", "(I)Z"⟩, 42), (⟨"TreeMatcherModel", "isChain", "(I)Z"⟩, 42), (⟨"TreeMatcherModel", "fits", "(II)I"⟩, 42), (⟨"TreeMatcherModel", "lay", "(II)Z"⟩, 42), (⟨"TreeMatcherModel", "close", "([II[III)V"⟩, 42), (⟨"TreeMatcherModel", "findParts", "()V"⟩, 42), (⟨"TreeMatcherModel", "partAt", "(II)I"⟩, 42), (⟨"TreeMatcherModel", "sizeFrom", "(II)I"⟩, 42), (⟨"TreeMatcherModel", "make", "([III[III)V"⟩, 42), (⟨"TreeMatcherModel", "isNew", "()Z"⟩, 42)]
theorem lw_r2 : ∀ q ∈ lw_privs_2, lw_okq q := List.forall_mem_cons.mpr ⟨lw_p16, List.forall_mem_cons.mpr ⟨lw_p17, List.forall_mem_cons.mpr ⟨lw_p18, List.forall_mem_cons.mpr ⟨lw_p19, List.forall_mem_cons.mpr ⟨lw_p20, List.forall_mem_cons.mpr ⟨lw_p21, List.forall_mem_cons.mpr ⟨lw_p22, List.forall_mem_cons.mpr ⟨lw_p23, List.forall_mem_cons.mpr ⟨lw_p24, List.forall_mem_cons.mpr ⟨lw_p25, List.forall_mem_cons.mpr ⟨lw_p26, List.forall_mem_cons.mpr ⟨lw_p27, fun _ h => absurd h List.not_mem_nil⟩⟩⟩⟩⟩⟩⟩⟩⟩⟩⟩⟩
def lw_privs : List (MethodName × Nat) := lw_privs_1 ++ (lw_privs_2)
def lw_tbl : List Cond := k2_sels lw_privs ++ tables_1
theorem lw_privs_ok : ∀ q ∈ lw_privs, lw_okq q := by
  show ∀ q ∈ lw_privs_1 ++ (lw_privs_2), lw_okq q
  exact List.forall_mem_append.mpr ⟨lw_r1, lw_r2⟩

/-- the words that a callee takes over as they stand -/
def gw : List Cond := lw_tbl.filter goodWord
theorem gw_of {w : Cond} (h : w ∈ tables_1) (hg : goodWord w = true) : w ∈ gw := List.mem_filter.mpr ⟨List.mem_append_right _ h, hg⟩
theorem gw_sel {w : Cond} (h : w ∈ k2_sels lw_privs) (hg : goodWord w = true) : w ∈ gw := List.mem_filter.mpr ⟨List.mem_append_left _ h, hg⟩
theorem gw_in {w : Cond} (h : w ∈ gw) : w ∈ lw_tbl := (List.mem_filter.mp h).1
theorem gw_ok {w : Cond} (h : w ∈ gw) : (w.onTables && w.keeps) = true ∨ ∃ ty, w = .arrayClass ty := good_of_word (List.mem_filter.mp h).2
theorem gw_gi {w : Cond} (h : w ∈ gw) : GoodIn gw (w :: gw) := fun v hv => (List.mem_cons.mp hv).elim (fun e => by rw [e]; exact ⟨h, gw_ok h⟩) (fun h => ⟨h, gw_ok h⟩)
theorem gw_giV {w w1 w2 w3 w4 : Cond} (h : w ∈ gw) (h1 : w1 ∈ gw) (h2 : w2 ∈ gw) (h3 : w3 ∈ gw) (h4 : w4 ∈ gw) : GoodIn gw (([w1, w2, w3, w4] : List Cond) ++ (w :: gw)) := fun v hv => by
  rcases List.mem_append.mp hv with hv | hv
  · rcases List.mem_cons.mp hv with e | hv
    · rw [e]; exact ⟨h1, gw_ok h1⟩
    rcases List.mem_cons.mp hv with e | hv
    · rw [e]; exact ⟨h2, gw_ok h2⟩
    rcases List.mem_cons.mp hv with e | hv
    · rw [e]; exact ⟨h3, gw_ok h3⟩
    rcases List.mem_cons.mp hv with e | hv
    · rw [e]; exact ⟨h4, gw_ok h4⟩
    cases hv
  · exact gw_gi h v hv
theorem gw_giS {w w1 w2 w3 : Cond} (h : w ∈ gw) (h1 : w1 ∈ gw) (h2 : w2 ∈ gw) (h3 : w3 ∈ gw) : GoodIn gw (([w1, w2, w3] : List Cond) ++ (w :: gw)) := fun v hv => by
  rcases List.mem_append.mp hv with hv | hv
  · rcases List.mem_cons.mp hv with e | hv
    · rw [e]; exact ⟨h1, gw_ok h1⟩
    rcases List.mem_cons.mp hv with e | hv
    · rw [e]; exact ⟨h2, gw_ok h2⟩
    rcases List.mem_cons.mp hv with e | hv
    · rw [e]; exact ⟨h3, gw_ok h3⟩
    cases hv
  · exact gw_gi h v hv
end
section
/-! STATICS THAT HOLD REFERENCES; THE THROW OF A NEW EXCEPTION -/
section TX7
def tx_Zs (C n d : String) (A : Nat → Prop) (U : State) (H : Heap) : Prop := ∃ (c : ClassId) (k : Class) (i : Nat) (f : Field) (a : Nat) (cell : Cell) (v : Value), U.vm.findClass C = some c ∧ U.fieldFound? C n d = some (c, k, i, f) ∧ f.isStatic = true ∧ k.statics = some a ∧ H[a]? = some cell ∧ cell.vm.isStatics = true ∧ cell.cls = c ∧ f.slot < cell.slots.size ∧ k.staticTypes[f.slot]? = some f.type ∧ cell.slots[f.slot]? = some v ∧ v.isRef = true ∧ ¬ A a
theorem tx_Zs.moved {C n d : String} {A : Nat → Prop} {u U : State} {H : Heap} (hvm : u.vm.Alike U.vm) (h : tx_Zs C n d A u H) : tx_Zs C n d A U H := by
  obtain ⟨c, k, i, f, a, cell, v, h0, h1, h2, h3, h4, h5, h6, h7, h8, h9⟩ := h
  obtain ⟨k', hi', he⟩ := State.fieldFound?_setVm hvm h1
  exact ⟨c, k', i, f, a, cell, v, by rw [hvm.findClass]; exact h0, hi', h2, by rw [he]; exact h3, h4, h5, h6, h7, by rw [he]; exact h8, h9⟩
theorem tx_Zs.kept {C n d : String} {A : Nat → Prop} {U : State} {H H1 : Heap} (h : tx_Zs C n d A U H) (hq : ∀ a : Nat, a < H.size → ¬ A a → H1[a]? = H[a]?) : tx_Zs C n d A U H1 := by
  obtain ⟨c, k, i, f, a, cell, v, h0, h1, h2, h3, h4, h5, h6, h7, h8, h9, h10, h11⟩ := h
  exact ⟨c, k, i, f, a, cell, v, h0, h1, h2, h3, by rw [hq a (Array.getElem?_eq_some_iff.mp h4).1 h11]; exact h4, h5, h6, h7, h8, h9, h10, h11⟩
theorem tx_Zs.narrow {C n d : String} {A B : Nat → Prop} {U : State} {H : Heap} (h : tx_Zs C n d A U H) (hAB : ∀ q, B q → A q) : tx_Zs C n d B U H := by
  obtain ⟨c, k, i, f, a, cell, v, h0, h1, h2, h3, h4, h5, h6, h7, h8, h9, h10, h11⟩ := h
  exact ⟨c, k, i, f, a, cell, v, h0, h1, h2, h3, h4, h5, h6, h7, h8, h9, h10, fun z => h11 (hAB a z)⟩
theorem tx_Zs.of {args : Array Value} {s : State} {C n d : String} {A : Nat → Prop} (hl : (Cond.laysStatic C n d).before args s = true) (hr : (Cond.isRef (.static C n d)).before args s = true) (hA : ∀ a : Nat, a < s.heap.size → ¬ A a) : tx_Zs C n d A s s.heap := by
  obtain ⟨c, k, i, f, a, cell, hc, hi, hst, ha, hcell, hs, hcls, hlt, hty⟩ := Cond.laysStatic_spec hl
  cases hv : (Term.static C n d).eval args s none [] s with
  | none => simp [Cond.before, Cond.holds, Cond.value, hv] at hr
  | some w =>
    obtain ⟨-, a', cell', ha', hcell', -, hslot⟩ := Term.static_spec hi hv
    cases ha.symm.trans ha'
    cases hcell.symm.trans hcell'
    refine ⟨c, k, i, f, a, cell, w, hc, hi, hst, ha, hcell, hs, hcls, hlt, hty, hslot, ?_, hA a (Array.getElem?_eq_some_iff.mp hcell).1⟩
    simp only [Cond.before, Cond.holds, Cond.value, hv] at hr
    cases w <;> first | rfl | (simp at hr)
theorem tx_Zs.lays {C n d : String} {A : Nat → Prop} {s : State} (h : tx_Zs C n d A s s.heap) (args : Array Value) : (Cond.laysStatic C n d).before args s = true := by
  obtain ⟨c, k, i, f, a, cell, v, h0, h1, h2, h3, h4, h5, h6, h7, h8, h9, h10, h11⟩ := h
  exact Cond.laysStatic_of h0 h1 h2 h3 h4 h5 h6 h7 h8
theorem tx_Zs.ref {C n d : String} {A : Nat → Prop} {s : State} (h : tx_Zs C n d A s s.heap) (args : Array Value) : (Cond.isRef (.static C n d)).before args s = true := by
  obtain ⟨c, k, i, f, a, cell, v, h0, h1, h2, h3, h4, h5, h6, h7, h8, h9, h10, h11⟩ := h
  have hv := Term.static_eval (args := args) (first := s) (o := none) (idx := []) h1 h2 h3 h4 h5 h9
  simp only [Cond.before, Cond.holds, Cond.value, hv]
  cases v <;> first | rfl | (cases h10)
/-- an old cell of which no slot was freed stays -/
theorem tx_kept {s s' : State} {locs : List Loc} {k n : Nat} (h : s.sameButNew s' locs k n) {A : Nat → Prop} (hl : ∀ x ∈ locs, A x.base) : ∀ q : Nat, q < s.heap.size → ¬ A q → s'.heap[q]? = s.heap[q]? := by
  intro q hq hA
  have hc : s.heap[q]? = some s.heap[q] := Array.getElem?_eq_getElem hq
  obtain ⟨c', h1, h2, h3, h4⟩ := h.2.2.2.2.2 q _ hc
  have hs : c'.slots = (s.heap[q]).slots := by
    apply Array.ext_getElem?
    intro i
    exact h4 i (fun hm => hA (hl _ hm))
  rw [h1, hc]
  rw [h2, hs]
end TX7
section TX8
variable {p : Program} {l : Launch} {e : Env} {R : Room} {s : State} {m : MethodId} {args : Array Value} {below : List Frame} {meth : Method} {c : Code} {H : Heap} {locs : List Loc} {cells slots : Nat}
variable {cc : ByteArray} {pc : Nat} {ls : Array Slot} {rest : List Value} {A : Nat → Prop}
theorem tx_noTrace (ha : l.admits e) (hf : l.flags = flags0) : e.platform.stackTraces = false := by
  rw [ha.platform]
  show l.stackTraces = false
  unfold Launch.stackTraces
  rw [hf]
  decide +kernel
set_option maxHeartbeats 1000000 in
theorem tx_throwNew (hexec : p.tables.exec = Jvm.exec) (hb : c.code = cc) (hlf : l.flags = flags0) (hout : ∀ z ∈ c.exceptionTable.toList, ∀ pc, covers z pc = false) (hlocks : meth.locks = false) {own X : String} {names : List String} {ia ib ic : Nat} (hown : s.vm.findClass own = some m.cls)
    (hcl : (Cond.classLink own ia X).before args s = true) (hinst : (Cond.instantiable X 6).before args s = true) (hini : (Cond.initialized X).before args s = true) (hat : ∀ a ∈ Bundle.ownAtoms own ic X names, a.before args s = true) (hfit : Bundle.fit X = true) (hnames : ∀ n ∈ names, Bundle.fit n = true)
    {tx : String} {q : Nat} (hstr : vk_R own ib tx q s) (hloc : ∀ x ∈ locs, ∀ cell, s.heap[x.base]? = some cell → cell.vm.isStatics = false) (hls : ls.size = c.maxLocals) (hS : va_S A s.heap H locs)
    (hR : names.length + 3 < R.frames) (hRl : (rest.map fun v => v.category).sum + 13 * (names.length + 1) + 43 ≤ R.locals) (hcells : cells + 1 ≤ R.cells) (hslots : slots + 6 ≤ R.slots)
    (d0 : decode cc pc = .ok (.new ia, 3)) (d3 : decode cc (pc + 3) = .ok (.dup, 1)) (d4 : decode cc (pc + 3 + 1) = .ok (.ldc ib, 2)) (d6 : decode cc (pc + 3 + 1 + 2) = .ok (.invokespecial ic, 3)) (d9 : decode cc (pc + 3 + 1 + 2 + 3) = .ok (.athrow, 1))
    {post : Option Value → Prop} {exc : String → Prop} (hexc : exc X) :
    W p l e R s m args below meth c H locs cells slots (tx_MQ below (tx_Q post exc A) args s (cells + 1) (slots + 6) A) (F0 m pc ls rest) := by
  obtain ⟨cX, kX0, hcX, hkX0, -⟩ := Cond.instantiable_spec hinst
  refine W.newcK hexec hb hown hcl hinst hini rfl d0 hcells hslots hcX rfl fun H1 kC hkC e1 z1 o1 => ?_
  refine lv_dup hexec hb d3 rfl ?_
  refine va_ldcS hexec hb hown hstr d4 ?_
  intro T hT X0
  obtain ⟨U, st, h1, h2, h3, h4, ce, hce, hoc⟩ := X0.ctorThrowS hexec (tx_noTrace X0.admits hlf) (ic := ic) hown hfit hnames hat hloc hcX hkC (a := H.size) (by rw [hT]; exact e1) hS.1 (msg := .ref q) rfl
    (g := F0 m (pc + 3 + 1 + 2) ls (.ref q :: .ref H.size :: .ref H.size :: rest)) rfl hls rfl rfl (rest := rest) rfl (by rw [hb]; exact d6) (by rw [hb]; exact d9) (fun z hz => hout z hz _) hR (by
      have hm : (F0 m (pc + 3 + 1 + 2) ls (.ref q :: .ref H.size :: .ref H.size :: rest)).monitorRoom = 0 := rfl
      rw [hm]
      have hc1 : (Value.ref H.size).category = 1 := rfl
      simp only [List.map_cons, List.sum_cons, hc1]
      omega) hlocks
  refine ⟨U, st, .threw H.size, h1, h2, ⟨Or.inr ⟨H.size, X, rfl, hexc, ce, hce, ?_, ?_, ?_⟩, ?_, ?_⟩, locs, ⟨h3, h4⟩, hS.2.2⟩
  · rw [hoc.vm]; rfl
  · rw [h3.alike.findClass]; exact hoc.cls
  · rw [h3.alike.assignable]; exact hoc.self
  · exact h4.2.1
  · exact tx_kept h4 hS.2.2
end TX8
end
section
set_option maxRecDepth 100000 in
theorem tw_43 : (Jvm.Cond.laysFinal "TreeMatcher$Groups" "TreeMatcher$Groups" "groups" "I") ∈ gw := gw_of (List.mem_of_getElem? (i := 43) rfl) rfl
set_option maxRecDepth 100000 in
theorem tw_45 : (Jvm.Cond.laysFinal "TreeMatcher$Groups" "TreeMatcher$Groups" "starts" "[I") ∈ gw := gw_of (List.mem_of_getElem? (i := 45) rfl) rfl
set_option maxRecDepth 100000 in
theorem tw_47 : (Jvm.Cond.laysFinal "TreeMatcher$Groups" "TreeMatcher$Groups" "members" "[I") ∈ gw := gw_of (List.mem_of_getElem? (i := 47) rfl) rfl
set_option maxRecDepth 100000 in
theorem tw_64 : (Jvm.Cond.fieldLink "TreeMatcher$Parts" (33 : Nat) "TreeMatcher$Parts" "size" "I") ∈ gw := gw_of (List.mem_of_getElem? (i := 64) rfl) rfl
set_option maxRecDepth 100000 in
theorem tw_65 : (Jvm.Cond.laysFinal "TreeMatcher$Parts" "TreeMatcher$Parts" "lefts" "[I") ∈ gw := gw_of (List.mem_of_getElem? (i := 65) rfl) rfl
set_option maxRecDepth 100000 in
theorem tw_67 : (Jvm.Cond.laysFinal "TreeMatcher$Parts" "TreeMatcher$Parts" "rights" "[I") ∈ gw := gw_of (List.mem_of_getElem? (i := 67) rfl) rfl
set_option maxRecDepth 100000 in
theorem tw_69 : (Jvm.Cond.laysFinal "TreeMatcher$Parts" "TreeMatcher$Parts" "rules" "[I") ∈ gw := gw_of (List.mem_of_getElem? (i := 69) rfl) rfl
set_option maxRecDepth 100000 in
theorem tw_71 : (Jvm.Cond.laysFinal "TreeMatcher$Parts" "TreeMatcher$Parts" "open" "[I") ∈ gw := gw_of (List.mem_of_getElem? (i := 71) rfl) rfl
set_option maxRecDepth 100000 in
theorem tw_73 : (Jvm.Cond.laysFinal "TreeMatcher$Parts" "TreeMatcher$Parts" "byOperator" "LTreeMatcher$Groups;") ∈ gw := gw_of (List.mem_of_getElem? (i := 73) rfl) rfl
set_option maxRecDepth 100000 in
theorem tw_75 : (Jvm.Cond.lays "TreeMatcher$Parts" "TreeMatcher$Parts" "size" "I") ∈ gw := gw_of (List.mem_of_getElem? (i := 75) rfl) rfl
set_option maxRecDepth 100000 in
theorem tw_82 : (Jvm.Cond.fieldLink "TreeMatcher$Grammar" (15 : Nat) "TreeMatcher$Grammar" "operatorCount" "I") ∈ gw := gw_of (List.mem_of_getElem? (i := 82) rfl) rfl
set_option maxRecDepth 100000 in
theorem tw_84 : (Jvm.Cond.fieldLink "TreeMatcher$Grammar" (22 : Nat) "TreeMatcher$Grammar" "handSize" "I") ∈ gw := gw_of (List.mem_of_getElem? (i := 84) rfl) rfl
set_option maxRecDepth 100000 in
theorem tw_92 : (Jvm.Cond.fieldLink "TreeMatcher$Grammar" (52 : Nat) "TreeMatcher$Grammar" "ruleCount" "I") ∈ gw := gw_of (List.mem_of_getElem? (i := 92) rfl) rfl
set_option maxRecDepth 100000 in
theorem tw_93 : (Jvm.Cond.fieldLink "TreeMatcher$Grammar" (55 : Nat) "TreeMatcher$Grammar" "limits" "Z") ∈ gw := gw_of (List.mem_of_getElem? (i := 93) rfl) rfl
set_option maxRecDepth 100000 in
theorem tw_95 : (Jvm.Cond.laysFinal "TreeMatcher$Grammar" "TreeMatcher$Grammar" "kids" "[I") ∈ gw := gw_of (List.mem_of_getElem? (i := 95) rfl) rfl
set_option maxRecDepth 100000 in
theorem tw_97 : (Jvm.Cond.lays "TreeMatcher$Grammar" "TreeMatcher$Grammar" "operatorCount" "I") ∈ gw := gw_of (List.mem_of_getElem? (i := 97) rfl) rfl
set_option maxRecDepth 100000 in
theorem tw_99 : (Jvm.Cond.laysFinal "TreeMatcher$Grammar" "TreeMatcher$Grammar" "hand" "[I") ∈ gw := gw_of (List.mem_of_getElem? (i := 99) rfl) rfl
set_option maxRecDepth 100000 in
theorem tw_101 : (Jvm.Cond.lays "TreeMatcher$Grammar" "TreeMatcher$Grammar" "handSize" "I") ∈ gw := gw_of (List.mem_of_getElem? (i := 101) rfl) rfl
set_option maxRecDepth 100000 in
theorem tw_103 : (Jvm.Cond.laysFinal "TreeMatcher$Grammar" "TreeMatcher$Grammar" "elements" "[I") ∈ gw := gw_of (List.mem_of_getElem? (i := 103) rfl) rfl
set_option maxRecDepth 100000 in
theorem tw_105 : (Jvm.Cond.laysFinal "TreeMatcher$Grammar" "TreeMatcher$Grammar" "lengths" "[I") ∈ gw := gw_of (List.mem_of_getElem? (i := 105) rfl) rfl
set_option maxRecDepth 100000 in
theorem tw_107 : (Jvm.Cond.laysFinal "TreeMatcher$Grammar" "TreeMatcher$Grammar" "gives" "[I") ∈ gw := gw_of (List.mem_of_getElem? (i := 107) rfl) rfl
set_option maxRecDepth 100000 in
theorem tw_109 : (Jvm.Cond.laysFinal "TreeMatcher$Grammar" "TreeMatcher$Grammar" "costs" "[I") ∈ gw := gw_of (List.mem_of_getElem? (i := 109) rfl) rfl
set_option maxRecDepth 100000 in
theorem tw_111 : (Jvm.Cond.laysFinal "TreeMatcher$Grammar" "TreeMatcher$Grammar" "lows" "[I") ∈ gw := gw_of (List.mem_of_getElem? (i := 111) rfl) rfl
set_option maxRecDepth 100000 in
theorem tw_113 : (Jvm.Cond.laysFinal "TreeMatcher$Grammar" "TreeMatcher$Grammar" "highs" "[I") ∈ gw := gw_of (List.mem_of_getElem? (i := 113) rfl) rfl
set_option maxRecDepth 100000 in
theorem tw_115 : (Jvm.Cond.laysFinal "TreeMatcher$Grammar" "TreeMatcher$Grammar" "rulesByChain" "LTreeMatcher$Groups;") ∈ gw := gw_of (List.mem_of_getElem? (i := 115) rfl) rfl
set_option maxRecDepth 100000 in
theorem tw_117 : (Jvm.Cond.lays "TreeMatcher$Grammar" "TreeMatcher$Grammar" "ruleCount" "I") ∈ gw := gw_of (List.mem_of_getElem? (i := 117) rfl) rfl
set_option maxRecDepth 100000 in
theorem tw_119 : (Jvm.Cond.lays "TreeMatcher$Grammar" "TreeMatcher$Grammar" "limits" "Z") ∈ gw := gw_of (List.mem_of_getElem? (i := 119) rfl) rfl
set_option maxRecDepth 100000 in
theorem tw_121 : (Jvm.Cond.laysFinal "TreeMatcher$Grammar" "TreeMatcher$Grammar" "parts" "LTreeMatcher$Parts;") ∈ gw := gw_of (List.mem_of_getElem? (i := 121) rfl) rfl
set_option maxRecDepth 100000 in
theorem tw_139 : (Jvm.Cond.laysFinal "TreeMatcher$Labels" "TreeMatcher$Labels" "grammar" "LTreeMatcher$Grammar;") ∈ gw := gw_of (List.mem_of_getElem? (i := 139) rfl) rfl
set_option maxRecDepth 100000 in
theorem tw_141 : (Jvm.Cond.laysFinal "TreeMatcher$Labels" "TreeMatcher$Labels" "costs" "[J") ∈ gw := gw_of (List.mem_of_getElem? (i := 141) rfl) rfl
set_option maxRecDepth 100000 in
theorem tw_143 : (Jvm.Cond.laysFinal "TreeMatcher$Labels" "TreeMatcher$Labels" "rules" "[I") ∈ gw := gw_of (List.mem_of_getElem? (i := 143) rfl) rfl
set_option maxRecDepth 100000 in
theorem tw_173 : (Jvm.Cond.fieldLink "TreeMatcher$Vectors" (17 : Nat) "TreeMatcher$Vectors" "size" "I") ∈ gw := gw_of (List.mem_of_getElem? (i := 173) rfl) rfl
set_option maxRecDepth 100000 in
theorem tw_174 : (Jvm.Cond.laysFinal "TreeMatcher$Vectors" "TreeMatcher$Vectors" "grammar" "LTreeMatcher$Grammar;") ∈ gw := gw_of (List.mem_of_getElem? (i := 174) rfl) rfl
set_option maxRecDepth 100000 in
theorem tw_176 : (Jvm.Cond.laysFinal "TreeMatcher$Vectors" "TreeMatcher$Vectors" "parts" "LTreeMatcher$Parts;") ∈ gw := gw_of (List.mem_of_getElem? (i := 176) rfl) rfl
set_option maxRecDepth 100000 in
theorem tw_178 : (Jvm.Cond.laysFinal "TreeMatcher$Vectors" "TreeMatcher$Vectors" "byOperator" "LTreeMatcher$Groups;") ∈ gw := gw_of (List.mem_of_getElem? (i := 178) rfl) rfl
set_option maxRecDepth 100000 in
theorem tw_180 : (Jvm.Cond.laysFinal "TreeMatcher$Vectors" "TreeMatcher$Vectors" "labels" "LTreeMatcher$Labels;") ∈ gw := gw_of (List.mem_of_getElem? (i := 180) rfl) rfl
set_option maxRecDepth 100000 in
theorem tw_182 : (Jvm.Cond.laysFinal "TreeMatcher$Vectors" "TreeMatcher$Vectors" "rows" "[[J") ∈ gw := gw_of (List.mem_of_getElem? (i := 182) rfl) rfl
set_option maxRecDepth 100000 in
theorem tw_184 : (Jvm.Cond.laysFinal "TreeMatcher$Vectors" "TreeMatcher$Vectors" "roots" "[I") ∈ gw := gw_of (List.mem_of_getElem? (i := 184) rfl) rfl
set_option maxRecDepth 100000 in
theorem tw_186 : (Jvm.Cond.laysFinal "TreeMatcher$Vectors" "TreeMatcher$Vectors" "fresh" "[J") ∈ gw := gw_of (List.mem_of_getElem? (i := 186) rfl) rfl
set_option maxRecDepth 100000 in
theorem tw_188 : (Jvm.Cond.lays "TreeMatcher$Vectors" "TreeMatcher$Vectors" "size" "I") ∈ gw := gw_of (List.mem_of_getElem? (i := 188) rfl) rfl
set_option maxRecDepth 100000 in
theorem tw_200 : (Jvm.Cond.fieldLink "TreeMatcher$Forest" (37 : Nat) "TreeMatcher$Forest" "size" "I") ∈ gw := gw_of (List.mem_of_getElem? (i := 200) rfl) rfl
set_option maxRecDepth 100000 in
theorem tw_205 : (Jvm.Cond.laysFinal "TreeMatcher$Forest" "TreeMatcher$Forest" "grammar" "LTreeMatcher$Grammar;") ∈ gw := gw_of (List.mem_of_getElem? (i := 205) rfl) rfl
set_option maxRecDepth 100000 in
theorem tw_207 : (Jvm.Cond.laysFinal "TreeMatcher$Forest" "TreeMatcher$Forest" "operators" "[I") ∈ gw := gw_of (List.mem_of_getElem? (i := 207) rfl) rfl
set_option maxRecDepth 100000 in
theorem tw_209 : (Jvm.Cond.laysFinal "TreeMatcher$Forest" "TreeMatcher$Forest" "values" "[I") ∈ gw := gw_of (List.mem_of_getElem? (i := 209) rfl) rfl
set_option maxRecDepth 100000 in
theorem tw_211 : (Jvm.Cond.laysFinal "TreeMatcher$Forest" "TreeMatcher$Forest" "lefts" "[I") ∈ gw := gw_of (List.mem_of_getElem? (i := 211) rfl) rfl
set_option maxRecDepth 100000 in
theorem tw_213 : (Jvm.Cond.laysFinal "TreeMatcher$Forest" "TreeMatcher$Forest" "rights" "[I") ∈ gw := gw_of (List.mem_of_getElem? (i := 213) rfl) rfl
set_option maxRecDepth 100000 in
theorem tw_215 : (Jvm.Cond.laysFinal "TreeMatcher$Forest" "TreeMatcher$Forest" "isKid" "[Z") ∈ gw := gw_of (List.mem_of_getElem? (i := 215) rfl) rfl
set_option maxRecDepth 100000 in
theorem tw_217 : (Jvm.Cond.laysFinal "TreeMatcher$Forest" "TreeMatcher$Forest" "costs" "[I") ∈ gw := gw_of (List.mem_of_getElem? (i := 217) rfl) rfl
set_option maxRecDepth 100000 in
theorem tw_219 : (Jvm.Cond.laysFinal "TreeMatcher$Forest" "TreeMatcher$Forest" "rules" "[I") ∈ gw := gw_of (List.mem_of_getElem? (i := 219) rfl) rfl
set_option maxRecDepth 100000 in
theorem tw_221 : (Jvm.Cond.laysFinal "TreeMatcher$Forest" "TreeMatcher$Forest" "vectorRows" "[I") ∈ gw := gw_of (List.mem_of_getElem? (i := 221) rfl) rfl
set_option maxRecDepth 100000 in
theorem tw_223 : (Jvm.Cond.lays "TreeMatcher$Forest" "TreeMatcher$Forest" "size" "I") ∈ gw := gw_of (List.mem_of_getElem? (i := 223) rfl) rfl
set_option maxRecDepth 100000 in
theorem tw_225 : (Jvm.Cond.laysFinal "TreeMatcher$Forest" "TreeMatcher$Forest" "labels" "LTreeMatcher$Labels;") ∈ gw := gw_of (List.mem_of_getElem? (i := 225) rfl) rfl
set_option maxRecDepth 100000 in
theorem tw_227 : (Jvm.Cond.laysFinal "TreeMatcher$Forest" "TreeMatcher$Forest" "vectors" "LTreeMatcher$Vectors;") ∈ gw := gw_of (List.mem_of_getElem? (i := 227) rfl) rfl
set_option maxRecDepth 100000 in
theorem tw_229 : (Jvm.Cond.laysFinal "TreeMatcher$Forest" "TreeMatcher$Forest" "places" "[I") ∈ gw := gw_of (List.mem_of_getElem? (i := 229) rfl) rfl
set_option maxRecDepth 100000 in
theorem tw_231 : (Jvm.Cond.laysFinal "TreeMatcher$Forest" "TreeMatcher$Forest" "open" "[I") ∈ gw := gw_of (List.mem_of_getElem? (i := 231) rfl) rfl
set_option maxRecDepth 100000 in
theorem tw_246 : (Jvm.Cond.fieldLink "TreeMatcher$Covering" (25 : Nat) "TreeMatcher$Covering" "size" "I") ∈ gw := gw_of (List.mem_of_getElem? (i := 246) rfl) rfl
set_option maxRecDepth 100000 in
theorem tw_247 : (Jvm.Cond.laysFinal "TreeMatcher$Covering" "TreeMatcher$Covering" "grammar" "LTreeMatcher$Grammar;") ∈ gw := gw_of (List.mem_of_getElem? (i := 247) rfl) rfl
set_option maxRecDepth 100000 in
theorem tw_249 : (Jvm.Cond.laysFinal "TreeMatcher$Covering" "TreeMatcher$Covering" "forest" "LTreeMatcher$Forest;") ∈ gw := gw_of (List.mem_of_getElem? (i := 249) rfl) rfl
set_option maxRecDepth 100000 in
theorem tw_251 : (Jvm.Cond.laysFinal "TreeMatcher$Covering" "TreeMatcher$Covering" "labels" "[I") ∈ gw := gw_of (List.mem_of_getElem? (i := 251) rfl) rfl
set_option maxRecDepth 100000 in
theorem tw_253 : (Jvm.Cond.laysFinal "TreeMatcher$Covering" "TreeMatcher$Covering" "backwards" "[I") ∈ gw := gw_of (List.mem_of_getElem? (i := 253) rfl) rfl
set_option maxRecDepth 100000 in
theorem tw_255 : (Jvm.Cond.laysFinal "TreeMatcher$Covering" "TreeMatcher$Covering" "open" "[I") ∈ gw := gw_of (List.mem_of_getElem? (i := 255) rfl) rfl
set_option maxRecDepth 100000 in
theorem tw_257 : (Jvm.Cond.lays "TreeMatcher$Covering" "TreeMatcher$Covering" "top" "I") ∈ gw := gw_of (List.mem_of_getElem? (i := 257) rfl) rfl
set_option maxRecDepth 100000 in
theorem tw_259 : (Jvm.Cond.lays "TreeMatcher$Covering" "TreeMatcher$Covering" "size" "I") ∈ gw := gw_of (List.mem_of_getElem? (i := 259) rfl) rfl
set_option maxRecDepth 100000 in
theorem tw_274 : (Jvm.Cond.laysFinal "TreeMatcher$Tally" "TreeMatcher$Tally" "grammar" "LTreeMatcher$Grammar;") ∈ gw := gw_of (List.mem_of_getElem? (i := 274) rfl) rfl
set_option maxRecDepth 100000 in
theorem tw_276 : (Jvm.Cond.laysFinal "TreeMatcher$Tally" "TreeMatcher$Tally" "vectors" "LTreeMatcher$Vectors;") ∈ gw := gw_of (List.mem_of_getElem? (i := 276) rfl) rfl
set_option maxRecDepth 100000 in
theorem tw_278 : (Jvm.Cond.lays "TreeMatcher$Tally" "TreeMatcher$Tally" "operatorsThen" "I") ∈ gw := gw_of (List.mem_of_getElem? (i := 278) rfl) rfl
set_option maxRecDepth 100000 in
theorem tw_280 : (Jvm.Cond.lays "TreeMatcher$Tally" "TreeMatcher$Tally" "rulesThen" "I") ∈ gw := gw_of (List.mem_of_getElem? (i := 280) rfl) rfl
set_option maxRecDepth 100000 in
theorem tw_287 : (Jvm.Cond.laysFinal "TreeMatcher" "TreeMatcher" "grammar" "LTreeMatcher$Grammar;") ∈ gw := gw_of (List.mem_of_getElem? (i := 287) rfl) rfl
set_option maxRecDepth 100000 in
theorem tw_289 : (Jvm.Cond.laysFinal "TreeMatcher" "TreeMatcher" "forest" "LTreeMatcher$Forest;") ∈ gw := gw_of (List.mem_of_getElem? (i := 289) rfl) rfl
set_option maxRecDepth 100000 in
theorem tw_291 : (Jvm.Cond.laysFinal "TreeMatcher" "TreeMatcher" "covering" "LTreeMatcher$Covering;") ∈ gw := gw_of (List.mem_of_getElem? (i := 291) rfl) rfl
set_option maxRecDepth 100000 in
theorem tw_293 : (Jvm.Cond.laysFinal "TreeMatcher" "TreeMatcher" "tally" "LTreeMatcher$Tally;") ∈ gw := gw_of (List.mem_of_getElem? (i := 293) rfl) rfl
set_option maxRecDepth 100000 in
theorem tw_323 : (Jvm.Cond.code ({ cls := "TreeMatcher", name := "isWithin", desc := "(II)Z" } : Jvm.MethodName) prog_1_method_15_code (2 : Nat) (Option.some Jvm.ClassFile.FieldType.boolean)) ∈ gw := gw_of (List.mem_of_getElem? (i := 323) rfl) rfl
set_option maxRecDepth 100000 in
theorem tw_428 : (Jvm.Cond.code ({ cls := "TreeMatcher$Grammar", name := "handSize", desc := "()I" } : Jvm.MethodName) prog_4_method_7_code (1 : Nat) (Option.some Jvm.ClassFile.FieldType.int)) ∈ gw := gw_of (List.mem_of_getElem? (i := 428) rfl) rfl
set_option maxRecDepth 100000 in
theorem tw_444 : (Jvm.Cond.code ({ cls := "TreeMatcher$Grammar", name := "ruleCount", desc := "()I" } : Jvm.MethodName) prog_4_method_11_code (1 : Nat) (Option.some Jvm.ClassFile.FieldType.int)) ∈ gw := gw_of (List.mem_of_getElem? (i := 444) rfl) rfl
set_option maxRecDepth 100000 in
theorem tw_448 : (Jvm.Cond.code ({ cls := "TreeMatcher$Forest", name := "size", desc := "()I" } : Jvm.MethodName) prog_3_method_2_code (1 : Nat) (Option.some Jvm.ClassFile.FieldType.int)) ∈ gw := gw_of (List.mem_of_getElem? (i := 448) rfl) rfl
set_option maxRecDepth 100000 in
theorem tw_570 : (Jvm.Cond.code ({ cls := "TreeMatcher$Parts", name := "size", desc := "()I" } : Jvm.MethodName) prog_7_method_4_code (1 : Nat) (Option.some Jvm.ClassFile.FieldType.int)) ∈ gw := gw_of (List.mem_of_getElem? (i := 570) rfl) rfl
set_option maxRecDepth 100000 in
theorem tw_732 : (Jvm.Cond.code ({ cls := "TreeMatcher$Covering", name := "size", desc := "()I" } : Jvm.MethodName) prog_2_method_2_code (1 : Nat) (Option.some Jvm.ClassFile.FieldType.int)) ∈ gw := gw_of (List.mem_of_getElem? (i := 732) rfl) rfl
set_option maxRecDepth 100000 in
theorem tw_756 : (Jvm.Cond.code ({ cls := "TreeMatcher$Grammar", name := "hasLimits", desc := "()Z" } : Jvm.MethodName) prog_4_method_17_code (1 : Nat) (Option.some Jvm.ClassFile.FieldType.boolean)) ∈ gw := gw_of (List.mem_of_getElem? (i := 756) rfl) rfl
set_option maxRecDepth 100000 in
theorem tw_765 : (Jvm.Cond.code ({ cls := "TreeMatcher$Grammar", name := "operatorCount", desc := "()I" } : Jvm.MethodName) prog_4_method_4_code (1 : Nat) (Option.some Jvm.ClassFile.FieldType.int)) ∈ gw := gw_of (List.mem_of_getElem? (i := 765) rfl) rfl
set_option maxRecDepth 100000 in
theorem tw_773 : (Jvm.Cond.code ({ cls := "TreeMatcher$Vectors", name := "size", desc := "()I" } : Jvm.MethodName) prog_9_method_2_code (1 : Nat) (Option.some Jvm.ClassFile.FieldType.int)) ∈ gw := gw_of (List.mem_of_getElem? (i := 773) rfl) rfl
set_option maxRecDepth 100000 in
theorem tw_817 : (Jvm.Cond.fieldLink "TreeMatcherModel" (115 : Nat) "TreeMatcherModel" "thrown" "I") ∈ gw := gw_of (List.mem_of_getElem? (i := 817) rfl) rfl
set_option maxRecDepth 100000 in
theorem tw_859 : (Jvm.Cond.lays "TreeMatcherModel" "TreeMatcherModel" "thrown" "I") ∈ gw := gw_of (List.mem_of_getElem? (i := 859) rfl) rfl
set_option maxRecDepth 100000 in
theorem tw_861 : (Jvm.Cond.laysFinal "TreeMatcherModel" "TreeMatcherModel" "kids" "[I") ∈ gw := gw_of (List.mem_of_getElem? (i := 861) rfl) rfl
set_option maxRecDepth 100000 in
theorem tw_863 : (Jvm.Cond.lays "TreeMatcherModel" "TreeMatcherModel" "operators" "I") ∈ gw := gw_of (List.mem_of_getElem? (i := 863) rfl) rfl
set_option maxRecDepth 100000 in
theorem tw_865 : (Jvm.Cond.laysFinal "TreeMatcherModel" "TreeMatcherModel" "hand" "[I") ∈ gw := gw_of (List.mem_of_getElem? (i := 865) rfl) rfl
set_option maxRecDepth 100000 in
theorem tw_867 : (Jvm.Cond.lays "TreeMatcherModel" "TreeMatcherModel" "handed" "I") ∈ gw := gw_of (List.mem_of_getElem? (i := 867) rfl) rfl
set_option maxRecDepth 100000 in
theorem tw_869 : (Jvm.Cond.lays "TreeMatcherModel" "TreeMatcherModel" "rules" "I") ∈ gw := gw_of (List.mem_of_getElem? (i := 869) rfl) rfl
set_option maxRecDepth 100000 in
theorem tw_871 : (Jvm.Cond.laysFinal "TreeMatcherModel" "TreeMatcherModel" "gives" "[I") ∈ gw := gw_of (List.mem_of_getElem? (i := 871) rfl) rfl
set_option maxRecDepth 100000 in
theorem tw_873 : (Jvm.Cond.laysFinal "TreeMatcherModel" "TreeMatcherModel" "costs" "[I") ∈ gw := gw_of (List.mem_of_getElem? (i := 873) rfl) rfl
set_option maxRecDepth 100000 in
theorem tw_875 : (Jvm.Cond.laysFinal "TreeMatcherModel" "TreeMatcherModel" "lows" "[I") ∈ gw := gw_of (List.mem_of_getElem? (i := 875) rfl) rfl
set_option maxRecDepth 100000 in
theorem tw_877 : (Jvm.Cond.laysFinal "TreeMatcherModel" "TreeMatcherModel" "highs" "[I") ∈ gw := gw_of (List.mem_of_getElem? (i := 877) rfl) rfl
set_option maxRecDepth 100000 in
theorem tw_879 : (Jvm.Cond.laysFinal "TreeMatcherModel" "TreeMatcherModel" "sizes" "[I") ∈ gw := gw_of (List.mem_of_getElem? (i := 879) rfl) rfl
set_option maxRecDepth 100000 in
theorem tw_881 : (Jvm.Cond.laysFinal "TreeMatcherModel" "TreeMatcherModel" "elements" "[I") ∈ gw := gw_of (List.mem_of_getElem? (i := 881) rfl) rfl
set_option maxRecDepth 100000 in
theorem tw_883 : (Jvm.Cond.lays "TreeMatcherModel" "TreeMatcherModel" "nodes" "I") ∈ gw := gw_of (List.mem_of_getElem? (i := 883) rfl) rfl
set_option maxRecDepth 100000 in
theorem tw_885 : (Jvm.Cond.laysFinal "TreeMatcherModel" "TreeMatcherModel" "operator" "[I") ∈ gw := gw_of (List.mem_of_getElem? (i := 885) rfl) rfl
set_option maxRecDepth 100000 in
theorem tw_887 : (Jvm.Cond.laysFinal "TreeMatcherModel" "TreeMatcherModel" "value" "[I") ∈ gw := gw_of (List.mem_of_getElem? (i := 887) rfl) rfl
set_option maxRecDepth 100000 in
theorem tw_889 : (Jvm.Cond.laysFinal "TreeMatcherModel" "TreeMatcherModel" "left" "[I") ∈ gw := gw_of (List.mem_of_getElem? (i := 889) rfl) rfl
set_option maxRecDepth 100000 in
theorem tw_891 : (Jvm.Cond.laysFinal "TreeMatcherModel" "TreeMatcherModel" "right" "[I") ∈ gw := gw_of (List.mem_of_getElem? (i := 891) rfl) rfl
set_option maxRecDepth 100000 in
theorem tw_893 : (Jvm.Cond.laysFinal "TreeMatcherModel" "TreeMatcherModel" "isKid" "[Z") ∈ gw := gw_of (List.mem_of_getElem? (i := 893) rfl) rfl
set_option maxRecDepth 100000 in
theorem tw_895 : (Jvm.Cond.laysFinal "TreeMatcherModel" "TreeMatcherModel" "least" "[I") ∈ gw := gw_of (List.mem_of_getElem? (i := 895) rfl) rfl
set_option maxRecDepth 100000 in
theorem tw_897 : (Jvm.Cond.laysFinal "TreeMatcherModel" "TreeMatcherModel" "ruleOf" "[I") ∈ gw := gw_of (List.mem_of_getElem? (i := 897) rfl) rfl
set_option maxRecDepth 100000 in
theorem tw_899 : (Jvm.Cond.lays "TreeMatcherModel" "TreeMatcherModel" "pairs" "I") ∈ gw := gw_of (List.mem_of_getElem? (i := 899) rfl) rfl
set_option maxRecDepth 100000 in
theorem tw_901 : (Jvm.Cond.laysFinal "TreeMatcherModel" "TreeMatcherModel" "pairNode" "[I") ∈ gw := gw_of (List.mem_of_getElem? (i := 901) rfl) rfl
set_option maxRecDepth 100000 in
theorem tw_903 : (Jvm.Cond.laysFinal "TreeMatcherModel" "TreeMatcherModel" "pairRule" "[I") ∈ gw := gw_of (List.mem_of_getElem? (i := 903) rfl) rfl
set_option maxRecDepth 100000 in
theorem tw_905 : (Jvm.Cond.laysFinal "TreeMatcherModel" "TreeMatcherModel" "stands" "[I") ∈ gw := gw_of (List.mem_of_getElem? (i := 905) rfl) rfl
set_option maxRecDepth 100000 in
theorem tw_907 : (Jvm.Cond.laysFinal "TreeMatcherModel" "TreeMatcherModel" "todo" "[I") ∈ gw := gw_of (List.mem_of_getElem? (i := 907) rfl) rfl
set_option maxRecDepth 100000 in
theorem tw_909 : (Jvm.Cond.laysFinal "TreeMatcherModel" "TreeMatcherModel" "chainOf" "[I") ∈ gw := gw_of (List.mem_of_getElem? (i := 909) rfl) rfl
set_option maxRecDepth 100000 in
theorem tw_911 : (Jvm.Cond.laysFinal "TreeMatcherModel" "TreeMatcherModel" "chainFrom" "[I") ∈ gw := gw_of (List.mem_of_getElem? (i := 911) rfl) rfl
set_option maxRecDepth 100000 in
theorem tw_913 : (Jvm.Cond.laysFinal "TreeMatcherModel" "TreeMatcherModel" "coverNode" "[I") ∈ gw := gw_of (List.mem_of_getElem? (i := 913) rfl) rfl
set_option maxRecDepth 100000 in
theorem tw_915 : (Jvm.Cond.laysFinal "TreeMatcherModel" "TreeMatcherModel" "coverOf" "[I") ∈ gw := gw_of (List.mem_of_getElem? (i := 915) rfl) rfl
set_option maxRecDepth 100000 in
theorem tw_917 : (Jvm.Cond.laysFinal "TreeMatcherModel" "TreeMatcherModel" "coverRule" "[I") ∈ gw := gw_of (List.mem_of_getElem? (i := 917) rfl) rfl
set_option maxRecDepth 100000 in
theorem tw_919 : (Jvm.Cond.laysFinal "TreeMatcherModel" "TreeMatcherModel" "newNode" "[I") ∈ gw := gw_of (List.mem_of_getElem? (i := 919) rfl) rfl
set_option maxRecDepth 100000 in
theorem tw_921 : (Jvm.Cond.laysFinal "TreeMatcherModel" "TreeMatcherModel" "newRule" "[I") ∈ gw := gw_of (List.mem_of_getElem? (i := 921) rfl) rfl
set_option maxRecDepth 100000 in
theorem tw_923 : (Jvm.Cond.lays "TreeMatcherModel" "TreeMatcherModel" "parts" "I") ∈ gw := gw_of (List.mem_of_getElem? (i := 923) rfl) rfl
set_option maxRecDepth 100000 in
theorem tw_925 : (Jvm.Cond.laysFinal "TreeMatcherModel" "TreeMatcherModel" "partOf" "[I") ∈ gw := gw_of (List.mem_of_getElem? (i := 925) rfl) rfl
set_option maxRecDepth 100000 in
theorem tw_927 : (Jvm.Cond.laysFinal "TreeMatcherModel" "TreeMatcherModel" "partRule" "[I") ∈ gw := gw_of (List.mem_of_getElem? (i := 927) rfl) rfl
set_option maxRecDepth 100000 in
theorem tw_929 : (Jvm.Cond.laysFinal "TreeMatcherModel" "TreeMatcherModel" "partFrom" "[I") ∈ gw := gw_of (List.mem_of_getElem? (i := 929) rfl) rfl
set_option maxRecDepth 100000 in
theorem tw_931 : (Jvm.Cond.laysFinal "TreeMatcherModel" "TreeMatcherModel" "partLeft" "[I") ∈ gw := gw_of (List.mem_of_getElem? (i := 931) rfl) rfl
set_option maxRecDepth 100000 in
theorem tw_933 : (Jvm.Cond.laysFinal "TreeMatcherModel" "TreeMatcherModel" "partRight" "[I") ∈ gw := gw_of (List.mem_of_getElem? (i := 933) rfl) rfl
set_option maxRecDepth 100000 in
theorem tw_935 : (Jvm.Cond.laysFinal "TreeMatcherModel" "TreeMatcherModel" "states" "[I") ∈ gw := gw_of (List.mem_of_getElem? (i := 935) rfl) rfl
set_option maxRecDepth 100000 in
theorem tw_937 : (Jvm.Cond.laysFinal "TreeMatcherModel" "TreeMatcherModel" "vectors" "[I") ∈ gw := gw_of (List.mem_of_getElem? (i := 937) rfl) rfl
set_option maxRecDepth 100000 in
theorem tw_939 : (Jvm.Cond.laysFinal "TreeMatcherModel" "TreeMatcherModel" "byRule" "[I") ∈ gw := gw_of (List.mem_of_getElem? (i := 939) rfl) rfl
set_option maxRecDepth 100000 in
theorem tw_941 : (Jvm.Cond.lays "TreeMatcherModel" "TreeMatcherModel" "stateCount" "I") ∈ gw := gw_of (List.mem_of_getElem? (i := 941) rfl) rfl
set_option maxRecDepth 100000 in
theorem tw_947 : (Jvm.Cond.code ({ cls := "TreeMatcherModel", name := "thrown", desc := "()I" } : Jvm.MethodName) prog_11_method_2_code (1 : Nat) (Option.some Jvm.ClassFile.FieldType.int)) ∈ gw := gw_of (List.mem_of_getElem? (i := 947) rfl) rfl
def kR_M : String := "TreeMatcher"
def kT_M : u_T := fun k => match k with
  | 0 => ("TreeMatcher", "grammar", "LTreeMatcher$Grammar;", true)
  | 1 => ("TreeMatcher", "forest", "LTreeMatcher$Forest;", true)
  | 2 => ("TreeMatcher", "covering", "LTreeMatcher$Covering;", true)
  | _ => ("TreeMatcher", "tally", "LTreeMatcher$Tally;", true)
def kt_M : Nat → FieldType := fun k => match k with
  | 0 => .object "TreeMatcher$Grammar"
  | 1 => .object "TreeMatcher$Forest"
  | 2 => .object "TreeMatcher$Covering"
  | _ => .object "TreeMatcher$Tally"
theorem knm_M : ∀ a, a < 4 → ∀ b, b < 4 → a ≠ b → (kT_M a).2.1 ≠ (kT_M b).2.1 := by decide +kernel
theorem kty_M : ∀ k, k < 4 → parseFieldDescriptor (kT_M k).2.2.1 = some (kt_M k) := by decide +kernel
def kR_G : String := "TreeMatcher$Grammar"
def kT_G : u_T := fun k => match k with
  | 0 => ("TreeMatcher$Grammar", "kids", "[I", true)
  | 1 => ("TreeMatcher$Grammar", "operatorCount", "I", false)
  | 2 => ("TreeMatcher$Grammar", "hand", "[I", true)
  | 3 => ("TreeMatcher$Grammar", "handSize", "I", false)
  | 4 => ("TreeMatcher$Grammar", "elements", "[I", true)
  | 5 => ("TreeMatcher$Grammar", "lengths", "[I", true)
  | 6 => ("TreeMatcher$Grammar", "gives", "[I", true)
  | 7 => ("TreeMatcher$Grammar", "costs", "[I", true)
  | 8 => ("TreeMatcher$Grammar", "lows", "[I", true)
  | 9 => ("TreeMatcher$Grammar", "highs", "[I", true)
  | 10 => ("TreeMatcher$Grammar", "rulesByChain", "LTreeMatcher$Groups;", true)
  | 11 => ("TreeMatcher$Grammar", "ruleCount", "I", false)
  | 12 => ("TreeMatcher$Grammar", "limits", "Z", false)
  | _ => ("TreeMatcher$Grammar", "parts", "LTreeMatcher$Parts;", true)
def kt_G : Nat → FieldType := fun k => match k with
  | 0 => .array .int
  | 1 => .int
  | 2 => .array .int
  | 3 => .int
  | 4 => .array .int
  | 5 => .array .int
  | 6 => .array .int
  | 7 => .array .int
  | 8 => .array .int
  | 9 => .array .int
  | 10 => .object "TreeMatcher$Groups"
  | 11 => .int
  | 12 => .boolean
  | _ => .object "TreeMatcher$Parts"
theorem knm_G : ∀ a, a < 14 → ∀ b, b < 14 → a ≠ b → (kT_G a).2.1 ≠ (kT_G b).2.1 := by decide +kernel
theorem kty_G : ∀ k, k < 14 → parseFieldDescriptor (kT_G k).2.2.1 = some (kt_G k) := by decide +kernel
def kR_F : String := "TreeMatcher$Forest"
def kT_F : u_T := fun k => match k with
  | 0 => ("TreeMatcher$Forest", "grammar", "LTreeMatcher$Grammar;", true)
  | 1 => ("TreeMatcher$Forest", "operators", "[I", true)
  | 2 => ("TreeMatcher$Forest", "values", "[I", true)
  | 3 => ("TreeMatcher$Forest", "lefts", "[I", true)
  | 4 => ("TreeMatcher$Forest", "rights", "[I", true)
  | 5 => ("TreeMatcher$Forest", "isKid", "[Z", true)
  | 6 => ("TreeMatcher$Forest", "costs", "[I", true)
  | 7 => ("TreeMatcher$Forest", "rules", "[I", true)
  | 8 => ("TreeMatcher$Forest", "vectorRows", "[I", true)
  | 9 => ("TreeMatcher$Forest", "size", "I", false)
  | 10 => ("TreeMatcher$Forest", "labels", "LTreeMatcher$Labels;", true)
  | 11 => ("TreeMatcher$Forest", "vectors", "LTreeMatcher$Vectors;", true)
  | 12 => ("TreeMatcher$Forest", "places", "[I", true)
  | _ => ("TreeMatcher$Forest", "open", "[I", true)
def kt_F : Nat → FieldType := fun k => match k with
  | 0 => .object "TreeMatcher$Grammar"
  | 1 => .array .int
  | 2 => .array .int
  | 3 => .array .int
  | 4 => .array .int
  | 5 => .array .boolean
  | 6 => .array .int
  | 7 => .array .int
  | 8 => .array .int
  | 9 => .int
  | 10 => .object "TreeMatcher$Labels"
  | 11 => .object "TreeMatcher$Vectors"
  | 12 => .array .int
  | _ => .array .int
theorem knm_F : ∀ a, a < 14 → ∀ b, b < 14 → a ≠ b → (kT_F a).2.1 ≠ (kT_F b).2.1 := by decide +kernel
theorem kty_F : ∀ k, k < 14 → parseFieldDescriptor (kT_F k).2.2.1 = some (kt_F k) := by decide +kernel
def kR_C : String := "TreeMatcher$Covering"
def kT_C : u_T := fun k => match k with
  | 0 => ("TreeMatcher$Covering", "grammar", "LTreeMatcher$Grammar;", true)
  | 1 => ("TreeMatcher$Covering", "forest", "LTreeMatcher$Forest;", true)
  | 2 => ("TreeMatcher$Covering", "labels", "[I", true)
  | 3 => ("TreeMatcher$Covering", "backwards", "[I", true)
  | 4 => ("TreeMatcher$Covering", "open", "[I", true)
  | 5 => ("TreeMatcher$Covering", "top", "I", false)
  | _ => ("TreeMatcher$Covering", "size", "I", false)
def kt_C : Nat → FieldType := fun k => match k with
  | 0 => .object "TreeMatcher$Grammar"
  | 1 => .object "TreeMatcher$Forest"
  | 2 => .array .int
  | 3 => .array .int
  | 4 => .array .int
  | 5 => .int
  | _ => .int
theorem knm_C : ∀ a, a < 7 → ∀ b, b < 7 → a ≠ b → (kT_C a).2.1 ≠ (kT_C b).2.1 := by decide +kernel
theorem kty_C : ∀ k, k < 7 → parseFieldDescriptor (kT_C k).2.2.1 = some (kt_C k) := by decide +kernel
def kR_Y : String := "TreeMatcher$Tally"
def kT_Y : u_T := fun k => match k with
  | 0 => ("TreeMatcher$Tally", "grammar", "LTreeMatcher$Grammar;", true)
  | 1 => ("TreeMatcher$Tally", "vectors", "LTreeMatcher$Vectors;", true)
  | 2 => ("TreeMatcher$Tally", "operatorsThen", "I", false)
  | _ => ("TreeMatcher$Tally", "rulesThen", "I", false)
def kt_Y : Nat → FieldType := fun k => match k with
  | 0 => .object "TreeMatcher$Grammar"
  | 1 => .object "TreeMatcher$Vectors"
  | 2 => .int
  | _ => .int
theorem knm_Y : ∀ a, a < 4 → ∀ b, b < 4 → a ≠ b → (kT_Y a).2.1 ≠ (kT_Y b).2.1 := by decide +kernel
theorem kty_Y : ∀ k, k < 4 → parseFieldDescriptor (kT_Y k).2.2.1 = some (kt_Y k) := by decide +kernel
def kR_V : String := "TreeMatcher$Vectors"
def kT_V : u_T := fun k => match k with
  | 0 => ("TreeMatcher$Vectors", "grammar", "LTreeMatcher$Grammar;", true)
  | 1 => ("TreeMatcher$Vectors", "parts", "LTreeMatcher$Parts;", true)
  | 2 => ("TreeMatcher$Vectors", "byOperator", "LTreeMatcher$Groups;", true)
  | 3 => ("TreeMatcher$Vectors", "labels", "LTreeMatcher$Labels;", true)
  | 4 => ("TreeMatcher$Vectors", "rows", "[[J", true)
  | 5 => ("TreeMatcher$Vectors", "roots", "[I", true)
  | 6 => ("TreeMatcher$Vectors", "fresh", "[J", true)
  | _ => ("TreeMatcher$Vectors", "size", "I", false)
def kt_V : Nat → FieldType := fun k => match k with
  | 0 => .object "TreeMatcher$Grammar"
  | 1 => .object "TreeMatcher$Parts"
  | 2 => .object "TreeMatcher$Groups"
  | 3 => .object "TreeMatcher$Labels"
  | 4 => .array (.array .long)
  | 5 => .array .int
  | 6 => .array .long
  | _ => .int
theorem knm_V : ∀ a, a < 8 → ∀ b, b < 8 → a ≠ b → (kT_V a).2.1 ≠ (kT_V b).2.1 := by decide +kernel
theorem kty_V : ∀ k, k < 8 → parseFieldDescriptor (kT_V k).2.2.1 = some (kt_V k) := by decide +kernel
def kR_P : String := "TreeMatcher$Parts"
def kT_P : u_T := fun k => match k with
  | 0 => ("TreeMatcher$Parts", "lefts", "[I", true)
  | 1 => ("TreeMatcher$Parts", "rights", "[I", true)
  | 2 => ("TreeMatcher$Parts", "rules", "[I", true)
  | 3 => ("TreeMatcher$Parts", "open", "[I", true)
  | 4 => ("TreeMatcher$Parts", "byOperator", "LTreeMatcher$Groups;", true)
  | _ => ("TreeMatcher$Parts", "size", "I", false)
def kt_P : Nat → FieldType := fun k => match k with
  | 0 => .array .int
  | 1 => .array .int
  | 2 => .array .int
  | 3 => .array .int
  | 4 => .object "TreeMatcher$Groups"
  | _ => .int
theorem knm_P : ∀ a, a < 6 → ∀ b, b < 6 → a ≠ b → (kT_P a).2.1 ≠ (kT_P b).2.1 := by decide +kernel
theorem kty_P : ∀ k, k < 6 → parseFieldDescriptor (kT_P k).2.2.1 = some (kt_P k) := by decide +kernel
def kR_U : String := "TreeMatcher$Groups"
def kT_U : u_T := fun k => match k with
  | 0 => ("TreeMatcher$Groups", "groups", "I", true)
  | 1 => ("TreeMatcher$Groups", "starts", "[I", true)
  | _ => ("TreeMatcher$Groups", "members", "[I", true)
def kt_U : Nat → FieldType := fun k => match k with
  | 0 => .int
  | 1 => .array .int
  | _ => .array .int
theorem knm_U : ∀ a, a < 3 → ∀ b, b < 3 → a ≠ b → (kT_U a).2.1 ≠ (kT_U b).2.1 := by decide +kernel
theorem kty_U : ∀ k, k < 3 → parseFieldDescriptor (kT_U k).2.2.1 = some (kt_U k) := by decide +kernel
def kR_L : String := "TreeMatcher$Labels"
def kT_L : u_T := fun k => match k with
  | 0 => ("TreeMatcher$Labels", "grammar", "LTreeMatcher$Grammar;", true)
  | 1 => ("TreeMatcher$Labels", "costs", "[J", true)
  | _ => ("TreeMatcher$Labels", "rules", "[I", true)
def kt_L : Nat → FieldType := fun k => match k with
  | 0 => .object "TreeMatcher$Grammar"
  | 1 => .array .long
  | _ => .array .int
theorem knm_L : ∀ a, a < 3 → ∀ b, b < 3 → a ≠ b → (kT_L a).2.1 ≠ (kT_L b).2.1 := by decide +kernel
theorem kty_L : ∀ k, k < 3 → parseFieldDescriptor (kT_L k).2.2.1 = some (kt_L k) := by decide +kernel
def kR_D : String := "TreeMatcherModel"
def kT_D : u_T := fun k => match k with
  | 0 => ("TreeMatcherModel", "thrown", "I", false)
  | 1 => ("TreeMatcherModel", "kids", "[I", true)
  | 2 => ("TreeMatcherModel", "operators", "I", false)
  | 3 => ("TreeMatcherModel", "hand", "[I", true)
  | 4 => ("TreeMatcherModel", "handed", "I", false)
  | 5 => ("TreeMatcherModel", "rules", "I", false)
  | 6 => ("TreeMatcherModel", "gives", "[I", true)
  | 7 => ("TreeMatcherModel", "costs", "[I", true)
  | 8 => ("TreeMatcherModel", "lows", "[I", true)
  | 9 => ("TreeMatcherModel", "highs", "[I", true)
  | 10 => ("TreeMatcherModel", "sizes", "[I", true)
  | 11 => ("TreeMatcherModel", "elements", "[I", true)
  | 12 => ("TreeMatcherModel", "nodes", "I", false)
  | 13 => ("TreeMatcherModel", "operator", "[I", true)
  | 14 => ("TreeMatcherModel", "value", "[I", true)
  | 15 => ("TreeMatcherModel", "left", "[I", true)
  | 16 => ("TreeMatcherModel", "right", "[I", true)
  | 17 => ("TreeMatcherModel", "isKid", "[Z", true)
  | 18 => ("TreeMatcherModel", "least", "[I", true)
  | 19 => ("TreeMatcherModel", "ruleOf", "[I", true)
  | 20 => ("TreeMatcherModel", "pairs", "I", false)
  | 21 => ("TreeMatcherModel", "pairNode", "[I", true)
  | 22 => ("TreeMatcherModel", "pairRule", "[I", true)
  | 23 => ("TreeMatcherModel", "stands", "[I", true)
  | 24 => ("TreeMatcherModel", "todo", "[I", true)
  | 25 => ("TreeMatcherModel", "chainOf", "[I", true)
  | 26 => ("TreeMatcherModel", "chainFrom", "[I", true)
  | 27 => ("TreeMatcherModel", "coverNode", "[I", true)
  | 28 => ("TreeMatcherModel", "coverOf", "[I", true)
  | 29 => ("TreeMatcherModel", "coverRule", "[I", true)
  | 30 => ("TreeMatcherModel", "newNode", "[I", true)
  | 31 => ("TreeMatcherModel", "newRule", "[I", true)
  | 32 => ("TreeMatcherModel", "parts", "I", false)
  | 33 => ("TreeMatcherModel", "partOf", "[I", true)
  | 34 => ("TreeMatcherModel", "partRule", "[I", true)
  | 35 => ("TreeMatcherModel", "partFrom", "[I", true)
  | 36 => ("TreeMatcherModel", "partLeft", "[I", true)
  | 37 => ("TreeMatcherModel", "partRight", "[I", true)
  | 38 => ("TreeMatcherModel", "states", "[I", true)
  | 39 => ("TreeMatcherModel", "vectors", "[I", true)
  | 40 => ("TreeMatcherModel", "byRule", "[I", true)
  | _ => ("TreeMatcherModel", "stateCount", "I", false)
def kt_D : Nat → FieldType := fun k => match k with
  | 0 => .int
  | 1 => .array .int
  | 2 => .int
  | 3 => .array .int
  | 4 => .int
  | 5 => .int
  | 6 => .array .int
  | 7 => .array .int
  | 8 => .array .int
  | 9 => .array .int
  | 10 => .array .int
  | 11 => .array .int
  | 12 => .int
  | 13 => .array .int
  | 14 => .array .int
  | 15 => .array .int
  | 16 => .array .int
  | 17 => .array .boolean
  | 18 => .array .int
  | 19 => .array .int
  | 20 => .int
  | 21 => .array .int
  | 22 => .array .int
  | 23 => .array .int
  | 24 => .array .int
  | 25 => .array .int
  | 26 => .array .int
  | 27 => .array .int
  | 28 => .array .int
  | 29 => .array .int
  | 30 => .array .int
  | 31 => .array .int
  | 32 => .int
  | 33 => .array .int
  | 34 => .array .int
  | 35 => .array .int
  | 36 => .array .int
  | 37 => .array .int
  | 38 => .array .int
  | 39 => .array .int
  | 40 => .array .int
  | _ => .int
theorem knm_D : ∀ a, a < 42 → ∀ b, b < 42 → a ≠ b → (kT_D a).2.1 ≠ (kT_D b).2.1 := by decide +kernel
theorem kty_D : ∀ k, k < 42 → parseFieldDescriptor (kT_D k).2.2.1 = some (kt_D k) := by decide +kernel
abbrev kcl : List vw_C := [(kR_M, kT_M, 4), (kR_G, kT_G, 14), (kR_F, kT_F, 14), (kR_C, kT_C, 7), (kR_Y, kT_Y, 4), (kR_V, kT_V, 8), (kR_P, kT_P, 6), (kR_U, kT_U, 3), (kR_L, kT_L, 3), (kR_D, kT_D, 42)]
theorem kin_M : ∀ w ∈ u_ws kR_M kT_M 4, w ∈ gw := by
  intro w hw
  obtain ⟨k, hk, rfl⟩ := List.mem_map.mp hw
  have hk := List.mem_range.mp hk
  match k, hk with
  | 0, _ => exact tw_287
  | 1, _ => exact tw_289
  | 2, _ => exact tw_291
  | 3, _ => exact tw_293
theorem kin_G : ∀ w ∈ u_ws kR_G kT_G 14, w ∈ gw := by
  intro w hw
  obtain ⟨k, hk, rfl⟩ := List.mem_map.mp hw
  have hk := List.mem_range.mp hk
  match k, hk with
  | 0, _ => exact tw_95
  | 1, _ => exact tw_97
  | 2, _ => exact tw_99
  | 3, _ => exact tw_101
  | 4, _ => exact tw_103
  | 5, _ => exact tw_105
  | 6, _ => exact tw_107
  | 7, _ => exact tw_109
  | 8, _ => exact tw_111
  | 9, _ => exact tw_113
  | 10, _ => exact tw_115
  | 11, _ => exact tw_117
  | 12, _ => exact tw_119
  | 13, _ => exact tw_121
theorem kin_F : ∀ w ∈ u_ws kR_F kT_F 14, w ∈ gw := by
  intro w hw
  obtain ⟨k, hk, rfl⟩ := List.mem_map.mp hw
  have hk := List.mem_range.mp hk
  match k, hk with
  | 0, _ => exact tw_205
  | 1, _ => exact tw_207
  | 2, _ => exact tw_209
  | 3, _ => exact tw_211
  | 4, _ => exact tw_213
  | 5, _ => exact tw_215
  | 6, _ => exact tw_217
  | 7, _ => exact tw_219
  | 8, _ => exact tw_221
  | 9, _ => exact tw_223
  | 10, _ => exact tw_225
  | 11, _ => exact tw_227
  | 12, _ => exact tw_229
  | 13, _ => exact tw_231
theorem kin_C : ∀ w ∈ u_ws kR_C kT_C 7, w ∈ gw := by
  intro w hw
  obtain ⟨k, hk, rfl⟩ := List.mem_map.mp hw
  have hk := List.mem_range.mp hk
  match k, hk with
  | 0, _ => exact tw_247
  | 1, _ => exact tw_249
  | 2, _ => exact tw_251
  | 3, _ => exact tw_253
  | 4, _ => exact tw_255
  | 5, _ => exact tw_257
  | 6, _ => exact tw_259
theorem kin_Y : ∀ w ∈ u_ws kR_Y kT_Y 4, w ∈ gw := by
  intro w hw
  obtain ⟨k, hk, rfl⟩ := List.mem_map.mp hw
  have hk := List.mem_range.mp hk
  match k, hk with
  | 0, _ => exact tw_274
  | 1, _ => exact tw_276
  | 2, _ => exact tw_278
  | 3, _ => exact tw_280
theorem kin_V : ∀ w ∈ u_ws kR_V kT_V 8, w ∈ gw := by
  intro w hw
  obtain ⟨k, hk, rfl⟩ := List.mem_map.mp hw
  have hk := List.mem_range.mp hk
  match k, hk with
  | 0, _ => exact tw_174
  | 1, _ => exact tw_176
  | 2, _ => exact tw_178
  | 3, _ => exact tw_180
  | 4, _ => exact tw_182
  | 5, _ => exact tw_184
  | 6, _ => exact tw_186
  | 7, _ => exact tw_188
theorem kin_P : ∀ w ∈ u_ws kR_P kT_P 6, w ∈ gw := by
  intro w hw
  obtain ⟨k, hk, rfl⟩ := List.mem_map.mp hw
  have hk := List.mem_range.mp hk
  match k, hk with
  | 0, _ => exact tw_65
  | 1, _ => exact tw_67
  | 2, _ => exact tw_69
  | 3, _ => exact tw_71
  | 4, _ => exact tw_73
  | 5, _ => exact tw_75
theorem kin_U : ∀ w ∈ u_ws kR_U kT_U 3, w ∈ gw := by
  intro w hw
  obtain ⟨k, hk, rfl⟩ := List.mem_map.mp hw
  have hk := List.mem_range.mp hk
  match k, hk with
  | 0, _ => exact tw_43
  | 1, _ => exact tw_45
  | 2, _ => exact tw_47
theorem kin_L : ∀ w ∈ u_ws kR_L kT_L 3, w ∈ gw := by
  intro w hw
  obtain ⟨k, hk, rfl⟩ := List.mem_map.mp hw
  have hk := List.mem_range.mp hk
  match k, hk with
  | 0, _ => exact tw_139
  | 1, _ => exact tw_141
  | 2, _ => exact tw_143
theorem kin_D : ∀ w ∈ u_ws kR_D kT_D 42, w ∈ gw := by
  intro w hw
  obtain ⟨k, hk, rfl⟩ := List.mem_map.mp hw
  have hk := List.mem_range.mp hk
  match k, hk with
  | 0, _ => exact tw_859
  | 1, _ => exact tw_861
  | 2, _ => exact tw_863
  | 3, _ => exact tw_865
  | 4, _ => exact tw_867
  | 5, _ => exact tw_869
  | 6, _ => exact tw_871
  | 7, _ => exact tw_873
  | 8, _ => exact tw_875
  | 9, _ => exact tw_877
  | 10, _ => exact tw_879
  | 11, _ => exact tw_881
  | 12, _ => exact tw_883
  | 13, _ => exact tw_885
  | 14, _ => exact tw_887
  | 15, _ => exact tw_889
  | 16, _ => exact tw_891
  | 17, _ => exact tw_893
  | 18, _ => exact tw_895
  | 19, _ => exact tw_897
  | 20, _ => exact tw_899
  | 21, _ => exact tw_901
  | 22, _ => exact tw_903
  | 23, _ => exact tw_905
  | 24, _ => exact tw_907
  | 25, _ => exact tw_909
  | 26, _ => exact tw_911
  | 27, _ => exact tw_913
  | 28, _ => exact tw_915
  | 29, _ => exact tw_917
  | 30, _ => exact tw_919
  | 31, _ => exact tw_921
  | 32, _ => exact tw_923
  | 33, _ => exact tw_925
  | 34, _ => exact tw_927
  | 35, _ => exact tw_929
  | 36, _ => exact tw_931
  | 37, _ => exact tw_933
  | 38, _ => exact tw_935
  | 39, _ => exact tw_937
  | 40, _ => exact tw_939
  | 41, _ => exact tw_941
  | k + 42, h => exact absurd h (by omega)
abbrev b_M_isWithin : ByteArray := prog_1_method_15_code
def y_M_isWithin : MethodName := ⟨"TreeMatcher", "isWithin", "(II)Z"⟩
def ws_M_isWithin : List Cond := Cond.code y_M_isWithin b_M_isWithin 2 (Option.some Jvm.ClassFile.FieldType.boolean) :: gw
theorem cin_M_isWithin : Cond.code y_M_isWithin b_M_isWithin 2 (Option.some Jvm.ClassFile.FieldType.boolean) ∈ gw := tw_323
abbrev b_G_handSize : ByteArray := prog_4_method_7_code
def y_G_handSize : MethodName := ⟨"TreeMatcher$Grammar", "handSize", "()I"⟩
def ws_G_handSize : List Cond := Cond.code y_G_handSize b_G_handSize 1 (Option.some Jvm.ClassFile.FieldType.int) :: gw
theorem cin_G_handSize : Cond.code y_G_handSize b_G_handSize 1 (Option.some Jvm.ClassFile.FieldType.int) ∈ gw := tw_428
abbrev b_G_ruleCount : ByteArray := prog_4_method_11_code
def y_G_ruleCount : MethodName := ⟨"TreeMatcher$Grammar", "ruleCount", "()I"⟩
def ws_G_ruleCount : List Cond := Cond.code y_G_ruleCount b_G_ruleCount 1 (Option.some Jvm.ClassFile.FieldType.int) :: gw
theorem cin_G_ruleCount : Cond.code y_G_ruleCount b_G_ruleCount 1 (Option.some Jvm.ClassFile.FieldType.int) ∈ gw := tw_444
abbrev b_F_size : ByteArray := prog_3_method_2_code
def y_F_size : MethodName := ⟨"TreeMatcher$Forest", "size", "()I"⟩
def ws_F_size : List Cond := Cond.code y_F_size b_F_size 1 (Option.some Jvm.ClassFile.FieldType.int) :: gw
theorem cin_F_size : Cond.code y_F_size b_F_size 1 (Option.some Jvm.ClassFile.FieldType.int) ∈ gw := tw_448
abbrev b_P_size : ByteArray := prog_7_method_4_code
def y_P_size : MethodName := ⟨"TreeMatcher$Parts", "size", "()I"⟩
def ws_P_size : List Cond := Cond.code y_P_size b_P_size 1 (Option.some Jvm.ClassFile.FieldType.int) :: gw
theorem cin_P_size : Cond.code y_P_size b_P_size 1 (Option.some Jvm.ClassFile.FieldType.int) ∈ gw := tw_570
abbrev b_C_size : ByteArray := prog_2_method_2_code
def y_C_size : MethodName := ⟨"TreeMatcher$Covering", "size", "()I"⟩
def ws_C_size : List Cond := Cond.code y_C_size b_C_size 1 (Option.some Jvm.ClassFile.FieldType.int) :: gw
theorem cin_C_size : Cond.code y_C_size b_C_size 1 (Option.some Jvm.ClassFile.FieldType.int) ∈ gw := tw_732
abbrev b_G_hasLimits : ByteArray := prog_4_method_17_code
def y_G_hasLimits : MethodName := ⟨"TreeMatcher$Grammar", "hasLimits", "()Z"⟩
def ws_G_hasLimits : List Cond := Cond.code y_G_hasLimits b_G_hasLimits 1 (Option.some Jvm.ClassFile.FieldType.boolean) :: gw
theorem cin_G_hasLimits : Cond.code y_G_hasLimits b_G_hasLimits 1 (Option.some Jvm.ClassFile.FieldType.boolean) ∈ gw := tw_756
abbrev b_G_operatorCount : ByteArray := prog_4_method_4_code
def y_G_operatorCount : MethodName := ⟨"TreeMatcher$Grammar", "operatorCount", "()I"⟩
def ws_G_operatorCount : List Cond := Cond.code y_G_operatorCount b_G_operatorCount 1 (Option.some Jvm.ClassFile.FieldType.int) :: gw
theorem cin_G_operatorCount : Cond.code y_G_operatorCount b_G_operatorCount 1 (Option.some Jvm.ClassFile.FieldType.int) ∈ gw := tw_765
abbrev b_V_size : ByteArray := prog_9_method_2_code
def y_V_size : MethodName := ⟨"TreeMatcher$Vectors", "size", "()I"⟩
def ws_V_size : List Cond := Cond.code y_V_size b_V_size 1 (Option.some Jvm.ClassFile.FieldType.int) :: gw
theorem cin_V_size : Cond.code y_V_size b_V_size 1 (Option.some Jvm.ClassFile.FieldType.int) ∈ gw := tw_773
abbrev b_D_thrown : ByteArray := prog_11_method_2_code
def y_D_thrown : MethodName := ⟨"TreeMatcherModel", "thrown", "()I"⟩
def ws_D_thrown : List Cond := Cond.code y_D_thrown b_D_thrown 1 (Option.some Jvm.ClassFile.FieldType.int) :: gw
theorem cin_D_thrown : Cond.code y_D_thrown b_D_thrown 1 (Option.some Jvm.ClassFile.FieldType.int) ∈ gw := tw_947
theorem d_M_isWithin_0 : decode b_M_isWithin 0 = .ok (.iload_n 0, 1) := by decide +kernel
theorem d_M_isWithin_1 : decode b_M_isWithin 1 = .ok (.ifCond .lt 12, 3) := by decide +kernel
theorem d_M_isWithin_4 : decode b_M_isWithin 4 = .ok (.iload_n 0, 1) := by decide +kernel
theorem d_M_isWithin_5 : decode b_M_isWithin 5 = .ok (.iload_n 1, 1) := by decide +kernel
theorem d_M_isWithin_6 : decode b_M_isWithin 6 = .ok (.if_icmp .ge 7, 3) := by decide +kernel
theorem d_M_isWithin_9 : decode b_M_isWithin 9 = .ok (.iconst 1, 1) := by decide +kernel
theorem d_M_isWithin_10 : decode b_M_isWithin 10 = .ok (.goto 4, 3) := by decide +kernel
theorem d_M_isWithin_13 : decode b_M_isWithin 13 = .ok (.iconst 0, 1) := by decide +kernel
theorem d_M_isWithin_14 : decode b_M_isWithin 14 = .ok (.ireturn, 1) := by decide +kernel
theorem d_G_handSize_0 : decode b_G_handSize 0 = .ok (.aload_n 0, 1) := by decide +kernel
theorem d_G_handSize_1 : decode b_G_handSize 1 = .ok (.getfield 22, 3) := by decide +kernel
theorem d_G_handSize_4 : decode b_G_handSize 4 = .ok (.ireturn, 1) := by decide +kernel
theorem d_G_ruleCount_0 : decode b_G_ruleCount 0 = .ok (.aload_n 0, 1) := by decide +kernel
theorem d_G_ruleCount_1 : decode b_G_ruleCount 1 = .ok (.getfield 52, 3) := by decide +kernel
theorem d_G_ruleCount_4 : decode b_G_ruleCount 4 = .ok (.ireturn, 1) := by decide +kernel
theorem d_F_size_0 : decode b_F_size 0 = .ok (.aload_n 0, 1) := by decide +kernel
theorem d_F_size_1 : decode b_F_size 1 = .ok (.getfield 37, 3) := by decide +kernel
theorem d_F_size_4 : decode b_F_size 4 = .ok (.ireturn, 1) := by decide +kernel
theorem d_P_size_0 : decode b_P_size 0 = .ok (.aload_n 0, 1) := by decide +kernel
theorem d_P_size_1 : decode b_P_size 1 = .ok (.getfield 33, 3) := by decide +kernel
theorem d_P_size_4 : decode b_P_size 4 = .ok (.ireturn, 1) := by decide +kernel
theorem d_C_size_0 : decode b_C_size 0 = .ok (.aload_n 0, 1) := by decide +kernel
theorem d_C_size_1 : decode b_C_size 1 = .ok (.getfield 25, 3) := by decide +kernel
theorem d_C_size_4 : decode b_C_size 4 = .ok (.ireturn, 1) := by decide +kernel
theorem d_G_hasLimits_0 : decode b_G_hasLimits 0 = .ok (.aload_n 0, 1) := by decide +kernel
theorem d_G_hasLimits_1 : decode b_G_hasLimits 1 = .ok (.getfield 55, 3) := by decide +kernel
theorem d_G_hasLimits_4 : decode b_G_hasLimits 4 = .ok (.ireturn, 1) := by decide +kernel
theorem d_G_operatorCount_0 : decode b_G_operatorCount 0 = .ok (.aload_n 0, 1) := by decide +kernel
theorem d_G_operatorCount_1 : decode b_G_operatorCount 1 = .ok (.getfield 15, 3) := by decide +kernel
theorem d_G_operatorCount_4 : decode b_G_operatorCount 4 = .ok (.ireturn, 1) := by decide +kernel
theorem d_V_size_0 : decode b_V_size 0 = .ok (.aload_n 0, 1) := by decide +kernel
theorem d_V_size_1 : decode b_V_size 1 = .ok (.getfield 17, 3) := by decide +kernel
theorem d_V_size_4 : decode b_V_size 4 = .ok (.ireturn, 1) := by decide +kernel
theorem d_D_thrown_0 : decode b_D_thrown 0 = .ok (.aload_n 0, 1) := by decide +kernel
theorem d_D_thrown_1 : decode b_D_thrown 1 = .ok (.getfield 115, 3) := by decide +kernel
theorem d_D_thrown_4 : decode b_D_thrown 4 = .ok (.ireturn, 1) := by decide +kernel
end
section
set_option maxHeartbeats 4000000 in
set_option maxRecDepth 100000 in
/-- isWithin(x, y) -/
theorem c_M_isWithin (l : Launch) (dC : Nat → ClassId) (dI : Nat → Nat → Nat) (sz : Nat) (x y : Int32) : Met l y_M_isWithin ws_M_isWithin ({ frames := 0, cells := 0, slots := 0, locals := 0 }) (va_Pc [.int x, .int y] (fun U => U.heap.size = sz ∧ va_P (dC, dI) kcl [] U.heap ∧ va_K (dC, dI) kcl [] U)) (va_Qi (fun (r : Int32) (_ : Unit) => r = if 0 ≤ x ∧ x < y then 1 else 0) (fun (_ : Unit) (_ : State) => True) (va_A [] sz)) 0 0 (va_A [] sz) := by
  refine Met.ofW (cc := b_M_isWithin) (maxL := 2) (ret := (Option.some Jvm.ClassFile.FieldType.boolean)) (by decide) rfl ?_
  intro p e s m args below meth c s₁ B hml hv
  obtain ⟨rfl, hsz, hP, hK⟩ := hv
  have hx := B.exec
  have hb := B.bytes
  have hr := B.returns
  have hlocks := B.notSynchronized
  have hg : ∀ w ∈ gw, w.before _ s = true := fun w h => atoms_spec (ws := ws_M_isWithin) B.pre w (List.mem_cons_of_mem _ h)
  have hown : s.vm.findClass "TreeMatcher" = some m.cls := findClass_of_methodNamed B.named
  subst hsz
  have hA : ∀ q : Nat, s.heap.size ≤ q → va_A ([] : va_W) s.heap.size q := fun q h => Or.inr h
  generalize hAe : va_A ([] : va_W) s.heap.size = A at hA ⊢
  have hS : va_S A s.heap s.heap [] := va_S.rf
  have hl := lv_entry ([.int x, .int y] : List Value) (n := 2) (Nat.le_of_ble_eq_true rfl)
  rw [lg_entry_eq]
  generalize (lg_sl ([.int x, .int y] : List Value) ++ List.replicate (2 - (lg_sl ([.int x, .int y] : List Value)).length) Slot.unset).toArray = ls at hl ⊢
  have hl : lv_has ls 2 [(0, .int x), (1, .int y)] := hl
  refine lv_iload_n hx hb d_M_isWithin_0 rfl (lv_at hl 0 rfl) ?_
  refine lv_if_lt (tgt := 13) hx hb d_M_isWithin_1 (by decide) (fun c_1 => ?_) (fun c_1 => ?_)
  · refine lv_iconst (v := 0) hx hb d_M_isWithin_13 (by decide) ?_
    exact W.zret (v := 0) hx hb hr rfl (fun t ht hW => ⟨⟨0, (), rfl, (by rw [if_neg (fun h => absurd c_1 (Int32.not_lt.mpr h.1))]), trivial⟩, hS.F ht⟩) hS.2.2 d_M_isWithin_14
  · refine lv_iload_n hx hb d_M_isWithin_4 rfl (lv_at hl 0 rfl) ?_
    refine lv_iload_n hx hb d_M_isWithin_5 rfl (lv_at hl 1 rfl) ?_
    refine lv_icmp_ge (tgt := 13) hx hb d_M_isWithin_6 (by decide) (fun c_2 => ?_) (fun c_2 => ?_)
    · refine lv_iconst (v := 0) hx hb d_M_isWithin_13 (by decide) ?_
      exact W.zret (v := 0) hx hb hr rfl (fun t ht hW => ⟨⟨0, (), rfl, (by rw [if_neg (fun h => absurd h.2 (Int32.not_lt.mpr c_2))]), trivial⟩, hS.F ht⟩) hS.2.2 d_M_isWithin_14
    · refine lv_iconst (v := 1) hx hb d_M_isWithin_9 (by decide) ?_
      refine lv_goto (tgt := 14) hx hb d_M_isWithin_10 (by decide) ?_
      exact W.zret (v := 1) hx hb hr rfl (fun t ht hW => ⟨⟨1, (), rfl, (by rw [if_pos ⟨Int32.not_lt.mp c_1, Int32.not_le.mp c_2⟩]), trivial⟩, hS.F ht⟩) hS.2.2 d_M_isWithin_14
set_option maxHeartbeats 4000000 in
set_option maxRecDepth 100000 in
/-- TreeMatcher$Grammar.operatorCount() -/
theorem c_G_operatorCount (l : Launch) (dC : Nat → ClassId) (dI : Nat → Nat → Nat) (sz : Nat) (a : Nat) (za : Nat → Value) (v : Int32) : Met l y_G_operatorCount ws_G_operatorCount ({ frames := 0, cells := 0, slots := 0, locals := 0 }) (va_Pc [.ref a] (fun U => U.heap.size = sz ∧ va_P (dC, dI) kcl [(a, .inr (1, [(za 0), .int v, (za 2), (za 3), (za 4), (za 5), (za 6), (za 7), (za 8), (za 9), (za 10), (za 11), (za 12), (za 13)]))] U.heap ∧ va_K (dC, dI) kcl [] U)) (va_Qi (fun (r : Int32) (_ : Unit) => r = v) (fun (_ : Unit) (_ : State) => True) (va_A [] sz)) 0 0 (va_A [] sz) := by
  refine Met.ofW (cc := b_G_operatorCount) (maxL := 1) (ret := (Option.some Jvm.ClassFile.FieldType.int)) (by decide) rfl ?_
  intro p e s m args below meth c s₁ B hml hv
  obtain ⟨rfl, hsz, hP, hK⟩ := hv
  have hx := B.exec
  have hb := B.bytes
  have hr := B.returns
  have hlocks := B.notSynchronized
  have hg : ∀ w ∈ gw, w.before _ s = true := fun w h => atoms_spec (ws := ws_G_operatorCount) B.pre w (List.mem_cons_of_mem _ h)
  have hown : s.vm.findClass "TreeMatcher$Grammar" = some m.cls := findClass_of_methodNamed B.named
  subst hsz
  have hA : ∀ q : Nat, s.heap.size ≤ q → va_A ([] : va_W) s.heap.size q := fun q h => Or.inr h
  generalize hAe : va_A ([] : va_W) s.heap.size = A at hA ⊢
  have hS : va_S A s.heap s.heap [] := va_S.rf
  have hl := lv_entry ([.ref a] : List Value) (n := 1) (Nat.le_of_ble_eq_true rfl)
  rw [lg_entry_eq]
  generalize (lg_sl ([.ref a] : List Value) ++ List.replicate (1 - (lg_sl ([.ref a] : List Value)).length) Slot.unset).toArray = ls at hl ⊢
  have hl : lv_has ls 1 [(0, .ref a)] := hl
  refine lv_aload_n hx hb d_G_operatorCount_0 rfl (lv_at hl 0 rfl) ?_
  refine va_get (D := (dC, dI)) (ci := 1) (v := .int v) (C := kR_G) (T := kT_G) (N := 14) hx hb hg kin_G hown hK hP 0 rfl rfl 1 (by decide) (hg _ tw_82) (fun _ h9 => h9) rfl d_G_operatorCount_1 ?_
  exact W.iret (v := v) hx hb hr (fun t ht hW => ⟨⟨v, (), rfl, rfl, trivial⟩, hS.F ht⟩) hS.2.2 d_G_operatorCount_4
set_option maxHeartbeats 4000000 in
set_option maxRecDepth 100000 in
/-- TreeMatcher$Grammar.handSize() -/
theorem c_G_handSize (l : Launch) (dC : Nat → ClassId) (dI : Nat → Nat → Nat) (sz : Nat) (a : Nat) (za : Nat → Value) (v : Int32) : Met l y_G_handSize ws_G_handSize ({ frames := 0, cells := 0, slots := 0, locals := 0 }) (va_Pc [.ref a] (fun U => U.heap.size = sz ∧ va_P (dC, dI) kcl [(a, .inr (1, [(za 0), (za 1), (za 2), .int v, (za 4), (za 5), (za 6), (za 7), (za 8), (za 9), (za 10), (za 11), (za 12), (za 13)]))] U.heap ∧ va_K (dC, dI) kcl [] U)) (va_Qi (fun (r : Int32) (_ : Unit) => r = v) (fun (_ : Unit) (_ : State) => True) (va_A [] sz)) 0 0 (va_A [] sz) := by
  refine Met.ofW (cc := b_G_handSize) (maxL := 1) (ret := (Option.some Jvm.ClassFile.FieldType.int)) (by decide) rfl ?_
  intro p e s m args below meth c s₁ B hml hv
  obtain ⟨rfl, hsz, hP, hK⟩ := hv
  have hx := B.exec
  have hb := B.bytes
  have hr := B.returns
  have hlocks := B.notSynchronized
  have hg : ∀ w ∈ gw, w.before _ s = true := fun w h => atoms_spec (ws := ws_G_handSize) B.pre w (List.mem_cons_of_mem _ h)
  have hown : s.vm.findClass "TreeMatcher$Grammar" = some m.cls := findClass_of_methodNamed B.named
  subst hsz
  have hA : ∀ q : Nat, s.heap.size ≤ q → va_A ([] : va_W) s.heap.size q := fun q h => Or.inr h
  generalize hAe : va_A ([] : va_W) s.heap.size = A at hA ⊢
  have hS : va_S A s.heap s.heap [] := va_S.rf
  have hl := lv_entry ([.ref a] : List Value) (n := 1) (Nat.le_of_ble_eq_true rfl)
  rw [lg_entry_eq]
  generalize (lg_sl ([.ref a] : List Value) ++ List.replicate (1 - (lg_sl ([.ref a] : List Value)).length) Slot.unset).toArray = ls at hl ⊢
  have hl : lv_has ls 1 [(0, .ref a)] := hl
  refine lv_aload_n hx hb d_G_handSize_0 rfl (lv_at hl 0 rfl) ?_
  refine va_get (D := (dC, dI)) (ci := 1) (v := .int v) (C := kR_G) (T := kT_G) (N := 14) hx hb hg kin_G hown hK hP 0 rfl rfl 3 (by decide) (hg _ tw_84) (fun _ h9 => h9) rfl d_G_handSize_1 ?_
  exact W.iret (v := v) hx hb hr (fun t ht hW => ⟨⟨v, (), rfl, rfl, trivial⟩, hS.F ht⟩) hS.2.2 d_G_handSize_4
set_option maxHeartbeats 4000000 in
set_option maxRecDepth 100000 in
/-- TreeMatcher$Grammar.ruleCount() -/
theorem c_G_ruleCount (l : Launch) (dC : Nat → ClassId) (dI : Nat → Nat → Nat) (sz : Nat) (a : Nat) (za : Nat → Value) (v : Int32) : Met l y_G_ruleCount ws_G_ruleCount ({ frames := 0, cells := 0, slots := 0, locals := 0 }) (va_Pc [.ref a] (fun U => U.heap.size = sz ∧ va_P (dC, dI) kcl [(a, .inr (1, [(za 0), (za 1), (za 2), (za 3), (za 4), (za 5), (za 6), (za 7), (za 8), (za 9), (za 10), .int v, (za 12), (za 13)]))] U.heap ∧ va_K (dC, dI) kcl [] U)) (va_Qi (fun (r : Int32) (_ : Unit) => r = v) (fun (_ : Unit) (_ : State) => True) (va_A [] sz)) 0 0 (va_A [] sz) := by
  refine Met.ofW (cc := b_G_ruleCount) (maxL := 1) (ret := (Option.some Jvm.ClassFile.FieldType.int)) (by decide) rfl ?_
  intro p e s m args below meth c s₁ B hml hv
  obtain ⟨rfl, hsz, hP, hK⟩ := hv
  have hx := B.exec
  have hb := B.bytes
  have hr := B.returns
  have hlocks := B.notSynchronized
  have hg : ∀ w ∈ gw, w.before _ s = true := fun w h => atoms_spec (ws := ws_G_ruleCount) B.pre w (List.mem_cons_of_mem _ h)
  have hown : s.vm.findClass "TreeMatcher$Grammar" = some m.cls := findClass_of_methodNamed B.named
  subst hsz
  have hA : ∀ q : Nat, s.heap.size ≤ q → va_A ([] : va_W) s.heap.size q := fun q h => Or.inr h
  generalize hAe : va_A ([] : va_W) s.heap.size = A at hA ⊢
  have hS : va_S A s.heap s.heap [] := va_S.rf
  have hl := lv_entry ([.ref a] : List Value) (n := 1) (Nat.le_of_ble_eq_true rfl)
  rw [lg_entry_eq]
  generalize (lg_sl ([.ref a] : List Value) ++ List.replicate (1 - (lg_sl ([.ref a] : List Value)).length) Slot.unset).toArray = ls at hl ⊢
  have hl : lv_has ls 1 [(0, .ref a)] := hl
  refine lv_aload_n hx hb d_G_ruleCount_0 rfl (lv_at hl 0 rfl) ?_
  refine va_get (D := (dC, dI)) (ci := 1) (v := .int v) (C := kR_G) (T := kT_G) (N := 14) hx hb hg kin_G hown hK hP 0 rfl rfl 11 (by decide) (hg _ tw_92) (fun _ h9 => h9) rfl d_G_ruleCount_1 ?_
  exact W.iret (v := v) hx hb hr (fun t ht hW => ⟨⟨v, (), rfl, rfl, trivial⟩, hS.F ht⟩) hS.2.2 d_G_ruleCount_4
set_option maxHeartbeats 4000000 in
set_option maxRecDepth 100000 in
/-- TreeMatcher$Grammar.hasLimits() -/
theorem c_G_hasLimits (l : Launch) (dC : Nat → ClassId) (dI : Nat → Nat → Nat) (sz : Nat) (a : Nat) (za : Nat → Value) (v : Int32) (hv : v = 0 ∨ v = 1) : Met l y_G_hasLimits ws_G_hasLimits ({ frames := 0, cells := 0, slots := 0, locals := 0 }) (va_Pc [.ref a] (fun U => U.heap.size = sz ∧ va_P (dC, dI) kcl [(a, .inr (1, [(za 0), (za 1), (za 2), (za 3), (za 4), (za 5), (za 6), (za 7), (za 8), (za 9), (za 10), (za 11), .int v, (za 13)]))] U.heap ∧ va_K (dC, dI) kcl [] U)) (va_Qi (fun (r : Int32) (_ : Unit) => r = v) (fun (_ : Unit) (_ : State) => True) (va_A [] sz)) 0 0 (va_A [] sz) := by
  refine Met.ofW (cc := b_G_hasLimits) (maxL := 1) (ret := (Option.some Jvm.ClassFile.FieldType.boolean)) (by decide) rfl ?_
  intro p e s m args below meth c s₁ B hml hv
  obtain ⟨rfl, hsz, hP, hK⟩ := hv
  have hx := B.exec
  have hb := B.bytes
  have hr := B.returns
  have hlocks := B.notSynchronized
  have hg : ∀ w ∈ gw, w.before _ s = true := fun w h => atoms_spec (ws := ws_G_hasLimits) B.pre w (List.mem_cons_of_mem _ h)
  have hown : s.vm.findClass "TreeMatcher$Grammar" = some m.cls := findClass_of_methodNamed B.named
  subst hsz
  have hA : ∀ q : Nat, s.heap.size ≤ q → va_A ([] : va_W) s.heap.size q := fun q h => Or.inr h
  generalize hAe : va_A ([] : va_W) s.heap.size = A at hA ⊢
  have hS : va_S A s.heap s.heap [] := va_S.rf
  have hl := lv_entry ([.ref a] : List Value) (n := 1) (Nat.le_of_ble_eq_true rfl)
  rw [lg_entry_eq]
  generalize (lg_sl ([.ref a] : List Value) ++ List.replicate (1 - (lg_sl ([.ref a] : List Value)).length) Slot.unset).toArray = ls at hl ⊢
  have hl : lv_has ls 1 [(0, .ref a)] := hl
  refine lv_aload_n hx hb d_G_hasLimits_0 rfl (lv_at hl 0 rfl) ?_
  refine va_get (D := (dC, dI)) (ci := 1) (v := .int v) (C := kR_G) (T := kT_G) (N := 14) hx hb hg kin_G hown hK hP 0 rfl rfl 12 (by decide) (hg _ tw_93) (fun _ h9 => h9) rfl d_G_hasLimits_1 ?_
  exact W.zret (v := v) hx hb hr (by rcases hv with rfl | rfl <;> rfl) (fun t ht hW => ⟨⟨v, (), rfl, rfl, trivial⟩, hS.F ht⟩) hS.2.2 d_G_hasLimits_4
set_option maxHeartbeats 4000000 in
set_option maxRecDepth 100000 in
/-- TreeMatcher$Forest.size() -/
theorem c_F_size (l : Launch) (dC : Nat → ClassId) (dI : Nat → Nat → Nat) (sz : Nat) (a : Nat) (za : Nat → Value) (v : Int32) : Met l y_F_size ws_F_size ({ frames := 0, cells := 0, slots := 0, locals := 0 }) (va_Pc [.ref a] (fun U => U.heap.size = sz ∧ va_P (dC, dI) kcl [(a, .inr (2, [(za 0), (za 1), (za 2), (za 3), (za 4), (za 5), (za 6), (za 7), (za 8), .int v, (za 10), (za 11), (za 12), (za 13)]))] U.heap ∧ va_K (dC, dI) kcl [] U)) (va_Qi (fun (r : Int32) (_ : Unit) => r = v) (fun (_ : Unit) (_ : State) => True) (va_A [] sz)) 0 0 (va_A [] sz) := by
  refine Met.ofW (cc := b_F_size) (maxL := 1) (ret := (Option.some Jvm.ClassFile.FieldType.int)) (by decide) rfl ?_
  intro p e s m args below meth c s₁ B hml hv
  obtain ⟨rfl, hsz, hP, hK⟩ := hv
  have hx := B.exec
  have hb := B.bytes
  have hr := B.returns
  have hlocks := B.notSynchronized
  have hg : ∀ w ∈ gw, w.before _ s = true := fun w h => atoms_spec (ws := ws_F_size) B.pre w (List.mem_cons_of_mem _ h)
  have hown : s.vm.findClass "TreeMatcher$Forest" = some m.cls := findClass_of_methodNamed B.named
  subst hsz
  have hA : ∀ q : Nat, s.heap.size ≤ q → va_A ([] : va_W) s.heap.size q := fun q h => Or.inr h
  generalize hAe : va_A ([] : va_W) s.heap.size = A at hA ⊢
  have hS : va_S A s.heap s.heap [] := va_S.rf
  have hl := lv_entry ([.ref a] : List Value) (n := 1) (Nat.le_of_ble_eq_true rfl)
  rw [lg_entry_eq]
  generalize (lg_sl ([.ref a] : List Value) ++ List.replicate (1 - (lg_sl ([.ref a] : List Value)).length) Slot.unset).toArray = ls at hl ⊢
  have hl : lv_has ls 1 [(0, .ref a)] := hl
  refine lv_aload_n hx hb d_F_size_0 rfl (lv_at hl 0 rfl) ?_
  refine va_get (D := (dC, dI)) (ci := 2) (v := .int v) (C := kR_F) (T := kT_F) (N := 14) hx hb hg kin_F hown hK hP 0 rfl rfl 9 (by decide) (hg _ tw_200) (fun _ h9 => h9) rfl d_F_size_1 ?_
  exact W.iret (v := v) hx hb hr (fun t ht hW => ⟨⟨v, (), rfl, rfl, trivial⟩, hS.F ht⟩) hS.2.2 d_F_size_4
set_option maxHeartbeats 4000000 in
set_option maxRecDepth 100000 in
/-- TreeMatcher$Covering.size() -/
theorem c_C_size (l : Launch) (dC : Nat → ClassId) (dI : Nat → Nat → Nat) (sz : Nat) (a : Nat) (za : Nat → Value) (v : Int32) : Met l y_C_size ws_C_size ({ frames := 0, cells := 0, slots := 0, locals := 0 }) (va_Pc [.ref a] (fun U => U.heap.size = sz ∧ va_P (dC, dI) kcl [(a, .inr (3, [(za 0), (za 1), (za 2), (za 3), (za 4), (za 5), .int v]))] U.heap ∧ va_K (dC, dI) kcl [] U)) (va_Qi (fun (r : Int32) (_ : Unit) => r = v) (fun (_ : Unit) (_ : State) => True) (va_A [] sz)) 0 0 (va_A [] sz) := by
  refine Met.ofW (cc := b_C_size) (maxL := 1) (ret := (Option.some Jvm.ClassFile.FieldType.int)) (by decide) rfl ?_
  intro p e s m args below meth c s₁ B hml hv
  obtain ⟨rfl, hsz, hP, hK⟩ := hv
  have hx := B.exec
  have hb := B.bytes
  have hr := B.returns
  have hlocks := B.notSynchronized
  have hg : ∀ w ∈ gw, w.before _ s = true := fun w h => atoms_spec (ws := ws_C_size) B.pre w (List.mem_cons_of_mem _ h)
  have hown : s.vm.findClass "TreeMatcher$Covering" = some m.cls := findClass_of_methodNamed B.named
  subst hsz
  have hA : ∀ q : Nat, s.heap.size ≤ q → va_A ([] : va_W) s.heap.size q := fun q h => Or.inr h
  generalize hAe : va_A ([] : va_W) s.heap.size = A at hA ⊢
  have hS : va_S A s.heap s.heap [] := va_S.rf
  have hl := lv_entry ([.ref a] : List Value) (n := 1) (Nat.le_of_ble_eq_true rfl)
  rw [lg_entry_eq]
  generalize (lg_sl ([.ref a] : List Value) ++ List.replicate (1 - (lg_sl ([.ref a] : List Value)).length) Slot.unset).toArray = ls at hl ⊢
  have hl : lv_has ls 1 [(0, .ref a)] := hl
  refine lv_aload_n hx hb d_C_size_0 rfl (lv_at hl 0 rfl) ?_
  refine va_get (D := (dC, dI)) (ci := 3) (v := .int v) (C := kR_C) (T := kT_C) (N := 7) hx hb hg kin_C hown hK hP 0 rfl rfl 6 (by decide) (hg _ tw_246) (fun _ h9 => h9) rfl d_C_size_1 ?_
  exact W.iret (v := v) hx hb hr (fun t ht hW => ⟨⟨v, (), rfl, rfl, trivial⟩, hS.F ht⟩) hS.2.2 d_C_size_4
set_option maxHeartbeats 4000000 in
set_option maxRecDepth 100000 in
/-- TreeMatcher$Vectors.size() -/
theorem c_V_size (l : Launch) (dC : Nat → ClassId) (dI : Nat → Nat → Nat) (sz : Nat) (a : Nat) (za : Nat → Value) (v : Int32) : Met l y_V_size ws_V_size ({ frames := 0, cells := 0, slots := 0, locals := 0 }) (va_Pc [.ref a] (fun U => U.heap.size = sz ∧ va_P (dC, dI) kcl [(a, .inr (5, [(za 0), (za 1), (za 2), (za 3), (za 4), (za 5), (za 6), .int v]))] U.heap ∧ va_K (dC, dI) kcl [] U)) (va_Qi (fun (r : Int32) (_ : Unit) => r = v) (fun (_ : Unit) (_ : State) => True) (va_A [] sz)) 0 0 (va_A [] sz) := by
  refine Met.ofW (cc := b_V_size) (maxL := 1) (ret := (Option.some Jvm.ClassFile.FieldType.int)) (by decide) rfl ?_
  intro p e s m args below meth c s₁ B hml hv
  obtain ⟨rfl, hsz, hP, hK⟩ := hv
  have hx := B.exec
  have hb := B.bytes
  have hr := B.returns
  have hlocks := B.notSynchronized
  have hg : ∀ w ∈ gw, w.before _ s = true := fun w h => atoms_spec (ws := ws_V_size) B.pre w (List.mem_cons_of_mem _ h)
  have hown : s.vm.findClass "TreeMatcher$Vectors" = some m.cls := findClass_of_methodNamed B.named
  subst hsz
  have hA : ∀ q : Nat, s.heap.size ≤ q → va_A ([] : va_W) s.heap.size q := fun q h => Or.inr h
  generalize hAe : va_A ([] : va_W) s.heap.size = A at hA ⊢
  have hS : va_S A s.heap s.heap [] := va_S.rf
  have hl := lv_entry ([.ref a] : List Value) (n := 1) (Nat.le_of_ble_eq_true rfl)
  rw [lg_entry_eq]
  generalize (lg_sl ([.ref a] : List Value) ++ List.replicate (1 - (lg_sl ([.ref a] : List Value)).length) Slot.unset).toArray = ls at hl ⊢
  have hl : lv_has ls 1 [(0, .ref a)] := hl
  refine lv_aload_n hx hb d_V_size_0 rfl (lv_at hl 0 rfl) ?_
  refine va_get (D := (dC, dI)) (ci := 5) (v := .int v) (C := kR_V) (T := kT_V) (N := 8) hx hb hg kin_V hown hK hP 0 rfl rfl 7 (by decide) (hg _ tw_173) (fun _ h9 => h9) rfl d_V_size_1 ?_
  exact W.iret (v := v) hx hb hr (fun t ht hW => ⟨⟨v, (), rfl, rfl, trivial⟩, hS.F ht⟩) hS.2.2 d_V_size_4
set_option maxHeartbeats 4000000 in
set_option maxRecDepth 100000 in
/-- TreeMatcher$Parts.size() -/
theorem c_P_size (l : Launch) (dC : Nat → ClassId) (dI : Nat → Nat → Nat) (sz : Nat) (a : Nat) (za : Nat → Value) (v : Int32) : Met l y_P_size ws_P_size ({ frames := 0, cells := 0, slots := 0, locals := 0 }) (va_Pc [.ref a] (fun U => U.heap.size = sz ∧ va_P (dC, dI) kcl [(a, .inr (6, [(za 0), (za 1), (za 2), (za 3), (za 4), .int v]))] U.heap ∧ va_K (dC, dI) kcl [] U)) (va_Qi (fun (r : Int32) (_ : Unit) => r = v) (fun (_ : Unit) (_ : State) => True) (va_A [] sz)) 0 0 (va_A [] sz) := by
  refine Met.ofW (cc := b_P_size) (maxL := 1) (ret := (Option.some Jvm.ClassFile.FieldType.int)) (by decide) rfl ?_
  intro p e s m args below meth c s₁ B hml hv
  obtain ⟨rfl, hsz, hP, hK⟩ := hv
  have hx := B.exec
  have hb := B.bytes
  have hr := B.returns
  have hlocks := B.notSynchronized
  have hg : ∀ w ∈ gw, w.before _ s = true := fun w h => atoms_spec (ws := ws_P_size) B.pre w (List.mem_cons_of_mem _ h)
  have hown : s.vm.findClass "TreeMatcher$Parts" = some m.cls := findClass_of_methodNamed B.named
  subst hsz
  have hA : ∀ q : Nat, s.heap.size ≤ q → va_A ([] : va_W) s.heap.size q := fun q h => Or.inr h
  generalize hAe : va_A ([] : va_W) s.heap.size = A at hA ⊢
  have hS : va_S A s.heap s.heap [] := va_S.rf
  have hl := lv_entry ([.ref a] : List Value) (n := 1) (Nat.le_of_ble_eq_true rfl)
  rw [lg_entry_eq]
  generalize (lg_sl ([.ref a] : List Value) ++ List.replicate (1 - (lg_sl ([.ref a] : List Value)).length) Slot.unset).toArray = ls at hl ⊢
  have hl : lv_has ls 1 [(0, .ref a)] := hl
  refine lv_aload_n hx hb d_P_size_0 rfl (lv_at hl 0 rfl) ?_
  refine va_get (D := (dC, dI)) (ci := 6) (v := .int v) (C := kR_P) (T := kT_P) (N := 6) hx hb hg kin_P hown hK hP 0 rfl rfl 5 (by decide) (hg _ tw_64) (fun _ h9 => h9) rfl d_P_size_1 ?_
  exact W.iret (v := v) hx hb hr (fun t ht hW => ⟨⟨v, (), rfl, rfl, trivial⟩, hS.F ht⟩) hS.2.2 d_P_size_4
set_option maxHeartbeats 4000000 in
set_option maxRecDepth 100000 in
/-- TreeMatcherModel.thrown() -/
theorem c_D_thrown (l : Launch) (dC : Nat → ClassId) (dI : Nat → Nat → Nat) (sz : Nat) (a : Nat) (za : Nat → Value) (v : Int32) : Met l y_D_thrown ws_D_thrown ({ frames := 0, cells := 0, slots := 0, locals := 0 }) (va_Pc [.ref a] (fun U => U.heap.size = sz ∧ va_P (dC, dI) kcl [(a, .inr (9, [.int v, (za 1), (za 2), (za 3), (za 4), (za 5), (za 6), (za 7), (za 8), (za 9), (za 10), (za 11), (za 12), (za 13), (za 14), (za 15), (za 16), (za 17), (za 18), (za 19), (za 20), (za 21), (za 22), (za 23), (za 24), (za 25), (za 26), (za 27), (za 28), (za 29), (za 30), (za 31), (za 32), (za 33), (za 34), (za 35), (za 36), (za 37), (za 38), (za 39), (za 40), (za 41)]))] U.heap ∧ va_K (dC, dI) kcl [] U)) (va_Qi (fun (r : Int32) (_ : Unit) => r = v) (fun (_ : Unit) (_ : State) => True) (va_A [] sz)) 0 0 (va_A [] sz) := by
  refine Met.ofW (cc := b_D_thrown) (maxL := 1) (ret := (Option.some Jvm.ClassFile.FieldType.int)) (by decide) rfl ?_
  intro p e s m args below meth c s₁ B hml hv
  obtain ⟨rfl, hsz, hP, hK⟩ := hv
  have hx := B.exec
  have hb := B.bytes
  have hr := B.returns
  have hlocks := B.notSynchronized
  have hg : ∀ w ∈ gw, w.before _ s = true := fun w h => atoms_spec (ws := ws_D_thrown) B.pre w (List.mem_cons_of_mem _ h)
  have hown : s.vm.findClass "TreeMatcherModel" = some m.cls := findClass_of_methodNamed B.named
  subst hsz
  have hA : ∀ q : Nat, s.heap.size ≤ q → va_A ([] : va_W) s.heap.size q := fun q h => Or.inr h
  generalize hAe : va_A ([] : va_W) s.heap.size = A at hA ⊢
  have hS : va_S A s.heap s.heap [] := va_S.rf
  have hl := lv_entry ([.ref a] : List Value) (n := 1) (Nat.le_of_ble_eq_true rfl)
  rw [lg_entry_eq]
  generalize (lg_sl ([.ref a] : List Value) ++ List.replicate (1 - (lg_sl ([.ref a] : List Value)).length) Slot.unset).toArray = ls at hl ⊢
  have hl : lv_has ls 1 [(0, .ref a)] := hl
  refine lv_aload_n hx hb d_D_thrown_0 rfl (lv_at hl 0 rfl) ?_
  refine va_get (D := (dC, dI)) (ci := 9) (v := .int v) (C := kR_D) (T := kT_D) (N := 42) hx hb hg kin_D hown hK hP 0 rfl rfl 0 (by decide) (hg _ tw_817) (fun _ h9 => h9) rfl d_D_thrown_1 ?_
  exact W.iret (v := v) hx hb hr (fun t ht hW => ⟨⟨v, (), rfl, rfl, trivial⟩, hS.F ht⟩) hS.2.2 d_D_thrown_4
end
