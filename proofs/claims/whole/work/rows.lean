section
/-! A METHOD THAT MAY END IN A THROW; a call of it; the throw of a new exception with a literal; its catch -/
section TX1
variable {l : Launch}
/-- what a method leaves, however it ends -/
def tx_E (st t : State) (L : List Loc) (k n : Nat) : Prop := st.WarmedH t.vm ∧ st.sameButNew ({ t with vm := st.vm } : State) L k n
def tx_Met (l : Launch) (y : MethodName) (ws : List Cond) (rm : Room) (Pc : Array Value → State → Prop) (Qc : Array Value → State → Outcome → State → Prop) (mc ms : Nat) (free : Addr → Prop) : Prop :=
  MetFree l y (headSpec ws rm) Pc (fun _ _ _ _ _ => True) (fun a st o t => Qc a st o t ∧ ∃ L, tx_E st t L mc ms ∧ ∀ q ∈ L, free q.base)
def tx_MQ (below : List Frame) (Qc : Array Value → State → Outcome → State → Prop) (a : Array Value) (s : State) (mc ms : Nat) (free : Addr → Prop) : State → Prop := fun t =>
  ∃ o, t.status = .running ∧ Ended t below o ∧ Qc a s o t ∧ ∃ L, tx_E s t L mc ms ∧ ∀ q ∈ L, free q.base
/-- a walk of the body gives the contract -/
theorem tx_ofW {y : MethodName} {ws ws' : List Cond} {rm : Room} {Pc : Array Value → State → Prop} {Qc : Array Value → State → Outcome → State → Prop} {mc ms : Nat} {free : Addr → Prop} {cc : ByteArray} {maxL : Nat} {ret : Option FieldType}
    (hy : plainName y.cls = true) (hw : ws = Cond.code y cc maxL ret :: ws')
    (body : ∀ p e s m args below meth c s₁, BodyLoose p l y (headSpec ws rm) cc maxL ret e s m args below meth c s₁ → c.maxLocals = maxL → (∀ z ∈ c.exceptionTable.toList, ∀ pc, covers z pc = false) → l.admits e → Pc args s →
      W p l e (headSpec ws rm).room s m args below meth c s.heap [] 0 0 (tx_MQ below Qc args s mc ms free) (entryFrame m args maxL)) : tx_Met l y ws rm Pc Qc mc ms free := by
  refine MetFree.of_bodyS (code := cc) (maxLocals := maxL) (ret := ret) hy ?_ ?_
  · intro args s m h hn
    obtain ⟨meth, c, h1, h2, h3, h4, h5, h6, -, -⟩ := Cond.code_spec hn (atoms_spec (ws := ws) h _ (by rw [hw]; exact List.mem_cons_self))
    exact ⟨meth, c, h1, h2, h3, h4, h5, h6⟩
  · intro p e s m args below meth c s₁ B hml hP _
    have hh0 : s₁.heap = s.heap := by rw [B.state]; rfl
    have X := Stand.of_body B
    obtain ⟨meth', c', g1, g2, -, -, -, -, hempty, -⟩ := Cond.code_spec B.named (atoms_spec (ws := ws) B.pre _ (by rw [hw]; exact List.mem_cons_self))
    have hcc : c' = c := by
      cases X.method.symm.trans g1
      exact Option.some.inj (g2.symm.trans X.code)
    subst hcc
    have h0 : c'.exceptionTable.toList = [] := List.eq_nil_of_length_eq_zero (by simpa [Array.isEmpty] using hempty)
    obtain ⟨t, a1, o, b1, b2, b3⟩ := body p e s m args below meth c' s₁ B hml (fun z hz => by rw [h0] at hz; cases hz) X.admits hP s₁ hh0 X
    exact ⟨t, o, a1, b1, b2, ⟨b3.1, b3.2⟩⟩
end TX1
section TX2
variable {p : Program} {l : Launch} {e : Env} {R : Room} {s : State} {m : MethodId} {args : Array Value} {below : List Frame} {meth : Method} {c : Code} {H : Heap} {locs : List Loc} {cells slots : Nat} {Q : State → Prop}
theorem tx_mono {Q' : State → Prop} {g : JFrame} (h : W p l e R s m args below meth c H locs cells slots Q g) (hq : ∀ t, Q t → Q' t) : W p l e R s m args below meth c H locs cells slots Q' g := by
  intro T hT X
  obtain ⟨t, a, b⟩ := h T hT X
  exact ⟨t, a, hq t b⟩
/-- a return of a method that might have thrown -/
theorem tx_ret {Qc : Array Value → State → Outcome → State → Prop} {mc ms : Nat} {free : Addr → Prop} {g : JFrame} (h : W p l e R s m args below meth c H locs cells slots (MQ below Qc args s mc ms free) g) : W p l e R s m args below meth c H locs cells slots (tx_MQ below Qc args s mc ms free) g :=
  tx_mono h (fun t ⟨o, h1, h2, h3, L, hF, hL⟩ => ⟨o, h1, h2, h3, L, ⟨hF.2.1, hF.2.2⟩, hL⟩)
/-- a Met of a method that never throws, where one that may throw is wanted -/
theorem tx_ofMet {y : MethodName} {ws : List Cond} {rm : Room} {Pc : Array Value → State → Prop} {Qc : Array Value → State → Outcome → State → Prop} {mc ms : Nat} {free : Addr → Prop} (h : Met l y ws rm Pc Qc mc ms free) : tx_Met l y ws rm Pc Qc mc ms free := by
  intro p e ha hc hk s m args below hf happ hP hK
  obtain ⟨n, o, h1, h2, h3, h4, L, hF, hL⟩ := h p e ha hc hk s m args below hf happ hP hK
  exact ⟨n, o, h1, h2, h3, h4, L, ⟨hF.2.1, hF.2.2⟩, hL⟩
/-- the machine with the note 'x is being thrown' over the frame g comes to a state with Q -/
def tx_WT (p : Program) (l : Launch) (e : Env) (R : Room) (s : State) (m : MethodId) (args : Array Value) (below : List Frame) (meth : Method) (c : Code) (H : Heap) (locs : List Loc) (cells slots : Nat) (Q : State → Prop) (g : JFrame) (x : Addr) : Prop :=
  ∀ T : State, T.heap = H → Stand p l e R s m args below meth c T locs cells slots → ∃ t, Steps p.tables e below ((T.setTop g).pushFrame (.throwing x)) t ∧ Q t
/-- no handler covers the place: the method ends so -/
theorem tx_leave {Qc : Array Value → State → Outcome → State → Prop} {free : Addr → Prop} {x : Addr} {g : JFrame} (hg : g.method = m) (hlocked : g.locked = none) (hentered : g.entered = []) (hlocks : meth.locks = false) (hout : ∀ z ∈ c.exceptionTable.toList, ∀ pc, covers z pc = false)
    (hq : ∀ t : State, t.heap = H → s.WarmedH t.vm → Qc args s (.threw x) t) (hf : ∀ q ∈ locs, free q.base) : tx_WT p l e R s m args below meth c H locs cells slots (tx_MQ below Qc args s cells slots free) g x := by
  intro T hT X
  obtain ⟨h1, h2, h3, h4, h5⟩ := X.leaveThrown x hg hlocked hentered (fun z hz => hout z hz g.pc) hlocks
  exact ⟨_, h1, _, h2, h3, hq _ hT h4, locs, ⟨h4, h5⟩, hf⟩
end TX2
end
section
/-! A CATCH, its class resolved already or not yet -/
section TX3
variable {e : Env} {s : State} {f : JFrame} {a : Addr}
theorem tx_go {E : CtlPost} {d : Bool} {acts : List Action} {Q : Handler → Pre} {x : ExceptionTableEntry} {t : List ExceptionTableEntry} {c : ClassId} {cell : Cell} {vm' : Vm} (hx : covers x f.pc = true) (h0 : x.catchType ≠ 0)
    (hg : (resolveClass f.method.cls x.catchType).Gives e.toSetting s.vm (.ok c) vm') (hsz : vm'.classes.size ≤ s.vm.classes.size) (hcell : s.heap[a]? = some cell) (hobj : ∀ k, cell.vm ≠ .statics k)
    (hk : ∃ k, vm'.classes[cell.cls]? = some k) (hc : ∃ k, vm'.classes[c]? = some k) :
    wp (findHandler.go f a (x :: t)) Q E e d acts s ↔ if vm'.assignable cell.cls c = true then Q (.found x.handlerPc) d acts (s.setVm vm') else wp (findHandler.go f a t) Q E e d acts (s.setVm vm') := by
  simp only [covers] at hx
  obtain ⟨ha, ht⟩ := hg.op (op := VmOp.resolveClass f.method.cls x.catchType) rfl
  cases hfit : vm'.assignable cell.cls c <;>
    simp [findHandler.go, hx, h0, ha, ht, hsz, hcell, hobj, hk, hc, hfit, VmOp.dirties, VmOp.acts]
/-- what the search gives, and the tables that it leaves -/
def tx_Finds (e : Env) (s : State) (f : JFrame) (a : Addr) (h : Handler) (vm' : Vm) : Prop :=
  ∀ (Q : Handler → Pre) (E : CtlPost) (d : Bool) (acts : List Action), wp (findHandler f a) Q E e d acts s ↔ Q h d acts (s.setVm vm')
theorem tx_stepCatch {r : List Frame} {pc : Nat} {vm' : Vm} (hfind : tx_Finds e s f a (.found pc) vm') :
    (stepThrowing e s a (.java f :: r)).Is ((s.setVm vm').setFrames (.java { f with pc := pc, stack := [.ref a] } :: r)) [] := by
  simp only [stepThrowing, searchFrame, vmDo]
  generalize hr : Sem.go _ e false [] s = res
  obtain ⟨as, rfl, ha⟩ := Sem.eq_ok_of hr (a := Handler.found pc) (s' := s.setVm vm') (acts' := []) (by simp [hfind _ _ _ _])
  exact ⟨rfl, ha⟩
theorem tx_caught {tb : Tables} {target : State} {g : JFrame} {c : Code} {below : List Frame} {vm' : Vm} (h : At s g.method c below) {pc : Nat} (hfind : tx_Finds e ((s.setTop g).pushFrame (.throwing a)) g a (.found pc) vm')
    (hrest : Steps tb e below ((s.setVm vm').setTop { g with pc := pc, stack := [.ref a] }) target) :
    Steps tb e below ((s.setTop g).pushFrame (.throwing a)) target := by
  obtain ⟨hgo, hw⟩ := h.throwing a
  refine Steps.head hgo hw ?_
  rw [stepThread_throwing (frames_entered h.top _), (tx_stepCatch (s := (s.setTop g).pushFrame (.throwing a)) hfind).1]
  obtain ⟨g₀, hg⟩ := Option.isSome_iff_exists.mp h.top
  obtain ⟨r, hr⟩ := State.topJava?_eq_some.mp hg
  have hr' : (s.setVm vm').frames = .java g₀ :: r := hr
  rw [State.setTop_of_frames _ hr'] at hrest
  rw [hr, State.pushFrame, State.setTop_of_frames _ hr, State.setFrames_setFrames]
  have e1 : ((s.setFrames (.throwing a :: (s.setFrames (.java g :: r)).frames)).setVm vm').setFrames (.java { g with pc := pc, stack := [.ref a] } :: r) = (s.setVm vm').setFrames (.java { g with pc := pc, stack := [.ref a] } :: r) := by
    rw [show (s.setFrames (.throwing a :: (s.setFrames (.java g :: r)).frames)).setVm vm' = (s.setVm vm').setFrames (.throwing a :: (s.setFrames (.java g :: r)).frames) from rfl, State.setFrames_setFrames]
  first
    | exact e1 ▸ hrest
    | (rw [e1]; exact hrest)
    | exact hrest
end TX3
section TX4
variable {p : Program} {l : Launch} {e : Env} {R : Room} {s : State} {m : MethodId} {args : Array Value} {below : List Frame} {meth : Method} {c : Code} {T : State} {locs : List Loc} {cells slots : Nat}
/-- a row's class, resolved from the point T with tables vm -/
theorem tx_link (hpl : e.platform.magicAccessors = ({} : Platform).magicAccessors) {vm : Vm} (hw : s.WarmedH vm) {own C : String} {ix : Nat} (hown : s.vm.findClass own = some m.cls) (hlink : (Cond.classLink own ix C).before args s = true) {cC : ClassId} (hC : s.vm.findClass C = some cC) :
    ∃ vm', s.WarmedH vm' ∧ (resolveClass m.cls ix).Gives e.toSetting vm (.ok cC) vm' ∧ vm'.classes.size ≤ vm.classes.size := by
  obtain ⟨c', hc', hcl⟩ := Cond.classLink_spec hown hlink e.platform hpl
  cases hC.symm.trans hc'
  obtain ⟨dk, _, _, kt, hd, _, _, _, _, hkt, _, hopen⟩ := hcl.here
  have hcl₀ := hw.classLinks hcl
  exact ⟨_, hw.noted hd hopen (State.rightAt_cls hcl), resolveClass_links e.toSetting hcl₀, Nat.le_of_eq (by rw [Vm.size_noted])⟩
theorem tx_catch1 (X : Stand p l e R s m args below meth c T locs cells slots) {own C : String} {ix hpc : Nat} {x : ExceptionTableEntry} {rest : List ExceptionTableEntry} {g : JFrame} (hg : g.method = m) (htab : c.exceptionTable.toList = x :: rest) (hcov : covers x g.pc = true) (hix : x.catchType = ix) (hne : ix ≠ 0) (hh : x.handlerPc = hpc)
    (hown : s.vm.findClass own = some m.cls) (hlink : (Cond.classLink own ix C).before args s = true) {a : Addr} {cell : Cell} (hcell : T.heap[a]? = some cell) (hobj : cell.vm.isStatics = false) (hcls : s.vm.findClass C = some cell.cls) (hself : s.vm.assignable cell.cls cell.cls = true) :
    ∃ vm', s.WarmedH vm' ∧ ∀ tg, Steps p.tables e below ((T.setVm vm').setTop { g with pc := hpc, stack := [.ref a] }) tg → Steps p.tables e below ((T.setTop g).pushFrame (.throwing a)) tg := by
  have hpl : e.platform.magicAccessors = ({} : Platform).magicAccessors := by rw [X.admits.platform]
  obtain ⟨vm', hW', hgv, hsz⟩ := tx_link (e := e) hpl X.warmed hown hlink hcls
  refine ⟨vm', hW', fun tg hrest => ?_⟩
  have h : At T g.method c below := by rw [hg]; exact X.here
  obtain ⟨k, hk⟩ := Vm.classAt_of_findClass hcls
  obtain ⟨k', hk', -⟩ := hW'.alike.2.2 _ _ hk
  refine tx_caught h (vm' := vm') (pc := hpc) ?_ hrest
  intro Q E d acts
  have hm : ((T.setTop g).pushFrame (.throwing a)).vm.method? g.method = some meth := by rw [throwing_vm, hg]; exact X.method'
  rw [Jvm.W.findHandler_eq hm X.code, htab]
  rw [tx_go (c := cell.cls) (cell := cell) (vm' := vm') hcov (by rw [hix]; exact hne) (by rw [hg, hix, throwing_vm]; exact hgv) (by rw [throwing_vm]; exact hsz) (by rw [throwing_heap]; exact hcell) (fun z h => by rw [h] at hobj; cases hobj) ⟨k', hk'⟩ ⟨k', hk'⟩]
  rw [if_pos (by rw [hW'.alike.assignable]; exact hself), hh]
theorem tx_catch2 (X : Stand p l e R s m args below meth c T locs cells slots) {own C C0 : String} {ix ix0 hpc : Nat} {x0 x : ExceptionTableEntry} {rest : List ExceptionTableEntry} {g : JFrame} (hg : g.method = m) (htab : c.exceptionTable.toList = x0 :: x :: rest) (hcov0 : covers x0 g.pc = true) (hix0 : x0.catchType = ix0) (hne0 : ix0 ≠ 0) (hcov : covers x g.pc = true) (hix : x.catchType = ix) (hne : ix ≠ 0) (hh : x.handlerPc = hpc)
    (hown : s.vm.findClass own = some m.cls) (hlink0 : (Cond.classLink own ix0 C0).before args s = true) (hlink : (Cond.classLink own ix C).before args s = true) {a : Addr} {cell : Cell} {c0 : ClassId} (hcell : T.heap[a]? = some cell) (hobj : cell.vm.isStatics = false) (hcls : s.vm.findClass C = some cell.cls) (hself : s.vm.assignable cell.cls cell.cls = true) (hcls0 : s.vm.findClass C0 = some c0) (hnot : s.vm.assignable cell.cls c0 = false) :
    ∃ vm', s.WarmedH vm' ∧ ∀ tg, Steps p.tables e below ((T.setVm vm').setTop { g with pc := hpc, stack := [.ref a] }) tg → Steps p.tables e below ((T.setTop g).pushFrame (.throwing a)) tg := by
  have hpl : e.platform.magicAccessors = ({} : Platform).magicAccessors := by rw [X.admits.platform]
  obtain ⟨vm0, hW0, hgv0, hsz0⟩ := tx_link (e := e) hpl X.warmed hown hlink0 hcls0
  obtain ⟨vm', hW', hgv, hsz⟩ := tx_link (e := e) hpl hW0 hown hlink hcls
  refine ⟨vm', hW', fun tg hrest => ?_⟩
  have h : At T g.method c below := by rw [hg]; exact X.here
  obtain ⟨k, hk⟩ := Vm.classAt_of_findClass hcls
  obtain ⟨k', hk', -⟩ := hW'.alike.2.2 _ _ hk
  obtain ⟨k1, hk1, -⟩ := hW0.alike.2.2 _ _ hk
  obtain ⟨j, hj⟩ := Vm.classAt_of_findClass hcls0
  obtain ⟨j1, hj1, -⟩ := hW0.alike.2.2 _ _ hj
  refine tx_caught h (vm' := vm') (pc := hpc) ?_ hrest
  intro Q E d acts
  have hm : ((T.setTop g).pushFrame (.throwing a)).vm.method? g.method = some meth := by rw [throwing_vm, hg]; exact X.method'
  rw [Jvm.W.findHandler_eq hm X.code, htab]
  rw [tx_go (c := c0) (cell := cell) (vm' := vm0) hcov0 (by rw [hix0]; exact hne0) (by rw [hg, hix0, throwing_vm]; exact hgv0) (by rw [throwing_vm]; exact hsz0) (by rw [throwing_heap]; exact hcell) (fun z h => by rw [h] at hobj; cases hobj) ⟨k1, hk1⟩ ⟨j1, hj1⟩]
  rw [if_neg (by rw [hW0.alike.assignable, hnot]; decide)]
  rw [tx_go (c := cell.cls) (cell := cell) (vm' := vm') hcov (by rw [hix]; exact hne) (by rw [hg, hix]; exact hgv) hsz (by
      have q : (((T.setTop g).pushFrame (.throwing a)).setVm vm0).heap = T.heap := throwing_heap T g a
      rw [q]; exact hcell) (fun z h => by rw [h] at hobj; cases hobj) ⟨k', hk'⟩ ⟨k', hk'⟩]
  rw [if_pos (by rw [hW'.alike.assignable]; exact hself), hh]
  exact Iff.rfl
end TX4
end
section
/-! A CALL OF A METHOD THAT MAY THROW; a throw of a new exception -/
section TX5
variable {p : Program} {l : Launch} {e : Env} {R : Room} {s : State} {m : MethodId} {args : Array Value} {below : List Frame} {meth : Method} {c : Code} {T : State} {locs : List Loc} {cells slots : Nat}
/-- where the caller stands behind the call: on, with the value; or with the note that x is thrown -/
def tx_on (p : Program) (e : Env) (below : List Frame) (S0 T' : State) (g : JFrame) (len : Nat) (o : Outcome) : Prop := match o with
  | .returned v => Steps p.tables e below S0 (T'.setTop { g with pc := g.pc + len, stack := v.toList ++ g.stack })
  | .threw x => Steps p.tables e below S0 ((T'.setTop g).pushFrame (.throwing x))
theorem tx_back (X : Stand p l e R s m args below meth c T locs cells slots) {y : MethodName} {ws : List Cond} {rm : Room} {Pc : Array Value → State → Prop} {Qc : Array Value → State → Outcome → State → Prop} {mc ms : Nat} {free : Addr → Prop} {bytes : ByteArray} {maxL : Nat} {ret : Option FieldType}
    (hM : tx_Met l y ws rm Pc Qc mc ms free) (hbl : FrameBlind Pc) (hrc : rm.cells = mc) (hrs : rm.slots = ms) (hframes : rm.frames + 1 ≤ R.frames) (hlocals : 8 + (maxL + 11) + rm.locals ≤ R.locals)
    (hws : ∀ w ∈ ws, ∀ (a' : Array Value) (U : State), s.WarmedH U.vm → w.before a' U = true) (hcode : Cond.code y bytes maxL ret ∈ ws) (hinit : ∀ (a' : Array Value) (U : State), s.WarmedH U.vm → (Cond.initialized y.cls).before a' U = true)
    (hf : cells + mc ≤ R.cells ∧ slots + ms ≤ R.slots) {g : JFrame} (hg : g.method = m) (hsize : g.locals.size = c.maxLocals) {ig : Instr} {len : Nat} (hdg : decode c.code g.pc = .ok (ig, len)) (hW : 2 * g.monitorRoom + (g.stack.map fun v => v.category).sum ≤ 8)
    {mk : MethodId} (hn : T.methodNamed? y = some mk) {a : Array Value} (hPc : Pc a T) :
    ∃ (o : Outcome) (t T' : State) (L : List Loc), Stand p l e R s m args below meth c T' (locs ++ L) (cells + mc) (slots + ms) ∧ (∀ q ∈ L, free q.base) ∧ T'.heap = t.heap ∧ T'.vm = t.vm ∧ Qc a (T.calling g mk a) o t ∧ tx_on p e below (doInvoke e (T.setTop g) [] mk a).1 T' g len o := by
  have h2 := hws _ hcode a T X.warmed
  obtain ⟨methY, cY, hmY, hcY, -, hlY, -, -, -, -⟩ := Cond.code_spec hn h2
  obtain ⟨kY, hkY, -⟩ := className_of_methodNamed hn
  have hinitY : kY.init = .initialized := Cond.initialized_spec (findClass_of_methodNamed hn) hkY (hinit a T X.warmed)
  have h : At T g.method c below := by rw [hg]; exact X.here
  have happ : (headSpec ws rm).appliesLoose y e.platform (T.calling g mk a) = true :=
    Spec.appliesLoose_calling (g := g) h hdg hn hkY hinitY
      (X.room_calling (g := g) (R' := (headSpec ws rm).room) hsize hmY hcY hframes (by rw [hlY]; show _ + rm.locals ≤ _; omega) (by rw [show (headSpec ws rm).room.cells = mc from hrc]; exact hf.1) (by rw [show (headSpec ws rm).room.slots = ms from hrs]; exact hf.2)) (atoms_intro fun w hw => hws w hw _ _ X.warmed)
  obtain ⟨mid, hmid⟩ := h.above
  have hfr : (T.setTop g).frames = (.java g :: mid) ++ below := by rw [State.frames_setTop' g h.top, hmid]; rfl
  obtain ⟨o, s₂, hsteps, -, hend, hq⟩ := Steps.callFree hM p X.admits X.cas X.clock (acts := []) hfr happ (hbl _ _ _ _ hPc) trivial
  have hq' : Qc a (T.calling g mk a) o s₂ ∧ ∃ L, tx_E (T.calling g mk a) s₂ L mc ms ∧ ∀ q ∈ L, free q.base := hq
  rw [State.frames_setTop' g h.top] at hend
  obtain ⟨hqc, L, ⟨hW₂, e2, q2, q3, q4, q5, q6⟩, hL⟩ := hq'
  have e3 : s₂ = ({ (T.calling g mk a).setFrames s₂.frames with heap := s₂.heap, slotsUsed := s₂.slotsUsed } : State).setVm s₂.vm := by
    have : s₂ = ({ s₂ with vm := (T.calling g mk a).vm } : State).setVm s₂.vm := rfl
    rw [e2] at this
    exact this
  have hW' : T.WarmedH s₂.vm := hW₂
  obtain ⟨g₀, hg0⟩ := Option.isSome_iff_exists.mp h.top
  obtain ⟨r, hr⟩ := State.topJava?_eq_some.mp hg0
  have hr' : (({ T with heap := s₂.heap, slotsUsed := s₂.slotsUsed } : State).setVm s₂.vm).frames = .java g₀ :: r := hr
  have hsame : T.sameButNew ({ T with heap := s₂.heap, slotsUsed := s₂.slotsUsed } : State) L mc ms := by
    refine ⟨?_, q2, q3, q4, q5, q6⟩
    obtain ⟨t, ht, -⟩ := State.frames_cons hr
    show ({ T with heap := s₂.heap, slotsUsed := s₂.slotsUsed } : State) = { T.setFrames T.frames with heap := s₂.heap, slotsUsed := s₂.slotsUsed }
    rw [State.setFrames_self ht]
  subst hg
  refine ⟨o, s₂, (({ T with heap := s₂.heap, slotsUsed := s₂.slotsUsed } : State).setVm s₂.vm), L,
    ⟨X.admits, X.cas, X.clock, X.frames, X.room, X.hears, X.method, X.code, (X.here.setHeapUsed s₂.heap s₂.slotsUsed).setVm hW'.alike, X.tail, State.WarmedH.trans X.warmed hW', X.limits, X.bytes, X.same.trans (hsame.setVm s.vm)⟩, hL, rfl, rfl, hqc, ?_⟩
  cases o with
  | returned v =>
    obtain ⟨c₂, i₂, len₂, hc₂, hd₂, hf₂⟩ := hend
    have hcc : c₂ = c := by
      have h1 : s₂.code? g.method = T.code? g.method := by
        rw [State.code?_eq, State.code?_eq, hW'.alike.method?]
      exact Option.some.inj (hc₂.symm.trans (h1.trans h.code))
    subst hcc
    have hlen : len₂ = len := by rw [hdg] at hd₂; cases hd₂; rfl
    subst hlen
    have hs₂ : s₂ = (({ T with heap := s₂.heap, slotsUsed := s₂.slotsUsed } : State).setVm s₂.vm).setTop { g with pc := g.pc + len₂, stack := v.toList ++ g.stack } := by
      refine e3.trans ?_
      rw [hf₂, State.calling_eq h.top, State.setFrames_setFrames, State.setTop_of_frames _ hr', hr]
      rfl
    show Steps p.tables e below _ ((({ T with heap := s₂.heap, slotsUsed := s₂.slotsUsed } : State).setVm s₂.vm).setTop { g with pc := g.pc + len₂, stack := v.toList ++ g.stack })
    rw [← hs₂]
    exact hsteps
  | threw x =>
    have hf₂ : s₂.frames = .throwing x :: .java g :: T.frames.tail := hend
    have hs₂ : s₂ = ((({ T with heap := s₂.heap, slotsUsed := s₂.slotsUsed } : State).setVm s₂.vm).setTop g).pushFrame (.throwing x) := by
      refine e3.trans ?_
      rw [hf₂, State.calling_eq h.top, State.setFrames_setFrames, State.pushFrame, State.frames_setTop _ hr', State.setTop_of_frames _ hr', State.setFrames_setFrames, hr]
      rfl
    show Steps p.tables e below _ (((({ T with heap := s₂.heap, slotsUsed := s₂.slotsUsed } : State).setVm s₂.vm).setTop g).pushFrame (.throwing x))
    rw [← hs₂]
    exact hsteps
end TX5
section TX6
variable {p : Program} {l : Launch} {e : Env} {R : Room} {s : State} {m : MethodId} {args : Array Value} {below : List Frame} {meth : Method} {c : Code} {H : Heap} {locs : List Loc} {cells slots : Nat} {Q : State → Prop}
def tx_Run (p : Program) (l : Launch) (e : Env) (R : Room) (s : State) (m : MethodId) (args : Array Value) (below : List Frame) (meth : Method) (c : Code) (H : Heap) (locs : List Loc) (cells slots mc ms : Nat) (g : JFrame) (rest : List Value) (Qa : State → Outcome → State → Prop) (free : Addr → Prop) : Prop :=
  ∀ T : State, T.heap = H → Stand p l e R s m args below meth c T locs cells slots → ∃ (o : Outcome) (st₀ t T' : State) (L : List Loc), st₀.heap = H ∧ Stand p l e R s m args below meth c T' (locs ++ L) (cells + mc) (slots + ms) ∧ (∀ q ∈ L, free q.base) ∧ T'.heap = t.heap ∧ T'.vm = t.vm ∧ Qa st₀ o t ∧ tx_on p e below (T.setTop g) T' { g with stack := rest } 3 o
variable {y : MethodName} {bytes cc : ByteArray} {maxL nL mc ms n index : Nat} {ret : Option FieldType} {ws : List Cond} {rm : Room} {Pc : Array Value → State → Prop} {Qc : Array Value → State → Outcome → State → Prop} {free : Addr → Prop} {Ts : List Cond} {own C : String} {b : Addr} {As rest : List Value} {g : JFrame}
theorem tx_on.head {S0 S1 T' : State} {len : Nat} {o : Outcome} (h : tx_on p e below S1 T' g len o) (hs : ∀ tg, Steps p.tables e below S1 tg → Steps p.tables e below S0 tg) : tx_on p e below S0 T' g len o := by
  cases o with
  | returned v => exact hs _ h
  | threw x => exact hs _ h
theorem tx_runV (S : CallFix p m c cc nL s args Ts own) (hM : tx_Met l y ws rm Pc Qc mc ms free) (cw : CallW R s args own C index y bytes maxL ret ws rm mc ms n) (hp : PreV s H C b Pc As)
    (hg : g.method = m) (hn : As.length = n) (hsize : g.locals.size = nL) (hstack : g.stack = As.reverse ++ .ref b :: rest) (hW : 2 * g.monitorRoom + (rest.map fun v => v.category).sum ≤ 8) (hdg : decode cc g.pc = .ok (.invokevirtual index, 3)) (hf : cells + mc ≤ R.cells ∧ slots + ms ≤ R.slots) :
    tx_Run p l e R s m args below meth c H locs cells slots mc ms g rest (Qc (Value.ref b :: As).toArray) (free) := by
  obtain ⟨⟨hrc, hrs, hfr, hlo, hws, hcw, hcode, hini, hy, hlen, hl⟩, hinst, hsel⟩ := cw
  obtain ⟨hx, hb, hml, ho, -⟩ := S
  obtain ⟨hbl, ⟨cellB, hcB, hoB, hclB⟩, hPc⟩ := hp
  intro T hT X
  obtain ⟨mk, methM, hnamed, hmethM, hstM, habM⟩ := Cond.instanceMethod_spec hinst
  obtain ⟨methM', cM, hmethM', -, -, -, -, -, -, hsigM⟩ := Cond.code_spec hnamed hcode
  cases hmethM.symm.trans hmethM'
  obtain ⟨c2, r2, m2, q1, q2, q3, q4, kP, hkP, hkPi⟩ := Cond.selects_spec hsel
  cases hclB.symm.trans q1
  cases (State.methodFound?_of_named hnamed hy).symm.trans q2
  cases hnamed.symm.trans q3
  have hselP : selectMethod e.platform s.vm cellB.cls mk = .method mk := by rw [Launch.admits_selectMethod X.admits]; exact q4
  obtain ⟨vm₁, X₁, hstep₁⟩ := X.invokevirtual hx ho hl hnamed hmethM hstM hkP hkPi hy (a := b) (cell := cellB) (by rw [hT]; exact hcB)
    (fun z h => by rw [h] at hoB; cases hoB) hselP hmethM habM hkP hkPi (g := g) hg (argsL := As) (rest := rest) (hn.trans (hlen _ hsigM)) hstack (by rw [hb]; exact hdg)
  obtain ⟨o, t, T', L, X', hL, e1, e2, hq, hon⟩ := tx_back (g := { g with stack := rest }) X₁ hM hbl hrc hrs hfr hlo hws hcw (fun a' U hW => word_at hW (Or.inl (by first | rfl | simp [Cond.onTables, Cond.keeps, Cond.steady])) hini) hf hg (hsize.trans hml.symm) (by rw [hb]; exact hdg) hW (X₁.named hnamed) (hPc (T.setVm vm₁) hT X₁.warmed)
  exact ⟨o, (T.setVm vm₁).calling { g with stack := rest } mk (Value.ref b :: As).toArray, t, T', L, hT, X', hL, e1, e2, hq, hon.head (fun tg h => hstep₁ _ fun acts => by rw [doInvoke_state]; exact h)⟩
/-- an exception of class X: what a catch asks of it -/
def tx_X (X : String) (x : Addr) (U : State) (H : Heap) : Prop := ∃ ce : Cell, H[x]? = some ce ∧ ce.vm.isStatics = false ∧ U.vm.findClass X = some ce.cls ∧ U.vm.assignable ce.cls ce.cls = true
theorem tx_X.moved {X : String} {x : Addr} {u U : State} {H : Heap} (hvm : u.vm.Alike U.vm) (h : tx_X X x u H) : tx_X X x U H := by
  obtain ⟨ce, h1, h2, h3, h4⟩ := h
  exact ⟨ce, h1, h2, by rw [hvm.findClass]; exact h3, by rw [hvm.assignable]; exact h4⟩
/-- an end with a value, or with an exception -/
def tx_Q (post : Option Value → Prop) (exc : String → Prop) (A : Nat → Prop) : Array Value → State → Outcome → State → Prop := fun _ st o t =>
  ((∃ v, o = .returned v ∧ post v) ∨ ∃ (x : Addr) (X : String), o = .threw x ∧ exc X ∧ tx_X X x t t.heap) ∧ va_F A st t
variable {pc : Nat} {ls : Array Slot} {st0 : List Value} {a : Array Value} {A0 A1 : Nat → Prop} {H0 : Heap}
theorem tx_call {post : Option Value → Prop} {exc : String → Prop} (hr : tx_Run p l e R s m args below meth c H locs cells slots mc ms (F0 m pc ls st0) rest (tx_Q post exc A1 a) free) (hS : va_S A0 H0 H locs) (hA : ∀ q, q < H.size → A1 q → A0 q) (hf : ∀ q, free q → A0 q)
    (kr : ∀ (v : Option Value) (H1 : Heap) (locs1 : List Loc), post v → H.size ≤ H1.size → (∀ q : Nat, q < H.size → ¬ A1 q → H1[q]? = H[q]?) → va_S A0 H0 H1 locs1 → W p l e R s m args below meth c H1 locs1 (cells + mc) (slots + ms) Q (F0 m (pc + 3) ls (v.toList ++ rest)))
    (kx : ∀ (x : Addr) (X : String) (H1 : Heap) (locs1 : List Loc), exc X → tx_X X x s H1 → H.size ≤ H1.size → (∀ q : Nat, q < H.size → ¬ A1 q → H1[q]? = H[q]?) → va_S A0 H0 H1 locs1 → tx_WT p l e R s m args below meth c H1 locs1 (cells + mc) (slots + ms) Q (F0 m pc ls rest) x) : W p l e R s m args below meth c H locs cells slots Q (F0 m pc ls st0) := by
  intro T hT X
  obtain ⟨o, st₀, t, T', L, h0, X', hL, e1, e2, ⟨ho, hz, hk⟩, hon⟩ := hr T hT X
  rw [h0] at hz hk
  have hz' : H.size ≤ T'.heap.size := by rw [e1]; exact hz
  have hk' : ∀ q : Nat, q < H.size → ¬ A1 q → T'.heap[q]? = H[q]? := fun q h1 h2 => by rw [e1]; exact hk q h1 h2
  have hS' : va_S A0 H0 T'.heap (locs ++ L) := ⟨Nat.le_trans hS.1 hz', fun q h1 h2 => by rw [hk' q (Nat.lt_of_lt_of_le h1 hS.1) (fun z => h2 (hA q (Nat.lt_of_lt_of_le h1 hS.1) z))]; exact hS.2.1 q h1 h2, fun q hq => by
      rcases List.mem_append.mp hq with h | h
      · exact hS.2.2 q h
      · exact hf _ (hL q h)⟩
  rcases ho with ⟨v, rfl, hp⟩ | ⟨x, E, rfl, hp, hx⟩
  · obtain ⟨t2, a1, b1⟩ := kr v T'.heap (locs ++ L) hp hz' hk' hS' T' rfl X'
    exact ⟨t2, Steps.trans hon a1, b1⟩
  · obtain ⟨t2, a1, b1⟩ := kx x E T'.heap (locs ++ L) hp (by rw [e1]; exact tx_X.moved (by rw [← e2]; exact X'.warmed.alike.symm) hx) hz' hk' hS' T' rfl X'
    exact ⟨t2, Steps.trans hon a1, b1⟩
end TX6
end
section
-- ===== PART A: goes FIRST, ahead of the names: the tables' words, and 'selects' of the private methods out of them =====
/-- a private method of a class that the tables say can be made, by its rows of tables_1 -/
def lw_okq (q : MethodName × Nat) : Prop := (q.1.cls ≠ "java/lang/invoke/MethodHandle" ∧ q.1.cls ≠ "java/lang/invoke/VarHandle") ∧ Cond.instantiable q.1.cls q.2 ∈ tables_1 ∧ Cond.privateMethod q.1 ∈ tables_1 ∧ Cond.instanceMethod q.1 ∈ tables_1
theorem lw_p0 : lw_okq (⟨"java/lang/Throwable", "fillInStackTrace", "(I)Ljava/lang/Throwable;"⟩, 6) := ⟨⟨by decide +kernel, by decide +kernel⟩, List.mem_of_getElem? (i := 363) (by decide +kernel), List.mem_of_getElem? (i := 361) (by decide +kernel), List.mem_of_getElem? (i := 362) (by decide +kernel)⟩
theorem lw_p1 : lw_okq (⟨"TreeMatcher$Parts", "addPart", "(II)I"⟩, 6) := ⟨⟨by decide +kernel, by decide +kernel⟩, List.mem_of_getElem? (i := 52) (by decide +kernel), List.mem_of_getElem? (i := 479) (by decide +kernel), List.mem_of_getElem? (i := 480) (by decide +kernel)⟩
theorem lw_p2 : lw_okq (⟨"TreeMatcher$Forest", "isFree", "(I)Z"⟩, 14) := ⟨⟨by decide +kernel, by decide +kernel⟩, List.mem_of_getElem? (i := 125) (by decide +kernel), List.mem_of_getElem? (i := 500) (by decide +kernel), List.mem_of_getElem? (i := 501) (by decide +kernel)⟩
theorem lw_p3 : lw_okq (⟨"TreeMatcher$Forest", "adopt", "(I)I"⟩, 14) := ⟨⟨by decide +kernel, by decide +kernel⟩, List.mem_of_getElem? (i := 125) (by decide +kernel), List.mem_of_getElem? (i := 511) (by decide +kernel), List.mem_of_getElem? (i := 512) (by decide +kernel)⟩
theorem lw_p4 : lw_okq (⟨"TreeMatcher$Vectors", "compose", "(III)J"⟩, 8) := ⟨⟨by decide +kernel, by decide +kernel⟩, List.mem_of_getElem? (i := 149) (by decide +kernel), List.mem_of_getElem? (i := 519) (by decide +kernel), List.mem_of_getElem? (i := 520) (by decide +kernel)⟩
theorem lw_p5 : lw_okq (⟨"TreeMatcher$Vectors", "entry", "(II)J"⟩, 8) := ⟨⟨by decide +kernel, by decide +kernel⟩, List.mem_of_getElem? (i := 149) (by decide +kernel), List.mem_of_getElem? (i := 540) (by decide +kernel), List.mem_of_getElem? (i := 541) (by decide +kernel)⟩
theorem lw_p6 : lw_okq (⟨"TreeMatcher$Vectors", "subtract", "(IJ)V"⟩, 8) := ⟨⟨by decide +kernel, by decide +kernel⟩, List.mem_of_getElem? (i := 149) (by decide +kernel), List.mem_of_getElem? (i := 556) (by decide +kernel), List.mem_of_getElem? (i := 557) (by decide +kernel)⟩
theorem lw_p7 : lw_okq (⟨"TreeMatcher$Vectors", "isFresh", "(II)Z"⟩, 8) := ⟨⟨by decide +kernel, by decide +kernel⟩, List.mem_of_getElem? (i := 149) (by decide +kernel), List.mem_of_getElem? (i := 560) (by decide +kernel), List.mem_of_getElem? (i := 561) (by decide +kernel)⟩
theorem lw_p8 : lw_okq (⟨"TreeMatcher$Vectors", "keep", "(II)I"⟩, 8) := ⟨⟨by decide +kernel, by decide +kernel⟩, List.mem_of_getElem? (i := 149) (by decide +kernel), List.mem_of_getElem? (i := 564) (by decide +kernel), List.mem_of_getElem? (i := 565) (by decide +kernel)⟩
theorem lw_p9 : lw_okq (⟨"TreeMatcher$Vectors", "fill", "([JI)V"⟩, 8) := ⟨⟨by decide +kernel, by decide +kernel⟩, List.mem_of_getElem? (i := 149) (by decide +kernel), List.mem_of_getElem? (i := 572) (by decide +kernel), List.mem_of_getElem? (i := 573) (by decide +kernel)⟩
theorem lw_p10 : lw_okq (⟨"TreeMatcher$Forest", "label", "(I)V"⟩, 14) := ⟨⟨by decide +kernel, by decide +kernel⟩, List.mem_of_getElem? (i := 125) (by decide +kernel), List.mem_of_getElem? (i := 615) (by decide +kernel), List.mem_of_getElem? (i := 616) (by decide +kernel)⟩
theorem lw_p11 : lw_okq (⟨"TreeMatcher$Forest", "fit", "(II)I"⟩, 14) := ⟨⟨by decide +kernel, by decide +kernel⟩, List.mem_of_getElem? (i := 125) (by decide +kernel), List.mem_of_getElem? (i := 624) (by decide +kernel), List.mem_of_getElem? (i := 625) (by decide +kernel)⟩
theorem lw_p12 : lw_okq (⟨"TreeMatcher", "checkLabel", "(II)V"⟩, 4) := ⟨⟨by decide +kernel, by decide +kernel⟩, List.mem_of_getElem? (i := 21) (by decide +kernel), List.mem_of_getElem? (i := 662) (by decide +kernel), List.mem_of_getElem? (i := 663) (by decide +kernel)⟩
theorem lw_p13 : lw_okq (⟨"TreeMatcher$Covering", "push", "(I)V"⟩, 7) := ⟨⟨by decide +kernel, by decide +kernel⟩, List.mem_of_getElem? (i := 235) (by decide +kernel), List.mem_of_getElem? (i := 709) (by decide +kernel), List.mem_of_getElem? (i := 710) (by decide +kernel)⟩
theorem lw_p14 : lw_okq (⟨"TreeMatcher$Covering", "pushKids", "(I)V"⟩, 7) := ⟨⟨by decide +kernel, by decide +kernel⟩, List.mem_of_getElem? (i := 235) (by decide +kernel), List.mem_of_getElem? (i := 713) (by decide +kernel), List.mem_of_getElem? (i := 714) (by decide +kernel)⟩
theorem lw_p15 : lw_okq (⟨"TreeMatcher$Tally", "putAbove", "(II)V"⟩, 4) := ⟨⟨by decide +kernel, by decide +kernel⟩, List.mem_of_getElem? (i := 263) (by decide +kernel), List.mem_of_getElem? (i := 775) (by decide +kernel), List.mem_of_getElem? (i := 776) (by decide +kernel)⟩
def lw_privs_1 : List (MethodName × Nat) := [(⟨"java/lang/Throwable", "fillInStackTrace", "(I)Ljava/lang/Throwable;"⟩, 6), (⟨"TreeMatcher$Parts", "addPart", "(II)I"⟩, 6), (⟨"TreeMatcher$Forest", "isFree", "(I)Z"⟩, 14), (⟨"TreeMatcher$Forest", "adopt", "(I)I"⟩, 14), (⟨"TreeMatcher$Vectors", "compose", "(III)J"⟩, 8), (⟨"TreeMatcher$Vectors", "entry", "(II)J"⟩, 8), (⟨"TreeMatcher$Vectors", "subtract", "(IJ)V"⟩, 8), (⟨"TreeMatcher$Vectors", "isFresh", "(II)Z"⟩, 8), (⟨"TreeMatcher$Vectors", "keep", "(II)I"⟩, 8), (⟨"TreeMatcher$Vectors", "fill", "([JI)V"⟩, 8), (⟨"TreeMatcher$Forest", "label", "(I)V"⟩, 14), (⟨"TreeMatcher$Forest", "fit", "(II)I"⟩, 14), (⟨"TreeMatcher", "checkLabel", "(II)V"⟩, 4), (⟨"TreeMatcher$Covering", "push", "(I)V"⟩, 7), (⟨"TreeMatcher$Covering", "pushKids", "(I)V"⟩, 7), (⟨"TreeMatcher$Tally", "putAbove", "(II)V"⟩, 4)]
theorem lw_r1 : ∀ q ∈ lw_privs_1, lw_okq q := List.forall_mem_cons.mpr ⟨lw_p0, List.forall_mem_cons.mpr ⟨lw_p1, List.forall_mem_cons.mpr ⟨lw_p2, List.forall_mem_cons.mpr ⟨lw_p3, List.forall_mem_cons.mpr ⟨lw_p4, List.forall_mem_cons.mpr ⟨lw_p5, List.forall_mem_cons.mpr ⟨lw_p6, List.forall_mem_cons.mpr ⟨lw_p7, List.forall_mem_cons.mpr ⟨lw_p8, List.forall_mem_cons.mpr ⟨lw_p9, List.forall_mem_cons.mpr ⟨lw_p10, List.forall_mem_cons.mpr ⟨lw_p11, List.forall_mem_cons.mpr ⟨lw_p12, List.forall_mem_cons.mpr ⟨lw_p13, List.forall_mem_cons.mpr ⟨lw_p14, List.forall_mem_cons.mpr ⟨lw_p15, fun _ h => absurd h List.not_mem_nil⟩⟩⟩⟩⟩⟩⟩⟩⟩⟩⟩⟩⟩⟩⟩⟩
theorem lw_p16 : lw_okq (⟨"TreeMatcherModel", "fail", "(I)I"⟩, 42) := ⟨⟨by decide +kernel, by decide +kernel⟩, List.mem_of_getElem? (i := 810) (by decide +kernel), List.mem_of_getElem? (i := 956) (by decide +kernel), List.mem_of_getElem? (i := 957) (by decide +kernel)⟩
theorem lw_p17 : lw_okq (⟨"TreeMatcherModel", "isPattern", "()Z"⟩, 42) := ⟨⟨by decide +kernel, by decide +kernel⟩, List.mem_of_getElem? (i := 810) (by decide +kernel), List.mem_of_getElem? (i := 968) (by decide +kernel), List.mem_of_getElem? (i := 969) (by decide +kernel)⟩
theorem lw_p18 : lw_okq (⟨"TreeMatcherModel", "isFree", "(I)Z"⟩, 42) := ⟨⟨by decide +kernel, by decide +kernel⟩, List.mem_of_getElem? (i := 810) (by decide +kernel), List.mem_of_getElem? (i := 976) (by decide +kernel), List.mem_of_getElem? (i := 977) (by decide +kernel)⟩
theorem lw_p19 : lw_okq (⟨"TreeMatcherModel", "isChain", "(I)Z"⟩, 42) := ⟨⟨by decide +kernel, by decide +kernel⟩, List.mem_of_getElem? (i := 810) (by decide +kernel), List.mem_of_getElem? (i := 980) (by decide +kernel), List.mem_of_getElem? (i := 981) (by decide +kernel)⟩
theorem lw_p20 : lw_okq (⟨"TreeMatcherModel", "fits", "(II)I"⟩, 42) := ⟨⟨by decide +kernel, by decide +kernel⟩, List.mem_of_getElem? (i := 810) (by decide +kernel), List.mem_of_getElem? (i := 984) (by decide +kernel), List.mem_of_getElem? (i := 985) (by decide +kernel)⟩
theorem lw_p21 : lw_okq (⟨"TreeMatcherModel", "lay", "(II)Z"⟩, 42) := ⟨⟨by decide +kernel, by decide +kernel⟩, List.mem_of_getElem? (i := 810) (by decide +kernel), List.mem_of_getElem? (i := 988) (by decide +kernel), List.mem_of_getElem? (i := 989) (by decide +kernel)⟩
theorem lw_p22 : lw_okq (⟨"TreeMatcherModel", "close", "([II[III)V"⟩, 42) := ⟨⟨by decide +kernel, by decide +kernel⟩, List.mem_of_getElem? (i := 810) (by decide +kernel), List.mem_of_getElem? (i := 992) (by decide +kernel), List.mem_of_getElem? (i := 993) (by decide +kernel)⟩
theorem lw_p23 : lw_okq (⟨"TreeMatcherModel", "findParts", "()V"⟩, 42) := ⟨⟨by decide +kernel, by decide +kernel⟩, List.mem_of_getElem? (i := 810) (by decide +kernel), List.mem_of_getElem? (i := 1018) (by decide +kernel), List.mem_of_getElem? (i := 1019) (by decide +kernel)⟩
theorem lw_p24 : lw_okq (⟨"TreeMatcherModel", "partAt", "(II)I"⟩, 42) := ⟨⟨by decide +kernel, by decide +kernel⟩, List.mem_of_getElem? (i := 810) (by decide +kernel), List.mem_of_getElem? (i := 1022) (by decide +kernel), List.mem_of_getElem? (i := 1023) (by decide +kernel)⟩
theorem lw_p25 : lw_okq (⟨"TreeMatcherModel", "sizeFrom", "(II)I"⟩, 42) := ⟨⟨by decide +kernel, by decide +kernel⟩, List.mem_of_getElem? (i := 810) (by decide +kernel), List.mem_of_getElem? (i := 1026) (by decide +kernel), List.mem_of_getElem? (i := 1027) (by decide +kernel)⟩
theorem lw_p26 : lw_okq (⟨"TreeMatcherModel", "make", "([III[III)V"⟩, 42) := ⟨⟨by decide +kernel, by decide +kernel⟩, List.mem_of_getElem? (i := 810) (by decide +kernel), List.mem_of_getElem? (i := 1030) (by decide +kernel), List.mem_of_getElem? (i := 1031) (by decide +kernel)⟩
theorem lw_p27 : lw_okq (⟨"TreeMatcherModel", "isNew", "()Z"⟩, 42) := ⟨⟨by decide +kernel, by decide +kernel⟩, List.mem_of_getElem? (i := 810) (by decide +kernel), List.mem_of_getElem? (i := 1034) (by decide +kernel), List.mem_of_getElem? (i := 1035) (by decide +kernel)⟩
def lw_privs_2 : List (MethodName × Nat) := [(⟨"TreeMatcherModel", "fail", "(I)I"⟩, 42), (⟨"TreeMatcherModel", "isPattern", "()Z"⟩, 42), (⟨"TreeMatcherModel", "isFree", "(I)Z"⟩, 42), (⟨"TreeMatcherModel", "isChain", "(I)Z"⟩, 42), (⟨"TreeMatcherModel", "fits", "(II)I"⟩, 42), (⟨"TreeMatcherModel", "lay", "(II)Z"⟩, 42), (⟨"TreeMatcherModel", "close", "([II[III)V"⟩, 42), (⟨"TreeMatcherModel", "findParts", "()V"⟩, 42), (⟨"TreeMatcherModel", "partAt", "(II)I"⟩, 42), (⟨"TreeMatcherModel", "sizeFrom", "(II)I"⟩, 42), (⟨"TreeMatcherModel", "make", "([III[III)V"⟩, 42), (⟨"TreeMatcherModel", "isNew", "()Z"⟩, 42)]
theorem lw_r2 : ∀ q ∈ lw_privs_2, lw_okq q := List.forall_mem_cons.mpr ⟨lw_p16, List.forall_mem_cons.mpr ⟨lw_p17, List.forall_mem_cons.mpr ⟨lw_p18, List.forall_mem_cons.mpr ⟨lw_p19, List.forall_mem_cons.mpr ⟨lw_p20, List.forall_mem_cons.mpr ⟨lw_p21, List.forall_mem_cons.mpr ⟨lw_p22, List.forall_mem_cons.mpr ⟨lw_p23, List.forall_mem_cons.mpr ⟨lw_p24, List.forall_mem_cons.mpr ⟨lw_p25, List.forall_mem_cons.mpr ⟨lw_p26, List.forall_mem_cons.mpr ⟨lw_p27, fun _ h => absurd h List.not_mem_nil⟩⟩⟩⟩⟩⟩⟩⟩⟩⟩⟩⟩
def lw_privs : List (MethodName × Nat) := lw_privs_1 ++ (lw_privs_2)
def lw_tbl : List Cond := k2_sels lw_privs ++ tables_1
theorem lw_privs_ok : ∀ q ∈ lw_privs, lw_okq q := by
  show ∀ q ∈ lw_privs_1 ++ (lw_privs_2), lw_okq q
  exact List.forall_mem_append.mpr ⟨lw_r1, lw_r2⟩

/-- the words that a callee takes over as they stand -/
def gw : List Cond := lw_tbl.filter goodWord
theorem gw_of {w : Cond} (h : w ∈ tables_1) (hg : goodWord w = true) : w ∈ gw := List.mem_filter.mpr ⟨List.mem_append_right _ h, hg⟩
theorem gw_sel {w : Cond} (h : w ∈ k2_sels lw_privs) (hg : goodWord w = true) : w ∈ gw := List.mem_filter.mpr ⟨List.mem_append_left _ h, hg⟩
theorem gw_in {w : Cond} (h : w ∈ gw) : w ∈ lw_tbl := (List.mem_filter.mp h).1
theorem gw_ok {w : Cond} (h : w ∈ gw) : (w.onTables && w.keeps) = true ∨ ∃ ty, w = .arrayClass ty := good_of_word (List.mem_filter.mp h).2
theorem gw_gi {w : Cond} (h : w ∈ gw) : GoodIn gw (w :: gw) := fun v hv => (List.mem_cons.mp hv).elim (fun e => by rw [e]; exact ⟨h, gw_ok h⟩) (fun h => ⟨h, gw_ok h⟩)
theorem gw_giV {w w1 w2 w3 w4 : Cond} (h : w ∈ gw) (h1 : w1 ∈ gw) (h2 : w2 ∈ gw) (h3 : w3 ∈ gw) (h4 : w4 ∈ gw) : GoodIn gw (([w1, w2, w3, w4] : List Cond) ++ (w :: gw)) := fun v hv => by
  rcases List.mem_append.mp hv with hv | hv
  · rcases List.mem_cons.mp hv with e | hv
    · rw [e]; exact ⟨h1, gw_ok h1⟩
    rcases List.mem_cons.mp hv with e | hv
    · rw [e]; exact ⟨h2, gw_ok h2⟩
    rcases List.mem_cons.mp hv with e | hv
    · rw [e]; exact ⟨h3, gw_ok h3⟩
    rcases List.mem_cons.mp hv with e | hv
    · rw [e]; exact ⟨h4, gw_ok h4⟩
    cases hv
  · exact gw_gi h v hv
theorem gw_giS {w w1 w2 w3 : Cond} (h : w ∈ gw) (h1 : w1 ∈ gw) (h2 : w2 ∈ gw) (h3 : w3 ∈ gw) : GoodIn gw (([w1, w2, w3] : List Cond) ++ (w :: gw)) := fun v hv => by
  rcases List.mem_append.mp hv with hv | hv
  · rcases List.mem_cons.mp hv with e | hv
    · rw [e]; exact ⟨h1, gw_ok h1⟩
    rcases List.mem_cons.mp hv with e | hv
    · rw [e]; exact ⟨h2, gw_ok h2⟩
    rcases List.mem_cons.mp hv with e | hv
    · rw [e]; exact ⟨h3, gw_ok h3⟩
    cases hv
  · exact gw_gi h v hv
end
section
/-! STATICS THAT HOLD REFERENCES; THE THROW OF A NEW EXCEPTION -/
section TX7
def tx_Zs (C n d : String) (A : Nat → Prop) (U : State) (H : Heap) : Prop := ∃ (c : ClassId) (k : Class) (i : Nat) (f : Field) (a : Nat) (cell : Cell) (v : Value), U.vm.findClass C = some c ∧ U.fieldFound? C n d = some (c, k, i, f) ∧ f.isStatic = true ∧ k.statics = some a ∧ H[a]? = some cell ∧ cell.vm.isStatics = true ∧ cell.cls = c ∧ f.slot < cell.slots.size ∧ k.staticTypes[f.slot]? = some f.type ∧ cell.slots[f.slot]? = some v ∧ v.isRef = true ∧ ¬ A a
theorem tx_Zs.moved {C n d : String} {A : Nat → Prop} {u U : State} {H : Heap} (hvm : u.vm.Alike U.vm) (h : tx_Zs C n d A u H) : tx_Zs C n d A U H := by
  obtain ⟨c, k, i, f, a, cell, v, h0, h1, h2, h3, h4, h5, h6, h7, h8, h9⟩ := h
  obtain ⟨k', hi', he⟩ := State.fieldFound?_setVm hvm h1
  exact ⟨c, k', i, f, a, cell, v, by rw [hvm.findClass]; exact h0, hi', h2, by rw [he]; exact h3, h4, h5, h6, h7, by rw [he]; exact h8, h9⟩
theorem tx_Zs.kept {C n d : String} {A : Nat → Prop} {U : State} {H H1 : Heap} (h : tx_Zs C n d A U H) (hq : ∀ a : Nat, a < H.size → ¬ A a → H1[a]? = H[a]?) : tx_Zs C n d A U H1 := by
  obtain ⟨c, k, i, f, a, cell, v, h0, h1, h2, h3, h4, h5, h6, h7, h8, h9, h10, h11⟩ := h
  exact ⟨c, k, i, f, a, cell, v, h0, h1, h2, h3, by rw [hq a (Array.getElem?_eq_some_iff.mp h4).1 h11]; exact h4, h5, h6, h7, h8, h9, h10, h11⟩
theorem tx_Zs.narrow {C n d : String} {A B : Nat → Prop} {U : State} {H : Heap} (h : tx_Zs C n d A U H) (hAB : ∀ q, B q → A q) : tx_Zs C n d B U H := by
  obtain ⟨c, k, i, f, a, cell, v, h0, h1, h2, h3, h4, h5, h6, h7, h8, h9, h10, h11⟩ := h
  exact ⟨c, k, i, f, a, cell, v, h0, h1, h2, h3, h4, h5, h6, h7, h8, h9, h10, fun z => h11 (hAB a z)⟩
theorem tx_Zs.of {args : Array Value} {s : State} {C n d : String} {A : Nat → Prop} (hl : (Cond.laysStatic C n d).before args s = true) (hr : (Cond.isRef (.static C n d)).before args s = true) (hA : ∀ a : Nat, a < s.heap.size → ¬ A a) : tx_Zs C n d A s s.heap := by
  obtain ⟨c, k, i, f, a, cell, hc, hi, hst, ha, hcell, hs, hcls, hlt, hty⟩ := Cond.laysStatic_spec hl
  cases hv : (Term.static C n d).eval args s none [] s with
  | none => simp [Cond.before, Cond.holds, Cond.value, hv] at hr
  | some w =>
    obtain ⟨-, a', cell', ha', hcell', -, hslot⟩ := Term.static_spec hi hv
    cases ha.symm.trans ha'
    cases hcell.symm.trans hcell'
    refine ⟨c, k, i, f, a, cell, w, hc, hi, hst, ha, hcell, hs, hcls, hlt, hty, hslot, ?_, hA a (Array.getElem?_eq_some_iff.mp hcell).1⟩
    simp only [Cond.before, Cond.holds, Cond.value, hv] at hr
    cases w <;> first | rfl | (simp at hr)
theorem tx_Zs.lays {C n d : String} {A : Nat → Prop} {s : State} (h : tx_Zs C n d A s s.heap) (args : Array Value) : (Cond.laysStatic C n d).before args s = true := by
  obtain ⟨c, k, i, f, a, cell, v, h0, h1, h2, h3, h4, h5, h6, h7, h8, h9, h10, h11⟩ := h
  exact Cond.laysStatic_of h0 h1 h2 h3 h4 h5 h6 h7 h8
theorem tx_Zs.ref {C n d : String} {A : Nat → Prop} {s : State} (h : tx_Zs C n d A s s.heap) (args : Array Value) : (Cond.isRef (.static C n d)).before args s = true := by
  obtain ⟨c, k, i, f, a, cell, v, h0, h1, h2, h3, h4, h5, h6, h7, h8, h9, h10, h11⟩ := h
  have hv := Term.static_eval (args := args) (first := s) (o := none) (idx := []) h1 h2 h3 h4 h5 h9
  simp only [Cond.before, Cond.holds, Cond.value, hv]
  cases v <;> first | rfl | (cases h10)
/-- an old cell of which no slot was freed stays -/
theorem tx_kept {s s' : State} {locs : List Loc} {k n : Nat} (h : s.sameButNew s' locs k n) {A : Nat → Prop} (hl : ∀ x ∈ locs, A x.base) : ∀ q : Nat, q < s.heap.size → ¬ A q → s'.heap[q]? = s.heap[q]? := by
  intro q hq hA
  have hc : s.heap[q]? = some s.heap[q] := Array.getElem?_eq_getElem hq
  obtain ⟨c', h1, h2, h3, h4⟩ := h.2.2.2.2.2 q _ hc
  have hs : c'.slots = (s.heap[q]).slots := by
    apply Array.ext_getElem?
    intro i
    exact h4 i (fun hm => hA (hl _ hm))
  rw [h1, hc]
  rw [h2, hs]
end TX7
section TX8
variable {p : Program} {l : Launch} {e : Env} {R : Room} {s : State} {m : MethodId} {args : Array Value} {below : List Frame} {meth : Method} {c : Code} {H : Heap} {locs : List Loc} {cells slots : Nat}
variable {cc : ByteArray} {pc : Nat} {ls : Array Slot} {rest : List Value} {A : Nat → Prop}
theorem tx_noTrace (ha : l.admits e) (hf : l.flags = flags0) : e.platform.stackTraces = false := by
  rw [ha.platform]
  show l.stackTraces = false
  unfold Launch.stackTraces
  rw [hf]
  decide +kernel
set_option maxHeartbeats 1000000 in
theorem tx_throwNew (hexec : p.tables.exec = Jvm.exec) (hb : c.code = cc) (hlf : l.flags = flags0) (hout : ∀ z ∈ c.exceptionTable.toList, ∀ pc, covers z pc = false) (hlocks : meth.locks = false) {own X : String} {names : List String} {ia ib ic : Nat} (hown : s.vm.findClass own = some m.cls)
    (hcl : (Cond.classLink own ia X).before args s = true) (hinst : (Cond.instantiable X 6).before args s = true) (hini : (Cond.initialized X).before args s = true) (hat : ∀ a ∈ Bundle.ownAtoms own ic X names, a.before args s = true) (hfit : Bundle.fit X = true) (hnames : ∀ n ∈ names, Bundle.fit n = true)
    {tx : String} {q : Nat} (hstr : vk_R own ib tx q s) (hloc : ∀ x ∈ locs, ∀ cell, s.heap[x.base]? = some cell → cell.vm.isStatics = false) (hls : ls.size = c.maxLocals) (hS : va_S A s.heap H locs)
    (hR : names.length + 3 < R.frames) (hRl : (rest.map fun v => v.category).sum + 13 * (names.length + 1) + 43 ≤ R.locals) (hcells : cells + 1 ≤ R.cells) (hslots : slots + 6 ≤ R.slots)
    (d0 : decode cc pc = .ok (.new ia, 3)) (d3 : decode cc (pc + 3) = .ok (.dup, 1)) (d4 : decode cc (pc + 3 + 1) = .ok (.ldc ib, 2)) (d6 : decode cc (pc + 3 + 1 + 2) = .ok (.invokespecial ic, 3)) (d9 : decode cc (pc + 3 + 1 + 2 + 3) = .ok (.athrow, 1))
    {post : Option Value → Prop} {exc : String → Prop} (hexc : exc X) :
    W p l e R s m args below meth c H locs cells slots (tx_MQ below (tx_Q post exc A) args s (cells + 1) (slots + 6) A) (F0 m pc ls rest) := by
  obtain ⟨cX, kX0, hcX, hkX0, -⟩ := Cond.instantiable_spec hinst
  refine W.newcK hexec hb hown hcl hinst hini rfl d0 hcells hslots hcX rfl fun H1 kC hkC e1 z1 o1 => ?_
  refine lv_dup hexec hb d3 rfl ?_
  refine va_ldcS hexec hb hown hstr d4 ?_
  intro T hT X0
  obtain ⟨U, st, h1, h2, h3, h4, ce, hce, hoc⟩ := X0.ctorThrowS hexec (tx_noTrace X0.admits hlf) (ic := ic) hown hfit hnames hat hloc hcX hkC (a := H.size) (by rw [hT]; exact e1) hS.1 (msg := .ref q) rfl
    (g := F0 m (pc + 3 + 1 + 2) ls (.ref q :: .ref H.size :: .ref H.size :: rest)) rfl hls rfl rfl (rest := rest) rfl (by rw [hb]; exact d6) (by rw [hb]; exact d9) (fun z hz => hout z hz _) hR (by
      have hm : (F0 m (pc + 3 + 1 + 2) ls (.ref q :: .ref H.size :: .ref H.size :: rest)).monitorRoom = 0 := rfl
      rw [hm]
      have hc1 : (Value.ref H.size).category = 1 := rfl
      simp only [List.map_cons, List.sum_cons, hc1]
      omega) hlocks
  refine ⟨U, st, .threw H.size, h1, h2, ⟨Or.inr ⟨H.size, X, rfl, hexc, ce, hce, ?_, ?_, ?_⟩, ?_, ?_⟩, locs, ⟨h3, h4⟩, hS.2.2⟩
  · rw [hoc.vm]; rfl
  · rw [h3.alike.findClass]; exact hoc.cls
  · rw [h3.alike.assignable]; exact hoc.self
  · exact h4.2.1
  · exact tx_kept h4 hS.2.2
end TX8
end
section
/-! WHAT HOLDS AT EVERY POINT BESIDE THE CELLS: links between nest mates, texts, two statics of Throwable -/
abbrev tx_n1 : Cond := .methodLinkNest "TreeMatcher$Grammar" 61 ⟨"TreeMatcher$Parts", "<init>", "()V"⟩ "TreeMatcher"
abbrev tx_n2 : Cond := .methodLinkNest "TreeMatcher$Grammar" 72 ⟨"TreeMatcher", "isWithin", "(II)Z"⟩ "TreeMatcher"
def tx_N (U : State) : Prop := va_Nw tx_n1 U ∧ va_Nw tx_n2 U
theorem tx_N.warm {s U : State} (hW : s.WarmedH U.vm) (h : tx_N s) : tx_N U := ⟨va_Nw.warmM hW h.1, va_Nw.warmM hW h.2⟩
theorem tx_N.same {u U : State} (hv : u.vm = U.vm) (h : tx_N u) : tx_N U := ⟨va_Nw.same rfl hv h.1, va_Nw.same rfl hv h.2⟩
def tx_Str (U : State) : Prop := (∃ q : Nat, vk_R "TreeMatcher" 47 "no number of an operator, or of kids" q U) ∧ (∃ q : Nat, vk_R "TreeMatcher" 65 "no element" q U) ∧ (∃ q : Nat, vk_R "TreeMatcher" 92 "no rule" q U) ∧ (∃ q : Nat, vk_R "TreeMatcher" 102 "no such operator, or a kid is not so" q U) ∧ (∃ q : Nat, vk_R "TreeMatcher" 168 "no such node or nonterminal" q U) ∧ (∃ q : Nat, vk_R "TreeMatcher" 130 "no such pair, or what" q U) ∧ (∃ q : Nat, vk_R "TreeMatcher" 150 "no such node" q U) ∧ (∃ q : Nat, vk_R "TreeMatcher" 166 "nothing to count" q U)
theorem tx_Str.warm {s U : State} (hW : s.WarmedH U.vm) (h : tx_Str s) : tx_Str U := by
  obtain ⟨⟨q0, h0⟩, ⟨q1, h1⟩, ⟨q2, h2⟩, ⟨q3, h3⟩, ⟨q4, h4⟩, ⟨q5, h5⟩, ⟨q6, h6⟩, ⟨q7, h7⟩⟩ := h
  exact ⟨⟨q0, h0.warm hW⟩, ⟨q1, h1.warm hW⟩, ⟨q2, h2.warm hW⟩, ⟨q3, h3.warm hW⟩, ⟨q4, h4.warm hW⟩, ⟨q5, h5.warm hW⟩, ⟨q6, h6.warm hW⟩, ⟨q7, h7.warm hW⟩⟩
theorem tx_Str.same {u U : State} (hv : U.vm = u.vm) (h : tx_Str u) : tx_Str U := by
  obtain ⟨⟨q0, h0⟩, ⟨q1, h1⟩, ⟨q2, h2⟩, ⟨q3, h3⟩, ⟨q4, h4⟩, ⟨q5, h5⟩, ⟨q6, h6⟩, ⟨q7, h7⟩⟩ := h
  exact ⟨⟨q0, vk_R.same hv h0⟩, ⟨q1, vk_R.same hv h1⟩, ⟨q2, vk_R.same hv h2⟩, ⟨q3, vk_R.same hv h3⟩, ⟨q4, vk_R.same hv h4⟩, ⟨q5, vk_R.same hv h5⟩, ⟨q6, vk_R.same hv h6⟩, ⟨q7, vk_R.same hv h7⟩⟩
theorem tx_str47 {U : State} (h : tx_Str U) : ∃ q : Nat, vk_R "TreeMatcher" 47 "no number of an operator, or of kids" q U := h.1
theorem tx_str65 {U : State} (h : tx_Str U) : ∃ q : Nat, vk_R "TreeMatcher" 65 "no element" q U := h.2.1
theorem tx_str92 {U : State} (h : tx_Str U) : ∃ q : Nat, vk_R "TreeMatcher" 92 "no rule" q U := h.2.2.1
theorem tx_str102 {U : State} (h : tx_Str U) : ∃ q : Nat, vk_R "TreeMatcher" 102 "no such operator, or a kid is not so" q U := h.2.2.2.1
theorem tx_str168 {U : State} (h : tx_Str U) : ∃ q : Nat, vk_R "TreeMatcher" 168 "no such node or nonterminal" q U := h.2.2.2.2.1
theorem tx_str130 {U : State} (h : tx_Str U) : ∃ q : Nat, vk_R "TreeMatcher" 130 "no such pair, or what" q U := h.2.2.2.2.2.1
theorem tx_str150 {U : State} (h : tx_Str U) : ∃ q : Nat, vk_R "TreeMatcher" 150 "no such node" q U := h.2.2.2.2.2.2.1
theorem tx_str166 {U : State} (h : tx_Str U) : ∃ q : Nat, vk_R "TreeMatcher" 166 "nothing to count" q U := h.2.2.2.2.2.2.2
theorem tx_tr {c : Cond} {u U : State} (hc : c.onTables = true) (h : c.before #[] (u.setVm U.vm) = true) : c.before #[] U = true := by
  have e := Cond.onTables_vm (A := #[]) (A' := #[]) (U := u) (U' := U) U.vm c hc
  have hU : U.setVm U.vm = U := rfl
  rw [hU] at e
  rw [← e]
  exact h
theorem tx_decl {x : MethodName} {u U : State} (hvm : u.vm.Alike U.vm) (h : va_Nw (.declares x) u) : va_Nw (.declares x) U := tx_tr (u := u) rfl (by rw [Cond.declares_setVm hvm]; exact h)
theorem tx_cast {x y : String} {u U : State} (hvm : u.vm.Alike U.vm) (h : va_Nw (.castable x y) u) : va_Nw (.castable x y) U := tx_tr (u := u) rfl (by rw [Cond.castable_setVm hvm]; exact h)
abbrev tx_dl : List Cond := [.declares (Bundle.initS "java/lang/RuntimeException"), .declares (Bundle.initS "java/lang/Exception"), .declares (Bundle.initS "java/lang/Throwable"), .castable "java/lang/IllegalArgumentException" "java/lang/IllegalArgumentException", .castable "java/lang/IndexOutOfBoundsException" "java/lang/IndexOutOfBoundsException"]
def tx_D (U : State) : Prop := va_Nw (.declares (Bundle.initS "java/lang/RuntimeException")) U ∧ va_Nw (.declares (Bundle.initS "java/lang/Exception")) U ∧ va_Nw (.declares (Bundle.initS "java/lang/Throwable")) U ∧ va_Nw (.castable "java/lang/IllegalArgumentException" "java/lang/IllegalArgumentException") U ∧ va_Nw (.castable "java/lang/IndexOutOfBoundsException" "java/lang/IndexOutOfBoundsException") U
theorem tx_D.moved {u U : State} (hvm : u.vm.Alike U.vm) (h : tx_D u) : tx_D U := ⟨tx_decl hvm h.1, tx_decl hvm h.2.1, tx_decl hvm h.2.2.1, tx_cast hvm h.2.2.2.1, tx_cast hvm h.2.2.2.2⟩
theorem tx_D.use {U : State} (h : tx_D U) (args : Array Value) : ∀ a ∈ tx_dl, a.before args U = true := by
  intro a ha
  rcases List.mem_cons.mp ha with rfl | ha
  · exact va_Nw.use rfl h.1
  rcases List.mem_cons.mp ha with rfl | ha
  · exact va_Nw.use rfl h.2.1
  rcases List.mem_cons.mp ha with rfl | ha
  · exact va_Nw.use rfl h.2.2.1
  rcases List.mem_cons.mp ha with rfl | ha
  · exact va_Nw.use rfl h.2.2.2.1
  rcases List.mem_cons.mp ha with rfl | ha
  · exact va_Nw.use rfl h.2.2.2.2
  cases ha
def tx_Th (A : Nat → Prop) (U : State) (H : Heap) : Prop := tx_Zs Bundle.tN "UNASSIGNED_STACK" Bundle.steD A U H ∧ tx_Zs Bundle.tN "SUPPRESSED_SENTINEL" Bundle.listD A U H
def tx_G (A : Nat → Prop) (U : State) : Prop := tx_N U ∧ tx_Str U ∧ tx_D U ∧ tx_Th A U U.heap
theorem tx_G.to {A B : Nat → Prop} {s U : State} (h : tx_G A s) (hW : s.WarmedH U.vm) (hq : ∀ a : Nat, a < s.heap.size → ¬ A a → U.heap[a]? = s.heap[a]?) (hAB : ∀ q, B q → A q) : tx_G B U :=
  ⟨h.1.warm hW, h.2.1.warm hW, h.2.2.1.moved hW.alike, ((h.2.2.2.1.kept hq).moved hW.alike).narrow hAB, ((h.2.2.2.2.kept hq).moved hW.alike).narrow hAB⟩
theorem tx_G.same {A : Nat → Prop} {u U : State} (hv : U.vm = u.vm) (hh : U.heap = u.heap) (h : tx_G A u) : tx_G A U :=
  ⟨h.1.same hv.symm, h.2.1.same hv, h.2.2.1.moved (by rw [hv]; exact Vm.Alike.refl _), by rw [hh]; exact ⟨h.2.2.2.1.moved (by rw [hv]; exact Vm.Alike.refl _), h.2.2.2.2.moved (by rw [hv]; exact Vm.Alike.refl _)⟩⟩
/-! a callee that writes nothing old -/
theorem tx_pA {sz q : Nat} (h1 : q < sz) (h : va_A [] sz q) : False := by
  rcases h with ⟨k, e, h⟩ | h
  · simp at h
  · omega
theorem tx_pF {A0 : Nat → Prop} {H0 H : Heap} {locs : List Loc} (hS : va_S A0 H0 H locs) (hA : ∀ q, H0.size ≤ q → A0 q) : ∀ q, va_A [] H.size q → A0 q := by
  intro q h
  rcases h with ⟨k, e, h⟩ | h
  · simp at h
  · exact hA q (Nat.le_trans hS.1 h)
theorem tx_keep {D : va_G} {cl : List vw_C} {ws : va_W} {H H1 : Heap} (hP : va_P D cl ws H) (hk : ∀ q : Nat, q < H.size → ¬ va_A [] H.size q → H1[q]? = H[q]?) : va_P D cl ws H1 :=
  hP.kept (fun k q hq => hk q.1 ((hP k q hq).lt) (fun h => tx_pA ((hP k q hq).lt) h))
/-- behind a callee that wrote some cells of which nothing more is wanted: the rest -/
theorem tx_rest {A0 : Nat → Prop} {D : va_G} {cl : List vw_C} {ws wc wr : va_W} {H H1 : Heap} (hP : va_P D cl ws H) (hD : va_D A0 ws) (isC isR : List Nat) (hC : isC.map (fun i => ws[i]?) = wc.map some) (hR : isR.map (fun i => ws[i]?) = wr.map some) (hn : va_nd isR = true) (hdis : ∀ i ∈ isR, i ∉ isC)
    (hk : ∀ q : Nat, q < H.size → ¬ va_A wc H.size q → H1[q]? = H[q]?) (hF : ∀ q, va_A wc H.size q → A0 q) : va_P D cl wr H1 ∧ va_D A0 wr := by
  have h := va_join (w1 := []) hP hD isC isR hC hR hn hdis hk hF (fun k q h => by simp at h) ⟨fun i j p q h => by simp at h, fun k q h => by simp at h⟩
  rw [List.append_nil] at h
  exact h
/-- an old cell that a walk has written is no statics -/
theorem tx_loc {D : va_G} {cl : List vw_C} {ws : va_W} {s : State} {H : Heap} {locs : List Loc} (hP : va_P D cl ws s.heap) (hS : va_S (va_A ws s.heap.size) s.heap H locs) : ∀ x ∈ locs, ∀ cell, s.heap[x.base]? = some cell → cell.vm.isStatics = false := by
  intro x hx cell hc
  rcases hS.2.2 x hx with ⟨k, e, h⟩ | h
  · have h1 := hP k _ h
    cases e with
    | inl a =>
      have h2 : s.heap[x.base]? = some (vp_cell a.1 a.2) := h1
      rw [hc] at h2
      cases h2
      obtain ⟨c, n, f⟩ := a
      rcases f with f | f | f | f | f <;> rfl
    | inr o =>
      obtain ⟨r, -, cell', h2, -, h3, -⟩ := h1
      have h2 : s.heap[x.base]? = some cell' := h2
      rw [hc] at h2
      cases h2
      rw [h3]; rfl
  · have := (Array.getElem?_eq_some_iff.mp hc).1
    omega
abbrev tx_nm : List String := ["java/lang/RuntimeException", "java/lang/Exception"]
abbrev tx_sp : List Cond := [.laysStatic Bundle.tN "UNASSIGNED_STACK" Bundle.steD, .laysStatic Bundle.tN "SUPPRESSED_SENTINEL" Bundle.listD, .isRef (.static Bundle.tN "UNASSIGNED_STACK" Bundle.steD), .isRef (.static Bundle.tN "SUPPRESSED_SENTINEL" Bundle.listD)]
theorem tx_spok {A : Nat → Prop} {s : State} (h : tx_Th A s s.heap) (args : Array Value) : ∀ a ∈ tx_sp, a.before args s = true := by
  intro a ha
  rcases List.mem_cons.mp ha with rfl | ha
  · exact h.1.lays args
  rcases List.mem_cons.mp ha with rfl | ha
  · exact h.2.lays args
  rcases List.mem_cons.mp ha with rfl | ha
  · exact h.1.ref args
  rcases List.mem_cons.mp ha with rfl | ha
  · exact h.2.ref args
  cases ha
def tx_isC : Cond → Bool
  | .code .. => true
  | .codeSync .. => true
  | _ => false
theorem tx_split {L : List Cond} (ps : List Nat) (hp : L.filter tx_isC = ps.filterMap (fun i => tables_1[i]?)) (hgc : (L.filter tx_isC).all goodWord = true)
    (h : (L.filter (fun w => !tx_isC w)).all (fun a => decide (a ∈ tx_sp ++ tx_dl) || (goodWord a && decide (a ∈ tables_1))) = true) : ∀ a ∈ L, a ∈ tx_sp ++ tx_dl ∨ a ∈ gw := by
  intro a ha
  by_cases hc : tx_isC a = true
  · have h1 : a ∈ L.filter tx_isC := List.mem_filter.mpr ⟨ha, hc⟩
    have h2 := List.all_eq_true.mp hgc a h1
    rw [hp] at h1
    obtain ⟨i, -, hi⟩ := List.mem_filterMap.mp h1
    exact Or.inr (gw_of (List.mem_of_getElem? hi) h2)
  · have h1 := List.all_eq_true.mp h a (List.mem_filter.mpr ⟨ha, by simpa using hc⟩)
    rcases (Bool.or_eq_true _ _).mp h1 with h2 | h2
    · exact Or.inl (of_decide_eq_true h2)
    · obtain ⟨h3, h4⟩ := (Bool.and_eq_true _ _).mp h2
      exact Or.inr (gw_of (of_decide_eq_true h4) h3)
set_option maxRecDepth 100000 in
theorem tx_ownIAE {A : Nat → Prop} {s : State} {args : Array Value} (hg : ∀ w ∈ gw, w.before args s = true) (hG : tx_G A s) : ∀ a ∈ Bundle.ownAtoms "TreeMatcher" 49 "java/lang/IllegalArgumentException" tx_nm, a.before args s = true := by
  intro a ha
  rcases tx_split (L := Bundle.ownAtoms "TreeMatcher" 49 "java/lang/IllegalArgumentException" tx_nm) [359, 348, 27, 377, 368, 371, 374] rfl (by decide +kernel) (by decide +kernel) a ha with h1 | h1
  · rcases List.mem_append.mp h1 with h1 | h1
    · exact tx_spok hG.2.2.2 args a h1
    · exact hG.2.2.1.use args a h1
  · exact hg a h1
set_option maxRecDepth 100000 in
theorem tx_ownIOB {A : Nat → Prop} {s : State} {args : Array Value} (hg : ∀ w ∈ gw, w.before args s = true) (hG : tx_G A s) : ∀ a ∈ Bundle.ownAtoms "TreeMatcher" 132 "java/lang/IndexOutOfBoundsException" tx_nm, a.before args s = true := by
  intro a ha
  rcases tx_split (L := Bundle.ownAtoms "TreeMatcher" 132 "java/lang/IndexOutOfBoundsException" tx_nm) [359, 348, 27, 377, 677, 371, 374] rfl (by decide +kernel) (by decide +kernel) a ha with h1 | h1
  · rcases List.mem_append.mp h1 with h1 | h1
    · exact tx_spok hG.2.2.2 args a h1
    · exact hG.2.2.1.use args a h1
  · exact hg a h1
end
