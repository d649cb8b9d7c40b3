/-! A CATCH, its kind resolved already or not yet -/
section TX3
variable {e : Env} {s : State} {f : JFrame} {a : Addr}
theorem tx_go {E : CtlPost} {d : Bool} {acts : List Action} {Q : Handler → Pre} {x : ExceptionTableEntry} {t : List ExceptionTableEntry} {c : ClassId} {cell : Cell} {vm' : Vm} (hx : covers x f.pc = true) (h0 : x.catchType ≠ 0)
    (hg : (resolveClass f.method.cls x.catchType).Gives e.toSetting s.vm (.ok c) vm') (hsz : vm'.classes.size ≤ s.vm.classes.size) (hcell : s.heap[a]? = some cell) (hobj : ∀ k, cell.vm ≠ .statics k)
    (hk : ∃ k, vm'.classes[cell.cls]? = some k) (hc : ∃ k, vm'.classes[c]? = some k) :
    wp (findHandler.go f a (x :: t)) Q E e d acts s ↔ if vm'.assignable cell.cls c = true then Q (.found x.handlerPc) d acts (s.setVm vm') else wp (findHandler.go f a t) Q E e d acts (s.setVm vm') := by
  simp only [covers] at hx
  obtain ⟨ha, ht⟩ := hg.op (op := VmOp.resolveClass f.method.cls x.catchType) rfl
  cases hfit : vm'.assignable cell.cls c <;>
    simp [findHandler.go, hx, h0, ha, ht, hsz, hcell, hobj, hk, hc, hfit, VmOp.dirties, VmOp.acts]
/-- what the search gives, and the tables that it leaves -/
def tx_Finds (e : Env) (s : State) (f : JFrame) (a : Addr) (h : Handler) (vm' : Vm) : Prop :=
  ∀ (Q : Handler → Pre) (E : CtlPost) (d : Bool) (acts : List Action), wp (findHandler f a) Q E e d acts s ↔ Q h d acts (s.setVm vm')
theorem tx_stepCatch {r : List Frame} {pc : Nat} {vm' : Vm} (hfind : tx_Finds e s f a (.found pc) vm') :
    (stepThrowing e s a (.java f :: r)).Is ((s.setVm vm').setFrames (.java { f with pc := pc, stack := [.ref a] } :: r)) [] := by
  simp only [stepThrowing, searchFrame, vmDo]
  generalize hr : Sem.go _ e false [] s = res
  obtain ⟨as, rfl, ha⟩ := Sem.eq_ok_of hr (a := Handler.found pc) (s' := s.setVm vm') (acts' := []) (by simp [hfind _ _ _ _])
  exact ⟨rfl, ha⟩
theorem tx_caught {tb : Tables} {target : State} {g : JFrame} {c : Code} {below : List Frame} {vm' : Vm} (h : At s g.method c below) {pc : Nat} (hfind : tx_Finds e ((s.setTop g).pushFrame (.throwing a)) g a (.found pc) vm')
    (hrest : Steps tb e below ((s.setVm vm').setTop { g with pc := pc, stack := [.ref a] }) target) :
    Steps tb e below ((s.setTop g).pushFrame (.throwing a)) target := by
  obtain ⟨hgo, hw⟩ := h.throwing a
  refine Steps.head hgo hw ?_
  rw [stepThread_throwing (frames_entered h.top _), (tx_stepCatch (s := (s.setTop g).pushFrame (.throwing a)) hfind).1]
  obtain ⟨g₀, hg⟩ := Option.isSome_iff_exists.mp h.top
  obtain ⟨r, hr⟩ := State.topJava?_eq_some.mp hg
  have hr' : (s.setVm vm').frames = .java g₀ :: r := hr
  rw [State.setTop_of_frames _ hr'] at hrest
  rw [hr, State.pushFrame, State.setTop_of_frames _ hr, State.setFrames_setFrames]
  have e1 : ((s.setFrames (.throwing a :: (s.setFrames (.java g :: r)).frames)).setVm vm').setFrames (.java { g with pc := pc, stack := [.ref a] } :: r) = (s.setVm vm').setFrames (.java { g with pc := pc, stack := [.ref a] } :: r) := by
    rw [show (s.setFrames (.throwing a :: (s.setFrames (.java g :: r)).frames)).setVm vm' = (s.setVm vm').setFrames (.throwing a :: (s.setFrames (.java g :: r)).frames) from rfl, State.setFrames_setFrames]
  first
    | exact e1 ▸ hrest
    | (rw [e1]; exact hrest)
    | exact hrest
end TX3
section TX4
variable {p : Program} {l : Launch} {e : Env} {R : Room} {s : State} {m : MethodId} {args : Array Value} {below : List Frame} {meth : Method} {c : Code} {T : State} {locs : List Loc} {cells slots : Nat}
/-- what a row of the table names, resolved from the point T with tables vm -/
theorem tx_link (hpl : e.platform.magicAccessors = ({} : Platform).magicAccessors) {vm : Vm} (hw : s.WarmedH vm) {own C : String} {ix : Nat} (hown : s.vm.findClass own = some m.cls) (hlink : (Cond.classLink own ix C).before args s = true) {cC : ClassId} (hC : s.vm.findClass C = some cC) :
    ∃ vm', s.WarmedH vm' ∧ (resolveClass m.cls ix).Gives e.toSetting vm (.ok cC) vm' ∧ vm'.classes.size ≤ vm.classes.size := by
  obtain ⟨c', hc', hcl⟩ := Cond.classLink_spec hown hlink e.platform hpl
  cases hC.symm.trans hc'
  obtain ⟨dk, _, _, kt, hd, _, _, _, _, hkt, _, hopen⟩ := hcl.here
  have hcl₀ := hw.classLinks hcl
  exact ⟨_, hw.noted hd hopen (State.rightAt_cls hcl), resolveClass_links e.toSetting hcl₀, Nat.le_of_eq (by rw [Vm.size_noted])⟩
theorem tx_catch1 (X : Stand p l e R s m args below meth c T locs cells slots) {own C : String} {ix hpc : Nat} {x : ExceptionTableEntry} {rest : List ExceptionTableEntry} {g : JFrame} (hg : g.method = m) (htab : c.exceptionTable.toList = x :: rest) (hcov : covers x g.pc = true) (hix : x.catchType = ix) (hne : ix ≠ 0) (hh : x.handlerPc = hpc)
    (hown : s.vm.findClass own = some m.cls) (hlink : (Cond.classLink own ix C).before args s = true) {a : Addr} {cell : Cell} (hcell : T.heap[a]? = some cell) (hobj : cell.vm.isStatics = false) (hcls : s.vm.findClass C = some cell.cls) (hself : s.vm.assignable cell.cls cell.cls = true) :
    ∃ vm', s.WarmedH vm' ∧ ∀ tg, Steps p.tables e below ((T.setVm vm').setTop { g with pc := hpc, stack := [.ref a] }) tg → Steps p.tables e below ((T.setTop g).pushFrame (.throwing a)) tg := by
  have hpl : e.platform.magicAccessors = ({} : Platform).magicAccessors := by rw [X.admits.platform]
  obtain ⟨vm', hW', hgv, hsz⟩ := tx_link (e := e) hpl X.warmed hown hlink hcls
  refine ⟨vm', hW', fun tg hrest => ?_⟩
  have h : At T g.method c below := by rw [hg]; exact X.here
  obtain ⟨k, hk⟩ := Vm.classAt_of_findClass hcls
  obtain ⟨k', hk', -⟩ := hW'.alike.2.2 _ _ hk
  refine tx_caught h (vm' := vm') (pc := hpc) ?_ hrest
  intro Q E d acts
  have hm : ((T.setTop g).pushFrame (.throwing a)).vm.method? g.method = some meth := by rw [throwing_vm, hg]; exact X.method'
  rw [Jvm.W.findHandler_eq hm X.code, htab]
  rw [tx_go (c := cell.cls) (cell := cell) (vm' := vm') hcov (by rw [hix]; exact hne) (by rw [hg, hix, throwing_vm]; exact hgv) (by rw [throwing_vm]; exact hsz) (by rw [throwing_heap]; exact hcell) (fun z h => by rw [h] at hobj; cases hobj) ⟨k', hk'⟩ ⟨k', hk'⟩]
  rw [if_pos (by rw [hW'.alike.assignable]; exact hself), hh]
theorem tx_catch2 (X : Stand p l e R s m args below meth c T locs cells slots) {own C C0 : String} {ix ix0 hpc : Nat} {x0 x : ExceptionTableEntry} {rest : List ExceptionTableEntry} {g : JFrame} (hg : g.method = m) (htab : c.exceptionTable.toList = x0 :: x :: rest) (hcov0 : covers x0 g.pc = true) (hix0 : x0.catchType = ix0) (hne0 : ix0 ≠ 0) (hcov : covers x g.pc = true) (hix : x.catchType = ix) (hne : ix ≠ 0) (hh : x.handlerPc = hpc)
    (hown : s.vm.findClass own = some m.cls) (hlink0 : (Cond.classLink own ix0 C0).before args s = true) (hlink : (Cond.classLink own ix C).before args s = true) {a : Addr} {cell : Cell} {c0 : ClassId} (hcell : T.heap[a]? = some cell) (hobj : cell.vm.isStatics = false) (hcls : s.vm.findClass C = some cell.cls) (hself : s.vm.assignable cell.cls cell.cls = true) (hcls0 : s.vm.findClass C0 = some c0) (hnot : s.vm.assignable cell.cls c0 = false) :
    ∃ vm', s.WarmedH vm' ∧ ∀ tg, Steps p.tables e below ((T.setVm vm').setTop { g with pc := hpc, stack := [.ref a] }) tg → Steps p.tables e below ((T.setTop g).pushFrame (.throwing a)) tg := by
  have hpl : e.platform.magicAccessors = ({} : Platform).magicAccessors := by rw [X.admits.platform]
  obtain ⟨vm0, hW0, hgv0, hsz0⟩ := tx_link (e := e) hpl X.warmed hown hlink0 hcls0
  obtain ⟨vm', hW', hgv, hsz⟩ := tx_link (e := e) hpl hW0 hown hlink hcls
  refine ⟨vm', hW', fun tg hrest => ?_⟩
  have h : At T g.method c below := by rw [hg]; exact X.here
  obtain ⟨k, hk⟩ := Vm.classAt_of_findClass hcls
  obtain ⟨k', hk', -⟩ := hW'.alike.2.2 _ _ hk
  obtain ⟨k1, hk1, -⟩ := hW0.alike.2.2 _ _ hk
  obtain ⟨j, hj⟩ := Vm.classAt_of_findClass hcls0
  obtain ⟨j1, hj1, -⟩ := hW0.alike.2.2 _ _ hj
  refine tx_caught h (vm' := vm') (pc := hpc) ?_ hrest
  intro Q E d acts
  have hm : ((T.setTop g).pushFrame (.throwing a)).vm.method? g.method = some meth := by rw [throwing_vm, hg]; exact X.method'
  rw [Jvm.W.findHandler_eq hm X.code, htab]
  rw [tx_go (c := c0) (cell := cell) (vm' := vm0) hcov0 (by rw [hix0]; exact hne0) (by rw [hg, hix0, throwing_vm]; exact hgv0) (by rw [throwing_vm]; exact hsz0) (by rw [throwing_heap]; exact hcell) (fun z h => by rw [h] at hobj; cases hobj) ⟨k1, hk1⟩ ⟨j1, hj1⟩]
  rw [if_neg (by rw [hW0.alike.assignable, hnot]; decide)]
  rw [tx_go (c := cell.cls) (cell := cell) (vm' := vm') hcov (by rw [hix]; exact hne) (by rw [hg, hix]; exact hgv) hsz (by
      have q : (((T.setTop g).pushFrame (.throwing a)).setVm vm0).heap = T.heap := throwing_heap T g a
      rw [q]; exact hcell) (fun z h => by rw [h] at hobj; cases hobj) ⟨k', hk'⟩ ⟨k', hk'⟩]
  rw [if_pos (by rw [hW'.alike.assignable]; exact hself), hh]
  exact Iff.rfl
end TX4
