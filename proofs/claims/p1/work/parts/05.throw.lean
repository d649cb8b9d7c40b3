/-! STATICS THAT HOLD REFERENCES; THE THROW OF A NEW EXCEPTION -/
section TX7
def tx_Zs (C n d : String) (A : Nat → Prop) (U : State) (H : Heap) : Prop := ∃ (c : ClassId) (k : Class) (i : Nat) (f : Field) (a : Nat) (cell : Cell) (v : Value), U.vm.findClass C = some c ∧ U.fieldFound? C n d = some (c, k, i, f) ∧ f.isStatic = true ∧ k.statics = some a ∧ H[a]? = some cell ∧ cell.vm.isStatics = true ∧ cell.cls = c ∧ f.slot < cell.slots.size ∧ k.staticTypes[f.slot]? = some f.type ∧ cell.slots[f.slot]? = some v ∧ v.isRef = true ∧ ¬ A a
theorem tx_Zs.moved {C n d : String} {A : Nat → Prop} {u U : State} {H : Heap} (hvm : u.vm.Alike U.vm) (h : tx_Zs C n d A u H) : tx_Zs C n d A U H := by
  obtain ⟨c, k, i, f, a, cell, v, h0, h1, h2, h3, h4, h5, h6, h7, h8, h9⟩ := h
  obtain ⟨k', hi', he⟩ := State.fieldFound?_setVm hvm h1
  exact ⟨c, k', i, f, a, cell, v, by rw [hvm.findClass]; exact h0, hi', h2, by rw [he]; exact h3, h4, h5, h6, h7, by rw [he]; exact h8, h9⟩
theorem tx_Zs.kept {C n d : String} {A : Nat → Prop} {U : State} {H H1 : Heap} (h : tx_Zs C n d A U H) (hq : ∀ a : Nat, a < H.size → ¬ A a → H1[a]? = H[a]?) : tx_Zs C n d A U H1 := by
  obtain ⟨c, k, i, f, a, cell, v, h0, h1, h2, h3, h4, h5, h6, h7, h8, h9, h10, h11⟩ := h
  exact ⟨c, k, i, f, a, cell, v, h0, h1, h2, h3, by rw [hq a (Array.getElem?_eq_some_iff.mp h4).1 h11]; exact h4, h5, h6, h7, h8, h9, h10, h11⟩
theorem tx_Zs.narrow {C n d : String} {A B : Nat → Prop} {U : State} {H : Heap} (h : tx_Zs C n d A U H) (hAB : ∀ q, B q → A q) : tx_Zs C n d B U H := by
  obtain ⟨c, k, i, f, a, cell, v, h0, h1, h2, h3, h4, h5, h6, h7, h8, h9, h10, h11⟩ := h
  exact ⟨c, k, i, f, a, cell, v, h0, h1, h2, h3, h4, h5, h6, h7, h8, h9, h10, fun z => h11 (hAB a z)⟩
theorem tx_Zs.of {args : Array Value} {s : State} {C n d : String} {A : Nat → Prop} (hl : (Cond.laysStatic C n d).before args s = true) (hr : (Cond.isRef (.static C n d)).before args s = true) (hA : ∀ a : Nat, a < s.heap.size → ¬ A a) : tx_Zs C n d A s s.heap := by
  obtain ⟨c, k, i, f, a, cell, hc, hi, hst, ha, hcell, hs, hcls, hlt, hty⟩ := Cond.laysStatic_spec hl
  cases hv : (Term.static C n d).eval args s none [] s with
  | none => simp [Cond.before, Cond.holds, Cond.value, hv] at hr
  | some w =>
    obtain ⟨-, a', cell', ha', hcell', -, hslot⟩ := Term.static_spec hi hv
    cases ha.symm.trans ha'
    cases hcell.symm.trans hcell'
    refine ⟨c, k, i, f, a, cell, w, hc, hi, hst, ha, hcell, hs, hcls, hlt, hty, hslot, ?_, hA a (Array.getElem?_eq_some_iff.mp hcell).1⟩
    simp only [Cond.before, Cond.holds, Cond.value, hv] at hr
    cases w <;> first | rfl | (simp at hr)
theorem tx_Zs.lays {C n d : String} {A : Nat → Prop} {s : State} (h : tx_Zs C n d A s s.heap) (args : Array Value) : (Cond.laysStatic C n d).before args s = true := by
  obtain ⟨c, k, i, f, a, cell, v, h0, h1, h2, h3, h4, h5, h6, h7, h8, h9, h10, h11⟩ := h
  exact Cond.laysStatic_of h0 h1 h2 h3 h4 h5 h6 h7 h8
theorem tx_Zs.ref {C n d : String} {A : Nat → Prop} {s : State} (h : tx_Zs C n d A s s.heap) (args : Array Value) : (Cond.isRef (.static C n d)).before args s = true := by
  obtain ⟨c, k, i, f, a, cell, v, h0, h1, h2, h3, h4, h5, h6, h7, h8, h9, h10, h11⟩ := h
  have hv := Term.static_eval (args := args) (first := s) (o := none) (idx := []) h1 h2 h3 h4 h5 h9
  simp only [Cond.before, Cond.holds, Cond.value, hv]
  cases v <;> first | rfl | (cases h10)
/-- an old cell of which no slot was freed stays -/
theorem tx_kept {s s' : State} {locs : List Loc} {k n : Nat} (h : s.sameButNew s' locs k n) {A : Nat → Prop} (hl : ∀ x ∈ locs, A x.base) : ∀ q : Nat, q < s.heap.size → ¬ A q → s'.heap[q]? = s.heap[q]? := by
  intro q hq hA
  have hc : s.heap[q]? = some s.heap[q] := Array.getElem?_eq_getElem hq
  obtain ⟨c', h1, h2, h3, h4⟩ := h.2.2.2.2.2 q _ hc
  have hs : c'.slots = (s.heap[q]).slots := by
    apply Array.ext_getElem?
    intro i
    exact h4 i (fun hm => hA (hl _ hm))
  rw [h1, hc]
  rw [h2, hs]
end TX7
section TX8
variable {p : Program} {l : Launch} {e : Env} {R : Room} {s : State} {m : MethodId} {args : Array Value} {below : List Frame} {meth : Method} {c : Code} {H : Heap} {locs : List Loc} {cells slots : Nat}
variable {cc : ByteArray} {pc : Nat} {ls : Array Slot} {rest : List Value} {A : Nat → Prop}
theorem tx_noTrace (ha : l.admits e) (hf : l.flags = flags0) : e.platform.stackTraces = false := by
  rw [ha.platform]
  show l.stackTraces = false
  unfold Launch.stackTraces
  rw [hf]
  decide +kernel
set_option maxHeartbeats 1000000 in
theorem tx_throwNew (hexec : p.tables.exec = Jvm.exec) (hb : c.code = cc) (hlf : l.flags = flags0) (hout : ∀ z ∈ c.exceptionTable.toList, ∀ pc, covers z pc = false) (hlocks : meth.locks = false) {own X : String} {names : List String} {ia ib ic : Nat} (hown : s.vm.findClass own = some m.cls)
    (hcl : (Cond.classLink own ia X).before args s = true) (hinst : (Cond.instantiable X 6).before args s = true) (hini : (Cond.initialized X).before args s = true) (hat : ∀ a ∈ Bundle.ownAtoms own ic X names, a.before args s = true) (hfit : Bundle.fit X = true) (hnames : ∀ n ∈ names, Bundle.fit n = true)
    {tx : String} {q : Nat} (hstr : vk_R own ib tx q s) (hloc : ∀ x ∈ locs, ∀ cell, s.heap[x.base]? = some cell → cell.vm.isStatics = false) (hls : ls.size = c.maxLocals) (hS : va_S A s.heap H locs)
    (hR : names.length + 3 < R.frames) (hRl : (rest.map fun v => v.category).sum + 13 * (names.length + 1) + 43 ≤ R.locals) (hcells : cells + 1 ≤ R.cells) (hslots : slots + 6 ≤ R.slots)
    (d0 : decode cc pc = .ok (.new ia, 3)) (d3 : decode cc (pc + 3) = .ok (.dup, 1)) (d4 : decode cc (pc + 3 + 1) = .ok (.ldc ib, 2)) (d6 : decode cc (pc + 3 + 1 + 2) = .ok (.invokespecial ic, 3)) (d9 : decode cc (pc + 3 + 1 + 2 + 3) = .ok (.athrow, 1))
    {post : Option Value → Prop} {exc : String → Prop} (hexc : exc X) :
    W p l e R s m args below meth c H locs cells slots (tx_MQ below (tx_Q post exc A) args s (cells + 1) (slots + 6) A) (F0 m pc ls rest) := by
  obtain ⟨cX, kX0, hcX, hkX0, -⟩ := Cond.instantiable_spec hinst
  refine W.newcK hexec hb hown hcl hinst hini rfl d0 hcells hslots hcX rfl fun H1 kC hkC e1 z1 o1 => ?_
  refine lv_dup hexec hb d3 rfl ?_
  refine va_ldcS hexec hb hown hstr d4 ?_
  intro T hT X0
  obtain ⟨U, st, h1, h2, h3, h4, ce, hce, hoc⟩ := X0.ctorThrowS hexec (tx_noTrace X0.admits hlf) (ic := ic) hown hfit hnames hat hloc hcX hkC (a := H.size) (by rw [hT]; exact e1) hS.1 (msg := .ref q) rfl
    (g := F0 m (pc + 3 + 1 + 2) ls (.ref q :: .ref H.size :: .ref H.size :: rest)) rfl hls rfl rfl (rest := rest) rfl (by rw [hb]; exact d6) (by rw [hb]; exact d9) (fun z hz => hout z hz _) hR (by
      have hm : (F0 m (pc + 3 + 1 + 2) ls (.ref q :: .ref H.size :: .ref H.size :: rest)).monitorRoom = 0 := rfl
      rw [hm]
      have hc1 : (Value.ref H.size).category = 1 := rfl
      simp only [List.map_cons, List.sum_cons, hc1]
      omega) hlocks
  refine ⟨U, st, .threw H.size, h1, h2, ⟨Or.inr ⟨H.size, X, rfl, hexc, ce, hce, ?_, ?_, ?_⟩, ?_, ?_⟩, locs, ⟨h3, h4⟩, hS.2.2⟩
  · rw [hoc.vm]; rfl
  · rw [h3.alike.findClass]; exact hoc.cls
  · rw [h3.alike.assignable]; exact hoc.self
  · exact h4.2.1
  · exact tx_kept h4 hS.2.2
end TX8
