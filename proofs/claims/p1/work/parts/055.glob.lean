/-! WHAT HOLDS AT EVERY POINT BESIDE THE CELLS: links between nest mates, texts, two statics of Throwable -/
abbrev tx_n1 : Cond := .methodLinkNest "TreeMatcher$Grammar" 61 ⟨"TreeMatcher$Parts", "<init>", "()V"⟩ "TreeMatcher"
abbrev tx_n2 : Cond := .methodLinkNest "TreeMatcher$Grammar" 72 ⟨"TreeMatcher", "isWithin", "(II)Z"⟩ "TreeMatcher"
def tx_N (U : State) : Prop := va_Nw tx_n1 U ∧ va_Nw tx_n2 U
theorem tx_N.warm {s U : State} (hW : s.WarmedH U.vm) (h : tx_N s) : tx_N U := ⟨va_Nw.warmM hW h.1, va_Nw.warmM hW h.2⟩
theorem tx_N.same {u U : State} (hv : u.vm = U.vm) (h : tx_N u) : tx_N U := ⟨va_Nw.same rfl hv h.1, va_Nw.same rfl hv h.2⟩
def tx_Str (U : State) : Prop := (∃ q : Nat, vk_R "TreeMatcher" 47 "no number of an operator, or of kids" q U) ∧ (∃ q : Nat, vk_R "TreeMatcher" 65 "no element" q U) ∧ (∃ q : Nat, vk_R "TreeMatcher" 92 "no rule" q U) ∧ (∃ q : Nat, vk_R "TreeMatcher" 102 "no such operator, or a kid is not so" q U) ∧ (∃ q : Nat, vk_R "TreeMatcher" 168 "no such node or nonterminal" q U) ∧ (∃ q : Nat, vk_R "TreeMatcher" 130 "no such pair, or what" q U) ∧ (∃ q : Nat, vk_R "TreeMatcher" 150 "no such node" q U) ∧ (∃ q : Nat, vk_R "TreeMatcher" 166 "nothing to count" q U)
theorem tx_Str.warm {s U : State} (hW : s.WarmedH U.vm) (h : tx_Str s) : tx_Str U := by
  obtain ⟨⟨q0, h0⟩, ⟨q1, h1⟩, ⟨q2, h2⟩, ⟨q3, h3⟩, ⟨q4, h4⟩, ⟨q5, h5⟩, ⟨q6, h6⟩, ⟨q7, h7⟩⟩ := h
  exact ⟨⟨q0, h0.warm hW⟩, ⟨q1, h1.warm hW⟩, ⟨q2, h2.warm hW⟩, ⟨q3, h3.warm hW⟩, ⟨q4, h4.warm hW⟩, ⟨q5, h5.warm hW⟩, ⟨q6, h6.warm hW⟩, ⟨q7, h7.warm hW⟩⟩
theorem tx_Str.same {u U : State} (hv : U.vm = u.vm) (h : tx_Str u) : tx_Str U := by
  obtain ⟨⟨q0, h0⟩, ⟨q1, h1⟩, ⟨q2, h2⟩, ⟨q3, h3⟩, ⟨q4, h4⟩, ⟨q5, h5⟩, ⟨q6, h6⟩, ⟨q7, h7⟩⟩ := h
  exact ⟨⟨q0, vk_R.same hv h0⟩, ⟨q1, vk_R.same hv h1⟩, ⟨q2, vk_R.same hv h2⟩, ⟨q3, vk_R.same hv h3⟩, ⟨q4, vk_R.same hv h4⟩, ⟨q5, vk_R.same hv h5⟩, ⟨q6, vk_R.same hv h6⟩, ⟨q7, vk_R.same hv h7⟩⟩
theorem tx_str47 {U : State} (h : tx_Str U) : ∃ q : Nat, vk_R "TreeMatcher" 47 "no number of an operator, or of kids" q U := h.1
theorem tx_str65 {U : State} (h : tx_Str U) : ∃ q : Nat, vk_R "TreeMatcher" 65 "no element" q U := h.2.1
theorem tx_str92 {U : State} (h : tx_Str U) : ∃ q : Nat, vk_R "TreeMatcher" 92 "no rule" q U := h.2.2.1
theorem tx_str102 {U : State} (h : tx_Str U) : ∃ q : Nat, vk_R "TreeMatcher" 102 "no such operator, or a kid is not so" q U := h.2.2.2.1
theorem tx_str168 {U : State} (h : tx_Str U) : ∃ q : Nat, vk_R "TreeMatcher" 168 "no such node or nonterminal" q U := h.2.2.2.2.1
theorem tx_str130 {U : State} (h : tx_Str U) : ∃ q : Nat, vk_R "TreeMatcher" 130 "no such pair, or what" q U := h.2.2.2.2.2.1
theorem tx_str150 {U : State} (h : tx_Str U) : ∃ q : Nat, vk_R "TreeMatcher" 150 "no such node" q U := h.2.2.2.2.2.2.1
theorem tx_str166 {U : State} (h : tx_Str U) : ∃ q : Nat, vk_R "TreeMatcher" 166 "nothing to count" q U := h.2.2.2.2.2.2.2
theorem tx_tr {c : Cond} {u U : State} (hc : c.onTables = true) (h : c.before #[] (u.setVm U.vm) = true) : c.before #[] U = true := by
  have e := Cond.onTables_vm (A := #[]) (A' := #[]) (U := u) (U' := U) U.vm c hc
  have hU : U.setVm U.vm = U := rfl
  rw [hU] at e
  rw [← e]
  exact h
theorem tx_decl {x : MethodName} {u U : State} (hvm : u.vm.Alike U.vm) (h : va_Nw (.declares x) u) : va_Nw (.declares x) U := tx_tr (u := u) rfl (by rw [Cond.declares_setVm hvm]; exact h)
theorem tx_cast {x y : String} {u U : State} (hvm : u.vm.Alike U.vm) (h : va_Nw (.castable x y) u) : va_Nw (.castable x y) U := tx_tr (u := u) rfl (by rw [Cond.castable_setVm hvm]; exact h)
abbrev tx_dl : List Cond := [.declares (Bundle.initS "java/lang/RuntimeException"), .declares (Bundle.initS "java/lang/Exception"), .declares (Bundle.initS "java/lang/Throwable"), .castable "java/lang/IllegalArgumentException" "java/lang/IllegalArgumentException", .castable "java/lang/IndexOutOfBoundsException" "java/lang/IndexOutOfBoundsException"]
def tx_D (U : State) : Prop := va_Nw (.declares (Bundle.initS "java/lang/RuntimeException")) U ∧ va_Nw (.declares (Bundle.initS "java/lang/Exception")) U ∧ va_Nw (.declares (Bundle.initS "java/lang/Throwable")) U ∧ va_Nw (.castable "java/lang/IllegalArgumentException" "java/lang/IllegalArgumentException") U ∧ va_Nw (.castable "java/lang/IndexOutOfBoundsException" "java/lang/IndexOutOfBoundsException") U
theorem tx_D.moved {u U : State} (hvm : u.vm.Alike U.vm) (h : tx_D u) : tx_D U := ⟨tx_decl hvm h.1, tx_decl hvm h.2.1, tx_decl hvm h.2.2.1, tx_cast hvm h.2.2.2.1, tx_cast hvm h.2.2.2.2⟩
theorem tx_D.use {U : State} (h : tx_D U) (args : Array Value) : ∀ a ∈ tx_dl, a.before args U = true := by
  intro a ha
  rcases List.mem_cons.mp ha with rfl | ha
  · exact va_Nw.use rfl h.1
  rcases List.mem_cons.mp ha with rfl | ha
  · exact va_Nw.use rfl h.2.1
  rcases List.mem_cons.mp ha with rfl | ha
  · exact va_Nw.use rfl h.2.2.1
  rcases List.mem_cons.mp ha with rfl | ha
  · exact va_Nw.use rfl h.2.2.2.1
  rcases List.mem_cons.mp ha with rfl | ha
  · exact va_Nw.use rfl h.2.2.2.2
  cases ha
def tx_Th (A : Nat → Prop) (U : State) (H : Heap) : Prop := tx_Zs Bundle.tN "UNASSIGNED_STACK" Bundle.steD A U H ∧ tx_Zs Bundle.tN "SUPPRESSED_SENTINEL" Bundle.listD A U H
def tx_G (A : Nat → Prop) (U : State) : Prop := tx_N U ∧ tx_Str U ∧ tx_D U ∧ tx_Th A U U.heap
theorem tx_G.to {A B : Nat → Prop} {s U : State} (h : tx_G A s) (hW : s.WarmedH U.vm) (hq : ∀ a : Nat, a < s.heap.size → ¬ A a → U.heap[a]? = s.heap[a]?) (hAB : ∀ q, B q → A q) : tx_G B U :=
  ⟨h.1.warm hW, h.2.1.warm hW, h.2.2.1.moved hW.alike, ((h.2.2.2.1.kept hq).moved hW.alike).narrow hAB, ((h.2.2.2.2.kept hq).moved hW.alike).narrow hAB⟩
theorem tx_G.same {A : Nat → Prop} {u U : State} (hv : U.vm = u.vm) (hh : U.heap = u.heap) (h : tx_G A u) : tx_G A U :=
  ⟨h.1.same hv.symm, h.2.1.same hv, h.2.2.1.moved (by rw [hv]; exact Vm.Alike.refl _), by rw [hh]; exact ⟨h.2.2.2.1.moved (by rw [hv]; exact Vm.Alike.refl _), h.2.2.2.2.moved (by rw [hv]; exact Vm.Alike.refl _)⟩⟩
/-! a callee that writes nothing old -/
theorem tx_pA {sz q : Nat} (h1 : q < sz) (h : va_A [] sz q) : False := by
  rcases h with ⟨k, e, h⟩ | h
  · simp at h
  · omega
theorem tx_pF {A0 : Nat → Prop} {H0 H : Heap} {locs : List Loc} (hS : va_S A0 H0 H locs) (hA : ∀ q, H0.size ≤ q → A0 q) : ∀ q, va_A [] H.size q → A0 q := by
  intro q h
  rcases h with ⟨k, e, h⟩ | h
  · simp at h
  · exact hA q (Nat.le_trans hS.1 h)
theorem tx_keep {D : va_G} {cl : List vw_C} {ws : va_W} {H H1 : Heap} (hP : va_P D cl ws H) (hk : ∀ q : Nat, q < H.size → ¬ va_A [] H.size q → H1[q]? = H[q]?) : va_P D cl ws H1 :=
  hP.kept (fun k q hq => hk q.1 ((hP k q hq).lt) (fun h => tx_pA ((hP k q hq).lt) h))
/-- behind a callee that wrote some cells of which nothing more is wanted: the rest -/
theorem tx_rest {A0 : Nat → Prop} {D : va_G} {cl : List vw_C} {ws wc wr : va_W} {H H1 : Heap} (hP : va_P D cl ws H) (hD : va_D A0 ws) (isC isR : List Nat) (hC : isC.map (fun i => ws[i]?) = wc.map some) (hR : isR.map (fun i => ws[i]?) = wr.map some) (hn : va_nd isR = true) (hdis : ∀ i ∈ isR, i ∉ isC)
    (hk : ∀ q : Nat, q < H.size → ¬ va_A wc H.size q → H1[q]? = H[q]?) (hF : ∀ q, va_A wc H.size q → A0 q) : va_P D cl wr H1 ∧ va_D A0 wr := by
  have h := va_join (w1 := []) hP hD isC isR hC hR hn hdis hk hF (fun k q h => by simp at h) ⟨fun i j p q h => by simp at h, fun k q h => by simp at h⟩
  rw [List.append_nil] at h
  exact h
/-- an old cell that a walk has written is no statics -/
theorem tx_loc {D : va_G} {cl : List vw_C} {ws : va_W} {s : State} {H : Heap} {locs : List Loc} (hP : va_P D cl ws s.heap) (hS : va_S (va_A ws s.heap.size) s.heap H locs) : ∀ x ∈ locs, ∀ cell, s.heap[x.base]? = some cell → cell.vm.isStatics = false := by
  intro x hx cell hc
  rcases hS.2.2 x hx with ⟨k, e, h⟩ | h
  · have h1 := hP k _ h
    cases e with
    | inl a =>
      have h2 : s.heap[x.base]? = some (vp_cell a.1 a.2) := h1
      rw [hc] at h2
      cases h2
      obtain ⟨c, n, f⟩ := a
      rcases f with f | f | f | f | f <;> rfl
    | inr o =>
      obtain ⟨r, -, cell', h2, -, h3, -⟩ := h1
      have h2 : s.heap[x.base]? = some cell' := h2
      rw [hc] at h2
      cases h2
      rw [h3]; rfl
  · have := (Array.getElem?_eq_some_iff.mp hc).1
    omega
abbrev tx_nm : List String := ["java/lang/RuntimeException", "java/lang/Exception"]
abbrev tx_sp : List Cond := [.laysStatic Bundle.tN "UNASSIGNED_STACK" Bundle.steD, .laysStatic Bundle.tN "SUPPRESSED_SENTINEL" Bundle.listD, .isRef (.static Bundle.tN "UNASSIGNED_STACK" Bundle.steD), .isRef (.static Bundle.tN "SUPPRESSED_SENTINEL" Bundle.listD)]
theorem tx_spok {A : Nat → Prop} {s : State} (h : tx_Th A s s.heap) (args : Array Value) : ∀ a ∈ tx_sp, a.before args s = true := by
  intro a ha
  rcases List.mem_cons.mp ha with rfl | ha
  · exact h.1.lays args
  rcases List.mem_cons.mp ha with rfl | ha
  · exact h.2.lays args
  rcases List.mem_cons.mp ha with rfl | ha
  · exact h.1.ref args
  rcases List.mem_cons.mp ha with rfl | ha
  · exact h.2.ref args
  cases ha
def tx_isC : Cond → Bool
  | .code .. => true
  | .codeSync .. => true
  | _ => false
theorem tx_split {L : List Cond} (ps : List Nat) (hp : L.filter tx_isC = ps.filterMap (fun i => tables_1[i]?)) (hgc : (L.filter tx_isC).all goodWord = true)
    (h : (L.filter (fun w => !tx_isC w)).all (fun a => decide (a ∈ tx_sp ++ tx_dl) || (goodWord a && decide (a ∈ tables_1))) = true) : ∀ a ∈ L, a ∈ tx_sp ++ tx_dl ∨ a ∈ gw := by
  intro a ha
  by_cases hc : tx_isC a = true
  · have h1 : a ∈ L.filter tx_isC := List.mem_filter.mpr ⟨ha, hc⟩
    have h2 := List.all_eq_true.mp hgc a h1
    rw [hp] at h1
    obtain ⟨i, -, hi⟩ := List.mem_filterMap.mp h1
    exact Or.inr (gw_of (List.mem_of_getElem? hi) h2)
  · have h1 := List.all_eq_true.mp h a (List.mem_filter.mpr ⟨ha, by simpa using hc⟩)
    rcases (Bool.or_eq_true _ _).mp h1 with h2 | h2
    · exact Or.inl (of_decide_eq_true h2)
    · obtain ⟨h3, h4⟩ := (Bool.and_eq_true _ _).mp h2
      exact Or.inr (gw_of (of_decide_eq_true h4) h3)
set_option maxRecDepth 100000 in
theorem tx_ownIAE {A : Nat → Prop} {s : State} {args : Array Value} (hg : ∀ w ∈ gw, w.before args s = true) (hG : tx_G A s) : ∀ a ∈ Bundle.ownAtoms "TreeMatcher" 49 "java/lang/IllegalArgumentException" tx_nm, a.before args s = true := by
  intro a ha
  rcases tx_split (L := Bundle.ownAtoms "TreeMatcher" 49 "java/lang/IllegalArgumentException" tx_nm) [359, 348, 27, 377, 368, 371, 374] rfl (by decide +kernel) (by decide +kernel) a ha with h1 | h1
  · rcases List.mem_append.mp h1 with h1 | h1
    · exact tx_spok hG.2.2.2 args a h1
    · exact hG.2.2.1.use args a h1
  · exact hg a h1
set_option maxRecDepth 100000 in
theorem tx_ownIOB {A : Nat → Prop} {s : State} {args : Array Value} (hg : ∀ w ∈ gw, w.before args s = true) (hG : tx_G A s) : ∀ a ∈ Bundle.ownAtoms "TreeMatcher" 132 "java/lang/IndexOutOfBoundsException" tx_nm, a.before args s = true := by
  intro a ha
  rcases tx_split (L := Bundle.ownAtoms "TreeMatcher" 132 "java/lang/IndexOutOfBoundsException" tx_nm) [359, 348, 27, 377, 677, 371, 374] rfl (by decide +kernel) (by decide +kernel) a ha with h1 | h1
  · rcases List.mem_append.mp h1 with h1 | h1
    · exact tx_spok hG.2.2.2 args a h1
    · exact hG.2.2.1.use args a h1
  · exact hg a h1
