set_option maxHeartbeats 4000000 in
set_option maxRecDepth 100000 in
/-- isWithin(x, y) -/
theorem c_M_isWithin (l : Launch) (dC : Nat → ClassId) (dI : Nat → Nat → Nat) (sz : Nat) (x y : Int32) : Met l y_M_isWithin ws_M_isWithin ({ frames := 0, cells := 0, slots := 0, locals := 0 }) (va_Pc [Value.int x, Value.int y] (fun U => U.heap.size = sz ∧ va_P (dC, dI) kcl [] U.heap ∧ va_K (dC, dI) kcl [] U)) (va_Qi (fun (r : Int32) (_ : Unit) => r = if 0 ≤ x ∧ x < y then 1 else 0) (fun (_ : Unit) (_ : State) => True) (va_A [] sz)) 0 0 (va_A [] sz) := by
  refine Met.ofW (cc := b_M_isWithin) (maxL := 2) (ret := (Option.some Jvm.ClassFile.FieldType.boolean)) (by decide) rfl ?_
  intro p e s m args below meth c s₁ B hml hv
  obtain ⟨rfl, hsz, hP, hK⟩ := hv
  have hx := B.exec
  have hb := B.bytes
  have hr := B.returns
  have hlocks := B.notSynchronized
  have hg : ∀ w ∈ gw, w.before _ s = true := fun w h => atoms_spec (ws := ws_M_isWithin) B.pre w (List.mem_cons_of_mem _ h)
  have hown : s.vm.findClass "TreeMatcher" = some m.cls := findClass_of_methodNamed B.named
  subst hsz
  have hA : ∀ q : Nat, s.heap.size ≤ q → va_A ([] : va_W) s.heap.size q := fun q h => Or.inr h
  generalize hAe : va_A ([] : va_W) s.heap.size = A at hA ⊢
  have hS : va_S A s.heap s.heap [] := va_S.rf
  have hl := lv_entry ([Value.int x, Value.int y] : List Value) (n := 2) (Nat.le_of_ble_eq_true rfl)
  rw [lg_entry_eq]
  generalize (lg_sl ([Value.int x, Value.int y] : List Value) ++ List.replicate (2 - (lg_sl ([Value.int x, Value.int y] : List Value)).length) Slot.unset).toArray = ls at hl ⊢
  have hl : lv_has ls 2 [(0, Value.int x), (1, Value.int y)] := hl
  refine lv_iload_n hx hb d_M_isWithin_0 rfl (lv_at hl 0 rfl) ?_
  refine lv_if_lt (tgt := 13) hx hb d_M_isWithin_1 (by decide) (fun c_1 => ?_) (fun c_1 => ?_)
  · refine lv_iconst (v := 0) hx hb d_M_isWithin_13 (by decide) ?_
    exact W.zret (v := 0) hx hb hr rfl (fun t ht hW => ⟨⟨0, (), rfl, (by rw [if_neg (fun h => absurd c_1 (Int32.not_lt.mpr h.1))]), trivial⟩, hS.F ht⟩) hS.2.2 d_M_isWithin_14
  · refine lv_iload_n hx hb d_M_isWithin_4 rfl (lv_at hl 0 rfl) ?_
    refine lv_iload_n hx hb d_M_isWithin_5 rfl (lv_at hl 1 rfl) ?_
    refine lv_icmp_ge (tgt := 13) hx hb d_M_isWithin_6 (by decide) (fun c_2 => ?_) (fun c_2 => ?_)
    · refine lv_iconst (v := 0) hx hb d_M_isWithin_13 (by decide) ?_
      exact W.zret (v := 0) hx hb hr rfl (fun t ht hW => ⟨⟨0, (), rfl, (by rw [if_neg (fun h => absurd h.2 (Int32.not_lt.mpr c_2))]), trivial⟩, hS.F ht⟩) hS.2.2 d_M_isWithin_14
    · refine lv_iconst (v := 1) hx hb d_M_isWithin_9 (by decide) ?_
      refine lv_goto (tgt := 14) hx hb d_M_isWithin_10 (by decide) ?_
      exact W.zret (v := 1) hx hb hr rfl (fun t ht hW => ⟨⟨1, (), rfl, (by rw [if_pos ⟨Int32.not_lt.mp c_1, Int32.not_le.mp c_2⟩]), trivial⟩, hS.F ht⟩) hS.2.2 d_M_isWithin_14
set_option maxHeartbeats 4000000 in
set_option maxRecDepth 100000 in
/-- TreeMatcher$Grammar.operatorCount() -/
theorem c_G_operatorCount (l : Launch) (dC : Nat → ClassId) (dI : Nat → Nat → Nat) (sz : Nat) (a : Nat) (za : Nat → Value) (v : Int32) : Met l y_G_operatorCount ws_G_operatorCount ({ frames := 0, cells := 0, slots := 0, locals := 0 }) (va_Pc [Value.ref a] (fun U => U.heap.size = sz ∧ va_P (dC, dI) kcl [(a, .inr (1, [(za 0), Value.int v, (za 2), (za 3), (za 4), (za 5), (za 6), (za 7), (za 8), (za 9), (za 10), (za 11), (za 12), (za 13)]))] U.heap ∧ va_K (dC, dI) kcl [] U)) (va_Qi (fun (r : Int32) (_ : Unit) => r = v) (fun (_ : Unit) (_ : State) => True) (va_A [] sz)) 0 0 (va_A [] sz) := by
  refine Met.ofW (cc := b_G_operatorCount) (maxL := 1) (ret := (Option.some Jvm.ClassFile.FieldType.int)) (by decide) rfl ?_
  intro p e s m args below meth c s₁ B hml hv
  obtain ⟨rfl, hsz, hP, hK⟩ := hv
  have hx := B.exec
  have hb := B.bytes
  have hr := B.returns
  have hlocks := B.notSynchronized
  have hg : ∀ w ∈ gw, w.before _ s = true := fun w h => atoms_spec (ws := ws_G_operatorCount) B.pre w (List.mem_cons_of_mem _ h)
  have hown : s.vm.findClass "TreeMatcher$Grammar" = some m.cls := findClass_of_methodNamed B.named
  subst hsz
  have hA : ∀ q : Nat, s.heap.size ≤ q → va_A ([] : va_W) s.heap.size q := fun q h => Or.inr h
  generalize hAe : va_A ([] : va_W) s.heap.size = A at hA ⊢
  have hS : va_S A s.heap s.heap [] := va_S.rf
  have hl := lv_entry ([Value.ref a] : List Value) (n := 1) (Nat.le_of_ble_eq_true rfl)
  rw [lg_entry_eq]
  generalize (lg_sl ([Value.ref a] : List Value) ++ List.replicate (1 - (lg_sl ([Value.ref a] : List Value)).length) Slot.unset).toArray = ls at hl ⊢
  have hl : lv_has ls 1 [(0, Value.ref a)] := hl
  refine lv_aload_n hx hb d_G_operatorCount_0 rfl (lv_at hl 0 rfl) ?_
  refine va_get (D := (dC, dI)) (ci := 1) (v := Value.int v) (C := kR_G) (T := kT_G) (N := 14) hx hb hg kin_G hown hK hP 0 rfl rfl 1 (by decide) (hg _ tw_82) (fun _ h9 => h9) rfl d_G_operatorCount_1 ?_
  exact W.iret (v := v) hx hb hr (fun t ht hW => ⟨⟨v, (), rfl, rfl, trivial⟩, hS.F ht⟩) hS.2.2 d_G_operatorCount_4
set_option maxHeartbeats 4000000 in
set_option maxRecDepth 100000 in
/-- TreeMatcher$Grammar.handSize() -/
theorem c_G_handSize (l : Launch) (dC : Nat → ClassId) (dI : Nat → Nat → Nat) (sz : Nat) (a : Nat) (za : Nat → Value) (v : Int32) : Met l y_G_handSize ws_G_handSize ({ frames := 0, cells := 0, slots := 0, locals := 0 }) (va_Pc [Value.ref a] (fun U => U.heap.size = sz ∧ va_P (dC, dI) kcl [(a, .inr (1, [(za 0), (za 1), (za 2), Value.int v, (za 4), (za 5), (za 6), (za 7), (za 8), (za 9), (za 10), (za 11), (za 12), (za 13)]))] U.heap ∧ va_K (dC, dI) kcl [] U)) (va_Qi (fun (r : Int32) (_ : Unit) => r = v) (fun (_ : Unit) (_ : State) => True) (va_A [] sz)) 0 0 (va_A [] sz) := by
  refine Met.ofW (cc := b_G_handSize) (maxL := 1) (ret := (Option.some Jvm.ClassFile.FieldType.int)) (by decide) rfl ?_
  intro p e s m args below meth c s₁ B hml hv
  obtain ⟨rfl, hsz, hP, hK⟩ := hv
  have hx := B.exec
  have hb := B.bytes
  have hr := B.returns
  have hlocks := B.notSynchronized
  have hg : ∀ w ∈ gw, w.before _ s = true := fun w h => atoms_spec (ws := ws_G_handSize) B.pre w (List.mem_cons_of_mem _ h)
  have hown : s.vm.findClass "TreeMatcher$Grammar" = some m.cls := findClass_of_methodNamed B.named
  subst hsz
  have hA : ∀ q : Nat, s.heap.size ≤ q → va_A ([] : va_W) s.heap.size q := fun q h => Or.inr h
  generalize hAe : va_A ([] : va_W) s.heap.size = A at hA ⊢
  have hS : va_S A s.heap s.heap [] := va_S.rf
  have hl := lv_entry ([Value.ref a] : List Value) (n := 1) (Nat.le_of_ble_eq_true rfl)
  rw [lg_entry_eq]
  generalize (lg_sl ([Value.ref a] : List Value) ++ List.replicate (1 - (lg_sl ([Value.ref a] : List Value)).length) Slot.unset).toArray = ls at hl ⊢
  have hl : lv_has ls 1 [(0, Value.ref a)] := hl
  refine lv_aload_n hx hb d_G_handSize_0 rfl (lv_at hl 0 rfl) ?_
  refine va_get (D := (dC, dI)) (ci := 1) (v := Value.int v) (C := kR_G) (T := kT_G) (N := 14) hx hb hg kin_G hown hK hP 0 rfl rfl 3 (by decide) (hg _ tw_84) (fun _ h9 => h9) rfl d_G_handSize_1 ?_
  exact W.iret (v := v) hx hb hr (fun t ht hW => ⟨⟨v, (), rfl, rfl, trivial⟩, hS.F ht⟩) hS.2.2 d_G_handSize_4
set_option maxHeartbeats 4000000 in
set_option maxRecDepth 100000 in
/-- TreeMatcher$Grammar.ruleCount() -/
theorem c_G_ruleCount (l : Launch) (dC : Nat → ClassId) (dI : Nat → Nat → Nat) (sz : Nat) (a : Nat) (za : Nat → Value) (v : Int32) : Met l y_G_ruleCount ws_G_ruleCount ({ frames := 0, cells := 0, slots := 0, locals := 0 }) (va_Pc [Value.ref a] (fun U => U.heap.size = sz ∧ va_P (dC, dI) kcl [(a, .inr (1, [(za 0), (za 1), (za 2), (za 3), (za 4), (za 5), (za 6), (za 7), (za 8), (za 9), (za 10), Value.int v, (za 12), (za 13)]))] U.heap ∧ va_K (dC, dI) kcl [] U)) (va_Qi (fun (r : Int32) (_ : Unit) => r = v) (fun (_ : Unit) (_ : State) => True) (va_A [] sz)) 0 0 (va_A [] sz) := by
  refine Met.ofW (cc := b_G_ruleCount) (maxL := 1) (ret := (Option.some Jvm.ClassFile.FieldType.int)) (by decide) rfl ?_
  intro p e s m args below meth c s₁ B hml hv
  obtain ⟨rfl, hsz, hP, hK⟩ := hv
  have hx := B.exec
  have hb := B.bytes
  have hr := B.returns
  have hlocks := B.notSynchronized
  have hg : ∀ w ∈ gw, w.before _ s = true := fun w h => atoms_spec (ws := ws_G_ruleCount) B.pre w (List.mem_cons_of_mem _ h)
  have hown : s.vm.findClass "TreeMatcher$Grammar" = some m.cls := findClass_of_methodNamed B.named
  subst hsz
  have hA : ∀ q : Nat, s.heap.size ≤ q → va_A ([] : va_W) s.heap.size q := fun q h => Or.inr h
  generalize hAe : va_A ([] : va_W) s.heap.size = A at hA ⊢
  have hS : va_S A s.heap s.heap [] := va_S.rf
  have hl := lv_entry ([Value.ref a] : List Value) (n := 1) (Nat.le_of_ble_eq_true rfl)
  rw [lg_entry_eq]
  generalize (lg_sl ([Value.ref a] : List Value) ++ List.replicate (1 - (lg_sl ([Value.ref a] : List Value)).length) Slot.unset).toArray = ls at hl ⊢
  have hl : lv_has ls 1 [(0, Value.ref a)] := hl
  refine lv_aload_n hx hb d_G_ruleCount_0 rfl (lv_at hl 0 rfl) ?_
  refine va_get (D := (dC, dI)) (ci := 1) (v := Value.int v) (C := kR_G) (T := kT_G) (N := 14) hx hb hg kin_G hown hK hP 0 rfl rfl 11 (by decide) (hg _ tw_92) (fun _ h9 => h9) rfl d_G_ruleCount_1 ?_
  exact W.iret (v := v) hx hb hr (fun t ht hW => ⟨⟨v, (), rfl, rfl, trivial⟩, hS.F ht⟩) hS.2.2 d_G_ruleCount_4
set_option maxHeartbeats 4000000 in
set_option maxRecDepth 100000 in
/-- TreeMatcher$Grammar.hasLimits() -/
theorem c_G_hasLimits (l : Launch) (dC : Nat → ClassId) (dI : Nat → Nat → Nat) (sz : Nat) (a : Nat) (za : Nat → Value) (v : Int32) (hv : v = 0 ∨ v = 1) : Met l y_G_hasLimits ws_G_hasLimits ({ frames := 0, cells := 0, slots := 0, locals := 0 }) (va_Pc [Value.ref a] (fun U => U.heap.size = sz ∧ va_P (dC, dI) kcl [(a, .inr (1, [(za 0), (za 1), (za 2), (za 3), (za 4), (za 5), (za 6), (za 7), (za 8), (za 9), (za 10), (za 11), Value.int v, (za 13)]))] U.heap ∧ va_K (dC, dI) kcl [] U)) (va_Qi (fun (r : Int32) (_ : Unit) => r = v) (fun (_ : Unit) (_ : State) => True) (va_A [] sz)) 0 0 (va_A [] sz) := by
  refine Met.ofW (cc := b_G_hasLimits) (maxL := 1) (ret := (Option.some Jvm.ClassFile.FieldType.boolean)) (by decide) rfl ?_
  intro p e s m args below meth c s₁ B hml hv
  obtain ⟨rfl, hsz, hP, hK⟩ := hv
  have hx := B.exec
  have hb := B.bytes
  have hr := B.returns
  have hlocks := B.notSynchronized
  have hg : ∀ w ∈ gw, w.before _ s = true := fun w h => atoms_spec (ws := ws_G_hasLimits) B.pre w (List.mem_cons_of_mem _ h)
  have hown : s.vm.findClass "TreeMatcher$Grammar" = some m.cls := findClass_of_methodNamed B.named
  subst hsz
  have hA : ∀ q : Nat, s.heap.size ≤ q → va_A ([] : va_W) s.heap.size q := fun q h => Or.inr h
  generalize hAe : va_A ([] : va_W) s.heap.size = A at hA ⊢
  have hS : va_S A s.heap s.heap [] := va_S.rf
  have hl := lv_entry ([Value.ref a] : List Value) (n := 1) (Nat.le_of_ble_eq_true rfl)
  rw [lg_entry_eq]
  generalize (lg_sl ([Value.ref a] : List Value) ++ List.replicate (1 - (lg_sl ([Value.ref a] : List Value)).length) Slot.unset).toArray = ls at hl ⊢
  have hl : lv_has ls 1 [(0, Value.ref a)] := hl
  refine lv_aload_n hx hb d_G_hasLimits_0 rfl (lv_at hl 0 rfl) ?_
  refine va_get (D := (dC, dI)) (ci := 1) (v := Value.int v) (C := kR_G) (T := kT_G) (N := 14) hx hb hg kin_G hown hK hP 0 rfl rfl 12 (by decide) (hg _ tw_93) (fun _ h9 => h9) rfl d_G_hasLimits_1 ?_
  exact W.zret (v := v) hx hb hr (by rcases hv with rfl | rfl <;> rfl) (fun t ht hW => ⟨⟨v, (), rfl, rfl, trivial⟩, hS.F ht⟩) hS.2.2 d_G_hasLimits_4
set_option maxHeartbeats 4000000 in
set_option maxRecDepth 100000 in
/-- TreeMatcher$Forest.size() -/
theorem c_F_size (l : Launch) (dC : Nat → ClassId) (dI : Nat → Nat → Nat) (sz : Nat) (a : Nat) (za : Nat → Value) (v : Int32) : Met l y_F_size ws_F_size ({ frames := 0, cells := 0, slots := 0, locals := 0 }) (va_Pc [Value.ref a] (fun U => U.heap.size = sz ∧ va_P (dC, dI) kcl [(a, .inr (2, [(za 0), (za 1), (za 2), (za 3), (za 4), (za 5), (za 6), (za 7), (za 8), Value.int v, (za 10), (za 11), (za 12), (za 13)]))] U.heap ∧ va_K (dC, dI) kcl [] U)) (va_Qi (fun (r : Int32) (_ : Unit) => r = v) (fun (_ : Unit) (_ : State) => True) (va_A [] sz)) 0 0 (va_A [] sz) := by
  refine Met.ofW (cc := b_F_size) (maxL := 1) (ret := (Option.some Jvm.ClassFile.FieldType.int)) (by decide) rfl ?_
  intro p e s m args below meth c s₁ B hml hv
  obtain ⟨rfl, hsz, hP, hK⟩ := hv
  have hx := B.exec
  have hb := B.bytes
  have hr := B.returns
  have hlocks := B.notSynchronized
  have hg : ∀ w ∈ gw, w.before _ s = true := fun w h => atoms_spec (ws := ws_F_size) B.pre w (List.mem_cons_of_mem _ h)
  have hown : s.vm.findClass "TreeMatcher$Forest" = some m.cls := findClass_of_methodNamed B.named
  subst hsz
  have hA : ∀ q : Nat, s.heap.size ≤ q → va_A ([] : va_W) s.heap.size q := fun q h => Or.inr h
  generalize hAe : va_A ([] : va_W) s.heap.size = A at hA ⊢
  have hS : va_S A s.heap s.heap [] := va_S.rf
  have hl := lv_entry ([Value.ref a] : List Value) (n := 1) (Nat.le_of_ble_eq_true rfl)
  rw [lg_entry_eq]
  generalize (lg_sl ([Value.ref a] : List Value) ++ List.replicate (1 - (lg_sl ([Value.ref a] : List Value)).length) Slot.unset).toArray = ls at hl ⊢
  have hl : lv_has ls 1 [(0, Value.ref a)] := hl
  refine lv_aload_n hx hb d_F_size_0 rfl (lv_at hl 0 rfl) ?_
  refine va_get (D := (dC, dI)) (ci := 2) (v := Value.int v) (C := kR_F) (T := kT_F) (N := 14) hx hb hg kin_F hown hK hP 0 rfl rfl 9 (by decide) (hg _ tw_200) (fun _ h9 => h9) rfl d_F_size_1 ?_
  exact W.iret (v := v) hx hb hr (fun t ht hW => ⟨⟨v, (), rfl, rfl, trivial⟩, hS.F ht⟩) hS.2.2 d_F_size_4
set_option maxHeartbeats 4000000 in
set_option maxRecDepth 100000 in
/-- TreeMatcher$Covering.size() -/
theorem c_C_size (l : Launch) (dC : Nat → ClassId) (dI : Nat → Nat → Nat) (sz : Nat) (a : Nat) (za : Nat → Value) (v : Int32) : Met l y_C_size ws_C_size ({ frames := 0, cells := 0, slots := 0, locals := 0 }) (va_Pc [Value.ref a] (fun U => U.heap.size = sz ∧ va_P (dC, dI) kcl [(a, .inr (3, [(za 0), (za 1), (za 2), (za 3), (za 4), (za 5), Value.int v]))] U.heap ∧ va_K (dC, dI) kcl [] U)) (va_Qi (fun (r : Int32) (_ : Unit) => r = v) (fun (_ : Unit) (_ : State) => True) (va_A [] sz)) 0 0 (va_A [] sz) := by
  refine Met.ofW (cc := b_C_size) (maxL := 1) (ret := (Option.some Jvm.ClassFile.FieldType.int)) (by decide) rfl ?_
  intro p e s m args below meth c s₁ B hml hv
  obtain ⟨rfl, hsz, hP, hK⟩ := hv
  have hx := B.exec
  have hb := B.bytes
  have hr := B.returns
  have hlocks := B.notSynchronized
  have hg : ∀ w ∈ gw, w.before _ s = true := fun w h => atoms_spec (ws := ws_C_size) B.pre w (List.mem_cons_of_mem _ h)
  have hown : s.vm.findClass "TreeMatcher$Covering" = some m.cls := findClass_of_methodNamed B.named
  subst hsz
  have hA : ∀ q : Nat, s.heap.size ≤ q → va_A ([] : va_W) s.heap.size q := fun q h => Or.inr h
  generalize hAe : va_A ([] : va_W) s.heap.size = A at hA ⊢
  have hS : va_S A s.heap s.heap [] := va_S.rf
  have hl := lv_entry ([Value.ref a] : List Value) (n := 1) (Nat.le_of_ble_eq_true rfl)
  rw [lg_entry_eq]
  generalize (lg_sl ([Value.ref a] : List Value) ++ List.replicate (1 - (lg_sl ([Value.ref a] : List Value)).length) Slot.unset).toArray = ls at hl ⊢
  have hl : lv_has ls 1 [(0, Value.ref a)] := hl
  refine lv_aload_n hx hb d_C_size_0 rfl (lv_at hl 0 rfl) ?_
  refine va_get (D := (dC, dI)) (ci := 3) (v := Value.int v) (C := kR_C) (T := kT_C) (N := 7) hx hb hg kin_C hown hK hP 0 rfl rfl 6 (by decide) (hg _ tw_246) (fun _ h9 => h9) rfl d_C_size_1 ?_
  exact W.iret (v := v) hx hb hr (fun t ht hW => ⟨⟨v, (), rfl, rfl, trivial⟩, hS.F ht⟩) hS.2.2 d_C_size_4
set_option maxHeartbeats 4000000 in
set_option maxRecDepth 100000 in
/-- TreeMatcher$Vectors.size() -/
theorem c_V_size (l : Launch) (dC : Nat → ClassId) (dI : Nat → Nat → Nat) (sz : Nat) (a : Nat) (za : Nat → Value) (v : Int32) : Met l y_V_size ws_V_size ({ frames := 0, cells := 0, slots := 0, locals := 0 }) (va_Pc [Value.ref a] (fun U => U.heap.size = sz ∧ va_P (dC, dI) kcl [(a, .inr (5, [(za 0), (za 1), (za 2), (za 3), (za 4), (za 5), (za 6), Value.int v]))] U.heap ∧ va_K (dC, dI) kcl [] U)) (va_Qi (fun (r : Int32) (_ : Unit) => r = v) (fun (_ : Unit) (_ : State) => True) (va_A [] sz)) 0 0 (va_A [] sz) := by
  refine Met.ofW (cc := b_V_size) (maxL := 1) (ret := (Option.some Jvm.ClassFile.FieldType.int)) (by decide) rfl ?_
  intro p e s m args below meth c s₁ B hml hv
  obtain ⟨rfl, hsz, hP, hK⟩ := hv
  have hx := B.exec
  have hb := B.bytes
  have hr := B.returns
  have hlocks := B.notSynchronized
  have hg : ∀ w ∈ gw, w.before _ s = true := fun w h => atoms_spec (ws := ws_V_size) B.pre w (List.mem_cons_of_mem _ h)
  have hown : s.vm.findClass "TreeMatcher$Vectors" = some m.cls := findClass_of_methodNamed B.named
  subst hsz
  have hA : ∀ q : Nat, s.heap.size ≤ q → va_A ([] : va_W) s.heap.size q := fun q h => Or.inr h
  generalize hAe : va_A ([] : va_W) s.heap.size = A at hA ⊢
  have hS : va_S A s.heap s.heap [] := va_S.rf
  have hl := lv_entry ([Value.ref a] : List Value) (n := 1) (Nat.le_of_ble_eq_true rfl)
  rw [lg_entry_eq]
  generalize (lg_sl ([Value.ref a] : List Value) ++ List.replicate (1 - (lg_sl ([Value.ref a] : List Value)).length) Slot.unset).toArray = ls at hl ⊢
  have hl : lv_has ls 1 [(0, Value.ref a)] := hl
  refine lv_aload_n hx hb d_V_size_0 rfl (lv_at hl 0 rfl) ?_
  refine va_get (D := (dC, dI)) (ci := 5) (v := Value.int v) (C := kR_V) (T := kT_V) (N := 8) hx hb hg kin_V hown hK hP 0 rfl rfl 7 (by decide) (hg _ tw_173) (fun _ h9 => h9) rfl d_V_size_1 ?_
  exact W.iret (v := v) hx hb hr (fun t ht hW => ⟨⟨v, (), rfl, rfl, trivial⟩, hS.F ht⟩) hS.2.2 d_V_size_4
set_option maxHeartbeats 4000000 in
set_option maxRecDepth 100000 in
/-- TreeMatcher$Parts.size() -/
theorem c_P_size (l : Launch) (dC : Nat → ClassId) (dI : Nat → Nat → Nat) (sz : Nat) (a : Nat) (za : Nat → Value) (v : Int32) : Met l y_P_size ws_P_size ({ frames := 0, cells := 0, slots := 0, locals := 0 }) (va_Pc [Value.ref a] (fun U => U.heap.size = sz ∧ va_P (dC, dI) kcl [(a, .inr (6, [(za 0), (za 1), (za 2), (za 3), (za 4), Value.int v]))] U.heap ∧ va_K (dC, dI) kcl [] U)) (va_Qi (fun (r : Int32) (_ : Unit) => r = v) (fun (_ : Unit) (_ : State) => True) (va_A [] sz)) 0 0 (va_A [] sz) := by
  refine Met.ofW (cc := b_P_size) (maxL := 1) (ret := (Option.some Jvm.ClassFile.FieldType.int)) (by decide) rfl ?_
  intro p e s m args below meth c s₁ B hml hv
  obtain ⟨rfl, hsz, hP, hK⟩ := hv
  have hx := B.exec
  have hb := B.bytes
  have hr := B.returns
  have hlocks := B.notSynchronized
  have hg : ∀ w ∈ gw, w.before _ s = true := fun w h => atoms_spec (ws := ws_P_size) B.pre w (List.mem_cons_of_mem _ h)
  have hown : s.vm.findClass "TreeMatcher$Parts" = some m.cls := findClass_of_methodNamed B.named
  subst hsz
  have hA : ∀ q : Nat, s.heap.size ≤ q → va_A ([] : va_W) s.heap.size q := fun q h => Or.inr h
  generalize hAe : va_A ([] : va_W) s.heap.size = A at hA ⊢
  have hS : va_S A s.heap s.heap [] := va_S.rf
  have hl := lv_entry ([Value.ref a] : List Value) (n := 1) (Nat.le_of_ble_eq_true rfl)
  rw [lg_entry_eq]
  generalize (lg_sl ([Value.ref a] : List Value) ++ List.replicate (1 - (lg_sl ([Value.ref a] : List Value)).length) Slot.unset).toArray = ls at hl ⊢
  have hl : lv_has ls 1 [(0, Value.ref a)] := hl
  refine lv_aload_n hx hb d_P_size_0 rfl (lv_at hl 0 rfl) ?_
  refine va_get (D := (dC, dI)) (ci := 6) (v := Value.int v) (C := kR_P) (T := kT_P) (N := 6) hx hb hg kin_P hown hK hP 0 rfl rfl 5 (by decide) (hg _ tw_64) (fun _ h9 => h9) rfl d_P_size_1 ?_
  exact W.iret (v := v) hx hb hr (fun t ht hW => ⟨⟨v, (), rfl, rfl, trivial⟩, hS.F ht⟩) hS.2.2 d_P_size_4
set_option maxHeartbeats 4000000 in
set_option maxRecDepth 100000 in
/-- TreeMatcherModel.thrown() -/
theorem c_D_thrown (l : Launch) (dC : Nat → ClassId) (dI : Nat → Nat → Nat) (sz : Nat) (a : Nat) (za : Nat → Value) (v : Int32) : Met l y_D_thrown ws_D_thrown ({ frames := 0, cells := 0, slots := 0, locals := 0 }) (va_Pc [Value.ref a] (fun U => U.heap.size = sz ∧ va_P (dC, dI) kcl [(a, .inr (9, [Value.int v, (za 1), (za 2), (za 3), (za 4), (za 5), (za 6), (za 7), (za 8), (za 9), (za 10), (za 11), (za 12), (za 13), (za 14), (za 15), (za 16), (za 17), (za 18), (za 19), (za 20), (za 21), (za 22), (za 23), (za 24), (za 25), (za 26), (za 27), (za 28), (za 29), (za 30), (za 31), (za 32), (za 33), (za 34), (za 35), (za 36), (za 37), (za 38), (za 39), (za 40), (za 41)]))] U.heap ∧ va_K (dC, dI) kcl [] U)) (va_Qi (fun (r : Int32) (_ : Unit) => r = v) (fun (_ : Unit) (_ : State) => True) (va_A [] sz)) 0 0 (va_A [] sz) := by
  refine Met.ofW (cc := b_D_thrown) (maxL := 1) (ret := (Option.some Jvm.ClassFile.FieldType.int)) (by decide) rfl ?_
  intro p e s m args below meth c s₁ B hml hv
  obtain ⟨rfl, hsz, hP, hK⟩ := hv
  have hx := B.exec
  have hb := B.bytes
  have hr := B.returns
  have hlocks := B.notSynchronized
  have hg : ∀ w ∈ gw, w.before _ s = true := fun w h => atoms_spec (ws := ws_D_thrown) B.pre w (List.mem_cons_of_mem _ h)
  have hown : s.vm.findClass "TreeMatcherModel" = some m.cls := findClass_of_methodNamed B.named
  subst hsz
  have hA : ∀ q : Nat, s.heap.size ≤ q → va_A ([] : va_W) s.heap.size q := fun q h => Or.inr h
  generalize hAe : va_A ([] : va_W) s.heap.size = A at hA ⊢
  have hS : va_S A s.heap s.heap [] := va_S.rf
  have hl := lv_entry ([Value.ref a] : List Value) (n := 1) (Nat.le_of_ble_eq_true rfl)
  rw [lg_entry_eq]
  generalize (lg_sl ([Value.ref a] : List Value) ++ List.replicate (1 - (lg_sl ([Value.ref a] : List Value)).length) Slot.unset).toArray = ls at hl ⊢
  have hl : lv_has ls 1 [(0, Value.ref a)] := hl
  refine lv_aload_n hx hb d_D_thrown_0 rfl (lv_at hl 0 rfl) ?_
  refine va_get (D := (dC, dI)) (ci := 9) (v := Value.int v) (C := kR_D) (T := kT_D) (N := 42) hx hb hg kin_D hown hK hP 0 rfl rfl 0 (by decide) (hg _ tw_817) (fun _ h9 => h9) rfl d_D_thrown_1 ?_
  exact W.iret (v := v) hx hb hr (fun t ht hW => ⟨⟨v, (), rfl, rfl, trivial⟩, hS.F ht⟩) hS.2.2 d_D_thrown_4
