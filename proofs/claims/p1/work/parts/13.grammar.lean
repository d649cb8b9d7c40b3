set_option maxRecDepth 100000 in
theorem tw_5 : (Jvm.Cond.initialized "java/util/Arrays") ∈ gw := gw_of (List.mem_of_getElem? (i := 5) rfl) rfl
set_option maxRecDepth 100000 in
theorem tw_32 : (Jvm.Cond.code ({ cls := "TreeMatcher$Grammar", name := "<init>", desc := "()V" } : Jvm.MethodName) prog_4_method_1_code (1 : Nat) (Option.none : Option Jvm.ClassFile.FieldType)) ∈ gw := gw_of (List.mem_of_getElem? (i := 32) rfl) rfl
set_option maxRecDepth 100000 in
theorem tw_33 : (Jvm.Cond.methodLink "TreeMatcher$Grammar" (3 : Nat) ({ cls := "java/lang/Object", name := "<init>", desc := "()V" } : Jvm.MethodName)) ∈ gw := gw_of (List.mem_of_getElem? (i := 33) rfl) rfl
set_option maxRecDepth 100000 in
theorem tw_34 : (Jvm.Cond.classLink "TreeMatcher$Grammar" (43 : Nat) "TreeMatcher$Groups") ∈ gw := gw_of (List.mem_of_getElem? (i := 34) rfl) rfl
set_option maxRecDepth 100000 in
theorem tw_36 : (Jvm.Cond.methodLink "TreeMatcher$Grammar" (45 : Nat) ({ cls := "TreeMatcher$Groups", name := "<init>", desc := "(II)V" } : Jvm.MethodName)) ∈ gw := gw_of (List.mem_of_getElem? (i := 36) rfl) rfl
set_option maxRecDepth 100000 in
theorem tw_51 : (Jvm.Cond.classLink "TreeMatcher$Grammar" (59 : Nat) "TreeMatcher$Parts") ∈ gw := gw_of (List.mem_of_getElem? (i := 51) rfl) rfl
set_option maxRecDepth 100000 in
theorem tw_52 : (Jvm.Cond.instantiable "TreeMatcher$Parts" (6 : Nat)) ∈ gw := gw_of (List.mem_of_getElem? (i := 52) rfl) rfl
set_option maxRecDepth 100000 in
theorem tw_54 : (Jvm.Cond.instanceMethod ({ cls := "TreeMatcher$Parts", name := "<init>", desc := "()V" } : Jvm.MethodName)) ∈ gw := gw_of (List.mem_of_getElem? (i := 54) rfl) rfl
set_option maxRecDepth 100000 in
theorem tw_78 : (Jvm.Cond.methodLink "TreeMatcher$Grammar" (66 : Nat) ({ cls := "java/util/Arrays", name := "fill", desc := "([II)V" } : Jvm.MethodName)) ∈ gw := gw_of (List.mem_of_getElem? (i := 78) rfl) rfl
set_option maxRecDepth 100000 in
theorem tw_79 : (Jvm.Cond.static ({ cls := "java/util/Arrays", name := "fill", desc := "([II)V" } : Jvm.MethodName)) ∈ gw := gw_of (List.mem_of_getElem? (i := 79) rfl) rfl
set_option maxRecDepth 100000 in
theorem tw_80 : (Jvm.Cond.code ({ cls := "java/util/Arrays", name := "fill", desc := "([II)V" } : Jvm.MethodName) prog_21_method_103_code (4 : Nat) (Option.none : Option Jvm.ClassFile.FieldType)) ∈ gw := gw_of (List.mem_of_getElem? (i := 80) rfl) rfl
set_option maxRecDepth 100000 in
theorem tw_85 : (Jvm.Cond.fieldLink "TreeMatcher$Grammar" (25 : Nat) "TreeMatcher$Grammar" "elements" "[I") ∈ gw := gw_of (List.mem_of_getElem? (i := 85) rfl) rfl
set_option maxRecDepth 100000 in
theorem tw_86 : (Jvm.Cond.fieldLink "TreeMatcher$Grammar" (28 : Nat) "TreeMatcher$Grammar" "lengths" "[I") ∈ gw := gw_of (List.mem_of_getElem? (i := 86) rfl) rfl
set_option maxRecDepth 100000 in
theorem tw_87 : (Jvm.Cond.fieldLink "TreeMatcher$Grammar" (31 : Nat) "TreeMatcher$Grammar" "gives" "[I") ∈ gw := gw_of (List.mem_of_getElem? (i := 87) rfl) rfl
set_option maxRecDepth 100000 in
theorem tw_88 : (Jvm.Cond.fieldLink "TreeMatcher$Grammar" (34 : Nat) "TreeMatcher$Grammar" "costs" "[I") ∈ gw := gw_of (List.mem_of_getElem? (i := 88) rfl) rfl
set_option maxRecDepth 100000 in
theorem tw_89 : (Jvm.Cond.fieldLink "TreeMatcher$Grammar" (37 : Nat) "TreeMatcher$Grammar" "lows" "[I") ∈ gw := gw_of (List.mem_of_getElem? (i := 89) rfl) rfl
set_option maxRecDepth 100000 in
theorem tw_90 : (Jvm.Cond.fieldLink "TreeMatcher$Grammar" (40 : Nat) "TreeMatcher$Grammar" "highs" "[I") ∈ gw := gw_of (List.mem_of_getElem? (i := 90) rfl) rfl
set_option maxRecDepth 100000 in
theorem tw_91 : (Jvm.Cond.fieldLink "TreeMatcher$Grammar" (48 : Nat) "TreeMatcher$Grammar" "rulesByChain" "LTreeMatcher$Groups;") ∈ gw := gw_of (List.mem_of_getElem? (i := 91) rfl) rfl
abbrev b_G_init : ByteArray := prog_4_method_1_code
def y_G_init : MethodName := ⟨"TreeMatcher$Grammar", "<init>", "()V"⟩
def ws_G_init : List Cond := Cond.code y_G_init b_G_init 1 (Option.none : Option Jvm.ClassFile.FieldType) :: gw
theorem cin_G_init : Cond.code y_G_init b_G_init 1 (Option.none : Option Jvm.ClassFile.FieldType) ∈ gw := tw_32
abbrev b_J_fill_0 : ByteArray := prog_21_method_103_code
def y_J_fill_0 : MethodName := ⟨"java/util/Arrays", "fill", "([II)V"⟩
def ws_J_fill_0 : List Cond := Cond.code y_J_fill_0 b_J_fill_0 4 (Option.none : Option Jvm.ClassFile.FieldType) :: gw
theorem cin_J_fill_0 : Cond.code y_J_fill_0 b_J_fill_0 4 (Option.none : Option Jvm.ClassFile.FieldType) ∈ gw := tw_80
theorem d_G_init_0 : decode b_G_init 0 = .ok (.aload_n 0, 1) := by decide +kernel
theorem d_G_init_1 : decode b_G_init 1 = .ok (.invokespecial 3, 3) := by decide +kernel
theorem d_G_init_4 : decode b_G_init 4 = .ok (.aload_n 0, 1) := by decide +kernel
theorem d_G_init_5 : decode b_G_init 5 = .ok (.bipush 32, 2) := by decide +kernel
theorem d_G_init_7 : decode b_G_init 7 = .ok (.newarray .int, 2) := by decide +kernel
theorem d_G_init_9 : decode b_G_init 9 = .ok (.putfield 9, 3) := by decide +kernel
theorem d_G_init_12 : decode b_G_init 12 = .ok (.aload_n 0, 1) := by decide +kernel
theorem d_G_init_13 : decode b_G_init 13 = .ok (.iconst 0, 1) := by decide +kernel
theorem d_G_init_14 : decode b_G_init 14 = .ok (.putfield 15, 3) := by decide +kernel
theorem d_G_init_17 : decode b_G_init 17 = .ok (.aload_n 0, 1) := by decide +kernel
theorem d_G_init_18 : decode b_G_init 18 = .ok (.bipush 12, 2) := by decide +kernel
theorem d_G_init_20 : decode b_G_init 20 = .ok (.newarray .int, 2) := by decide +kernel
theorem d_G_init_22 : decode b_G_init 22 = .ok (.putfield 19, 3) := by decide +kernel
theorem d_G_init_25 : decode b_G_init 25 = .ok (.aload_n 0, 1) := by decide +kernel
theorem d_G_init_26 : decode b_G_init 26 = .ok (.iconst 0, 1) := by decide +kernel
theorem d_G_init_27 : decode b_G_init 27 = .ok (.putfield 22, 3) := by decide +kernel
theorem d_G_init_30 : decode b_G_init 30 = .ok (.aload_n 0, 1) := by decide +kernel
theorem d_G_init_31 : decode b_G_init 31 = .ok (.sipush 768, 3) := by decide +kernel
theorem d_G_init_34 : decode b_G_init 34 = .ok (.newarray .int, 2) := by decide +kernel
theorem d_G_init_36 : decode b_G_init 36 = .ok (.putfield 25, 3) := by decide +kernel
theorem d_G_init_39 : decode b_G_init 39 = .ok (.aload_n 0, 1) := by decide +kernel
theorem d_G_init_40 : decode b_G_init 40 = .ok (.bipush 64, 2) := by decide +kernel
theorem d_G_init_42 : decode b_G_init 42 = .ok (.newarray .int, 2) := by decide +kernel
theorem d_G_init_44 : decode b_G_init 44 = .ok (.putfield 28, 3) := by decide +kernel
theorem d_G_init_47 : decode b_G_init 47 = .ok (.aload_n 0, 1) := by decide +kernel
theorem d_G_init_48 : decode b_G_init 48 = .ok (.bipush 64, 2) := by decide +kernel
theorem d_G_init_50 : decode b_G_init 50 = .ok (.newarray .int, 2) := by decide +kernel
theorem d_G_init_52 : decode b_G_init 52 = .ok (.putfield 31, 3) := by decide +kernel
theorem d_G_init_55 : decode b_G_init 55 = .ok (.aload_n 0, 1) := by decide +kernel
theorem d_G_init_56 : decode b_G_init 56 = .ok (.bipush 64, 2) := by decide +kernel
theorem d_G_init_58 : decode b_G_init 58 = .ok (.newarray .int, 2) := by decide +kernel
theorem d_G_init_60 : decode b_G_init 60 = .ok (.putfield 34, 3) := by decide +kernel
theorem d_G_init_63 : decode b_G_init 63 = .ok (.aload_n 0, 1) := by decide +kernel
theorem d_G_init_64 : decode b_G_init 64 = .ok (.bipush 64, 2) := by decide +kernel
theorem d_G_init_66 : decode b_G_init 66 = .ok (.newarray .int, 2) := by decide +kernel
theorem d_G_init_68 : decode b_G_init 68 = .ok (.putfield 37, 3) := by decide +kernel
theorem d_G_init_71 : decode b_G_init 71 = .ok (.aload_n 0, 1) := by decide +kernel
theorem d_G_init_72 : decode b_G_init 72 = .ok (.bipush 64, 2) := by decide +kernel
theorem d_G_init_74 : decode b_G_init 74 = .ok (.newarray .int, 2) := by decide +kernel
theorem d_G_init_76 : decode b_G_init 76 = .ok (.putfield 40, 3) := by decide +kernel
theorem d_G_init_79 : decode b_G_init 79 = .ok (.aload_n 0, 1) := by decide +kernel
theorem d_G_init_80 : decode b_G_init 80 = .ok (.new 43, 3) := by decide +kernel
theorem d_G_init_83 : decode b_G_init 83 = .ok (.dup, 1) := by decide +kernel
theorem d_G_init_84 : decode b_G_init 84 = .ok (.bipush 17, 2) := by decide +kernel
theorem d_G_init_86 : decode b_G_init 86 = .ok (.bipush 64, 2) := by decide +kernel
theorem d_G_init_88 : decode b_G_init 88 = .ok (.invokespecial 45, 3) := by decide +kernel
theorem d_G_init_91 : decode b_G_init 91 = .ok (.putfield 48, 3) := by decide +kernel
theorem d_G_init_94 : decode b_G_init 94 = .ok (.aload_n 0, 1) := by decide +kernel
theorem d_G_init_95 : decode b_G_init 95 = .ok (.iconst 0, 1) := by decide +kernel
theorem d_G_init_96 : decode b_G_init 96 = .ok (.putfield 52, 3) := by decide +kernel
theorem d_G_init_99 : decode b_G_init 99 = .ok (.aload_n 0, 1) := by decide +kernel
theorem d_G_init_100 : decode b_G_init 100 = .ok (.iconst 0, 1) := by decide +kernel
theorem d_G_init_101 : decode b_G_init 101 = .ok (.putfield 55, 3) := by decide +kernel
theorem d_G_init_104 : decode b_G_init 104 = .ok (.aload_n 0, 1) := by decide +kernel
theorem d_G_init_105 : decode b_G_init 105 = .ok (.new 59, 3) := by decide +kernel
theorem d_G_init_108 : decode b_G_init 108 = .ok (.dup, 1) := by decide +kernel
theorem d_G_init_109 : decode b_G_init 109 = .ok (.invokespecial 61, 3) := by decide +kernel
theorem d_G_init_112 : decode b_G_init 112 = .ok (.putfield 62, 3) := by decide +kernel
theorem d_G_init_115 : decode b_G_init 115 = .ok (.aload_n 0, 1) := by decide +kernel
theorem d_G_init_116 : decode b_G_init 116 = .ok (.getfield 9, 3) := by decide +kernel
theorem d_G_init_119 : decode b_G_init 119 = .ok (.iconst (-1), 1) := by decide +kernel
theorem d_G_init_120 : decode b_G_init 120 = .ok (.invokestatic 66, 3) := by decide +kernel
theorem d_G_init_123 : decode b_G_init 123 = .ok (.return_, 1) := by decide +kernel
theorem d_J_fill_0_0 : decode b_J_fill_0 0 = .ok (.iconst 0, 1) := by decide +kernel
theorem d_J_fill_0_1 : decode b_J_fill_0 1 = .ok (.istore_n 2, 1) := by decide +kernel
theorem d_J_fill_0_2 : decode b_J_fill_0 2 = .ok (.aload_n 0, 1) := by decide +kernel
theorem d_J_fill_0_3 : decode b_J_fill_0 3 = .ok (.arraylength, 1) := by decide +kernel
theorem d_J_fill_0_4 : decode b_J_fill_0 4 = .ok (.istore_n 3, 1) := by decide +kernel
theorem d_J_fill_0_5 : decode b_J_fill_0 5 = .ok (.iload_n 2, 1) := by decide +kernel
theorem d_J_fill_0_6 : decode b_J_fill_0 6 = .ok (.iload_n 3, 1) := by decide +kernel
theorem d_J_fill_0_7 : decode b_J_fill_0 7 = .ok (.if_icmp .ge 13, 3) := by decide +kernel
theorem d_J_fill_0_10 : decode b_J_fill_0 10 = .ok (.aload_n 0, 1) := by decide +kernel
theorem d_J_fill_0_11 : decode b_J_fill_0 11 = .ok (.iload_n 2, 1) := by decide +kernel
theorem d_J_fill_0_12 : decode b_J_fill_0 12 = .ok (.iload_n 1, 1) := by decide +kernel
theorem d_J_fill_0_13 : decode b_J_fill_0 13 = .ok (.iastore, 1) := by decide +kernel
theorem d_J_fill_0_14 : decode b_J_fill_0 14 = .ok (.iinc 2 1, 3) := by decide +kernel
theorem d_J_fill_0_17 : decode b_J_fill_0 17 = .ok (.goto (-12), 3) := by decide +kernel
theorem d_J_fill_0_20 : decode b_J_fill_0 20 = .ok (.return_, 1) := by decide +kernel
theorem tx_fill {g : Nat → Int32} {v : Int32} {i : Nat} (h : ∀ j, j < i → g j = v) (hi : i < 2 ^ 31) : ∀ j, j < i + 1 → upd g (nI i).toNatClampNeg v j = v := by
  intro j hj
  rw [nI_clamp hi]
  by_cases e : j = i
  · subst e
    exact pk_us
  · rw [pk_un e]
    exact h j (by omega)
set_option maxHeartbeats 4000000 in
set_option maxRecDepth 100000 in
theorem c_J_fill32 (l : Launch) (dC : Nat → ClassId) (dI : Nat → Nat → Nat) (sz : Nat) (a : Nat) (cA : ClassId) (f : Nat → Int32) (v : Int32) : Met l y_J_fill_0 ws_J_fill_0 ({ frames := 0, cells := 0, slots := 0, locals := 0 }) (va_Pc [Value.ref a, Value.int v] (fun U => U.heap.size = sz ∧ va_P (dC, dI) kcl [(a, .inl (cA, 32, .inl f))] U.heap ∧ va_K (dC, dI) kcl [(cA, .int)] U ∧ va_D (fun _ => True) [(a, .inl (cA, 32, .inl f))])) (va_Qv (fun (_ : Unit) => True) (fun (_ : Unit) (t : State) => ∃ f2 : Nat → Int32, (∀ j, j < 32 → f2 j = v) ∧ va_P (dC, dI) kcl [(a, .inl (cA, 32, .inl f2))] t.heap ∧ va_K (dC, dI) kcl [(cA, .int)] t ∧ va_D (va_A [(a, .inl (cA, 32, .inl f))] sz) [(a, .inl (cA, 32, .inl f2))]) (va_A [(a, .inl (cA, 32, .inl f))] sz)) 0 0 (va_A [(a, .inl (cA, 32, .inl f))] sz) := by
  refine Met.ofW (cc := b_J_fill_0) (maxL := 4) (ret := (Option.none : Option Jvm.ClassFile.FieldType)) (by decide) rfl ?_
  intro p e s m args below meth c s₁ B hml hv
  obtain ⟨rfl, hsz, hP, hK, hD0⟩ := hv
  have hx := B.exec
  have hb := B.bytes
  have hr := B.returns
  have hlocks := B.notSynchronized
  have hg : ∀ w ∈ gw, w.before _ s = true := fun w h => atoms_spec (ws := ws_J_fill_0) B.pre w (List.mem_cons_of_mem _ h)
  have hown : s.vm.findClass "java/util/Arrays" = some m.cls := findClass_of_methodNamed B.named
  subst hsz
  have hD := hD0.self (sz := s.heap.size)
  have hA : ∀ q : Nat, s.heap.size ≤ q → va_A [(a, .inl (cA, 32, .inl f))] s.heap.size q := fun q h => Or.inr h
  generalize hAe : va_A [(a, .inl (cA, 32, .inl f))] s.heap.size = A at hD hA ⊢
  have hS : va_S A s.heap s.heap [] := va_S.rf
  have hl := lv_entry ([Value.ref a, Value.int v] : List Value) (n := 4) (Nat.le_of_ble_eq_true rfl)
  rw [lg_entry_eq]
  generalize (lg_sl ([Value.ref a, Value.int v] : List Value) ++ List.replicate (4 - (lg_sl ([Value.ref a, Value.int v] : List Value)).length) Slot.unset).toArray = ls at hl ⊢
  have hl : lv_has ls 4 [(0, Value.ref a), (1, Value.int v)] := hl
  refine lv_iconst (v := 0) hx hb d_J_fill_0_0 (by decide) ?_
  refine lv_istore_n (lv' := [(2, Value.int 0), (0, Value.ref a), (1, Value.int v)]) hx hb d_J_fill_0_1 rfl hl (by decide) rfl (fun ls hl => ?_)
  refine lv_aload_n hx hb d_J_fill_0_2 rfl (lv_at hl 1 rfl) ?_
  refine va_alen (v := 32) hx hb hK hP 0 0 rfl rfl rfl d_J_fill_0_3 ?_
  refine lv_istore_n (lv' := [(3, Value.int 32), (2, Value.int 0), (0, Value.ref a), (1, Value.int v)]) hx hb d_J_fill_0_4 rfl hl (by decide) rfl (fun ls hl => ?_)
  refine tx_loop (fun i H locs ls => ∃ g : Nat → Int32, (∀ j, j < i → g j = v) ∧ va_P (dC, dI) kcl [(a, .inl (cA, 32, .inl g))] H ∧ va_D A [(a, .inl (cA, 32, .inl g))] ∧ va_S A s.heap H locs ∧ lv_has ls 4 [(2, .int (nI i)), (3, .int 32), (0, .ref a), (1, .int v)]) 32 ?_ ?_ 0 _ _ _ (by decide) ⟨f, fun j h => absurd h (by omega), hP, hD, hS, lv_sub hl [1, 0, 2, 3] rfl⟩
  · intro i H9 lo9 ls hi ⟨g, hg9, hP, hD, hS, hl⟩ next
    refine lv_iload_n hx hb d_J_fill_0_5 rfl (lv_at hl 0 rfl) ?_
    refine lv_iload_n hx hb d_J_fill_0_6 rfl (lv_at hl 1 rfl) ?_
    refine lv_icmp_ge (tgt := 20) hx hb d_J_fill_0_7 (by decide) (fun c_1 => ?_) (fun c_1 => ?_)
    · exact absurd c_1 (nI_ge (b := 32) hi (by decide))
    · refine lv_aload_n hx hb d_J_fill_0_10 rfl (lv_at hl 2 rfl) ?_
      refine lv_iload_n hx hb d_J_fill_0_11 rfl (lv_at hl 0 rfl) ?_
      refine lv_iload_n hx hb d_J_fill_0_12 rfl (lv_at hl 3 rfl) ?_
      refine va_iast hx hb hK hP hD hS 0 0 rfl rfl (vp_in_nI hi (by decide)) d_J_fill_0_13 (fun H_2 lo_3 hP hD hS => ?_)
      have hP : va_P (dC, dI) kcl [(a, .inl (cA, 32, .inl (upd g ((nI i) : Int32).toNatClampNeg v)))] H_2 := hP
      have hD : va_D A [(a, .inl (cA, 32, .inl (upd g ((nI i) : Int32).toNatClampNeg v)))] := hD
      obtain ⟨i_4, ei_4⟩ : ∃ y : Int32, y = (nI i) + 1 := ⟨_, rfl⟩
      refine lv_iinc (v := i_4) (lv' := [(2, Value.int i_4), (3, Value.int 32), (0, Value.ref a), (1, Value.int v)]) hx hb d_J_fill_0_14 hl (k := 0) rfl (by rw [ei_4]; rfl) (by decide) rfl (fun ls hl => ?_)
      refine lv_goto (tgt := 5) hx hb d_J_fill_0_17 (by decide) ?_
      exact next _ _ _ ⟨_, tx_fill hg9 (by omega), hP, hD, hS, by have h0 := lv_sub hl [0, 1, 2, 3] rfl; rw [ei_4, nI_1] at h0; exact h0⟩
  · intro H9 lo9 ls ⟨g, hg9, hP, hD, hS, hl⟩
    refine lv_iload_n hx hb d_J_fill_0_5 rfl (lv_at hl 0 rfl) ?_
    refine lv_iload_n hx hb d_J_fill_0_6 rfl (lv_at hl 1 rfl) ?_
    refine lv_icmp_ge (tgt := 20) hx hb d_J_fill_0_7 (by decide) (fun c_5 => ?_) (fun c_5 => ?_)
    · have hP9 := hP.sub (ws' := [(a, .inl (cA, 32, .inl g))]) [0] rfl
      have hD9 := hD.sub (ws' := [(a, .inl (cA, 32, .inl g))]) [0] (by decide) rfl
      have hK9 := hK.sub (tys' := [(cA, .int)]) [0] rfl
      exact W.vret hx hb hr (fun t ht hW => ⟨⟨(), rfl, trivial, ⟨g, hg9, by rw [ht]; exact hP9, va_K.moved hW.alike hK9, hD9⟩⟩, hS.F ht⟩) hS.2.2 d_J_fill_0_20
    · exact absurd (by decide) c_5
set_option maxHeartbeats 4000000 in
set_option maxRecDepth 100000 in
theorem c_G_init (l : Launch) (dC : Nat → ClassId) (dI : Nat → Nat → Nat) (sz : Nat) (g : Nat) : Met l y_G_init ws_G_init ({ frames := 3, cells := 19, slots := 4391, locals := 54 }) (va_Pc [Value.ref g] (fun U => U.heap.size = sz ∧ va_P (dC, dI) kcl [(g, .inr (1, [Value.null, Value.int 0, Value.null, Value.int 0, Value.null, Value.null, Value.null, Value.null, Value.null, Value.null, Value.null, Value.int 0, Value.int 0, Value.null]))] U.heap ∧ va_K (dC, dI) kcl [] U ∧ va_D (fun _ => True) [(g, .inr (1, [Value.null, Value.int 0, Value.null, Value.int 0, Value.null, Value.null, Value.null, Value.null, Value.null, Value.null, Value.null, Value.int 0, Value.int 0, Value.null]))] ∧ tx_N U)) (va_Qv (fun (_ : Unit) => True) (fun (_ : Unit) (t : State) => ∃ (kq hq pq bq : Nat) (cK cH : ClassId) (zg zpq : Nat → Value) (fk fh : Nat → Int32), (∀ j, j < 32 → fk j = -1) ∧ va_P (dC, dI) kcl [(g, .inr (1, [Value.ref kq, Value.int 0, Value.ref hq, Value.int 0, (zg 4), (zg 5), (zg 6), (zg 7), (zg 8), (zg 9), (zg 10), Value.int 0, Value.int 0, Value.ref pq])), (kq, .inl (cK, 32, .inl fk)), (hq, .inl (cH, 12, .inl fh)), (pq, .inr (6, [(zpq 0), (zpq 1), (zpq 2), (zpq 3), Value.ref bq, Value.int 16]))] t.heap ∧ va_K (dC, dI) kcl [(cK, .int), (cH, .int)] t ∧ va_D (va_A [(g, .inr (1, [Value.null, Value.int 0, Value.null, Value.int 0, Value.null, Value.null, Value.null, Value.null, Value.null, Value.null, Value.null, Value.int 0, Value.int 0, Value.null]))] sz) [(g, .inr (1, [Value.ref kq, Value.int 0, Value.ref hq, Value.int 0, (zg 4), (zg 5), (zg 6), (zg 7), (zg 8), (zg 9), (zg 10), Value.int 0, Value.int 0, Value.ref pq])), (kq, .inl (cK, 32, .inl fk)), (hq, .inl (cH, 12, .inl fh)), (pq, .inr (6, [(zpq 0), (zpq 1), (zpq 2), (zpq 3), Value.ref bq, Value.int 16]))]) (va_A [(g, .inr (1, [Value.null, Value.int 0, Value.null, Value.int 0, Value.null, Value.null, Value.null, Value.null, Value.null, Value.null, Value.null, Value.int 0, Value.int 0, Value.null]))] sz)) 19 4391 (va_A [(g, .inr (1, [Value.null, Value.int 0, Value.null, Value.int 0, Value.null, Value.null, Value.null, Value.null, Value.null, Value.null, Value.null, Value.int 0, Value.int 0, Value.null]))] sz) := by
  refine Met.ofW (cc := b_G_init) (maxL := 1) (ret := (Option.none : Option Jvm.ClassFile.FieldType)) (by decide) rfl ?_
  intro p e s m args below meth c s₁ B hml hv
  obtain ⟨rfl, hsz, hP, hK, hD0, hG⟩ := hv
  have hx := B.exec
  have hb := B.bytes
  have hr := B.returns
  have hlocks := B.notSynchronized
  have hg : ∀ w ∈ gw, w.before _ s = true := fun w h => atoms_spec (ws := ws_G_init) B.pre w (List.mem_cons_of_mem _ h)
  have hown : s.vm.findClass "TreeMatcher$Grammar" = some m.cls := findClass_of_methodNamed B.named
  have hin : meth.name = "<init>" := (name_of_methodNamed B.named B.method).1
  subst hsz
  have hD := hD0.self (sz := s.heap.size)
  have hA : ∀ q : Nat, s.heap.size ≤ q → va_A [(g, .inr (1, [Value.null, Value.int 0, Value.null, Value.int 0, Value.null, Value.null, Value.null, Value.null, Value.null, Value.null, Value.null, Value.int 0, Value.int 0, Value.null]))] s.heap.size q := fun q h => Or.inr h
  generalize hAe : va_A [(g, .inr (1, [Value.null, Value.int 0, Value.null, Value.int 0, Value.null, Value.null, Value.null, Value.null, Value.null, Value.null, Value.null, Value.int 0, Value.int 0, Value.null]))] s.heap.size = A at hD hA ⊢
  have hN : tx_N s := hG
  have hS : va_S A s.heap s.heap [] := va_S.rf
  have hl := lv_entry ([Value.ref g] : List Value) (n := 1) (Nat.le_of_ble_eq_true rfl)
  rw [lg_entry_eq]
  generalize (lg_sl ([Value.ref g] : List Value) ++ List.replicate (1 - (lg_sl ([Value.ref g] : List Value)).length) Slot.unset).toArray = ls at hl ⊢
  have hl : lv_has ls 1 [(0, Value.ref g)] := hl
  refine lv_aload_n hx hb d_G_init_0 rfl (lv_at hl 0 rfl) ?_
  refine W.objInit hx hb hown (hg _ tw_33) (hg _ tw_26) (hg _ tw_27) rfl (by rw [hml]; exact hl.1) rfl d_G_init_1 (Nat.le_of_ble_eq_true rfl) (Nat.le_of_ble_eq_true rfl) ?_
  refine W.eq (g2 := F0 m 4 ls []) rfl ?_
  refine lv_aload_n hx hb d_G_init_4 rfl (lv_at hl 0 rfl) ?_
  refine lv_bipush (v := 32) hx hb d_G_init_5 (by decide) ?_
  refine va_newa (atype := .int) (ty := .int) (a0 := (32, .inl (fun _ => 0))) (N' := 32) hx hb (hg _ tw_50) rfl hK hP hD hS hA (fun _ => rfl) (by decide) (by decide +kernel) (by decide) (Nat.le_of_ble_eq_true rfl) (Nat.le_of_ble_eq_true rfl) d_G_init_7 (fun kq ckq H_1 hK hP hD hS => ?_)
  have hP : va_P (dC, dI) kcl [(g, .inr (1, [Value.null, Value.int 0, Value.null, Value.int 0, Value.null, Value.null, Value.null, Value.null, Value.null, Value.null, Value.null, Value.int 0, Value.int 0, Value.null])), (kq, .inl (ckq, 32, .inl (fun _ => 0)))] H_1 := hP
  have hD : va_D A [(g, .inr (1, [Value.null, Value.int 0, Value.null, Value.int 0, Value.null, Value.null, Value.null, Value.null, Value.null, Value.null, Value.null, Value.int 0, Value.int 0, Value.null])), (kq, .inl (ckq, 32, .inl (fun _ => 0)))] := hD
  have hK : va_K (dC, dI) kcl [(ckq, .int)] s := hK
  refine va_putF (D := (dC, dI)) (ci := 1) (v := Value.ref kq) (ty := .array .int) (C := kR_G) (T := kT_G) (N := 14) hx hb hg kin_G kt_G kty_G knm_G hown hK hP hD hS 0 rfl rfl 0 (by decide) (hg _ tw_81) (fun _ h9 => h9) rfl hin rfl (by decide +kernel) rfl rfl (Nat.le_of_ble_eq_true rfl) d_G_init_9 (fun H_2 lo_3 hP hD hS => ?_)
  have hP : va_P (dC, dI) kcl [(g, .inr (1, [Value.ref kq, Value.int 0, Value.null, Value.int 0, Value.null, Value.null, Value.null, Value.null, Value.null, Value.null, Value.null, Value.int 0, Value.int 0, Value.null])), (kq, .inl (ckq, 32, .inl (fun _ => 0)))] H_2 := hP
  have hD : va_D A [(g, .inr (1, [Value.ref kq, Value.int 0, Value.null, Value.int 0, Value.null, Value.null, Value.null, Value.null, Value.null, Value.null, Value.null, Value.int 0, Value.int 0, Value.null])), (kq, .inl (ckq, 32, .inl (fun _ => 0)))] := hD
  refine lv_aload_n hx hb d_G_init_12 rfl (lv_at hl 0 rfl) ?_
  refine lv_iconst (v := 0) hx hb d_G_init_13 (by decide) ?_
  refine va_put (D := (dC, dI)) (ci := 1) (v := Value.int 0) (ty := .int) (C := kR_G) (T := kT_G) (N := 14) hx hb hg kin_G kt_G kty_G knm_G hown hK hP hD hS 0 rfl rfl 1 (by decide) (hg _ tw_82) (fun _ h9 => h9) rfl (by decide +kernel) rfl rfl (Nat.le_of_ble_eq_true rfl) d_G_init_14 (fun H_4 lo_5 hP hD hS => ?_)
  have hP : va_P (dC, dI) kcl [(g, .inr (1, [Value.ref kq, Value.int 0, Value.null, Value.int 0, Value.null, Value.null, Value.null, Value.null, Value.null, Value.null, Value.null, Value.int 0, Value.int 0, Value.null])), (kq, .inl (ckq, 32, .inl (fun _ => 0)))] H_4 := hP
  have hD : va_D A [(g, .inr (1, [Value.ref kq, Value.int 0, Value.null, Value.int 0, Value.null, Value.null, Value.null, Value.null, Value.null, Value.null, Value.null, Value.int 0, Value.int 0, Value.null])), (kq, .inl (ckq, 32, .inl (fun _ => 0)))] := hD
  refine lv_aload_n hx hb d_G_init_17 rfl (lv_at hl 0 rfl) ?_
  refine lv_bipush (v := 12) hx hb d_G_init_18 (by decide) ?_
  refine va_newa (atype := .int) (ty := .int) (a0 := (12, .inl (fun _ => 0))) (N' := 12) hx hb (hg _ tw_50) rfl hK hP hD hS hA (fun _ => rfl) (by decide) (by decide +kernel) (by decide) (Nat.le_of_ble_eq_true rfl) (Nat.le_of_ble_eq_true rfl) d_G_init_20 (fun hq chq H_6 hK hP hD hS => ?_)
  have hP : va_P (dC, dI) kcl [(g, .inr (1, [Value.ref kq, Value.int 0, Value.null, Value.int 0, Value.null, Value.null, Value.null, Value.null, Value.null, Value.null, Value.null, Value.int 0, Value.int 0, Value.null])), (kq, .inl (ckq, 32, .inl (fun _ => 0))), (hq, .inl (chq, 12, .inl (fun _ => 0)))] H_6 := hP
  have hD : va_D A [(g, .inr (1, [Value.ref kq, Value.int 0, Value.null, Value.int 0, Value.null, Value.null, Value.null, Value.null, Value.null, Value.null, Value.null, Value.int 0, Value.int 0, Value.null])), (kq, .inl (ckq, 32, .inl (fun _ => 0))), (hq, .inl (chq, 12, .inl (fun _ => 0)))] := hD
  have hK : va_K (dC, dI) kcl [(ckq, .int), (chq, .int)] s := hK
  refine va_putF (D := (dC, dI)) (ci := 1) (v := Value.ref hq) (ty := .array .int) (C := kR_G) (T := kT_G) (N := 14) hx hb hg kin_G kt_G kty_G knm_G hown hK hP hD hS 0 rfl rfl 2 (by decide) (hg _ tw_83) (fun _ h9 => h9) rfl hin rfl (by decide +kernel) rfl rfl (Nat.le_of_ble_eq_true rfl) d_G_init_22 (fun H_7 lo_8 hP hD hS => ?_)
  have hP : va_P (dC, dI) kcl [(g, .inr (1, [Value.ref kq, Value.int 0, Value.ref hq, Value.int 0, Value.null, Value.null, Value.null, Value.null, Value.null, Value.null, Value.null, Value.int 0, Value.int 0, Value.null])), (kq, .inl (ckq, 32, .inl (fun _ => 0))), (hq, .inl (chq, 12, .inl (fun _ => 0)))] H_7 := hP
  have hD : va_D A [(g, .inr (1, [Value.ref kq, Value.int 0, Value.ref hq, Value.int 0, Value.null, Value.null, Value.null, Value.null, Value.null, Value.null, Value.null, Value.int 0, Value.int 0, Value.null])), (kq, .inl (ckq, 32, .inl (fun _ => 0))), (hq, .inl (chq, 12, .inl (fun _ => 0)))] := hD
  refine lv_aload_n hx hb d_G_init_25 rfl (lv_at hl 0 rfl) ?_
  refine lv_iconst (v := 0) hx hb d_G_init_26 (by decide) ?_
  refine va_put (D := (dC, dI)) (ci := 1) (v := Value.int 0) (ty := .int) (C := kR_G) (T := kT_G) (N := 14) hx hb hg kin_G kt_G kty_G knm_G hown hK hP hD hS 0 rfl rfl 3 (by decide) (hg _ tw_84) (fun _ h9 => h9) rfl (by decide +kernel) rfl rfl (Nat.le_of_ble_eq_true rfl) d_G_init_27 (fun H_9 lo_10 hP hD hS => ?_)
  have hP : va_P (dC, dI) kcl [(g, .inr (1, [Value.ref kq, Value.int 0, Value.ref hq, Value.int 0, Value.null, Value.null, Value.null, Value.null, Value.null, Value.null, Value.null, Value.int 0, Value.int 0, Value.null])), (kq, .inl (ckq, 32, .inl (fun _ => 0))), (hq, .inl (chq, 12, .inl (fun _ => 0)))] H_9 := hP
  have hD : va_D A [(g, .inr (1, [Value.ref kq, Value.int 0, Value.ref hq, Value.int 0, Value.null, Value.null, Value.null, Value.null, Value.null, Value.null, Value.null, Value.int 0, Value.int 0, Value.null])), (kq, .inl (ckq, 32, .inl (fun _ => 0))), (hq, .inl (chq, 12, .inl (fun _ => 0)))] := hD
  refine lv_aload_n hx hb d_G_init_30 rfl (lv_at hl 0 rfl) ?_
  refine lv_sipush (v := 768) hx hb d_G_init_31 (by decide) ?_
  refine va_newa (atype := .int) (ty := .int) (a0 := (768, .inl (fun _ => 0))) (N' := 768) hx hb (hg _ tw_50) rfl hK hP hD hS hA (fun _ => rfl) (by decide) (by decide +kernel) (by decide) (Nat.le_of_ble_eq_true rfl) (Nat.le_of_ble_eq_true rfl) d_G_init_34 (fun q_12 cq_12 H_11 hK hP hD hS => ?_)
  have hP := hP.sub (ws' := [(g, .inr (1, [Value.ref kq, Value.int 0, Value.ref hq, Value.int 0, Value.null, Value.null, Value.null, Value.null, Value.null, Value.null, Value.null, Value.int 0, Value.int 0, Value.null])), (kq, .inl (ckq, 32, .inl (fun _ => 0))), (hq, .inl (chq, 12, .inl (fun _ => 0)))]) [0, 1, 2] rfl
  have hD := hD.sub (ws' := [(g, .inr (1, [Value.ref kq, Value.int 0, Value.ref hq, Value.int 0, Value.null, Value.null, Value.null, Value.null, Value.null, Value.null, Value.null, Value.int 0, Value.int 0, Value.null])), (kq, .inl (ckq, 32, .inl (fun _ => 0))), (hq, .inl (chq, 12, .inl (fun _ => 0)))]) [0, 1, 2] (by decide) rfl
  have hK := hK.sub (tys' := [(ckq, .int), (chq, .int)]) [0, 1] rfl
  refine va_putF (D := (dC, dI)) (ci := 1) (v := Value.ref q_12) (ty := .array .int) (C := kR_G) (T := kT_G) (N := 14) hx hb hg kin_G kt_G kty_G knm_G hown hK hP hD hS 0 rfl rfl 4 (by decide) (hg _ tw_85) (fun _ h9 => h9) rfl hin rfl (by decide +kernel) rfl rfl (Nat.le_of_ble_eq_true rfl) d_G_init_36 (fun H_13 lo_14 hP hD hS => ?_)
  have hP : va_P (dC, dI) kcl [(g, .inr (1, [Value.ref kq, Value.int 0, Value.ref hq, Value.int 0, Value.ref q_12, Value.null, Value.null, Value.null, Value.null, Value.null, Value.null, Value.int 0, Value.int 0, Value.null])), (kq, .inl (ckq, 32, .inl (fun _ => 0))), (hq, .inl (chq, 12, .inl (fun _ => 0)))] H_13 := hP
  have hD : va_D A [(g, .inr (1, [Value.ref kq, Value.int 0, Value.ref hq, Value.int 0, Value.ref q_12, Value.null, Value.null, Value.null, Value.null, Value.null, Value.null, Value.int 0, Value.int 0, Value.null])), (kq, .inl (ckq, 32, .inl (fun _ => 0))), (hq, .inl (chq, 12, .inl (fun _ => 0)))] := hD
  refine lv_aload_n hx hb d_G_init_39 rfl (lv_at hl 0 rfl) ?_
  refine lv_bipush (v := 64) hx hb d_G_init_40 (by decide) ?_
  refine va_newa (atype := .int) (ty := .int) (a0 := (64, .inl (fun _ => 0))) (N' := 64) hx hb (hg _ tw_50) rfl hK hP hD hS hA (fun _ => rfl) (by decide) (by decide +kernel) (by decide) (Nat.le_of_ble_eq_true rfl) (Nat.le_of_ble_eq_true rfl) d_G_init_42 (fun q_16 cq_16 H_15 hK hP hD hS => ?_)
  have hP := hP.sub (ws' := [(g, .inr (1, [Value.ref kq, Value.int 0, Value.ref hq, Value.int 0, Value.ref q_12, Value.null, Value.null, Value.null, Value.null, Value.null, Value.null, Value.int 0, Value.int 0, Value.null])), (kq, .inl (ckq, 32, .inl (fun _ => 0))), (hq, .inl (chq, 12, .inl (fun _ => 0)))]) [0, 1, 2] rfl
  have hD := hD.sub (ws' := [(g, .inr (1, [Value.ref kq, Value.int 0, Value.ref hq, Value.int 0, Value.ref q_12, Value.null, Value.null, Value.null, Value.null, Value.null, Value.null, Value.int 0, Value.int 0, Value.null])), (kq, .inl (ckq, 32, .inl (fun _ => 0))), (hq, .inl (chq, 12, .inl (fun _ => 0)))]) [0, 1, 2] (by decide) rfl
  have hK := hK.sub (tys' := [(ckq, .int), (chq, .int)]) [0, 1] rfl
  refine va_putF (D := (dC, dI)) (ci := 1) (v := Value.ref q_16) (ty := .array .int) (C := kR_G) (T := kT_G) (N := 14) hx hb hg kin_G kt_G kty_G knm_G hown hK hP hD hS 0 rfl rfl 5 (by decide) (hg _ tw_86) (fun _ h9 => h9) rfl hin rfl (by decide +kernel) rfl rfl (Nat.le_of_ble_eq_true rfl) d_G_init_44 (fun H_17 lo_18 hP hD hS => ?_)
  have hP : va_P (dC, dI) kcl [(g, .inr (1, [Value.ref kq, Value.int 0, Value.ref hq, Value.int 0, Value.ref q_12, Value.ref q_16, Value.null, Value.null, Value.null, Value.null, Value.null, Value.int 0, Value.int 0, Value.null])), (kq, .inl (ckq, 32, .inl (fun _ => 0))), (hq, .inl (chq, 12, .inl (fun _ => 0)))] H_17 := hP
  have hD : va_D A [(g, .inr (1, [Value.ref kq, Value.int 0, Value.ref hq, Value.int 0, Value.ref q_12, Value.ref q_16, Value.null, Value.null, Value.null, Value.null, Value.null, Value.int 0, Value.int 0, Value.null])), (kq, .inl (ckq, 32, .inl (fun _ => 0))), (hq, .inl (chq, 12, .inl (fun _ => 0)))] := hD
  refine lv_aload_n hx hb d_G_init_47 rfl (lv_at hl 0 rfl) ?_
  refine lv_bipush (v := 64) hx hb d_G_init_48 (by decide) ?_
  refine va_newa (atype := .int) (ty := .int) (a0 := (64, .inl (fun _ => 0))) (N' := 64) hx hb (hg _ tw_50) rfl hK hP hD hS hA (fun _ => rfl) (by decide) (by decide +kernel) (by decide) (Nat.le_of_ble_eq_true rfl) (Nat.le_of_ble_eq_true rfl) d_G_init_50 (fun q_20 cq_20 H_19 hK hP hD hS => ?_)
  have hP := hP.sub (ws' := [(g, .inr (1, [Value.ref kq, Value.int 0, Value.ref hq, Value.int 0, Value.ref q_12, Value.ref q_16, Value.null, Value.null, Value.null, Value.null, Value.null, Value.int 0, Value.int 0, Value.null])), (kq, .inl (ckq, 32, .inl (fun _ => 0))), (hq, .inl (chq, 12, .inl (fun _ => 0)))]) [0, 1, 2] rfl
  have hD := hD.sub (ws' := [(g, .inr (1, [Value.ref kq, Value.int 0, Value.ref hq, Value.int 0, Value.ref q_12, Value.ref q_16, Value.null, Value.null, Value.null, Value.null, Value.null, Value.int 0, Value.int 0, Value.null])), (kq, .inl (ckq, 32, .inl (fun _ => 0))), (hq, .inl (chq, 12, .inl (fun _ => 0)))]) [0, 1, 2] (by decide) rfl
  have hK := hK.sub (tys' := [(ckq, .int), (chq, .int)]) [0, 1] rfl
  refine va_putF (D := (dC, dI)) (ci := 1) (v := Value.ref q_20) (ty := .array .int) (C := kR_G) (T := kT_G) (N := 14) hx hb hg kin_G kt_G kty_G knm_G hown hK hP hD hS 0 rfl rfl 6 (by decide) (hg _ tw_87) (fun _ h9 => h9) rfl hin rfl (by decide +kernel) rfl rfl (Nat.le_of_ble_eq_true rfl) d_G_init_52 (fun H_21 lo_22 hP hD hS => ?_)
  have hP : va_P (dC, dI) kcl [(g, .inr (1, [Value.ref kq, Value.int 0, Value.ref hq, Value.int 0, Value.ref q_12, Value.ref q_16, Value.ref q_20, Value.null, Value.null, Value.null, Value.null, Value.int 0, Value.int 0, Value.null])), (kq, .inl (ckq, 32, .inl (fun _ => 0))), (hq, .inl (chq, 12, .inl (fun _ => 0)))] H_21 := hP
  have hD : va_D A [(g, .inr (1, [Value.ref kq, Value.int 0, Value.ref hq, Value.int 0, Value.ref q_12, Value.ref q_16, Value.ref q_20, Value.null, Value.null, Value.null, Value.null, Value.int 0, Value.int 0, Value.null])), (kq, .inl (ckq, 32, .inl (fun _ => 0))), (hq, .inl (chq, 12, .inl (fun _ => 0)))] := hD
  refine lv_aload_n hx hb d_G_init_55 rfl (lv_at hl 0 rfl) ?_
  refine lv_bipush (v := 64) hx hb d_G_init_56 (by decide) ?_
  refine va_newa (atype := .int) (ty := .int) (a0 := (64, .inl (fun _ => 0))) (N' := 64) hx hb (hg _ tw_50) rfl hK hP hD hS hA (fun _ => rfl) (by decide) (by decide +kernel) (by decide) (Nat.le_of_ble_eq_true rfl) (Nat.le_of_ble_eq_true rfl) d_G_init_58 (fun q_24 cq_24 H_23 hK hP hD hS => ?_)
  have hP := hP.sub (ws' := [(g, .inr (1, [Value.ref kq, Value.int 0, Value.ref hq, Value.int 0, Value.ref q_12, Value.ref q_16, Value.ref q_20, Value.null, Value.null, Value.null, Value.null, Value.int 0, Value.int 0, Value.null])), (kq, .inl (ckq, 32, .inl (fun _ => 0))), (hq, .inl (chq, 12, .inl (fun _ => 0)))]) [0, 1, 2] rfl
  have hD := hD.sub (ws' := [(g, .inr (1, [Value.ref kq, Value.int 0, Value.ref hq, Value.int 0, Value.ref q_12, Value.ref q_16, Value.ref q_20, Value.null, Value.null, Value.null, Value.null, Value.int 0, Value.int 0, Value.null])), (kq, .inl (ckq, 32, .inl (fun _ => 0))), (hq, .inl (chq, 12, .inl (fun _ => 0)))]) [0, 1, 2] (by decide) rfl
  have hK := hK.sub (tys' := [(ckq, .int), (chq, .int)]) [0, 1] rfl
  refine va_putF (D := (dC, dI)) (ci := 1) (v := Value.ref q_24) (ty := .array .int) (C := kR_G) (T := kT_G) (N := 14) hx hb hg kin_G kt_G kty_G knm_G hown hK hP hD hS 0 rfl rfl 7 (by decide) (hg _ tw_88) (fun _ h9 => h9) rfl hin rfl (by decide +kernel) rfl rfl (Nat.le_of_ble_eq_true rfl) d_G_init_60 (fun H_25 lo_26 hP hD hS => ?_)
  have hP : va_P (dC, dI) kcl [(g, .inr (1, [Value.ref kq, Value.int 0, Value.ref hq, Value.int 0, Value.ref q_12, Value.ref q_16, Value.ref q_20, Value.ref q_24, Value.null, Value.null, Value.null, Value.int 0, Value.int 0, Value.null])), (kq, .inl (ckq, 32, .inl (fun _ => 0))), (hq, .inl (chq, 12, .inl (fun _ => 0)))] H_25 := hP
  have hD : va_D A [(g, .inr (1, [Value.ref kq, Value.int 0, Value.ref hq, Value.int 0, Value.ref q_12, Value.ref q_16, Value.ref q_20, Value.ref q_24, Value.null, Value.null, Value.null, Value.int 0, Value.int 0, Value.null])), (kq, .inl (ckq, 32, .inl (fun _ => 0))), (hq, .inl (chq, 12, .inl (fun _ => 0)))] := hD
  refine lv_aload_n hx hb d_G_init_63 rfl (lv_at hl 0 rfl) ?_
  refine lv_bipush (v := 64) hx hb d_G_init_64 (by decide) ?_
  refine va_newa (atype := .int) (ty := .int) (a0 := (64, .inl (fun _ => 0))) (N' := 64) hx hb (hg _ tw_50) rfl hK hP hD hS hA (fun _ => rfl) (by decide) (by decide +kernel) (by decide) (Nat.le_of_ble_eq_true rfl) (Nat.le_of_ble_eq_true rfl) d_G_init_66 (fun q_28 cq_28 H_27 hK hP hD hS => ?_)
  have hP := hP.sub (ws' := [(g, .inr (1, [Value.ref kq, Value.int 0, Value.ref hq, Value.int 0, Value.ref q_12, Value.ref q_16, Value.ref q_20, Value.ref q_24, Value.null, Value.null, Value.null, Value.int 0, Value.int 0, Value.null])), (kq, .inl (ckq, 32, .inl (fun _ => 0))), (hq, .inl (chq, 12, .inl (fun _ => 0)))]) [0, 1, 2] rfl
  have hD := hD.sub (ws' := [(g, .inr (1, [Value.ref kq, Value.int 0, Value.ref hq, Value.int 0, Value.ref q_12, Value.ref q_16, Value.ref q_20, Value.ref q_24, Value.null, Value.null, Value.null, Value.int 0, Value.int 0, Value.null])), (kq, .inl (ckq, 32, .inl (fun _ => 0))), (hq, .inl (chq, 12, .inl (fun _ => 0)))]) [0, 1, 2] (by decide) rfl
  have hK := hK.sub (tys' := [(ckq, .int), (chq, .int)]) [0, 1] rfl
  refine va_putF (D := (dC, dI)) (ci := 1) (v := Value.ref q_28) (ty := .array .int) (C := kR_G) (T := kT_G) (N := 14) hx hb hg kin_G kt_G kty_G knm_G hown hK hP hD hS 0 rfl rfl 8 (by decide) (hg _ tw_89) (fun _ h9 => h9) rfl hin rfl (by decide +kernel) rfl rfl (Nat.le_of_ble_eq_true rfl) d_G_init_68 (fun H_29 lo_30 hP hD hS => ?_)
  have hP : va_P (dC, dI) kcl [(g, .inr (1, [Value.ref kq, Value.int 0, Value.ref hq, Value.int 0, Value.ref q_12, Value.ref q_16, Value.ref q_20, Value.ref q_24, Value.ref q_28, Value.null, Value.null, Value.int 0, Value.int 0, Value.null])), (kq, .inl (ckq, 32, .inl (fun _ => 0))), (hq, .inl (chq, 12, .inl (fun _ => 0)))] H_29 := hP
  have hD : va_D A [(g, .inr (1, [Value.ref kq, Value.int 0, Value.ref hq, Value.int 0, Value.ref q_12, Value.ref q_16, Value.ref q_20, Value.ref q_24, Value.ref q_28, Value.null, Value.null, Value.int 0, Value.int 0, Value.null])), (kq, .inl (ckq, 32, .inl (fun _ => 0))), (hq, .inl (chq, 12, .inl (fun _ => 0)))] := hD
  refine lv_aload_n hx hb d_G_init_71 rfl (lv_at hl 0 rfl) ?_
  refine lv_bipush (v := 64) hx hb d_G_init_72 (by decide) ?_
  refine va_newa (atype := .int) (ty := .int) (a0 := (64, .inl (fun _ => 0))) (N' := 64) hx hb (hg _ tw_50) rfl hK hP hD hS hA (fun _ => rfl) (by decide) (by decide +kernel) (by decide) (Nat.le_of_ble_eq_true rfl) (Nat.le_of_ble_eq_true rfl) d_G_init_74 (fun q_32 cq_32 H_31 hK hP hD hS => ?_)
  have hP := hP.sub (ws' := [(g, .inr (1, [Value.ref kq, Value.int 0, Value.ref hq, Value.int 0, Value.ref q_12, Value.ref q_16, Value.ref q_20, Value.ref q_24, Value.ref q_28, Value.null, Value.null, Value.int 0, Value.int 0, Value.null])), (kq, .inl (ckq, 32, .inl (fun _ => 0))), (hq, .inl (chq, 12, .inl (fun _ => 0)))]) [0, 1, 2] rfl
  have hD := hD.sub (ws' := [(g, .inr (1, [Value.ref kq, Value.int 0, Value.ref hq, Value.int 0, Value.ref q_12, Value.ref q_16, Value.ref q_20, Value.ref q_24, Value.ref q_28, Value.null, Value.null, Value.int 0, Value.int 0, Value.null])), (kq, .inl (ckq, 32, .inl (fun _ => 0))), (hq, .inl (chq, 12, .inl (fun _ => 0)))]) [0, 1, 2] (by decide) rfl
  have hK := hK.sub (tys' := [(ckq, .int), (chq, .int)]) [0, 1] rfl
  refine va_putF (D := (dC, dI)) (ci := 1) (v := Value.ref q_32) (ty := .array .int) (C := kR_G) (T := kT_G) (N := 14) hx hb hg kin_G kt_G kty_G knm_G hown hK hP hD hS 0 rfl rfl 9 (by decide) (hg _ tw_90) (fun _ h9 => h9) rfl hin rfl (by decide +kernel) rfl rfl (Nat.le_of_ble_eq_true rfl) d_G_init_76 (fun H_33 lo_34 hP hD hS => ?_)
  have hP : va_P (dC, dI) kcl [(g, .inr (1, [Value.ref kq, Value.int 0, Value.ref hq, Value.int 0, Value.ref q_12, Value.ref q_16, Value.ref q_20, Value.ref q_24, Value.ref q_28, Value.ref q_32, Value.null, Value.int 0, Value.int 0, Value.null])), (kq, .inl (ckq, 32, .inl (fun _ => 0))), (hq, .inl (chq, 12, .inl (fun _ => 0)))] H_33 := hP
  have hD : va_D A [(g, .inr (1, [Value.ref kq, Value.int 0, Value.ref hq, Value.int 0, Value.ref q_12, Value.ref q_16, Value.ref q_20, Value.ref q_24, Value.ref q_28, Value.ref q_32, Value.null, Value.int 0, Value.int 0, Value.null])), (kq, .inl (ckq, 32, .inl (fun _ => 0))), (hq, .inl (chq, 12, .inl (fun _ => 0)))] := hD
  refine lv_aload_n hx hb d_G_init_79 rfl (lv_at hl 0 rfl) ?_
  refine va_new (ci := 7) (fs := [Value.int 0, Value.null, Value.null]) (C := kR_U) (T := kT_U) (N := 3) hx hb hg kin_U kt_U kty_U hown (hg _ tw_34) (hg _ tw_35) (hg _ tw_3) hK hP hD hS hA rfl kdf_U (Nat.le_of_ble_eq_true rfl) (Nat.le_of_ble_eq_true rfl) d_G_init_80 (fun uq H_35 hP hD hS => ?_)
  have hP : va_P (dC, dI) kcl [(g, .inr (1, [Value.ref kq, Value.int 0, Value.ref hq, Value.int 0, Value.ref q_12, Value.ref q_16, Value.ref q_20, Value.ref q_24, Value.ref q_28, Value.ref q_32, Value.null, Value.int 0, Value.int 0, Value.null])), (kq, .inl (ckq, 32, .inl (fun _ => 0))), (hq, .inl (chq, 12, .inl (fun _ => 0))), (uq, .inr (7, [Value.int 0, Value.null, Value.null]))] H_35 := hP
  have hD : va_D A [(g, .inr (1, [Value.ref kq, Value.int 0, Value.ref hq, Value.int 0, Value.ref q_12, Value.ref q_16, Value.ref q_20, Value.ref q_24, Value.ref q_28, Value.ref q_32, Value.null, Value.int 0, Value.int 0, Value.null])), (kq, .inl (ckq, 32, .inl (fun _ => 0))), (hq, .inl (chq, 12, .inl (fun _ => 0))), (uq, .inr (7, [Value.int 0, Value.null, Value.null]))] := hD
  refine lv_dup hx hb d_G_init_83 rfl ?_
  refine lv_bipush (v := 17) hx hb d_G_init_84 (by decide) ?_
  refine lv_bipush (v := 64) hx hb d_G_init_86 (by decide) ?_
  have hPc := hP.sub (ws' := [(uq, .inr (7, [Value.int 0, Value.null, Value.null]))]) [3] rfl
  have hKc := hK.sub (tys' := []) [] rfl
  have hDc := hD.sub (ws' := [(uq, .inr (7, [Value.int 0, Value.null, Value.null]))]) [3] (by decide) rfl
  have hFc := va_free (wc := [(uq, .inr (7, [Value.int 0, Value.null, Value.null]))]) hD hS hA [3] rfl
  refine va_callv (va_runI (As := [Value.int 17, Value.int 64]) (rest := [Value.ref uq, Value.ref g]) ⟨hx, hb, hml, hown, hg⟩ (c_U_init_17 l dC dI H_35.size uq) (cwI 2 hg (gw_gi cin_U_init) rfl rfl rfl (hg _ tw_3) (hg _ tw_36) (hg _ tw_37) rfl (by decide +kernel) ⟨Nat.le_of_ble_eq_true rfl, Nat.le_of_ble_eq_true rfl⟩) ⟨fun a U g mk q => by obtain ⟨q0, q1, qP, qK, qD⟩ := q; exact ⟨q0, q1, qP, va_K.moved (u := U) (U := U.calling g mk a) (Vm.Alike.refl U.vm) qK, qD⟩, fun U hU hW => ⟨rfl, by rw [hU], by rw [hU]; exact hPc, va_K.moved hW.alike hKc, hDc.weaken (fun _ _ _ _ => trivial)⟩⟩ rfl rfl hl.1 rfl (lv_room (Nat.le_of_ble_eq_true rfl)) d_G_init_88 ⟨Nat.le_of_ble_eq_true rfl, Nat.le_of_ble_eq_true rfl⟩) hS (fun q _ h => hFc q h) hFc (fun u_k_36 t_k_36 H_37 l_k_36 ht hvm hw_k_36 hB hz1 hk1 hS => ?_)
  obtain ⟨hP, hD⟩ := tx_rest (wc := [(uq, .inr (7, [Value.int 0, Value.null, Value.null]))]) (wr := [(g, .inr (1, [Value.ref kq, Value.int 0, Value.ref hq, Value.int 0, Value.ref q_12, Value.ref q_16, Value.ref q_20, Value.ref q_24, Value.ref q_28, Value.ref q_32, Value.null, Value.int 0, Value.int 0, Value.null])), (kq, .inl (ckq, 32, .inl (fun _ => 0))), (hq, .inl (chq, 12, .inl (fun _ => 0)))]) hP hD [3] [0, 1, 2] rfl rfl (by decide) (by decide) hk1 hFc
  have hK := hK.sub (tys' := [(ckq, .int), (chq, .int)]) [0, 1] rfl
  refine va_putF (D := (dC, dI)) (ci := 1) (v := Value.ref uq) (ty := .object "TreeMatcher$Groups") (C := kR_G) (T := kT_G) (N := 14) hx hb hg kin_G kt_G kty_G knm_G hown hK hP hD hS 0 rfl rfl 10 (by decide) (hg _ tw_91) (fun _ h9 => h9) rfl hin rfl (by decide +kernel) rfl rfl (Nat.le_of_ble_eq_true rfl) d_G_init_91 (fun H_38 lo_39 hP hD hS => ?_)
  have hP : va_P (dC, dI) kcl [(g, .inr (1, [Value.ref kq, Value.int 0, Value.ref hq, Value.int 0, Value.ref q_12, Value.ref q_16, Value.ref q_20, Value.ref q_24, Value.ref q_28, Value.ref q_32, Value.ref uq, Value.int 0, Value.int 0, Value.null])), (kq, .inl (ckq, 32, .inl (fun _ => 0))), (hq, .inl (chq, 12, .inl (fun _ => 0)))] H_38 := hP
  have hD : va_D A [(g, .inr (1, [Value.ref kq, Value.int 0, Value.ref hq, Value.int 0, Value.ref q_12, Value.ref q_16, Value.ref q_20, Value.ref q_24, Value.ref q_28, Value.ref q_32, Value.ref uq, Value.int 0, Value.int 0, Value.null])), (kq, .inl (ckq, 32, .inl (fun _ => 0))), (hq, .inl (chq, 12, .inl (fun _ => 0)))] := hD
  refine lv_aload_n hx hb d_G_init_94 rfl (lv_at hl 0 rfl) ?_
  refine lv_iconst (v := 0) hx hb d_G_init_95 (by decide) ?_
  refine va_put (D := (dC, dI)) (ci := 1) (v := Value.int 0) (ty := .int) (C := kR_G) (T := kT_G) (N := 14) hx hb hg kin_G kt_G kty_G knm_G hown hK hP hD hS 0 rfl rfl 11 (by decide) (hg _ tw_92) (fun _ h9 => h9) rfl (by decide +kernel) rfl rfl (Nat.le_of_ble_eq_true rfl) d_G_init_96 (fun H_40 lo_41 hP hD hS => ?_)
  have hP : va_P (dC, dI) kcl [(g, .inr (1, [Value.ref kq, Value.int 0, Value.ref hq, Value.int 0, Value.ref q_12, Value.ref q_16, Value.ref q_20, Value.ref q_24, Value.ref q_28, Value.ref q_32, Value.ref uq, Value.int 0, Value.int 0, Value.null])), (kq, .inl (ckq, 32, .inl (fun _ => 0))), (hq, .inl (chq, 12, .inl (fun _ => 0)))] H_40 := hP
  have hD : va_D A [(g, .inr (1, [Value.ref kq, Value.int 0, Value.ref hq, Value.int 0, Value.ref q_12, Value.ref q_16, Value.ref q_20, Value.ref q_24, Value.ref q_28, Value.ref q_32, Value.ref uq, Value.int 0, Value.int 0, Value.null])), (kq, .inl (ckq, 32, .inl (fun _ => 0))), (hq, .inl (chq, 12, .inl (fun _ => 0)))] := hD
  refine lv_aload_n hx hb d_G_init_99 rfl (lv_at hl 0 rfl) ?_
  refine lv_iconst (v := 0) hx hb d_G_init_100 (by decide) ?_
  refine va_put (D := (dC, dI)) (ci := 1) (v := Value.int 0) (ty := .boolean) (C := kR_G) (T := kT_G) (N := 14) hx hb hg kin_G kt_G kty_G knm_G hown hK hP hD hS 0 rfl rfl 12 (by decide) (hg _ tw_93) (fun _ h9 => h9) rfl (by decide +kernel) rfl rfl (Nat.le_of_ble_eq_true rfl) d_G_init_101 (fun H_42 lo_43 hP hD hS => ?_)
  have hP : va_P (dC, dI) kcl [(g, .inr (1, [Value.ref kq, Value.int 0, Value.ref hq, Value.int 0, Value.ref q_12, Value.ref q_16, Value.ref q_20, Value.ref q_24, Value.ref q_28, Value.ref q_32, Value.ref uq, Value.int 0, Value.int 0, Value.null])), (kq, .inl (ckq, 32, .inl (fun _ => 0))), (hq, .inl (chq, 12, .inl (fun _ => 0)))] H_42 := hP
  have hD : va_D A [(g, .inr (1, [Value.ref kq, Value.int 0, Value.ref hq, Value.int 0, Value.ref q_12, Value.ref q_16, Value.ref q_20, Value.ref q_24, Value.ref q_28, Value.ref q_32, Value.ref uq, Value.int 0, Value.int 0, Value.null])), (kq, .inl (ckq, 32, .inl (fun _ => 0))), (hq, .inl (chq, 12, .inl (fun _ => 0)))] := hD
  refine lv_aload_n hx hb d_G_init_104 rfl (lv_at hl 0 rfl) ?_
  refine va_new (ci := 6) (fs := [Value.null, Value.null, Value.null, Value.null, Value.null, Value.int 0]) (C := kR_P) (T := kT_P) (N := 6) hx hb hg kin_P kt_P kty_P hown (hg _ tw_51) (hg _ tw_52) (hg _ tw_4) hK hP hD hS hA rfl kdf_P (Nat.le_of_ble_eq_true rfl) (Nat.le_of_ble_eq_true rfl) d_G_init_105 (fun pq H_44 hP hD hS => ?_)
  have hP : va_P (dC, dI) kcl [(g, .inr (1, [Value.ref kq, Value.int 0, Value.ref hq, Value.int 0, Value.ref q_12, Value.ref q_16, Value.ref q_20, Value.ref q_24, Value.ref q_28, Value.ref q_32, Value.ref uq, Value.int 0, Value.int 0, Value.null])), (kq, .inl (ckq, 32, .inl (fun _ => 0))), (hq, .inl (chq, 12, .inl (fun _ => 0))), (pq, .inr (6, [Value.null, Value.null, Value.null, Value.null, Value.null, Value.int 0]))] H_44 := hP
  have hD : va_D A [(g, .inr (1, [Value.ref kq, Value.int 0, Value.ref hq, Value.int 0, Value.ref q_12, Value.ref q_16, Value.ref q_20, Value.ref q_24, Value.ref q_28, Value.ref q_32, Value.ref uq, Value.int 0, Value.int 0, Value.null])), (kq, .inl (ckq, 32, .inl (fun _ => 0))), (hq, .inl (chq, 12, .inl (fun _ => 0))), (pq, .inr (6, [Value.null, Value.null, Value.null, Value.null, Value.null, Value.int 0]))] := hD
  refine lv_dup hx hb d_G_init_108 rfl ?_
  have hPc := hP.sub (ws' := [(pq, .inr (6, [Value.null, Value.null, Value.null, Value.null, Value.null, Value.int 0]))]) [3] rfl
  have hKc := hK.sub (tys' := []) [] rfl
  have hDc := hD.sub (ws' := [(pq, .inr (6, [Value.null, Value.null, Value.null, Value.null, Value.null, Value.int 0]))]) [3] (by decide) rfl
  have hFc := va_free (wc := [(pq, .inr (6, [Value.null, Value.null, Value.null, Value.null, Value.null, Value.int 0]))]) hD hS hA [3] rfl
  refine va_callv (va_runIN (As := []) (rest := [Value.ref pq, Value.ref g]) ⟨hx, hb, hml, hown, hg⟩ (c_P_init l dC dI H_44.size pq) ⟨va_cnB 0 hg (gw_gi cin_P_init) rfl rfl rfl (hN.1) (hg _ tw_4) (by decide +kernel) ⟨Nat.le_of_ble_eq_true rfl, Nat.le_of_ble_eq_true rfl⟩, rfl, hg _ tw_54⟩ ⟨fun a U g mk q => by obtain ⟨q0, q1, qP, qK, qD⟩ := q; exact ⟨q0, q1, qP, va_K.moved (u := U) (U := U.calling g mk a) (Vm.Alike.refl U.vm) qK, qD⟩, fun U hU hW => ⟨rfl, by rw [hU], by rw [hU]; exact hPc, va_K.moved hW.alike hKc, hDc.weaken (fun _ _ _ _ => trivial)⟩⟩ rfl rfl hl.1 rfl (lv_room (Nat.le_of_ble_eq_true rfl)) d_G_init_109 ⟨Nat.le_of_ble_eq_true rfl, Nat.le_of_ble_eq_true rfl⟩) hS (fun q _ h => hFc q h) hFc (fun u_k_45 t_k_45 H_46 l_k_45 ht hvm hw_k_45 hB hz1 hk1 hS => ?_)
  obtain ⟨bq, zpq, hP1, hK1, hD1⟩ := hB
  rw [ht] at hP1
  have hK1 := va_K.moved hvm.symm hK1
  obtain ⟨hP, hD⟩ := va_join (wr := [(g, .inr (1, [Value.ref kq, Value.int 0, Value.ref hq, Value.int 0, Value.ref q_12, Value.ref q_16, Value.ref q_20, Value.ref q_24, Value.ref q_28, Value.ref q_32, Value.ref uq, Value.int 0, Value.int 0, Value.null])), (kq, .inl (ckq, 32, .inl (fun _ => 0))), (hq, .inl (chq, 12, .inl (fun _ => 0)))]) (w1 := [(pq, .inr (6, [(zpq 0), (zpq 1), (zpq 2), (zpq 3), Value.ref bq, Value.int 16]))]) hP hD [3] [0, 1, 2] rfl rfl (by decide) (by decide) hk1 hFc hP1 hD1
  have hK := (hK.sub (tys' := [(ckq, .int), (chq, .int)]) [0, 1] rfl).app hK1
  have hP : va_P (dC, dI) kcl [(g, .inr (1, [Value.ref kq, Value.int 0, Value.ref hq, Value.int 0, Value.ref q_12, Value.ref q_16, Value.ref q_20, Value.ref q_24, Value.ref q_28, Value.ref q_32, Value.ref uq, Value.int 0, Value.int 0, Value.null])), (kq, .inl (ckq, 32, .inl (fun _ => 0))), (hq, .inl (chq, 12, .inl (fun _ => 0))), (pq, .inr (6, [(zpq 0), (zpq 1), (zpq 2), (zpq 3), Value.ref bq, Value.int 16]))] H_46 := hP
  have hD : va_D A [(g, .inr (1, [Value.ref kq, Value.int 0, Value.ref hq, Value.int 0, Value.ref q_12, Value.ref q_16, Value.ref q_20, Value.ref q_24, Value.ref q_28, Value.ref q_32, Value.ref uq, Value.int 0, Value.int 0, Value.null])), (kq, .inl (ckq, 32, .inl (fun _ => 0))), (hq, .inl (chq, 12, .inl (fun _ => 0))), (pq, .inr (6, [(zpq 0), (zpq 1), (zpq 2), (zpq 3), Value.ref bq, Value.int 16]))] := hD
  have hK : va_K (dC, dI) kcl [(ckq, .int), (chq, .int)] s := hK
  refine va_putF (D := (dC, dI)) (ci := 1) (v := Value.ref pq) (ty := .object "TreeMatcher$Parts") (C := kR_G) (T := kT_G) (N := 14) hx hb hg kin_G kt_G kty_G knm_G hown hK hP hD hS 0 rfl rfl 13 (by decide) (hg _ tw_94) (fun _ h9 => h9) rfl hin rfl (by decide +kernel) rfl rfl (Nat.le_of_ble_eq_true rfl) d_G_init_112 (fun H_47 lo_48 hP hD hS => ?_)
  have hP : va_P (dC, dI) kcl [(g, .inr (1, [Value.ref kq, Value.int 0, Value.ref hq, Value.int 0, Value.ref q_12, Value.ref q_16, Value.ref q_20, Value.ref q_24, Value.ref q_28, Value.ref q_32, Value.ref uq, Value.int 0, Value.int 0, Value.ref pq])), (kq, .inl (ckq, 32, .inl (fun _ => 0))), (hq, .inl (chq, 12, .inl (fun _ => 0))), (pq, .inr (6, [(zpq 0), (zpq 1), (zpq 2), (zpq 3), Value.ref bq, Value.int 16]))] H_47 := hP
  have hD : va_D A [(g, .inr (1, [Value.ref kq, Value.int 0, Value.ref hq, Value.int 0, Value.ref q_12, Value.ref q_16, Value.ref q_20, Value.ref q_24, Value.ref q_28, Value.ref q_32, Value.ref uq, Value.int 0, Value.int 0, Value.ref pq])), (kq, .inl (ckq, 32, .inl (fun _ => 0))), (hq, .inl (chq, 12, .inl (fun _ => 0))), (pq, .inr (6, [(zpq 0), (zpq 1), (zpq 2), (zpq 3), Value.ref bq, Value.int 16]))] := hD
  refine lv_aload_n hx hb d_G_init_115 rfl (lv_at hl 0 rfl) ?_
  refine va_get (D := (dC, dI)) (ci := 1) (v := Value.ref kq) (C := kR_G) (T := kT_G) (N := 14) hx hb hg kin_G hown hK hP 0 rfl rfl 0 (by decide) (hg _ tw_81) (fun _ h9 => h9) rfl d_G_init_116 ?_
  refine lv_iconst (v := (-1)) hx hb d_G_init_119 (by decide) ?_
  have hPc := hP.sub (ws' := [(kq, .inl (ckq, 32, .inl (fun _ => 0)))]) [1] rfl
  have hKc := hK.sub (tys' := [(ckq, .int)]) [0] rfl
  have hDc := hD.sub (ws' := [(kq, .inl (ckq, 32, .inl (fun _ => 0)))]) [1] (by decide) rfl
  have hFc := va_free (wc := [(kq, .inl (ckq, 32, .inl (fun _ => 0)))]) hD hS hA [1] rfl
  refine va_callv (va_runS (As := [Value.ref kq, Value.int (-1)]) (rest := []) ⟨hx, hb, hml, hown, hg⟩ (c_J_fill32 l dC dI H_47.size kq ckq (fun _ => 0) (-1)) (va_cwS 2 hg (gw_giS cin_J_fill_0 tw_78 tw_79 tw_5) rfl rfl rfl (by decide +kernel) ⟨Nat.le_of_ble_eq_true rfl, Nat.le_of_ble_eq_true rfl⟩) ⟨fun a U g mk q => by obtain ⟨q0, q1, qP, qK, qD⟩ := q; exact ⟨q0, q1, qP, va_K.moved (u := U) (U := U.calling g mk a) (Vm.Alike.refl U.vm) qK, qD⟩, fun U hU hW => ⟨rfl, by rw [hU], by rw [hU]; exact hPc, va_K.moved hW.alike hKc, hDc.weaken (fun _ _ _ _ => trivial)⟩⟩ rfl rfl hl.1 rfl (lv_room (Nat.le_of_ble_eq_true rfl)) d_G_init_120 ⟨Nat.le_of_ble_eq_true rfl, Nat.le_of_ble_eq_true rfl⟩) hS (fun q _ h => hFc q h) hFc (fun u_k_49 t_k_49 H_50 l_k_49 ht hvm hw_k_49 hB hz1 hk1 hS => ?_)
  obtain ⟨fk, hfk, hP1, hK1, hD1⟩ := hB
  rw [ht] at hP1
  have hK1 := va_K.moved hvm.symm hK1
  obtain ⟨hP, hD⟩ := va_join (wr := [(g, .inr (1, [Value.ref kq, Value.int 0, Value.ref hq, Value.int 0, Value.ref q_12, Value.ref q_16, Value.ref q_20, Value.ref q_24, Value.ref q_28, Value.ref q_32, Value.ref uq, Value.int 0, Value.int 0, Value.ref pq])), (hq, .inl (chq, 12, .inl (fun _ => 0))), (pq, .inr (6, [(zpq 0), (zpq 1), (zpq 2), (zpq 3), Value.ref bq, Value.int 16]))]) (w1 := [(kq, .inl (ckq, 32, .inl fk))]) hP hD [1] [0, 2, 3] rfl rfl (by decide) (by decide) hk1 hFc hP1 hD1
  have hK := (hK.sub (tys' := [(chq, .int)]) [1] rfl).app hK1
  have hP : va_P (dC, dI) kcl [(g, .inr (1, [Value.ref kq, Value.int 0, Value.ref hq, Value.int 0, Value.ref q_12, Value.ref q_16, Value.ref q_20, Value.ref q_24, Value.ref q_28, Value.ref q_32, Value.ref uq, Value.int 0, Value.int 0, Value.ref pq])), (hq, .inl (chq, 12, .inl (fun _ => 0))), (pq, .inr (6, [(zpq 0), (zpq 1), (zpq 2), (zpq 3), Value.ref bq, Value.int 16])), (kq, .inl (ckq, 32, .inl fk))] H_50 := hP
  have hD : va_D A [(g, .inr (1, [Value.ref kq, Value.int 0, Value.ref hq, Value.int 0, Value.ref q_12, Value.ref q_16, Value.ref q_20, Value.ref q_24, Value.ref q_28, Value.ref q_32, Value.ref uq, Value.int 0, Value.int 0, Value.ref pq])), (hq, .inl (chq, 12, .inl (fun _ => 0))), (pq, .inr (6, [(zpq 0), (zpq 1), (zpq 2), (zpq 3), Value.ref bq, Value.int 16])), (kq, .inl (ckq, 32, .inl fk))] := hD
  have hK : va_K (dC, dI) kcl [(chq, .int), (ckq, .int)] s := hK
  have hP9 := hP.sub (ws' := [(g, .inr (1, [Value.ref kq, Value.int 0, Value.ref hq, Value.int 0, Value.ref q_12, Value.ref q_16, Value.ref q_20, Value.ref q_24, Value.ref q_28, Value.ref q_32, Value.ref uq, Value.int 0, Value.int 0, Value.ref pq])), (kq, .inl (ckq, 32, .inl fk)), (hq, .inl (chq, 12, .inl (fun _ => 0))), (pq, .inr (6, [(zpq 0), (zpq 1), (zpq 2), (zpq 3), Value.ref bq, Value.int 16]))]) [0, 3, 1, 2] rfl
  have hD9 := hD.sub (ws' := [(g, .inr (1, [Value.ref kq, Value.int 0, Value.ref hq, Value.int 0, Value.ref q_12, Value.ref q_16, Value.ref q_20, Value.ref q_24, Value.ref q_28, Value.ref q_32, Value.ref uq, Value.int 0, Value.int 0, Value.ref pq])), (kq, .inl (ckq, 32, .inl fk)), (hq, .inl (chq, 12, .inl (fun _ => 0))), (pq, .inr (6, [(zpq 0), (zpq 1), (zpq 2), (zpq 3), Value.ref bq, Value.int 16]))]) [0, 3, 1, 2] (by decide) rfl
  have hK9 := hK.sub (tys' := [(ckq, .int), (chq, .int)]) [1, 0] rfl
  exact W.vret hx hb hr (fun t ht hW => ⟨⟨(), rfl, trivial, ⟨kq, hq, pq, bq, ckq, chq, (fun i => List.getD [Value.ref kq, Value.int (0 : Int32), Value.ref hq, Value.int (0 : Int32), Value.ref q_12, Value.ref q_16, Value.ref q_20, Value.ref q_24, Value.ref q_28, Value.ref q_32, Value.ref uq, Value.int (0 : Int32), Value.int (0 : Int32), Value.ref pq] i Value.null), zpq, fk, (fun _ => 0), hfk, by rw [ht]; exact hP9, va_K.moved hW.alike hK9, hD9⟩⟩, hS.F ht⟩) hS.2.2 d_G_init_123
