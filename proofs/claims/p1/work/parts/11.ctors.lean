set_option maxRecDepth 100000 in
theorem tw_3 : (Jvm.Cond.initialized "TreeMatcher$Groups") ∈ gw := gw_of (List.mem_of_getElem? (i := 3) rfl) rfl
set_option maxRecDepth 100000 in
theorem tw_26 : (Jvm.Cond.instanceMethod ({ cls := "java/lang/Object", name := "<init>", desc := "()V" } : Jvm.MethodName)) ∈ gw := gw_of (List.mem_of_getElem? (i := 26) rfl) rfl
set_option maxRecDepth 100000 in
theorem tw_27 : (Jvm.Cond.code ({ cls := "java/lang/Object", name := "<init>", desc := "()V" } : Jvm.MethodName) object_method_1_code (1 : Nat) (Option.none : Option Jvm.ClassFile.FieldType)) ∈ gw := gw_of (List.mem_of_getElem? (i := 27) rfl) rfl
set_option maxRecDepth 100000 in
theorem tw_35 : (Jvm.Cond.instantiable "TreeMatcher$Groups" (3 : Nat)) ∈ gw := gw_of (List.mem_of_getElem? (i := 35) rfl) rfl
set_option maxRecDepth 100000 in
theorem tw_37 : (Jvm.Cond.instanceMethod ({ cls := "TreeMatcher$Groups", name := "<init>", desc := "(II)V" } : Jvm.MethodName)) ∈ gw := gw_of (List.mem_of_getElem? (i := 37) rfl) rfl
set_option maxRecDepth 100000 in
theorem tw_38 : (Jvm.Cond.code ({ cls := "TreeMatcher$Groups", name := "<init>", desc := "(II)V" } : Jvm.MethodName) prog_5_method_1_code (3 : Nat) (Option.none : Option Jvm.ClassFile.FieldType)) ∈ gw := gw_of (List.mem_of_getElem? (i := 38) rfl) rfl
set_option maxRecDepth 100000 in
theorem tw_39 : (Jvm.Cond.methodLink "TreeMatcher$Groups" (1 : Nat) ({ cls := "java/lang/Object", name := "<init>", desc := "()V" } : Jvm.MethodName)) ∈ gw := gw_of (List.mem_of_getElem? (i := 39) rfl) rfl
set_option maxRecDepth 100000 in
theorem tw_40 : (Jvm.Cond.fieldLink "TreeMatcher$Groups" (7 : Nat) "TreeMatcher$Groups" "groups" "I") ∈ gw := gw_of (List.mem_of_getElem? (i := 40) rfl) rfl
set_option maxRecDepth 100000 in
theorem tw_41 : (Jvm.Cond.fieldLink "TreeMatcher$Groups" (13 : Nat) "TreeMatcher$Groups" "starts" "[I") ∈ gw := gw_of (List.mem_of_getElem? (i := 41) rfl) rfl
set_option maxRecDepth 100000 in
theorem tw_42 : (Jvm.Cond.fieldLink "TreeMatcher$Groups" (17 : Nat) "TreeMatcher$Groups" "members" "[I") ∈ gw := gw_of (List.mem_of_getElem? (i := 42) rfl) rfl
set_option maxRecDepth 100000 in
theorem tw_50 : (Jvm.Cond.arrayClass Jvm.ClassFile.FieldType.int) ∈ gw := gw_of (List.mem_of_getElem? (i := 50) rfl) rfl
set_option maxRecDepth 100000 in
theorem tw_55 : (Jvm.Cond.code ({ cls := "TreeMatcher$Parts", name := "<init>", desc := "()V" } : Jvm.MethodName) prog_7_method_1_code (1 : Nat) (Option.none : Option Jvm.ClassFile.FieldType)) ∈ gw := gw_of (List.mem_of_getElem? (i := 55) rfl) rfl
set_option maxRecDepth 100000 in
theorem tw_56 : (Jvm.Cond.methodLink "TreeMatcher$Parts" (3 : Nat) ({ cls := "java/lang/Object", name := "<init>", desc := "()V" } : Jvm.MethodName)) ∈ gw := gw_of (List.mem_of_getElem? (i := 56) rfl) rfl
set_option maxRecDepth 100000 in
theorem tw_57 : (Jvm.Cond.classLink "TreeMatcher$Parts" (24 : Nat) "TreeMatcher$Groups") ∈ gw := gw_of (List.mem_of_getElem? (i := 57) rfl) rfl
set_option maxRecDepth 100000 in
theorem tw_58 : (Jvm.Cond.methodLink "TreeMatcher$Parts" (26 : Nat) ({ cls := "TreeMatcher$Groups", name := "<init>", desc := "(II)V" } : Jvm.MethodName)) ∈ gw := gw_of (List.mem_of_getElem? (i := 58) rfl) rfl
set_option maxRecDepth 100000 in
theorem tw_59 : (Jvm.Cond.fieldLink "TreeMatcher$Parts" (11 : Nat) "TreeMatcher$Parts" "lefts" "[I") ∈ gw := gw_of (List.mem_of_getElem? (i := 59) rfl) rfl
set_option maxRecDepth 100000 in
theorem tw_60 : (Jvm.Cond.fieldLink "TreeMatcher$Parts" (15 : Nat) "TreeMatcher$Parts" "rights" "[I") ∈ gw := gw_of (List.mem_of_getElem? (i := 60) rfl) rfl
set_option maxRecDepth 100000 in
theorem tw_61 : (Jvm.Cond.fieldLink "TreeMatcher$Parts" (18 : Nat) "TreeMatcher$Parts" "rules" "[I") ∈ gw := gw_of (List.mem_of_getElem? (i := 61) rfl) rfl
set_option maxRecDepth 100000 in
theorem tw_62 : (Jvm.Cond.fieldLink "TreeMatcher$Parts" (21 : Nat) "TreeMatcher$Parts" "open" "[I") ∈ gw := gw_of (List.mem_of_getElem? (i := 62) rfl) rfl
set_option maxRecDepth 100000 in
theorem tw_63 : (Jvm.Cond.fieldLink "TreeMatcher$Parts" (29 : Nat) "TreeMatcher$Parts" "byOperator" "LTreeMatcher$Groups;") ∈ gw := gw_of (List.mem_of_getElem? (i := 63) rfl) rfl
set_option maxRecDepth 100000 in
theorem tw_134 : (Jvm.Cond.code ({ cls := "TreeMatcher$Labels", name := "<init>", desc := "(LTreeMatcher$Grammar;)V" } : Jvm.MethodName) prog_6_method_1_code (2 : Nat) (Option.none : Option Jvm.ClassFile.FieldType)) ∈ gw := gw_of (List.mem_of_getElem? (i := 134) rfl) rfl
set_option maxRecDepth 100000 in
theorem tw_135 : (Jvm.Cond.methodLink "TreeMatcher$Labels" (3 : Nat) ({ cls := "java/lang/Object", name := "<init>", desc := "()V" } : Jvm.MethodName)) ∈ gw := gw_of (List.mem_of_getElem? (i := 135) rfl) rfl
set_option maxRecDepth 100000 in
theorem tw_136 : (Jvm.Cond.fieldLink "TreeMatcher$Labels" (19 : Nat) "TreeMatcher$Labels" "grammar" "LTreeMatcher$Grammar;") ∈ gw := gw_of (List.mem_of_getElem? (i := 136) rfl) rfl
set_option maxRecDepth 100000 in
theorem tw_137 : (Jvm.Cond.fieldLink "TreeMatcher$Labels" (9 : Nat) "TreeMatcher$Labels" "costs" "[J") ∈ gw := gw_of (List.mem_of_getElem? (i := 137) rfl) rfl
set_option maxRecDepth 100000 in
theorem tw_138 : (Jvm.Cond.fieldLink "TreeMatcher$Labels" (15 : Nat) "TreeMatcher$Labels" "rules" "[I") ∈ gw := gw_of (List.mem_of_getElem? (i := 138) rfl) rfl
set_option maxRecDepth 100000 in
theorem tw_147 : (Jvm.Cond.arrayClass Jvm.ClassFile.FieldType.long) ∈ gw := gw_of (List.mem_of_getElem? (i := 147) rfl) rfl
abbrev b_U_init : ByteArray := prog_5_method_1_code
def y_U_init : MethodName := ⟨"TreeMatcher$Groups", "<init>", "(II)V"⟩
def ws_U_init : List Cond := Cond.code y_U_init b_U_init 3 (Option.none : Option Jvm.ClassFile.FieldType) :: gw
theorem cin_U_init : Cond.code y_U_init b_U_init 3 (Option.none : Option Jvm.ClassFile.FieldType) ∈ gw := tw_38
abbrev b_P_init : ByteArray := prog_7_method_1_code
def y_P_init : MethodName := ⟨"TreeMatcher$Parts", "<init>", "()V"⟩
def ws_P_init : List Cond := Cond.code y_P_init b_P_init 1 (Option.none : Option Jvm.ClassFile.FieldType) :: gw
theorem cin_P_init : Cond.code y_P_init b_P_init 1 (Option.none : Option Jvm.ClassFile.FieldType) ∈ gw := tw_55
abbrev b_L_init : ByteArray := prog_6_method_1_code
def y_L_init : MethodName := ⟨"TreeMatcher$Labels", "<init>", "(LTreeMatcher$Grammar;)V"⟩
def ws_L_init : List Cond := Cond.code y_L_init b_L_init 2 (Option.none : Option Jvm.ClassFile.FieldType) :: gw
theorem cin_L_init : Cond.code y_L_init b_L_init 2 (Option.none : Option Jvm.ClassFile.FieldType) ∈ gw := tw_134
theorem d_U_init_0 : decode b_U_init 0 = .ok (.aload_n 0, 1) := by decide +kernel
theorem d_U_init_1 : decode b_U_init 1 = .ok (.invokespecial 1, 3) := by decide +kernel
theorem d_U_init_4 : decode b_U_init 4 = .ok (.aload_n 0, 1) := by decide +kernel
theorem d_U_init_5 : decode b_U_init 5 = .ok (.iload_n 1, 1) := by decide +kernel
theorem d_U_init_6 : decode b_U_init 6 = .ok (.putfield 7, 3) := by decide +kernel
theorem d_U_init_9 : decode b_U_init 9 = .ok (.aload_n 0, 1) := by decide +kernel
theorem d_U_init_10 : decode b_U_init 10 = .ok (.iload_n 1, 1) := by decide +kernel
theorem d_U_init_11 : decode b_U_init 11 = .ok (.iconst 1, 1) := by decide +kernel
theorem d_U_init_12 : decode b_U_init 12 = .ok (.iadd, 1) := by decide +kernel
theorem d_U_init_13 : decode b_U_init 13 = .ok (.newarray .int, 2) := by decide +kernel
theorem d_U_init_15 : decode b_U_init 15 = .ok (.putfield 13, 3) := by decide +kernel
theorem d_U_init_18 : decode b_U_init 18 = .ok (.aload_n 0, 1) := by decide +kernel
theorem d_U_init_19 : decode b_U_init 19 = .ok (.iload_n 2, 1) := by decide +kernel
theorem d_U_init_20 : decode b_U_init 20 = .ok (.newarray .int, 2) := by decide +kernel
theorem d_U_init_22 : decode b_U_init 22 = .ok (.putfield 17, 3) := by decide +kernel
theorem d_U_init_25 : decode b_U_init 25 = .ok (.return_, 1) := by decide +kernel
theorem d_P_init_0 : decode b_P_init 0 = .ok (.aload_n 0, 1) := by decide +kernel
theorem d_P_init_1 : decode b_P_init 1 = .ok (.invokespecial 3, 3) := by decide +kernel
theorem d_P_init_4 : decode b_P_init 4 = .ok (.aload_n 0, 1) := by decide +kernel
theorem d_P_init_5 : decode b_P_init 5 = .ok (.sipush 784, 3) := by decide +kernel
theorem d_P_init_8 : decode b_P_init 8 = .ok (.newarray .int, 2) := by decide +kernel
theorem d_P_init_10 : decode b_P_init 10 = .ok (.putfield 11, 3) := by decide +kernel
theorem d_P_init_13 : decode b_P_init 13 = .ok (.aload_n 0, 1) := by decide +kernel
theorem d_P_init_14 : decode b_P_init 14 = .ok (.sipush 784, 3) := by decide +kernel
theorem d_P_init_17 : decode b_P_init 17 = .ok (.newarray .int, 2) := by decide +kernel
theorem d_P_init_19 : decode b_P_init 19 = .ok (.putfield 15, 3) := by decide +kernel
theorem d_P_init_22 : decode b_P_init 22 = .ok (.aload_n 0, 1) := by decide +kernel
theorem d_P_init_23 : decode b_P_init 23 = .ok (.sipush 784, 3) := by decide +kernel
theorem d_P_init_26 : decode b_P_init 26 = .ok (.newarray .int, 2) := by decide +kernel
theorem d_P_init_28 : decode b_P_init 28 = .ok (.putfield 18, 3) := by decide +kernel
theorem d_P_init_31 : decode b_P_init 31 = .ok (.aload_n 0, 1) := by decide +kernel
theorem d_P_init_32 : decode b_P_init 32 = .ok (.bipush 12, 2) := by decide +kernel
theorem d_P_init_34 : decode b_P_init 34 = .ok (.newarray .int, 2) := by decide +kernel
theorem d_P_init_36 : decode b_P_init 36 = .ok (.putfield 21, 3) := by decide +kernel
theorem d_P_init_39 : decode b_P_init 39 = .ok (.aload_n 0, 1) := by decide +kernel
theorem d_P_init_40 : decode b_P_init 40 = .ok (.new 24, 3) := by decide +kernel
theorem d_P_init_43 : decode b_P_init 43 = .ok (.dup, 1) := by decide +kernel
theorem d_P_init_44 : decode b_P_init 44 = .ok (.bipush 32, 2) := by decide +kernel
theorem d_P_init_46 : decode b_P_init 46 = .ok (.sipush 768, 3) := by decide +kernel
theorem d_P_init_49 : decode b_P_init 49 = .ok (.invokespecial 26, 3) := by decide +kernel
theorem d_P_init_52 : decode b_P_init 52 = .ok (.putfield 29, 3) := by decide +kernel
theorem d_P_init_55 : decode b_P_init 55 = .ok (.aload_n 0, 1) := by decide +kernel
theorem d_P_init_56 : decode b_P_init 56 = .ok (.bipush 16, 2) := by decide +kernel
theorem d_P_init_58 : decode b_P_init 58 = .ok (.putfield 33, 3) := by decide +kernel
theorem d_P_init_61 : decode b_P_init 61 = .ok (.return_, 1) := by decide +kernel
theorem d_L_init_0 : decode b_L_init 0 = .ok (.aload_n 0, 1) := by decide +kernel
theorem d_L_init_1 : decode b_L_init 1 = .ok (.invokespecial 3, 3) := by decide +kernel
theorem d_L_init_4 : decode b_L_init 4 = .ok (.aload_n 0, 1) := by decide +kernel
theorem d_L_init_5 : decode b_L_init 5 = .ok (.bipush 16, 2) := by decide +kernel
theorem d_L_init_7 : decode b_L_init 7 = .ok (.newarray .long, 2) := by decide +kernel
theorem d_L_init_9 : decode b_L_init 9 = .ok (.putfield 9, 3) := by decide +kernel
theorem d_L_init_12 : decode b_L_init 12 = .ok (.aload_n 0, 1) := by decide +kernel
theorem d_L_init_13 : decode b_L_init 13 = .ok (.bipush 16, 2) := by decide +kernel
theorem d_L_init_15 : decode b_L_init 15 = .ok (.newarray .int, 2) := by decide +kernel
theorem d_L_init_17 : decode b_L_init 17 = .ok (.putfield 15, 3) := by decide +kernel
theorem d_L_init_20 : decode b_L_init 20 = .ok (.aload_n 0, 1) := by decide +kernel
theorem d_L_init_21 : decode b_L_init 21 = .ok (.aload_n 1, 1) := by decide +kernel
theorem d_L_init_22 : decode b_L_init 22 = .ok (.putfield 19, 3) := by decide +kernel
theorem d_L_init_25 : decode b_L_init 25 = .ok (.return_, 1) := by decide +kernel
set_option maxHeartbeats 4000000 in
set_option maxRecDepth 100000 in
theorem c_U_init_17 (l : Launch) (dC : Nat → ClassId) (dI : Nat → Nat → Nat) (sz : Nat) (u : Nat) : Met l y_U_init ws_U_init ({ frames := 1, cells := 2, slots := 82, locals := 12 }) (va_Pc [Value.ref u, Value.int 17, Value.int 64] (fun U => U.heap.size = sz ∧ va_P (dC, dI) kcl [(u, .inr (7, [Value.int 0, Value.null, Value.null]))] U.heap ∧ va_K (dC, dI) kcl [] U ∧ va_D (fun _ => True) [(u, .inr (7, [Value.int 0, Value.null, Value.null]))])) (va_Qv (fun (_ : Unit) => True) (fun (_ : Unit) (_ : State) => True) (va_A [(u, .inr (7, [Value.int 0, Value.null, Value.null]))] sz)) 2 82 (va_A [(u, .inr (7, [Value.int 0, Value.null, Value.null]))] sz) := by
  refine Met.ofW (cc := b_U_init) (maxL := 3) (ret := (Option.none : Option Jvm.ClassFile.FieldType)) (by decide) rfl ?_
  intro p e s m args below meth c s₁ B hml hv
  obtain ⟨rfl, hsz, hP, hK, hD0⟩ := hv
  have hx := B.exec
  have hb := B.bytes
  have hr := B.returns
  have hlocks := B.notSynchronized
  have hg : ∀ w ∈ gw, w.before _ s = true := fun w h => atoms_spec (ws := ws_U_init) B.pre w (List.mem_cons_of_mem _ h)
  have hown : s.vm.findClass "TreeMatcher$Groups" = some m.cls := findClass_of_methodNamed B.named
  have hin : meth.name = "<init>" := (name_of_methodNamed B.named B.method).1
  subst hsz
  have hD := hD0.self (sz := s.heap.size)
  have hA : ∀ q : Nat, s.heap.size ≤ q → va_A [(u, .inr (7, [Value.int 0, Value.null, Value.null]))] s.heap.size q := fun q h => Or.inr h
  generalize hAe : va_A [(u, .inr (7, [Value.int 0, Value.null, Value.null]))] s.heap.size = A at hD hA ⊢
  have hS : va_S A s.heap s.heap [] := va_S.rf
  have hl := lv_entry ([Value.ref u, Value.int 17, Value.int 64] : List Value) (n := 3) (Nat.le_of_ble_eq_true rfl)
  rw [lg_entry_eq]
  generalize (lg_sl ([Value.ref u, Value.int 17, Value.int 64] : List Value) ++ List.replicate (3 - (lg_sl ([Value.ref u, Value.int 17, Value.int 64] : List Value)).length) Slot.unset).toArray = ls at hl ⊢
  have hl : lv_has ls 3 [(0, Value.ref u), (1, Value.int 17), (2, Value.int 64)] := hl
  refine lv_aload_n hx hb d_U_init_0 rfl (lv_at hl 0 rfl) ?_
  refine W.objInit hx hb hown (hg _ tw_39) (hg _ tw_26) (hg _ tw_27) rfl (by rw [hml]; exact hl.1) rfl d_U_init_1 (Nat.le_of_ble_eq_true rfl) (Nat.le_of_ble_eq_true rfl) ?_
  refine W.eq (g2 := F0 m 4 ls []) rfl ?_
  refine lv_aload_n hx hb d_U_init_4 rfl (lv_at hl 0 rfl) ?_
  refine lv_iload_n hx hb d_U_init_5 rfl (lv_at hl 1 rfl) ?_
  refine va_putF (D := (dC, dI)) (ci := 7) (v := Value.int 17) (ty := .int) (C := kR_U) (T := kT_U) (N := 3) hx hb hg kin_U kt_U kty_U knm_U hown hK hP hD hS 0 rfl rfl 0 (by decide) (hg _ tw_40) (fun _ h9 => h9) rfl hin rfl (by decide +kernel) rfl rfl (Nat.le_of_ble_eq_true rfl) d_U_init_6 (fun H_1 lo_2 hP hD hS => ?_)
  have hP : va_P (dC, dI) kcl [(u, .inr (7, [Value.int 17, Value.null, Value.null]))] H_1 := hP
  have hD : va_D A [(u, .inr (7, [Value.int 17, Value.null, Value.null]))] := hD
  refine lv_aload_n hx hb d_U_init_9 rfl (lv_at hl 0 rfl) ?_
  refine lv_iload_n hx hb d_U_init_10 rfl (lv_at hl 1 rfl) ?_
  refine lv_iconst (v := 1) hx hb d_U_init_11 (by decide) ?_
  refine lv_iadd hx hb d_U_init_12 ?_
  refine va_newa (atype := .int) (ty := .int) (a0 := (18, .inl (fun _ => 0))) (N' := 18) hx hb (hg _ tw_50) rfl hK hP hD hS hA (fun _ => rfl) (by decide) (by decide +kernel) (by decide) (Nat.le_of_ble_eq_true rfl) (Nat.le_of_ble_eq_true rfl) d_U_init_13 (fun q_4 cq_4 H_3 hK hP hD hS => ?_)
  have hP := hP.sub (ws' := [(u, .inr (7, [Value.int 17, Value.null, Value.null]))]) [0] rfl
  have hD := hD.sub (ws' := [(u, .inr (7, [Value.int 17, Value.null, Value.null]))]) [0] (by decide) rfl
  have hK := hK.sub (tys' := []) [] rfl
  refine va_putF (D := (dC, dI)) (ci := 7) (v := Value.ref q_4) (ty := .array .int) (C := kR_U) (T := kT_U) (N := 3) hx hb hg kin_U kt_U kty_U knm_U hown hK hP hD hS 0 rfl rfl 1 (by decide) (hg _ tw_41) (fun _ h9 => h9) rfl hin rfl (by decide +kernel) rfl rfl (Nat.le_of_ble_eq_true rfl) d_U_init_15 (fun H_5 lo_6 hP hD hS => ?_)
  have hP : va_P (dC, dI) kcl [(u, .inr (7, [Value.int 17, Value.ref q_4, Value.null]))] H_5 := hP
  have hD : va_D A [(u, .inr (7, [Value.int 17, Value.ref q_4, Value.null]))] := hD
  refine lv_aload_n hx hb d_U_init_18 rfl (lv_at hl 0 rfl) ?_
  refine lv_iload_n hx hb d_U_init_19 rfl (lv_at hl 2 rfl) ?_
  refine va_newa (atype := .int) (ty := .int) (a0 := (64, .inl (fun _ => 0))) (N' := 64) hx hb (hg _ tw_50) rfl hK hP hD hS hA (fun _ => rfl) (by decide) (by decide +kernel) (by decide) (Nat.le_of_ble_eq_true rfl) (Nat.le_of_ble_eq_true rfl) d_U_init_20 (fun q_8 cq_8 H_7 hK hP hD hS => ?_)
  have hP := hP.sub (ws' := [(u, .inr (7, [Value.int 17, Value.ref q_4, Value.null]))]) [0] rfl
  have hD := hD.sub (ws' := [(u, .inr (7, [Value.int 17, Value.ref q_4, Value.null]))]) [0] (by decide) rfl
  have hK := hK.sub (tys' := []) [] rfl
  refine va_putF (D := (dC, dI)) (ci := 7) (v := Value.ref q_8) (ty := .array .int) (C := kR_U) (T := kT_U) (N := 3) hx hb hg kin_U kt_U kty_U knm_U hown hK hP hD hS 0 rfl rfl 2 (by decide) (hg _ tw_42) (fun _ h9 => h9) rfl hin rfl (by decide +kernel) rfl rfl (Nat.le_of_ble_eq_true rfl) d_U_init_22 (fun H_9 lo_10 hP hD hS => ?_)
  have hP : va_P (dC, dI) kcl [(u, .inr (7, [Value.int 17, Value.ref q_4, Value.ref q_8]))] H_9 := hP
  have hD : va_D A [(u, .inr (7, [Value.int 17, Value.ref q_4, Value.ref q_8]))] := hD
  exact W.vret hx hb hr (fun t ht hW => ⟨⟨(), rfl, trivial, trivial⟩, hS.F ht⟩) hS.2.2 d_U_init_25
set_option maxHeartbeats 4000000 in
set_option maxRecDepth 100000 in
theorem c_U_init_32 (l : Launch) (dC : Nat → ClassId) (dI : Nat → Nat → Nat) (sz : Nat) (u : Nat) : Met l y_U_init ws_U_init ({ frames := 1, cells := 2, slots := 801, locals := 12 }) (va_Pc [Value.ref u, Value.int 32, Value.int 768] (fun U => U.heap.size = sz ∧ va_P (dC, dI) kcl [(u, .inr (7, [Value.int 0, Value.null, Value.null]))] U.heap ∧ va_K (dC, dI) kcl [] U ∧ va_D (fun _ => True) [(u, .inr (7, [Value.int 0, Value.null, Value.null]))])) (va_Qv (fun (_ : Unit) => True) (fun (_ : Unit) (_ : State) => True) (va_A [(u, .inr (7, [Value.int 0, Value.null, Value.null]))] sz)) 2 801 (va_A [(u, .inr (7, [Value.int 0, Value.null, Value.null]))] sz) := by
  refine Met.ofW (cc := b_U_init) (maxL := 3) (ret := (Option.none : Option Jvm.ClassFile.FieldType)) (by decide) rfl ?_
  intro p e s m args below meth c s₁ B hml hv
  obtain ⟨rfl, hsz, hP, hK, hD0⟩ := hv
  have hx := B.exec
  have hb := B.bytes
  have hr := B.returns
  have hlocks := B.notSynchronized
  have hg : ∀ w ∈ gw, w.before _ s = true := fun w h => atoms_spec (ws := ws_U_init) B.pre w (List.mem_cons_of_mem _ h)
  have hown : s.vm.findClass "TreeMatcher$Groups" = some m.cls := findClass_of_methodNamed B.named
  have hin : meth.name = "<init>" := (name_of_methodNamed B.named B.method).1
  subst hsz
  have hD := hD0.self (sz := s.heap.size)
  have hA : ∀ q : Nat, s.heap.size ≤ q → va_A [(u, .inr (7, [Value.int 0, Value.null, Value.null]))] s.heap.size q := fun q h => Or.inr h
  generalize hAe : va_A [(u, .inr (7, [Value.int 0, Value.null, Value.null]))] s.heap.size = A at hD hA ⊢
  have hS : va_S A s.heap s.heap [] := va_S.rf
  have hl := lv_entry ([Value.ref u, Value.int 32, Value.int 768] : List Value) (n := 3) (Nat.le_of_ble_eq_true rfl)
  rw [lg_entry_eq]
  generalize (lg_sl ([Value.ref u, Value.int 32, Value.int 768] : List Value) ++ List.replicate (3 - (lg_sl ([Value.ref u, Value.int 32, Value.int 768] : List Value)).length) Slot.unset).toArray = ls at hl ⊢
  have hl : lv_has ls 3 [(0, Value.ref u), (1, Value.int 32), (2, Value.int 768)] := hl
  refine lv_aload_n hx hb d_U_init_0 rfl (lv_at hl 0 rfl) ?_
  refine W.objInit hx hb hown (hg _ tw_39) (hg _ tw_26) (hg _ tw_27) rfl (by rw [hml]; exact hl.1) rfl d_U_init_1 (Nat.le_of_ble_eq_true rfl) (Nat.le_of_ble_eq_true rfl) ?_
  refine W.eq (g2 := F0 m 4 ls []) rfl ?_
  refine lv_aload_n hx hb d_U_init_4 rfl (lv_at hl 0 rfl) ?_
  refine lv_iload_n hx hb d_U_init_5 rfl (lv_at hl 1 rfl) ?_
  refine va_putF (D := (dC, dI)) (ci := 7) (v := Value.int 32) (ty := .int) (C := kR_U) (T := kT_U) (N := 3) hx hb hg kin_U kt_U kty_U knm_U hown hK hP hD hS 0 rfl rfl 0 (by decide) (hg _ tw_40) (fun _ h9 => h9) rfl hin rfl (by decide +kernel) rfl rfl (Nat.le_of_ble_eq_true rfl) d_U_init_6 (fun H_1 lo_2 hP hD hS => ?_)
  have hP : va_P (dC, dI) kcl [(u, .inr (7, [Value.int 32, Value.null, Value.null]))] H_1 := hP
  have hD : va_D A [(u, .inr (7, [Value.int 32, Value.null, Value.null]))] := hD
  refine lv_aload_n hx hb d_U_init_9 rfl (lv_at hl 0 rfl) ?_
  refine lv_iload_n hx hb d_U_init_10 rfl (lv_at hl 1 rfl) ?_
  refine lv_iconst (v := 1) hx hb d_U_init_11 (by decide) ?_
  refine lv_iadd hx hb d_U_init_12 ?_
  refine va_newa (atype := .int) (ty := .int) (a0 := (33, .inl (fun _ => 0))) (N' := 33) hx hb (hg _ tw_50) rfl hK hP hD hS hA (fun _ => rfl) (by decide) (by decide +kernel) (by decide) (Nat.le_of_ble_eq_true rfl) (Nat.le_of_ble_eq_true rfl) d_U_init_13 (fun q_4 cq_4 H_3 hK hP hD hS => ?_)
  have hP := hP.sub (ws' := [(u, .inr (7, [Value.int 32, Value.null, Value.null]))]) [0] rfl
  have hD := hD.sub (ws' := [(u, .inr (7, [Value.int 32, Value.null, Value.null]))]) [0] (by decide) rfl
  have hK := hK.sub (tys' := []) [] rfl
  refine va_putF (D := (dC, dI)) (ci := 7) (v := Value.ref q_4) (ty := .array .int) (C := kR_U) (T := kT_U) (N := 3) hx hb hg kin_U kt_U kty_U knm_U hown hK hP hD hS 0 rfl rfl 1 (by decide) (hg _ tw_41) (fun _ h9 => h9) rfl hin rfl (by decide +kernel) rfl rfl (Nat.le_of_ble_eq_true rfl) d_U_init_15 (fun H_5 lo_6 hP hD hS => ?_)
  have hP : va_P (dC, dI) kcl [(u, .inr (7, [Value.int 32, Value.ref q_4, Value.null]))] H_5 := hP
  have hD : va_D A [(u, .inr (7, [Value.int 32, Value.ref q_4, Value.null]))] := hD
  refine lv_aload_n hx hb d_U_init_18 rfl (lv_at hl 0 rfl) ?_
  refine lv_iload_n hx hb d_U_init_19 rfl (lv_at hl 2 rfl) ?_
  refine va_newa (atype := .int) (ty := .int) (a0 := (768, .inl (fun _ => 0))) (N' := 768) hx hb (hg _ tw_50) rfl hK hP hD hS hA (fun _ => rfl) (by decide) (by decide +kernel) (by decide) (Nat.le_of_ble_eq_true rfl) (Nat.le_of_ble_eq_true rfl) d_U_init_20 (fun q_8 cq_8 H_7 hK hP hD hS => ?_)
  have hP := hP.sub (ws' := [(u, .inr (7, [Value.int 32, Value.ref q_4, Value.null]))]) [0] rfl
  have hD := hD.sub (ws' := [(u, .inr (7, [Value.int 32, Value.ref q_4, Value.null]))]) [0] (by decide) rfl
  have hK := hK.sub (tys' := []) [] rfl
  refine va_putF (D := (dC, dI)) (ci := 7) (v := Value.ref q_8) (ty := .array .int) (C := kR_U) (T := kT_U) (N := 3) hx hb hg kin_U kt_U kty_U knm_U hown hK hP hD hS 0 rfl rfl 2 (by decide) (hg _ tw_42) (fun _ h9 => h9) rfl hin rfl (by decide +kernel) rfl rfl (Nat.le_of_ble_eq_true rfl) d_U_init_22 (fun H_9 lo_10 hP hD hS => ?_)
  have hP : va_P (dC, dI) kcl [(u, .inr (7, [Value.int 32, Value.ref q_4, Value.ref q_8]))] H_9 := hP
  have hD : va_D A [(u, .inr (7, [Value.int 32, Value.ref q_4, Value.ref q_8]))] := hD
  exact W.vret hx hb hr (fun t ht hW => ⟨⟨(), rfl, trivial, trivial⟩, hS.F ht⟩) hS.2.2 d_U_init_25
set_option maxHeartbeats 4000000 in
set_option maxRecDepth 100000 in
theorem c_L_init (l : Launch) (dC : Nat → ClassId) (dI : Nat → Nat → Nat) (sz : Nat) (lq g : Nat) : Met l y_L_init ws_L_init ({ frames := 1, cells := 2, slots := 32, locals := 12 }) (va_Pc [Value.ref lq, Value.ref g] (fun U => U.heap.size = sz ∧ va_P (dC, dI) kcl [(lq, .inr (8, [Value.null, Value.null, Value.null]))] U.heap ∧ va_K (dC, dI) kcl [] U ∧ va_D (fun _ => True) [(lq, .inr (8, [Value.null, Value.null, Value.null]))])) (va_Qv (fun (_ : Unit) => True) (fun (_ : Unit) (_ : State) => True) (va_A [(lq, .inr (8, [Value.null, Value.null, Value.null]))] sz)) 2 32 (va_A [(lq, .inr (8, [Value.null, Value.null, Value.null]))] sz) := by
  refine Met.ofW (cc := b_L_init) (maxL := 2) (ret := (Option.none : Option Jvm.ClassFile.FieldType)) (by decide) rfl ?_
  intro p e s m args below meth c s₁ B hml hv
  obtain ⟨rfl, hsz, hP, hK, hD0⟩ := hv
  have hx := B.exec
  have hb := B.bytes
  have hr := B.returns
  have hlocks := B.notSynchronized
  have hg : ∀ w ∈ gw, w.before _ s = true := fun w h => atoms_spec (ws := ws_L_init) B.pre w (List.mem_cons_of_mem _ h)
  have hown : s.vm.findClass "TreeMatcher$Labels" = some m.cls := findClass_of_methodNamed B.named
  have hin : meth.name = "<init>" := (name_of_methodNamed B.named B.method).1
  subst hsz
  have hD := hD0.self (sz := s.heap.size)
  have hA : ∀ q : Nat, s.heap.size ≤ q → va_A [(lq, .inr (8, [Value.null, Value.null, Value.null]))] s.heap.size q := fun q h => Or.inr h
  generalize hAe : va_A [(lq, .inr (8, [Value.null, Value.null, Value.null]))] s.heap.size = A at hD hA ⊢
  have hS : va_S A s.heap s.heap [] := va_S.rf
  have hl := lv_entry ([Value.ref lq, Value.ref g] : List Value) (n := 2) (Nat.le_of_ble_eq_true rfl)
  rw [lg_entry_eq]
  generalize (lg_sl ([Value.ref lq, Value.ref g] : List Value) ++ List.replicate (2 - (lg_sl ([Value.ref lq, Value.ref g] : List Value)).length) Slot.unset).toArray = ls at hl ⊢
  have hl : lv_has ls 2 [(0, Value.ref lq), (1, Value.ref g)] := hl
  refine lv_aload_n hx hb d_L_init_0 rfl (lv_at hl 0 rfl) ?_
  refine W.objInit hx hb hown (hg _ tw_135) (hg _ tw_26) (hg _ tw_27) rfl (by rw [hml]; exact hl.1) rfl d_L_init_1 (Nat.le_of_ble_eq_true rfl) (Nat.le_of_ble_eq_true rfl) ?_
  refine W.eq (g2 := F0 m 4 ls []) rfl ?_
  refine lv_aload_n hx hb d_L_init_4 rfl (lv_at hl 0 rfl) ?_
  refine lv_bipush (v := 16) hx hb d_L_init_5 (by decide) ?_
  refine va_newa (atype := .long) (ty := .long) (a0 := (16, .inr (.inl (fun _ => 0)))) (N' := 16) hx hb (hg _ tw_147) rfl hK hP hD hS hA (fun _ => rfl) (by decide) (by decide +kernel) (by decide) (Nat.le_of_ble_eq_true rfl) (Nat.le_of_ble_eq_true rfl) d_L_init_7 (fun q_2 cq_2 H_1 hK hP hD hS => ?_)
  have hP := hP.sub (ws' := [(lq, .inr (8, [Value.null, Value.null, Value.null]))]) [0] rfl
  have hD := hD.sub (ws' := [(lq, .inr (8, [Value.null, Value.null, Value.null]))]) [0] (by decide) rfl
  have hK := hK.sub (tys' := []) [] rfl
  refine va_putF (D := (dC, dI)) (ci := 8) (v := Value.ref q_2) (ty := .array .long) (C := kR_L) (T := kT_L) (N := 3) hx hb hg kin_L kt_L kty_L knm_L hown hK hP hD hS 0 rfl rfl 1 (by decide) (hg _ tw_137) (fun _ h9 => h9) rfl hin rfl (by decide +kernel) rfl rfl (Nat.le_of_ble_eq_true rfl) d_L_init_9 (fun H_3 lo_4 hP hD hS => ?_)
  have hP : va_P (dC, dI) kcl [(lq, .inr (8, [Value.null, Value.ref q_2, Value.null]))] H_3 := hP
  have hD : va_D A [(lq, .inr (8, [Value.null, Value.ref q_2, Value.null]))] := hD
  refine lv_aload_n hx hb d_L_init_12 rfl (lv_at hl 0 rfl) ?_
  refine lv_bipush (v := 16) hx hb d_L_init_13 (by decide) ?_
  refine va_newa (atype := .int) (ty := .int) (a0 := (16, .inl (fun _ => 0))) (N' := 16) hx hb (hg _ tw_50) rfl hK hP hD hS hA (fun _ => rfl) (by decide) (by decide +kernel) (by decide) (Nat.le_of_ble_eq_true rfl) (Nat.le_of_ble_eq_true rfl) d_L_init_15 (fun q_6 cq_6 H_5 hK hP hD hS => ?_)
  have hP := hP.sub (ws' := [(lq, .inr (8, [Value.null, Value.ref q_2, Value.null]))]) [0] rfl
  have hD := hD.sub (ws' := [(lq, .inr (8, [Value.null, Value.ref q_2, Value.null]))]) [0] (by decide) rfl
  have hK := hK.sub (tys' := []) [] rfl
  refine va_putF (D := (dC, dI)) (ci := 8) (v := Value.ref q_6) (ty := .array .int) (C := kR_L) (T := kT_L) (N := 3) hx hb hg kin_L kt_L kty_L knm_L hown hK hP hD hS 0 rfl rfl 2 (by decide) (hg _ tw_138) (fun _ h9 => h9) rfl hin rfl (by decide +kernel) rfl rfl (Nat.le_of_ble_eq_true rfl) d_L_init_17 (fun H_7 lo_8 hP hD hS => ?_)
  have hP : va_P (dC, dI) kcl [(lq, .inr (8, [Value.null, Value.ref q_2, Value.ref q_6]))] H_7 := hP
  have hD : va_D A [(lq, .inr (8, [Value.null, Value.ref q_2, Value.ref q_6]))] := hD
  refine lv_aload_n hx hb d_L_init_20 rfl (lv_at hl 0 rfl) ?_
  refine lv_aload_n hx hb d_L_init_21 rfl (lv_at hl 1 rfl) ?_
  refine va_putF (D := (dC, dI)) (ci := 8) (v := Value.ref g) (ty := .object "TreeMatcher$Grammar") (C := kR_L) (T := kT_L) (N := 3) hx hb hg kin_L kt_L kty_L knm_L hown hK hP hD hS 0 rfl rfl 0 (by decide) (hg _ tw_136) (fun _ h9 => h9) rfl hin rfl (by decide +kernel) rfl rfl (Nat.le_of_ble_eq_true rfl) d_L_init_22 (fun H_9 lo_10 hP hD hS => ?_)
  have hP : va_P (dC, dI) kcl [(lq, .inr (8, [Value.ref g, Value.ref q_2, Value.ref q_6]))] H_9 := hP
  have hD : va_D A [(lq, .inr (8, [Value.ref g, Value.ref q_2, Value.ref q_6]))] := hD
  exact W.vret hx hb hr (fun t ht hW => ⟨⟨(), rfl, trivial, trivial⟩, hS.F ht⟩) hS.2.2 d_L_init_25
set_option maxHeartbeats 4000000 in
set_option maxRecDepth 100000 in
theorem c_P_init (l : Launch) (dC : Nat → ClassId) (dI : Nat → Nat → Nat) (sz : Nat) (pq : Nat) : Met l y_P_init ws_P_init ({ frames := 2, cells := 7, slots := 3168, locals := 34 }) (va_Pc [Value.ref pq] (fun U => U.heap.size = sz ∧ va_P (dC, dI) kcl [(pq, .inr (6, [Value.null, Value.null, Value.null, Value.null, Value.null, Value.int 0]))] U.heap ∧ va_K (dC, dI) kcl [] U ∧ va_D (fun _ => True) [(pq, .inr (6, [Value.null, Value.null, Value.null, Value.null, Value.null, Value.int 0]))])) (va_Qv (fun (_ : Unit) => True) (fun (_ : Unit) (t : State) => ∃ (bq : Nat) (zpq : Nat → Value), va_P (dC, dI) kcl [(pq, .inr (6, [(zpq 0), (zpq 1), (zpq 2), (zpq 3), Value.ref bq, Value.int 16]))] t.heap ∧ va_K (dC, dI) kcl [] t ∧ va_D (va_A [(pq, .inr (6, [Value.null, Value.null, Value.null, Value.null, Value.null, Value.int 0]))] sz) [(pq, .inr (6, [(zpq 0), (zpq 1), (zpq 2), (zpq 3), Value.ref bq, Value.int 16]))]) (va_A [(pq, .inr (6, [Value.null, Value.null, Value.null, Value.null, Value.null, Value.int 0]))] sz)) 7 3168 (va_A [(pq, .inr (6, [Value.null, Value.null, Value.null, Value.null, Value.null, Value.int 0]))] sz) := by
  refine Met.ofW (cc := b_P_init) (maxL := 1) (ret := (Option.none : Option Jvm.ClassFile.FieldType)) (by decide) rfl ?_
  intro p e s m args below meth c s₁ B hml hv
  obtain ⟨rfl, hsz, hP, hK, hD0⟩ := hv
  have hx := B.exec
  have hb := B.bytes
  have hr := B.returns
  have hlocks := B.notSynchronized
  have hg : ∀ w ∈ gw, w.before _ s = true := fun w h => atoms_spec (ws := ws_P_init) B.pre w (List.mem_cons_of_mem _ h)
  have hown : s.vm.findClass "TreeMatcher$Parts" = some m.cls := findClass_of_methodNamed B.named
  have hin : meth.name = "<init>" := (name_of_methodNamed B.named B.method).1
  subst hsz
  have hD := hD0.self (sz := s.heap.size)
  have hA : ∀ q : Nat, s.heap.size ≤ q → va_A [(pq, .inr (6, [Value.null, Value.null, Value.null, Value.null, Value.null, Value.int 0]))] s.heap.size q := fun q h => Or.inr h
  generalize hAe : va_A [(pq, .inr (6, [Value.null, Value.null, Value.null, Value.null, Value.null, Value.int 0]))] s.heap.size = A at hD hA ⊢
  have hS : va_S A s.heap s.heap [] := va_S.rf
  have hl := lv_entry ([Value.ref pq] : List Value) (n := 1) (Nat.le_of_ble_eq_true rfl)
  rw [lg_entry_eq]
  generalize (lg_sl ([Value.ref pq] : List Value) ++ List.replicate (1 - (lg_sl ([Value.ref pq] : List Value)).length) Slot.unset).toArray = ls at hl ⊢
  have hl : lv_has ls 1 [(0, Value.ref pq)] := hl
  refine lv_aload_n hx hb d_P_init_0 rfl (lv_at hl 0 rfl) ?_
  refine W.objInit hx hb hown (hg _ tw_56) (hg _ tw_26) (hg _ tw_27) rfl (by rw [hml]; exact hl.1) rfl d_P_init_1 (Nat.le_of_ble_eq_true rfl) (Nat.le_of_ble_eq_true rfl) ?_
  refine W.eq (g2 := F0 m 4 ls []) rfl ?_
  refine lv_aload_n hx hb d_P_init_4 rfl (lv_at hl 0 rfl) ?_
  refine lv_sipush (v := 784) hx hb d_P_init_5 (by decide) ?_
  refine va_newa (atype := .int) (ty := .int) (a0 := (784, .inl (fun _ => 0))) (N' := 784) hx hb (hg _ tw_50) rfl hK hP hD hS hA (fun _ => rfl) (by decide) (by decide +kernel) (by decide) (Nat.le_of_ble_eq_true rfl) (Nat.le_of_ble_eq_true rfl) d_P_init_8 (fun q_2 cq_2 H_1 hK hP hD hS => ?_)
  have hP := hP.sub (ws' := [(pq, .inr (6, [Value.null, Value.null, Value.null, Value.null, Value.null, Value.int 0]))]) [0] rfl
  have hD := hD.sub (ws' := [(pq, .inr (6, [Value.null, Value.null, Value.null, Value.null, Value.null, Value.int 0]))]) [0] (by decide) rfl
  have hK := hK.sub (tys' := []) [] rfl
  refine va_putF (D := (dC, dI)) (ci := 6) (v := Value.ref q_2) (ty := .array .int) (C := kR_P) (T := kT_P) (N := 6) hx hb hg kin_P kt_P kty_P knm_P hown hK hP hD hS 0 rfl rfl 0 (by decide) (hg _ tw_59) (fun _ h9 => h9) rfl hin rfl (by decide +kernel) rfl rfl (Nat.le_of_ble_eq_true rfl) d_P_init_10 (fun H_3 lo_4 hP hD hS => ?_)
  have hP : va_P (dC, dI) kcl [(pq, .inr (6, [Value.ref q_2, Value.null, Value.null, Value.null, Value.null, Value.int 0]))] H_3 := hP
  have hD : va_D A [(pq, .inr (6, [Value.ref q_2, Value.null, Value.null, Value.null, Value.null, Value.int 0]))] := hD
  refine lv_aload_n hx hb d_P_init_13 rfl (lv_at hl 0 rfl) ?_
  refine lv_sipush (v := 784) hx hb d_P_init_14 (by decide) ?_
  refine va_newa (atype := .int) (ty := .int) (a0 := (784, .inl (fun _ => 0))) (N' := 784) hx hb (hg _ tw_50) rfl hK hP hD hS hA (fun _ => rfl) (by decide) (by decide +kernel) (by decide) (Nat.le_of_ble_eq_true rfl) (Nat.le_of_ble_eq_true rfl) d_P_init_17 (fun q_6 cq_6 H_5 hK hP hD hS => ?_)
  have hP := hP.sub (ws' := [(pq, .inr (6, [Value.ref q_2, Value.null, Value.null, Value.null, Value.null, Value.int 0]))]) [0] rfl
  have hD := hD.sub (ws' := [(pq, .inr (6, [Value.ref q_2, Value.null, Value.null, Value.null, Value.null, Value.int 0]))]) [0] (by decide) rfl
  have hK := hK.sub (tys' := []) [] rfl
  refine va_putF (D := (dC, dI)) (ci := 6) (v := Value.ref q_6) (ty := .array .int) (C := kR_P) (T := kT_P) (N := 6) hx hb hg kin_P kt_P kty_P knm_P hown hK hP hD hS 0 rfl rfl 1 (by decide) (hg _ tw_60) (fun _ h9 => h9) rfl hin rfl (by decide +kernel) rfl rfl (Nat.le_of_ble_eq_true rfl) d_P_init_19 (fun H_7 lo_8 hP hD hS => ?_)
  have hP : va_P (dC, dI) kcl [(pq, .inr (6, [Value.ref q_2, Value.ref q_6, Value.null, Value.null, Value.null, Value.int 0]))] H_7 := hP
  have hD : va_D A [(pq, .inr (6, [Value.ref q_2, Value.ref q_6, Value.null, Value.null, Value.null, Value.int 0]))] := hD
  refine lv_aload_n hx hb d_P_init_22 rfl (lv_at hl 0 rfl) ?_
  refine lv_sipush (v := 784) hx hb d_P_init_23 (by decide) ?_
  refine va_newa (atype := .int) (ty := .int) (a0 := (784, .inl (fun _ => 0))) (N' := 784) hx hb (hg _ tw_50) rfl hK hP hD hS hA (fun _ => rfl) (by decide) (by decide +kernel) (by decide) (Nat.le_of_ble_eq_true rfl) (Nat.le_of_ble_eq_true rfl) d_P_init_26 (fun q_10 cq_10 H_9 hK hP hD hS => ?_)
  have hP := hP.sub (ws' := [(pq, .inr (6, [Value.ref q_2, Value.ref q_6, Value.null, Value.null, Value.null, Value.int 0]))]) [0] rfl
  have hD := hD.sub (ws' := [(pq, .inr (6, [Value.ref q_2, Value.ref q_6, Value.null, Value.null, Value.null, Value.int 0]))]) [0] (by decide) rfl
  have hK := hK.sub (tys' := []) [] rfl
  refine va_putF (D := (dC, dI)) (ci := 6) (v := Value.ref q_10) (ty := .array .int) (C := kR_P) (T := kT_P) (N := 6) hx hb hg kin_P kt_P kty_P knm_P hown hK hP hD hS 0 rfl rfl 2 (by decide) (hg _ tw_61) (fun _ h9 => h9) rfl hin rfl (by decide +kernel) rfl rfl (Nat.le_of_ble_eq_true rfl) d_P_init_28 (fun H_11 lo_12 hP hD hS => ?_)
  have hP : va_P (dC, dI) kcl [(pq, .inr (6, [Value.ref q_2, Value.ref q_6, Value.ref q_10, Value.null, Value.null, Value.int 0]))] H_11 := hP
  have hD : va_D A [(pq, .inr (6, [Value.ref q_2, Value.ref q_6, Value.ref q_10, Value.null, Value.null, Value.int 0]))] := hD
  refine lv_aload_n hx hb d_P_init_31 rfl (lv_at hl 0 rfl) ?_
  refine lv_bipush (v := 12) hx hb d_P_init_32 (by decide) ?_
  refine va_newa (atype := .int) (ty := .int) (a0 := (12, .inl (fun _ => 0))) (N' := 12) hx hb (hg _ tw_50) rfl hK hP hD hS hA (fun _ => rfl) (by decide) (by decide +kernel) (by decide) (Nat.le_of_ble_eq_true rfl) (Nat.le_of_ble_eq_true rfl) d_P_init_34 (fun q_14 cq_14 H_13 hK hP hD hS => ?_)
  have hP := hP.sub (ws' := [(pq, .inr (6, [Value.ref q_2, Value.ref q_6, Value.ref q_10, Value.null, Value.null, Value.int 0]))]) [0] rfl
  have hD := hD.sub (ws' := [(pq, .inr (6, [Value.ref q_2, Value.ref q_6, Value.ref q_10, Value.null, Value.null, Value.int 0]))]) [0] (by decide) rfl
  have hK := hK.sub (tys' := []) [] rfl
  refine va_putF (D := (dC, dI)) (ci := 6) (v := Value.ref q_14) (ty := .array .int) (C := kR_P) (T := kT_P) (N := 6) hx hb hg kin_P kt_P kty_P knm_P hown hK hP hD hS 0 rfl rfl 3 (by decide) (hg _ tw_62) (fun _ h9 => h9) rfl hin rfl (by decide +kernel) rfl rfl (Nat.le_of_ble_eq_true rfl) d_P_init_36 (fun H_15 lo_16 hP hD hS => ?_)
  have hP : va_P (dC, dI) kcl [(pq, .inr (6, [Value.ref q_2, Value.ref q_6, Value.ref q_10, Value.ref q_14, Value.null, Value.int 0]))] H_15 := hP
  have hD : va_D A [(pq, .inr (6, [Value.ref q_2, Value.ref q_6, Value.ref q_10, Value.ref q_14, Value.null, Value.int 0]))] := hD
  refine lv_aload_n hx hb d_P_init_39 rfl (lv_at hl 0 rfl) ?_
  refine va_new (ci := 7) (fs := [Value.int 0, Value.null, Value.null]) (C := kR_U) (T := kT_U) (N := 3) hx hb hg kin_U kt_U kty_U hown (hg _ tw_57) (hg _ tw_35) (hg _ tw_3) hK hP hD hS hA rfl kdf_U (Nat.le_of_ble_eq_true rfl) (Nat.le_of_ble_eq_true rfl) d_P_init_40 (fun bq H_17 hP hD hS => ?_)
  have hP : va_P (dC, dI) kcl [(pq, .inr (6, [Value.ref q_2, Value.ref q_6, Value.ref q_10, Value.ref q_14, Value.null, Value.int 0])), (bq, .inr (7, [Value.int 0, Value.null, Value.null]))] H_17 := hP
  have hD : va_D A [(pq, .inr (6, [Value.ref q_2, Value.ref q_6, Value.ref q_10, Value.ref q_14, Value.null, Value.int 0])), (bq, .inr (7, [Value.int 0, Value.null, Value.null]))] := hD
  refine lv_dup hx hb d_P_init_43 rfl ?_
  refine lv_bipush (v := 32) hx hb d_P_init_44 (by decide) ?_
  refine lv_sipush (v := 768) hx hb d_P_init_46 (by decide) ?_
  have hPc := hP.sub (ws' := [(bq, .inr (7, [Value.int 0, Value.null, Value.null]))]) [1] rfl
  have hKc := hK.sub (tys' := []) [] rfl
  have hDc := hD.sub (ws' := [(bq, .inr (7, [Value.int 0, Value.null, Value.null]))]) [1] (by decide) rfl
  have hFc := va_free (wc := [(bq, .inr (7, [Value.int 0, Value.null, Value.null]))]) hD hS hA [1] rfl
  refine va_callv (va_runI (As := [Value.int 32, Value.int 768]) (rest := [Value.ref bq, Value.ref pq]) ⟨hx, hb, hml, hown, hg⟩ (c_U_init_32 l dC dI H_17.size bq) (cwI 2 hg (gw_gi cin_U_init) rfl rfl rfl (hg _ tw_3) (hg _ tw_58) (hg _ tw_37) rfl (by decide +kernel) ⟨Nat.le_of_ble_eq_true rfl, Nat.le_of_ble_eq_true rfl⟩) ⟨fun a U g mk q => by obtain ⟨q0, q1, qP, qK, qD⟩ := q; exact ⟨q0, q1, qP, va_K.moved (u := U) (U := U.calling g mk a) (Vm.Alike.refl U.vm) qK, qD⟩, fun U hU hW => ⟨rfl, by rw [hU], by rw [hU]; exact hPc, va_K.moved hW.alike hKc, hDc.weaken (fun _ _ _ _ => trivial)⟩⟩ rfl rfl hl.1 rfl (lv_room (Nat.le_of_ble_eq_true rfl)) d_P_init_49 ⟨Nat.le_of_ble_eq_true rfl, Nat.le_of_ble_eq_true rfl⟩) hS (fun q _ h => hFc q h) hFc (fun u_k_18 t_k_18 H_19 l_k_18 ht hvm hw_k_18 hB hz1 hk1 hS => ?_)
  obtain ⟨hP, hD⟩ := tx_rest (wc := [(bq, .inr (7, [Value.int 0, Value.null, Value.null]))]) (wr := [(pq, .inr (6, [Value.ref q_2, Value.ref q_6, Value.ref q_10, Value.ref q_14, Value.null, Value.int 0]))]) hP hD [1] [0] rfl rfl (by decide) (by decide) hk1 hFc
  have hK := hK.sub (tys' := []) [] rfl
  refine va_putF (D := (dC, dI)) (ci := 6) (v := Value.ref bq) (ty := .object "TreeMatcher$Groups") (C := kR_P) (T := kT_P) (N := 6) hx hb hg kin_P kt_P kty_P knm_P hown hK hP hD hS 0 rfl rfl 4 (by decide) (hg _ tw_63) (fun _ h9 => h9) rfl hin rfl (by decide +kernel) rfl rfl (Nat.le_of_ble_eq_true rfl) d_P_init_52 (fun H_20 lo_21 hP hD hS => ?_)
  have hP : va_P (dC, dI) kcl [(pq, .inr (6, [Value.ref q_2, Value.ref q_6, Value.ref q_10, Value.ref q_14, Value.ref bq, Value.int 0]))] H_20 := hP
  have hD : va_D A [(pq, .inr (6, [Value.ref q_2, Value.ref q_6, Value.ref q_10, Value.ref q_14, Value.ref bq, Value.int 0]))] := hD
  refine lv_aload_n hx hb d_P_init_55 rfl (lv_at hl 0 rfl) ?_
  refine lv_bipush (v := 16) hx hb d_P_init_56 (by decide) ?_
  refine va_put (D := (dC, dI)) (ci := 6) (v := Value.int 16) (ty := .int) (C := kR_P) (T := kT_P) (N := 6) hx hb hg kin_P kt_P kty_P knm_P hown hK hP hD hS 0 rfl rfl 5 (by decide) (hg _ tw_64) (fun _ h9 => h9) rfl (by decide +kernel) rfl rfl (Nat.le_of_ble_eq_true rfl) d_P_init_58 (fun H_22 lo_23 hP hD hS => ?_)
  have hP : va_P (dC, dI) kcl [(pq, .inr (6, [Value.ref q_2, Value.ref q_6, Value.ref q_10, Value.ref q_14, Value.ref bq, Value.int 16]))] H_22 := hP
  have hD : va_D A [(pq, .inr (6, [Value.ref q_2, Value.ref q_6, Value.ref q_10, Value.ref q_14, Value.ref bq, Value.int 16]))] := hD
  have hP9 := hP.sub (ws' := [(pq, .inr (6, [Value.ref q_2, Value.ref q_6, Value.ref q_10, Value.ref q_14, Value.ref bq, Value.int 16]))]) [0] rfl
  have hD9 := hD.sub (ws' := [(pq, .inr (6, [Value.ref q_2, Value.ref q_6, Value.ref q_10, Value.ref q_14, Value.ref bq, Value.int 16]))]) [0] (by decide) rfl
  have hK9 := hK.sub (tys' := []) [] rfl
  exact W.vret hx hb hr (fun t ht hW => ⟨⟨(), rfl, trivial, ⟨bq, (fun i => List.getD [Value.ref q_2, Value.ref q_6, Value.ref q_10, Value.ref q_14, Value.ref bq, Value.int (16 : Int32)] i Value.null), by rw [ht]; exact hP9, va_K.moved hW.alike hK9, hD9⟩⟩, hS.F ht⟩) hS.2.2 d_P_init_61
