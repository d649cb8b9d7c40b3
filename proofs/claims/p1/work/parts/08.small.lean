set_option maxRecDepth 100000 in
theorem tw_1 : (Jvm.Cond.initialized "TreeMatcher") ∈ gw := gw_of (List.mem_of_getElem? (i := 1) rfl) rfl
set_option maxRecDepth 100000 in
theorem tw_2 : (Jvm.Cond.initialized "TreeMatcher$Grammar") ∈ gw := gw_of (List.mem_of_getElem? (i := 2) rfl) rfl
set_option maxRecDepth 100000 in
theorem tw_4 : (Jvm.Cond.initialized "TreeMatcher$Parts") ∈ gw := gw_of (List.mem_of_getElem? (i := 4) rfl) rfl
set_option maxRecDepth 100000 in
theorem tw_8 : (Jvm.Cond.initialized "TreeMatcher$Vectors") ∈ gw := gw_of (List.mem_of_getElem? (i := 8) rfl) rfl
set_option maxRecDepth 100000 in
theorem tw_81 : (Jvm.Cond.fieldLink "TreeMatcher$Grammar" (9 : Nat) "TreeMatcher$Grammar" "kids" "[I") ∈ gw := gw_of (List.mem_of_getElem? (i := 81) rfl) rfl
set_option maxRecDepth 100000 in
theorem tw_83 : (Jvm.Cond.fieldLink "TreeMatcher$Grammar" (19 : Nat) "TreeMatcher$Grammar" "hand" "[I") ∈ gw := gw_of (List.mem_of_getElem? (i := 83) rfl) rfl
set_option maxRecDepth 100000 in
theorem tw_94 : (Jvm.Cond.fieldLink "TreeMatcher$Grammar" (62 : Nat) "TreeMatcher$Grammar" "parts" "LTreeMatcher$Parts;") ∈ gw := gw_of (List.mem_of_getElem? (i := 94) rfl) rfl
set_option maxRecDepth 100000 in
theorem tw_202 : (Jvm.Cond.fieldLink "TreeMatcher$Forest" (65 : Nat) "TreeMatcher$Forest" "vectors" "LTreeMatcher$Vectors;") ∈ gw := gw_of (List.mem_of_getElem? (i := 202) rfl) rfl
set_option maxRecDepth 100000 in
theorem tw_270 : (Jvm.Cond.fieldLink "TreeMatcher$Tally" (18 : Nat) "TreeMatcher$Tally" "grammar" "LTreeMatcher$Grammar;") ∈ gw := gw_of (List.mem_of_getElem? (i := 270) rfl) rfl
set_option maxRecDepth 100000 in
theorem tw_271 : (Jvm.Cond.fieldLink "TreeMatcher$Tally" (27 : Nat) "TreeMatcher$Tally" "vectors" "LTreeMatcher$Vectors;") ∈ gw := gw_of (List.mem_of_getElem? (i := 271) rfl) rfl
set_option maxRecDepth 100000 in
theorem tw_272 : (Jvm.Cond.fieldLink "TreeMatcher$Tally" (9 : Nat) "TreeMatcher$Tally" "operatorsThen" "I") ∈ gw := gw_of (List.mem_of_getElem? (i := 272) rfl) rfl
set_option maxRecDepth 100000 in
theorem tw_273 : (Jvm.Cond.fieldLink "TreeMatcher$Tally" (15 : Nat) "TreeMatcher$Tally" "rulesThen" "I") ∈ gw := gw_of (List.mem_of_getElem? (i := 273) rfl) rfl
set_option maxRecDepth 100000 in
theorem tw_303 : (Jvm.Cond.code ({ cls := "TreeMatcher$Covering", name := "forget", desc := "()V" } : Jvm.MethodName) prog_2_method_4_code (1 : Nat) (Option.none : Option Jvm.ClassFile.FieldType)) ∈ gw := gw_of (List.mem_of_getElem? (i := 303) rfl) rfl
set_option maxRecDepth 100000 in
theorem tw_307 : (Jvm.Cond.code ({ cls := "TreeMatcher$Forest", name := "forget", desc := "()I" } : Jvm.MethodName) prog_3_method_14_code (2 : Nat) (Option.some Jvm.ClassFile.FieldType.int)) ∈ gw := gw_of (List.mem_of_getElem? (i := 307) rfl) rfl
set_option maxRecDepth 100000 in
theorem tw_308 : (Jvm.Cond.methodLink "TreeMatcher$Forest" (144 : Nat) ({ cls := "TreeMatcher$Vectors", name := "forget", desc := "()V" } : Jvm.MethodName)) ∈ gw := gw_of (List.mem_of_getElem? (i := 308) rfl) rfl
set_option maxRecDepth 100000 in
theorem tw_309 : (Jvm.Cond.instanceMethod ({ cls := "TreeMatcher$Vectors", name := "forget", desc := "()V" } : Jvm.MethodName)) ∈ gw := gw_of (List.mem_of_getElem? (i := 309) rfl) rfl
set_option maxRecDepth 100000 in
theorem tw_310 : (Jvm.Cond.selects "TreeMatcher$Vectors" ({ cls := "TreeMatcher$Vectors", name := "forget", desc := "()V" } : Jvm.MethodName) ({ cls := "TreeMatcher$Vectors", name := "forget", desc := "()V" } : Jvm.MethodName)) ∈ gw := gw_of (List.mem_of_getElem? (i := 310) rfl) rfl
set_option maxRecDepth 100000 in
theorem tw_311 : (Jvm.Cond.code ({ cls := "TreeMatcher$Vectors", name := "forget", desc := "()V" } : Jvm.MethodName) prog_9_method_3_code (1 : Nat) (Option.none : Option Jvm.ClassFile.FieldType)) ∈ gw := gw_of (List.mem_of_getElem? (i := 311) rfl) rfl
set_option maxRecDepth 100000 in
theorem tw_322 : (Jvm.Cond.static ({ cls := "TreeMatcher", name := "isWithin", desc := "(II)Z" } : Jvm.MethodName)) ∈ gw := gw_of (List.mem_of_getElem? (i := 322) rfl) rfl
set_option maxRecDepth 100000 in
theorem tw_395 : (Jvm.Cond.code ({ cls := "TreeMatcher$Grammar", name := "hasOperator", desc := "(I)Z" } : Jvm.MethodName) prog_4_method_2_code (2 : Nat) (Option.some Jvm.ClassFile.FieldType.boolean)) ∈ gw := gw_of (List.mem_of_getElem? (i := 395) rfl) rfl
set_option maxRecDepth 100000 in
theorem tw_416 : (Jvm.Cond.code ({ cls := "TreeMatcher$Grammar", name := "addOperator", desc := "(II)I" } : Jvm.MethodName) prog_4_method_3_code (3 : Nat) (Option.some Jvm.ClassFile.FieldType.int)) ∈ gw := gw_of (List.mem_of_getElem? (i := 416) rfl) rfl
set_option maxRecDepth 100000 in
theorem tw_433 : (Jvm.Cond.code ({ cls := "TreeMatcher$Grammar", name := "addElement", desc := "(I)I" } : Jvm.MethodName) prog_4_method_6_code (2 : Nat) (Option.some Jvm.ClassFile.FieldType.int)) ∈ gw := gw_of (List.mem_of_getElem? (i := 433) rfl) rfl
set_option maxRecDepth 100000 in
theorem tw_442 : (Jvm.Cond.instanceMethod ({ cls := "TreeMatcher$Grammar", name := "ruleCount", desc := "()I" } : Jvm.MethodName)) ∈ gw := gw_of (List.mem_of_getElem? (i := 442) rfl) rfl
set_option maxRecDepth 100000 in
theorem tw_443 : (Jvm.Cond.selects "TreeMatcher$Grammar" ({ cls := "TreeMatcher$Grammar", name := "ruleCount", desc := "()I" } : Jvm.MethodName) ({ cls := "TreeMatcher$Grammar", name := "ruleCount", desc := "()I" } : Jvm.MethodName)) ∈ gw := gw_of (List.mem_of_getElem? (i := 443) rfl) rfl
set_option maxRecDepth 100000 in
theorem tw_453 : (Jvm.Cond.code ({ cls := "TreeMatcher$Grammar", name := "handIsPattern", desc := "()Z" } : Jvm.MethodName) prog_4_method_9_code (4 : Nat) (Option.some Jvm.ClassFile.FieldType.boolean)) ∈ gw := gw_of (List.mem_of_getElem? (i := 453) rfl) rfl
set_option maxRecDepth 100000 in
theorem tw_458 : (Jvm.Cond.code ({ cls := "TreeMatcher$Grammar", name := "dropHand", desc := "()V" } : Jvm.MethodName) prog_4_method_8_code (1 : Nat) (Option.none : Option Jvm.ClassFile.FieldType)) ∈ gw := gw_of (List.mem_of_getElem? (i := 458) rfl) rfl
set_option maxRecDepth 100000 in
theorem tw_568 : (Jvm.Cond.instanceMethod ({ cls := "TreeMatcher$Parts", name := "size", desc := "()I" } : Jvm.MethodName)) ∈ gw := gw_of (List.mem_of_getElem? (i := 568) rfl) rfl
set_option maxRecDepth 100000 in
theorem tw_569 : (Jvm.Cond.selects "TreeMatcher$Parts" ({ cls := "TreeMatcher$Parts", name := "size", desc := "()I" } : Jvm.MethodName) ({ cls := "TreeMatcher$Parts", name := "size", desc := "()I" } : Jvm.MethodName)) ∈ gw := gw_of (List.mem_of_getElem? (i := 569) rfl) rfl
set_option maxRecDepth 100000 in
theorem tw_761 : (Jvm.Cond.code ({ cls := "TreeMatcher$Tally", name := "refresh", desc := "()V" } : Jvm.MethodName) prog_8_method_3_code (3 : Nat) (Option.none : Option Jvm.ClassFile.FieldType)) ∈ gw := gw_of (List.mem_of_getElem? (i := 761) rfl) rfl
set_option maxRecDepth 100000 in
theorem tw_762 : (Jvm.Cond.methodLink "TreeMatcher$Tally" (35 : Nat) ({ cls := "TreeMatcher$Grammar", name := "operatorCount", desc := "()I" } : Jvm.MethodName)) ∈ gw := gw_of (List.mem_of_getElem? (i := 762) rfl) rfl
set_option maxRecDepth 100000 in
theorem tw_763 : (Jvm.Cond.instanceMethod ({ cls := "TreeMatcher$Grammar", name := "operatorCount", desc := "()I" } : Jvm.MethodName)) ∈ gw := gw_of (List.mem_of_getElem? (i := 763) rfl) rfl
set_option maxRecDepth 100000 in
theorem tw_764 : (Jvm.Cond.selects "TreeMatcher$Grammar" ({ cls := "TreeMatcher$Grammar", name := "operatorCount", desc := "()I" } : Jvm.MethodName) ({ cls := "TreeMatcher$Grammar", name := "operatorCount", desc := "()I" } : Jvm.MethodName)) ∈ gw := gw_of (List.mem_of_getElem? (i := 764) rfl) rfl
set_option maxRecDepth 100000 in
theorem tw_766 : (Jvm.Cond.methodLink "TreeMatcher$Tally" (40 : Nat) ({ cls := "TreeMatcher$Grammar", name := "ruleCount", desc := "()I" } : Jvm.MethodName)) ∈ gw := gw_of (List.mem_of_getElem? (i := 766) rfl) rfl
set_option maxRecDepth 100000 in
theorem tw_770 : (Jvm.Cond.methodLink "TreeMatcher$Tally" (31 : Nat) ({ cls := "TreeMatcher$Vectors", name := "size", desc := "()I" } : Jvm.MethodName)) ∈ gw := gw_of (List.mem_of_getElem? (i := 770) rfl) rfl
set_option maxRecDepth 100000 in
theorem tw_771 : (Jvm.Cond.instanceMethod ({ cls := "TreeMatcher$Vectors", name := "size", desc := "()I" } : Jvm.MethodName)) ∈ gw := gw_of (List.mem_of_getElem? (i := 771) rfl) rfl
set_option maxRecDepth 100000 in
theorem tw_772 : (Jvm.Cond.selects "TreeMatcher$Vectors" ({ cls := "TreeMatcher$Vectors", name := "size", desc := "()I" } : Jvm.MethodName) ({ cls := "TreeMatcher$Vectors", name := "size", desc := "()I" } : Jvm.MethodName)) ∈ gw := gw_of (List.mem_of_getElem? (i := 772) rfl) rfl
set_option maxRecDepth 100000 in
theorem tw_781 : (Jvm.Cond.code ({ cls := "TreeMatcher$Tally", name := "size", desc := "()I" } : Jvm.MethodName) prog_8_method_2_code (1 : Nat) (Option.some Jvm.ClassFile.FieldType.int)) ∈ gw := gw_of (List.mem_of_getElem? (i := 781) rfl) rfl
set_option maxRecDepth 100000 in
theorem tw_806 : (Jvm.Cond.code ({ cls := "TreeMatcher$Grammar", name := "partCount", desc := "()I" } : Jvm.MethodName) prog_4_method_20_code (1 : Nat) (Option.some Jvm.ClassFile.FieldType.int)) ∈ gw := gw_of (List.mem_of_getElem? (i := 806) rfl) rfl
set_option maxRecDepth 100000 in
theorem tw_807 : (Jvm.Cond.methodLink "TreeMatcher$Grammar" (100 : Nat) ({ cls := "TreeMatcher$Parts", name := "size", desc := "()I" } : Jvm.MethodName)) ∈ gw := gw_of (List.mem_of_getElem? (i := 807) rfl) rfl
abbrev b_C_forget : ByteArray := prog_2_method_4_code
def y_C_forget : MethodName := ⟨"TreeMatcher$Covering", "forget", "()V"⟩
def ws_C_forget : List Cond := Cond.code y_C_forget b_C_forget 1 (Option.none : Option Jvm.ClassFile.FieldType) :: gw
theorem cin_C_forget : Cond.code y_C_forget b_C_forget 1 (Option.none : Option Jvm.ClassFile.FieldType) ∈ gw := tw_303
abbrev b_F_forget : ByteArray := prog_3_method_14_code
def y_F_forget : MethodName := ⟨"TreeMatcher$Forest", "forget", "()I"⟩
def ws_F_forget : List Cond := Cond.code y_F_forget b_F_forget 2 (Option.some Jvm.ClassFile.FieldType.int) :: gw
theorem cin_F_forget : Cond.code y_F_forget b_F_forget 2 (Option.some Jvm.ClassFile.FieldType.int) ∈ gw := tw_307
abbrev b_V_forget : ByteArray := prog_9_method_3_code
def y_V_forget : MethodName := ⟨"TreeMatcher$Vectors", "forget", "()V"⟩
def ws_V_forget : List Cond := Cond.code y_V_forget b_V_forget 1 (Option.none : Option Jvm.ClassFile.FieldType) :: gw
theorem cin_V_forget : Cond.code y_V_forget b_V_forget 1 (Option.none : Option Jvm.ClassFile.FieldType) ∈ gw := tw_311
abbrev b_G_hasOperator : ByteArray := prog_4_method_2_code
def y_G_hasOperator : MethodName := ⟨"TreeMatcher$Grammar", "hasOperator", "(I)Z"⟩
def ws_G_hasOperator : List Cond := Cond.code y_G_hasOperator b_G_hasOperator 2 (Option.some Jvm.ClassFile.FieldType.boolean) :: gw
theorem cin_G_hasOperator : Cond.code y_G_hasOperator b_G_hasOperator 2 (Option.some Jvm.ClassFile.FieldType.boolean) ∈ gw := tw_395
abbrev b_G_addOperator : ByteArray := prog_4_method_3_code
def y_G_addOperator : MethodName := ⟨"TreeMatcher$Grammar", "addOperator", "(II)I"⟩
def ws_G_addOperator : List Cond := Cond.code y_G_addOperator b_G_addOperator 3 (Option.some Jvm.ClassFile.FieldType.int) :: gw
theorem cin_G_addOperator : Cond.code y_G_addOperator b_G_addOperator 3 (Option.some Jvm.ClassFile.FieldType.int) ∈ gw := tw_416
abbrev b_G_addElement : ByteArray := prog_4_method_6_code
def y_G_addElement : MethodName := ⟨"TreeMatcher$Grammar", "addElement", "(I)I"⟩
def ws_G_addElement : List Cond := Cond.code y_G_addElement b_G_addElement 2 (Option.some Jvm.ClassFile.FieldType.int) :: gw
theorem cin_G_addElement : Cond.code y_G_addElement b_G_addElement 2 (Option.some Jvm.ClassFile.FieldType.int) ∈ gw := tw_433
abbrev b_G_handIsPattern : ByteArray := prog_4_method_9_code
def y_G_handIsPattern : MethodName := ⟨"TreeMatcher$Grammar", "handIsPattern", "()Z"⟩
def ws_G_handIsPattern : List Cond := Cond.code y_G_handIsPattern b_G_handIsPattern 4 (Option.some Jvm.ClassFile.FieldType.boolean) :: gw
theorem cin_G_handIsPattern : Cond.code y_G_handIsPattern b_G_handIsPattern 4 (Option.some Jvm.ClassFile.FieldType.boolean) ∈ gw := tw_453
abbrev b_G_dropHand : ByteArray := prog_4_method_8_code
def y_G_dropHand : MethodName := ⟨"TreeMatcher$Grammar", "dropHand", "()V"⟩
def ws_G_dropHand : List Cond := Cond.code y_G_dropHand b_G_dropHand 1 (Option.none : Option Jvm.ClassFile.FieldType) :: gw
theorem cin_G_dropHand : Cond.code y_G_dropHand b_G_dropHand 1 (Option.none : Option Jvm.ClassFile.FieldType) ∈ gw := tw_458
abbrev b_Y_refresh : ByteArray := prog_8_method_3_code
def y_Y_refresh : MethodName := ⟨"TreeMatcher$Tally", "refresh", "()V"⟩
def ws_Y_refresh : List Cond := Cond.code y_Y_refresh b_Y_refresh 3 (Option.none : Option Jvm.ClassFile.FieldType) :: gw
theorem cin_Y_refresh : Cond.code y_Y_refresh b_Y_refresh 3 (Option.none : Option Jvm.ClassFile.FieldType) ∈ gw := tw_761
abbrev b_Y_size : ByteArray := prog_8_method_2_code
def y_Y_size : MethodName := ⟨"TreeMatcher$Tally", "size", "()I"⟩
def ws_Y_size : List Cond := Cond.code y_Y_size b_Y_size 1 (Option.some Jvm.ClassFile.FieldType.int) :: gw
theorem cin_Y_size : Cond.code y_Y_size b_Y_size 1 (Option.some Jvm.ClassFile.FieldType.int) ∈ gw := tw_781
abbrev b_G_partCount : ByteArray := prog_4_method_20_code
def y_G_partCount : MethodName := ⟨"TreeMatcher$Grammar", "partCount", "()I"⟩
def ws_G_partCount : List Cond := Cond.code y_G_partCount b_G_partCount 1 (Option.some Jvm.ClassFile.FieldType.int) :: gw
theorem cin_G_partCount : Cond.code y_G_partCount b_G_partCount 1 (Option.some Jvm.ClassFile.FieldType.int) ∈ gw := tw_806
theorem d_C_forget_0 : decode b_C_forget 0 = .ok (.aload_n 0, 1) := by decide +kernel
theorem d_C_forget_1 : decode b_C_forget 1 = .ok (.iconst 0, 1) := by decide +kernel
theorem d_C_forget_2 : decode b_C_forget 2 = .ok (.putfield 25, 3) := by decide +kernel
theorem d_C_forget_5 : decode b_C_forget 5 = .ok (.return_, 1) := by decide +kernel
theorem d_F_forget_0 : decode b_F_forget 0 = .ok (.aload_n 0, 1) := by decide +kernel
theorem d_F_forget_1 : decode b_F_forget 1 = .ok (.getfield 37, 3) := by decide +kernel
theorem d_F_forget_4 : decode b_F_forget 4 = .ok (.istore_n 1, 1) := by decide +kernel
theorem d_F_forget_5 : decode b_F_forget 5 = .ok (.aload_n 0, 1) := by decide +kernel
theorem d_F_forget_6 : decode b_F_forget 6 = .ok (.iconst 0, 1) := by decide +kernel
theorem d_F_forget_7 : decode b_F_forget 7 = .ok (.putfield 37, 3) := by decide +kernel
theorem d_F_forget_10 : decode b_F_forget 10 = .ok (.aload_n 0, 1) := by decide +kernel
theorem d_F_forget_11 : decode b_F_forget 11 = .ok (.getfield 65, 3) := by decide +kernel
theorem d_F_forget_14 : decode b_F_forget 14 = .ok (.invokevirtual 144, 3) := by decide +kernel
theorem d_F_forget_17 : decode b_F_forget 17 = .ok (.iload_n 1, 1) := by decide +kernel
theorem d_F_forget_18 : decode b_F_forget 18 = .ok (.ireturn, 1) := by decide +kernel
theorem d_V_forget_0 : decode b_V_forget 0 = .ok (.aload_n 0, 1) := by decide +kernel
theorem d_V_forget_1 : decode b_V_forget 1 = .ok (.iconst 0, 1) := by decide +kernel
theorem d_V_forget_2 : decode b_V_forget 2 = .ok (.putfield 17, 3) := by decide +kernel
theorem d_V_forget_5 : decode b_V_forget 5 = .ok (.return_, 1) := by decide +kernel
theorem d_G_hasOperator_0 : decode b_G_hasOperator 0 = .ok (.iload_n 1, 1) := by decide +kernel
theorem d_G_hasOperator_1 : decode b_G_hasOperator 1 = .ok (.bipush 32, 2) := by decide +kernel
theorem d_G_hasOperator_3 : decode b_G_hasOperator 3 = .ok (.invokestatic 72, 3) := by decide +kernel
theorem d_G_hasOperator_6 : decode b_G_hasOperator 6 = .ok (.ifCond .eq 17, 3) := by decide +kernel
theorem d_G_hasOperator_9 : decode b_G_hasOperator 9 = .ok (.aload_n 0, 1) := by decide +kernel
theorem d_G_hasOperator_10 : decode b_G_hasOperator 10 = .ok (.getfield 9, 3) := by decide +kernel
theorem d_G_hasOperator_13 : decode b_G_hasOperator 13 = .ok (.iload_n 1, 1) := by decide +kernel
theorem d_G_hasOperator_14 : decode b_G_hasOperator 14 = .ok (.iaload, 1) := by decide +kernel
theorem d_G_hasOperator_15 : decode b_G_hasOperator 15 = .ok (.iconst (-1), 1) := by decide +kernel
theorem d_G_hasOperator_16 : decode b_G_hasOperator 16 = .ok (.if_icmp .eq 7, 3) := by decide +kernel
theorem d_G_hasOperator_23 : decode b_G_hasOperator 23 = .ok (.iconst 0, 1) := by decide +kernel
theorem d_G_hasOperator_24 : decode b_G_hasOperator 24 = .ok (.ireturn, 1) := by decide +kernel
theorem d_G_addOperator_0 : decode b_G_addOperator 0 = .ok (.aload_n 0, 1) := by decide +kernel
theorem d_G_addOperator_1 : decode b_G_addOperator 1 = .ok (.getfield 9, 3) := by decide +kernel
theorem d_G_addOperator_4 : decode b_G_addOperator 4 = .ok (.iload_n 1, 1) := by decide +kernel
theorem d_G_addOperator_5 : decode b_G_addOperator 5 = .ok (.iload_n 2, 1) := by decide +kernel
theorem d_G_addOperator_6 : decode b_G_addOperator 6 = .ok (.iastore, 1) := by decide +kernel
theorem d_G_addOperator_7 : decode b_G_addOperator 7 = .ok (.aload_n 0, 1) := by decide +kernel
theorem d_G_addOperator_8 : decode b_G_addOperator 8 = .ok (.dup, 1) := by decide +kernel
theorem d_G_addOperator_9 : decode b_G_addOperator 9 = .ok (.getfield 15, 3) := by decide +kernel
theorem d_G_addOperator_12 : decode b_G_addOperator 12 = .ok (.iconst 1, 1) := by decide +kernel
theorem d_G_addOperator_13 : decode b_G_addOperator 13 = .ok (.iadd, 1) := by decide +kernel
theorem d_G_addOperator_14 : decode b_G_addOperator 14 = .ok (.putfield 15, 3) := by decide +kernel
theorem d_G_addOperator_17 : decode b_G_addOperator 17 = .ok (.aload_n 0, 1) := by decide +kernel
theorem d_G_addOperator_18 : decode b_G_addOperator 18 = .ok (.getfield 15, 3) := by decide +kernel
theorem d_G_addOperator_21 : decode b_G_addOperator 21 = .ok (.ireturn, 1) := by decide +kernel
theorem d_G_addElement_0 : decode b_G_addElement 0 = .ok (.aload_n 0, 1) := by decide +kernel
theorem d_G_addElement_1 : decode b_G_addElement 1 = .ok (.getfield 19, 3) := by decide +kernel
theorem d_G_addElement_4 : decode b_G_addElement 4 = .ok (.aload_n 0, 1) := by decide +kernel
theorem d_G_addElement_5 : decode b_G_addElement 5 = .ok (.getfield 22, 3) := by decide +kernel
theorem d_G_addElement_8 : decode b_G_addElement 8 = .ok (.iload_n 1, 1) := by decide +kernel
theorem d_G_addElement_9 : decode b_G_addElement 9 = .ok (.iastore, 1) := by decide +kernel
theorem d_G_addElement_10 : decode b_G_addElement 10 = .ok (.aload_n 0, 1) := by decide +kernel
theorem d_G_addElement_11 : decode b_G_addElement 11 = .ok (.dup, 1) := by decide +kernel
theorem d_G_addElement_12 : decode b_G_addElement 12 = .ok (.getfield 22, 3) := by decide +kernel
theorem d_G_addElement_15 : decode b_G_addElement 15 = .ok (.iconst 1, 1) := by decide +kernel
theorem d_G_addElement_16 : decode b_G_addElement 16 = .ok (.iadd, 1) := by decide +kernel
theorem d_G_addElement_17 : decode b_G_addElement 17 = .ok (.putfield 22, 3) := by decide +kernel
theorem d_G_addElement_20 : decode b_G_addElement 20 = .ok (.aload_n 0, 1) := by decide +kernel
theorem d_G_addElement_21 : decode b_G_addElement 21 = .ok (.getfield 22, 3) := by decide +kernel
theorem d_G_addElement_24 : decode b_G_addElement 24 = .ok (.ireturn, 1) := by decide +kernel
theorem d_G_handIsPattern_0 : decode b_G_handIsPattern 0 = .ok (.iconst 1, 1) := by decide +kernel
theorem d_G_handIsPattern_1 : decode b_G_handIsPattern 1 = .ok (.istore_n 1, 1) := by decide +kernel
theorem d_G_handIsPattern_2 : decode b_G_handIsPattern 2 = .ok (.iconst 0, 1) := by decide +kernel
theorem d_G_handIsPattern_3 : decode b_G_handIsPattern 3 = .ok (.istore_n 2, 1) := by decide +kernel
theorem d_G_handIsPattern_4 : decode b_G_handIsPattern 4 = .ok (.iload_n 2, 1) := by decide +kernel
theorem d_G_handIsPattern_5 : decode b_G_handIsPattern 5 = .ok (.aload_n 0, 1) := by decide +kernel
theorem d_G_handIsPattern_6 : decode b_G_handIsPattern 6 = .ok (.getfield 22, 3) := by decide +kernel
theorem d_G_handIsPattern_9 : decode b_G_handIsPattern 9 = .ok (.if_icmp .ge 57, 3) := by decide +kernel
theorem d_G_handIsPattern_66 : decode b_G_handIsPattern 66 = .ok (.iload_n 1, 1) := by decide +kernel
theorem d_G_handIsPattern_67 : decode b_G_handIsPattern 67 = .ok (.ifCond .ne 7, 3) := by decide +kernel
theorem d_G_handIsPattern_74 : decode b_G_handIsPattern 74 = .ok (.iconst 0, 1) := by decide +kernel
theorem d_G_handIsPattern_75 : decode b_G_handIsPattern 75 = .ok (.ireturn, 1) := by decide +kernel
theorem d_G_dropHand_0 : decode b_G_dropHand 0 = .ok (.aload_n 0, 1) := by decide +kernel
theorem d_G_dropHand_1 : decode b_G_dropHand 1 = .ok (.iconst 0, 1) := by decide +kernel
theorem d_G_dropHand_2 : decode b_G_dropHand 2 = .ok (.putfield 22, 3) := by decide +kernel
theorem d_G_dropHand_5 : decode b_G_dropHand 5 = .ok (.return_, 1) := by decide +kernel
theorem d_Y_refresh_0 : decode b_Y_refresh 0 = .ok (.aload_n 0, 1) := by decide +kernel
theorem d_Y_refresh_1 : decode b_Y_refresh 1 = .ok (.getfield 9, 3) := by decide +kernel
theorem d_Y_refresh_4 : decode b_Y_refresh 4 = .ok (.aload_n 0, 1) := by decide +kernel
theorem d_Y_refresh_5 : decode b_Y_refresh 5 = .ok (.getfield 18, 3) := by decide +kernel
theorem d_Y_refresh_8 : decode b_Y_refresh 8 = .ok (.invokevirtual 35, 3) := by decide +kernel
theorem d_Y_refresh_11 : decode b_Y_refresh 11 = .ok (.if_icmp .ne 18, 3) := by decide +kernel
theorem d_Y_refresh_14 : decode b_Y_refresh 14 = .ok (.aload_n 0, 1) := by decide +kernel
theorem d_Y_refresh_15 : decode b_Y_refresh 15 = .ok (.getfield 15, 3) := by decide +kernel
theorem d_Y_refresh_18 : decode b_Y_refresh 18 = .ok (.aload_n 0, 1) := by decide +kernel
theorem d_Y_refresh_19 : decode b_Y_refresh 19 = .ok (.getfield 18, 3) := by decide +kernel
theorem d_Y_refresh_22 : decode b_Y_refresh 22 = .ok (.invokevirtual 40, 3) := by decide +kernel
theorem d_Y_refresh_25 : decode b_Y_refresh 25 = .ok (.if_icmp .ne 4, 3) := by decide +kernel
theorem d_Y_refresh_28 : decode b_Y_refresh 28 = .ok (.return_, 1) := by decide +kernel
theorem d_Y_size_0 : decode b_Y_size 0 = .ok (.aload_n 0, 1) := by decide +kernel
theorem d_Y_size_1 : decode b_Y_size 1 = .ok (.getfield 27, 3) := by decide +kernel
theorem d_Y_size_4 : decode b_Y_size 4 = .ok (.invokevirtual 31, 3) := by decide +kernel
theorem d_Y_size_7 : decode b_Y_size 7 = .ok (.ireturn, 1) := by decide +kernel
theorem d_G_partCount_0 : decode b_G_partCount 0 = .ok (.aload_n 0, 1) := by decide +kernel
theorem d_G_partCount_1 : decode b_G_partCount 1 = .ok (.getfield 62, 3) := by decide +kernel
theorem d_G_partCount_4 : decode b_G_partCount 4 = .ok (.invokevirtual 100, 3) := by decide +kernel
theorem d_G_partCount_7 : decode b_G_partCount 7 = .ok (.ireturn, 1) := by decide +kernel
theorem tx_if1 {P : Prop} [Decidable P] (h : ¬ (if P then (1 : Int32) else 0) = 0) : P := by
  by_cases hp : P
  · exact hp
  · rw [if_neg hp] at h; exact absurd rfl h
theorem tx_if0 {P : Prop} [Decidable P] (h : (if P then (1 : Int32) else 0) = 0) : ¬ P := by
  intro hp
  rw [if_pos hp] at h
  exact absurd h (by decide)
theorem tx_in32 {x : Int32} (h : 0 ≤ x ∧ x < 32) : vp_in x 32 := by
  refine vp_in_iff.mpr ⟨?_, ?_⟩
  · exact Int32.le_iff_toInt_le.mp h.1
  · exact Int32.lt_iff_toInt_lt.mp h.2
theorem tx_in32n {x : Int32} (h : 0 ≤ x ∧ x < 32) : x.toNatClampNeg < 32 := by
  obtain ⟨j, hj, rfl⟩ := vp_in_of (tx_in32 h) (by decide)
  rw [nI_clamp (by omega)]; exact hj
set_option maxHeartbeats 4000000 in
set_option maxRecDepth 100000 in
theorem c_G_partCount (l : Launch) (dC : Nat → ClassId) (dI : Nat → Nat → Nat) (sz : Nat) (g pq : Nat) (zg : Nat → Value) (zpq : Nat → Value) (v : Int32) : Met l y_G_partCount ws_G_partCount ({ frames := 1, cells := 0, slots := 0, locals := 20 }) (va_Pc [Value.ref g] (fun U => U.heap.size = sz ∧ va_P (dC, dI) kcl [(g, .inr (1, [(zg 0), (zg 1), (zg 2), (zg 3), (zg 4), (zg 5), (zg 6), (zg 7), (zg 8), (zg 9), (zg 10), (zg 11), (zg 12), Value.ref pq])), (pq, .inr (6, [(zpq 0), (zpq 1), (zpq 2), (zpq 3), (zpq 4), Value.int v]))] U.heap ∧ va_K (dC, dI) kcl [] U)) (va_Qi (fun (r : Int32) (_ : Unit) => r = v) (fun (_ : Unit) (_ : State) => True) (va_A [] sz)) 0 0 (va_A [] sz) := by
  refine Met.ofW (cc := b_G_partCount) (maxL := 1) (ret := (Option.some Jvm.ClassFile.FieldType.int)) (by decide) rfl ?_
  intro p e s m args below meth c s₁ B hml hv
  obtain ⟨rfl, hsz, hP, hK⟩ := hv
  have hx := B.exec
  have hb := B.bytes
  have hr := B.returns
  have hlocks := B.notSynchronized
  have hg : ∀ w ∈ gw, w.before _ s = true := fun w h => atoms_spec (ws := ws_G_partCount) B.pre w (List.mem_cons_of_mem _ h)
  have hown : s.vm.findClass "TreeMatcher$Grammar" = some m.cls := findClass_of_methodNamed B.named
  subst hsz
  have hA : ∀ q : Nat, s.heap.size ≤ q → va_A ([] : va_W) s.heap.size q := fun q h => Or.inr h
  generalize hAe : va_A ([] : va_W) s.heap.size = A at hA ⊢
  have hS : va_S A s.heap s.heap [] := va_S.rf
  have hl := lv_entry ([Value.ref g] : List Value) (n := 1) (Nat.le_of_ble_eq_true rfl)
  rw [lg_entry_eq]
  generalize (lg_sl ([Value.ref g] : List Value) ++ List.replicate (1 - (lg_sl ([Value.ref g] : List Value)).length) Slot.unset).toArray = ls at hl ⊢
  have hl : lv_has ls 1 [(0, Value.ref g)] := hl
  refine lv_aload_n hx hb d_G_partCount_0 rfl (lv_at hl 0 rfl) ?_
  refine va_get (D := (dC, dI)) (ci := 1) (v := Value.ref pq) (C := kR_G) (T := kT_G) (N := 14) hx hb hg kin_G hown hK hP 0 rfl rfl 13 (by decide) (hg _ tw_94) (fun _ h9 => h9) rfl d_G_partCount_1 ?_
  have hPc := hP.sub (ws' := [(pq, .inr (6, [(zpq 0), (zpq 1), (zpq 2), (zpq 3), (zpq 4), Value.int v]))]) [1] rfl
  have hKc := hK.sub (tys' := []) [] rfl
  refine va_calli (va_runV (As := []) (rest := []) ⟨hx, hb, hml, hown, hg⟩ (c_P_size l dC dI s.heap.size pq zpq v) (cwV 0 hg (gw_giV cin_P_size tw_807 tw_568 tw_569 tw_4) rfl rfl rfl (by decide +kernel) ⟨Nat.le_of_ble_eq_true rfl, Nat.le_of_ble_eq_true rfl⟩) ⟨fun a U g mk q => by obtain ⟨q0, q1, qP, qK⟩ := q; exact ⟨q0, q1, qP, va_K.moved (u := U) (U := U.calling g mk a) (Vm.Alike.refl U.vm) qK⟩, va_recv hKc hPc (ci := 6) (q0 := 0) rfl rfl, fun U hU hW => ⟨rfl, by rw [hU], by rw [hU]; exact hPc, va_K.moved hW.alike hKc⟩⟩ rfl rfl hl.1 rfl (lv_room (Nat.le_of_ble_eq_true rfl)) d_G_partCount_4 ⟨Nat.le_of_ble_eq_true rfl, Nat.le_of_ble_eq_true rfl⟩) hS (fun q h1 h => (tx_pA h1 h).elim) (tx_pF hS hA) (fun r_k_1 u_k_1 t_k_1 H_2 l_k_1 ht hvm hw_k_1 hB hz1 hk1 hS => ?_)
  have hw_k_1 : v = r_k_1 := Eq.symm hw_k_1
  subst hw_k_1
  have hP := tx_keep hP hk1
  exact W.iret (v := v) hx hb hr (fun t ht hW => ⟨⟨v, (), rfl, rfl, trivial⟩, hS.F ht⟩) hS.2.2 d_G_partCount_7
set_option maxHeartbeats 4000000 in
set_option maxRecDepth 100000 in
theorem c_Y_size (l : Launch) (dC : Nat → ClassId) (dI : Nat → Nat → Nat) (sz : Nat) (y v : Nat) (zy : Nat → Value) (zv : Nat → Value) (n : Int32) : Met l y_Y_size ws_Y_size ({ frames := 1, cells := 0, slots := 0, locals := 20 }) (va_Pc [Value.ref y] (fun U => U.heap.size = sz ∧ va_P (dC, dI) kcl [(y, .inr (4, [(zy 0), Value.ref v, (zy 2), (zy 3)])), (v, .inr (5, [(zv 0), (zv 1), (zv 2), (zv 3), (zv 4), (zv 5), (zv 6), Value.int n]))] U.heap ∧ va_K (dC, dI) kcl [] U)) (va_Qi (fun (r : Int32) (_ : Unit) => r = n) (fun (_ : Unit) (_ : State) => True) (va_A [] sz)) 0 0 (va_A [] sz) := by
  refine Met.ofW (cc := b_Y_size) (maxL := 1) (ret := (Option.some Jvm.ClassFile.FieldType.int)) (by decide) rfl ?_
  intro p e s m args below meth c s₁ B hml hv
  obtain ⟨rfl, hsz, hP, hK⟩ := hv
  have hx := B.exec
  have hb := B.bytes
  have hr := B.returns
  have hlocks := B.notSynchronized
  have hg : ∀ w ∈ gw, w.before _ s = true := fun w h => atoms_spec (ws := ws_Y_size) B.pre w (List.mem_cons_of_mem _ h)
  have hown : s.vm.findClass "TreeMatcher$Tally" = some m.cls := findClass_of_methodNamed B.named
  subst hsz
  have hA : ∀ q : Nat, s.heap.size ≤ q → va_A ([] : va_W) s.heap.size q := fun q h => Or.inr h
  generalize hAe : va_A ([] : va_W) s.heap.size = A at hA ⊢
  have hS : va_S A s.heap s.heap [] := va_S.rf
  have hl := lv_entry ([Value.ref y] : List Value) (n := 1) (Nat.le_of_ble_eq_true rfl)
  rw [lg_entry_eq]
  generalize (lg_sl ([Value.ref y] : List Value) ++ List.replicate (1 - (lg_sl ([Value.ref y] : List Value)).length) Slot.unset).toArray = ls at hl ⊢
  have hl : lv_has ls 1 [(0, Value.ref y)] := hl
  refine lv_aload_n hx hb d_Y_size_0 rfl (lv_at hl 0 rfl) ?_
  refine va_get (D := (dC, dI)) (ci := 4) (v := Value.ref v) (C := kR_Y) (T := kT_Y) (N := 4) hx hb hg kin_Y hown hK hP 0 rfl rfl 1 (by decide) (hg _ tw_271) (fun _ h9 => h9) rfl d_Y_size_1 ?_
  have hPc := hP.sub (ws' := [(v, .inr (5, [(zv 0), (zv 1), (zv 2), (zv 3), (zv 4), (zv 5), (zv 6), Value.int n]))]) [1] rfl
  have hKc := hK.sub (tys' := []) [] rfl
  refine va_calli (va_runV (As := []) (rest := []) ⟨hx, hb, hml, hown, hg⟩ (c_V_size l dC dI s.heap.size v zv n) (cwV 0 hg (gw_giV cin_V_size tw_770 tw_771 tw_772 tw_8) rfl rfl rfl (by decide +kernel) ⟨Nat.le_of_ble_eq_true rfl, Nat.le_of_ble_eq_true rfl⟩) ⟨fun a U g mk q => by obtain ⟨q0, q1, qP, qK⟩ := q; exact ⟨q0, q1, qP, va_K.moved (u := U) (U := U.calling g mk a) (Vm.Alike.refl U.vm) qK⟩, va_recv hKc hPc (ci := 5) (q0 := 0) rfl rfl, fun U hU hW => ⟨rfl, by rw [hU], by rw [hU]; exact hPc, va_K.moved hW.alike hKc⟩⟩ rfl rfl hl.1 rfl (lv_room (Nat.le_of_ble_eq_true rfl)) d_Y_size_4 ⟨Nat.le_of_ble_eq_true rfl, Nat.le_of_ble_eq_true rfl⟩) hS (fun q h1 h => (tx_pA h1 h).elim) (tx_pF hS hA) (fun r_k_1 u_k_1 t_k_1 H_2 l_k_1 ht hvm hw_k_1 hB hz1 hk1 hS => ?_)
  have hw_k_1 : n = r_k_1 := Eq.symm hw_k_1
  subst hw_k_1
  have hP := tx_keep hP hk1
  exact W.iret (v := n) hx hb hr (fun t ht hW => ⟨⟨n, (), rfl, rfl, trivial⟩, hS.F ht⟩) hS.2.2 d_Y_size_7
set_option maxHeartbeats 4000000 in
set_option maxRecDepth 100000 in
/-- no operator yet: false -/
theorem c_G_hasOperator (l : Launch) (dC : Nat → ClassId) (dI : Nat → Nat → Nat) (sz : Nat) (g kq : Nat) (cA : ClassId) (zg : Nat → Value) (f : Nat → Int32) (hf : ∀ j, j < 32 → f j = -1) (x : Int32) : Met l y_G_hasOperator ws_G_hasOperator ({ frames := 1, cells := 0, slots := 0, locals := 21 }) (va_Pc [Value.ref g, Value.int x] (fun U => U.heap.size = sz ∧ va_P (dC, dI) kcl [(g, .inr (1, [Value.ref kq, (zg 1), (zg 2), (zg 3), (zg 4), (zg 5), (zg 6), (zg 7), (zg 8), (zg 9), (zg 10), (zg 11), (zg 12), (zg 13)])), (kq, .inl (cA, 32, .inl f))] U.heap ∧ va_K (dC, dI) kcl [(cA, .int)] U ∧ tx_N U)) (va_Qi (fun (r : Int32) (_ : Unit) => r = 0) (fun (_ : Unit) (_ : State) => True) (va_A [] sz)) 0 0 (va_A [] sz) := by
  refine Met.ofW (cc := b_G_hasOperator) (maxL := 2) (ret := (Option.some Jvm.ClassFile.FieldType.boolean)) (by decide) rfl ?_
  intro p e s m args below meth c s₁ B hml hv
  obtain ⟨rfl, hsz, hP, hK, hG⟩ := hv
  have hx := B.exec
  have hb := B.bytes
  have hr := B.returns
  have hlocks := B.notSynchronized
  have hg : ∀ w ∈ gw, w.before _ s = true := fun w h => atoms_spec (ws := ws_G_hasOperator) B.pre w (List.mem_cons_of_mem _ h)
  have hown : s.vm.findClass "TreeMatcher$Grammar" = some m.cls := findClass_of_methodNamed B.named
  subst hsz
  have hA : ∀ q : Nat, s.heap.size ≤ q → va_A ([] : va_W) s.heap.size q := fun q h => Or.inr h
  generalize hAe : va_A ([] : va_W) s.heap.size = A at hA ⊢
  have hN : tx_N s := hG
  have hS : va_S A s.heap s.heap [] := va_S.rf
  have hl := lv_entry ([Value.ref g, Value.int x] : List Value) (n := 2) (Nat.le_of_ble_eq_true rfl)
  rw [lg_entry_eq]
  generalize (lg_sl ([Value.ref g, Value.int x] : List Value) ++ List.replicate (2 - (lg_sl ([Value.ref g, Value.int x] : List Value)).length) Slot.unset).toArray = ls at hl ⊢
  have hl : lv_has ls 2 [(0, Value.ref g), (1, Value.int x)] := hl
  refine lv_iload_n hx hb d_G_hasOperator_0 rfl (lv_at hl 1 rfl) ?_
  refine lv_bipush (v := 32) hx hb d_G_hasOperator_1 (by decide) ?_
  have hPc := hP.sub (ws' := []) [] rfl
  have hKc := hK.sub (tys' := []) [] rfl
  refine va_calli (va_runSN (As := [Value.int x, Value.int 32]) (rest := []) ⟨hx, hb, hml, hown, hg⟩ (c_M_isWithin l dC dI s.heap.size x 32) ⟨va_cnB 2 hg (gw_gi cin_M_isWithin) rfl rfl rfl (hN.2) (hg _ tw_1) (by decide +kernel) ⟨Nat.le_of_ble_eq_true rfl, Nat.le_of_ble_eq_true rfl⟩, hg _ tw_322, trivial⟩ ⟨fun a U g mk q => by obtain ⟨q0, q1, qP, qK⟩ := q; exact ⟨q0, q1, qP, va_K.moved (u := U) (U := U.calling g mk a) (Vm.Alike.refl U.vm) qK⟩, fun U hU hW => ⟨rfl, by rw [hU], by rw [hU]; exact hPc, va_K.moved hW.alike hKc⟩⟩ rfl rfl hl.1 rfl (lv_room (Nat.le_of_ble_eq_true rfl)) d_G_hasOperator_3 ⟨Nat.le_of_ble_eq_true rfl, Nat.le_of_ble_eq_true rfl⟩) hS (fun q h1 h => (tx_pA h1 h).elim) (tx_pF hS hA) (fun r_k_1 u_k_1 t_k_1 H_2 l_k_1 ht hvm hw_k_1 hB hz1 hk1 hS => ?_)
  have hw_k_1 : (if 0 ≤ x ∧ x < 32 then 1 else 0) = r_k_1 := Eq.symm hw_k_1
  subst hw_k_1
  have hP := tx_keep hP hk1
  refine lv_if_eq (tgt := 23) hx hb d_G_hasOperator_6 (by decide) (fun c_3 => ?_) (fun c_3 => ?_)
  · refine lv_iconst (v := 0) hx hb d_G_hasOperator_23 (by decide) ?_
    exact W.zret (v := 0) hx hb hr rfl (fun t ht hW => ⟨⟨0, (), rfl, rfl, trivial⟩, hS.F ht⟩) hS.2.2 d_G_hasOperator_24
  · refine lv_aload_n hx hb d_G_hasOperator_9 rfl (lv_at hl 0 rfl) ?_
    refine va_get (D := (dC, dI)) (ci := 1) (v := Value.ref kq) (C := kR_G) (T := kT_G) (N := 14) hx hb hg kin_G hown hK hP 0 rfl rfl 0 (by decide) (hg _ tw_81) (fun _ h9 => h9) rfl d_G_hasOperator_10 ?_
    refine lv_iload_n hx hb d_G_hasOperator_13 rfl (lv_at hl 1 rfl) ?_
    have hi := tx_if1 c_3
    refine va_iald hx hb hK hP 1 0 rfl rfl (tx_in32 hi) d_G_hasOperator_14 ?_
    refine lv_iconst (v := (-1)) hx hb d_G_hasOperator_15 (by decide) ?_
    refine lv_icmp_eq (tgt := 23) hx hb d_G_hasOperator_16 (by decide) (fun c_4 => ?_) (fun c_4 => ?_)
    · refine lv_iconst (v := 0) hx hb d_G_hasOperator_23 (by decide) ?_
      exact W.zret (v := 0) hx hb hr rfl (fun t ht hW => ⟨⟨0, (), rfl, rfl, trivial⟩, hS.F ht⟩) hS.2.2 d_G_hasOperator_24
    · exact absurd (hf _ (tx_in32n hi)) c_4
set_option maxHeartbeats 4000000 in
set_option maxRecDepth 100000 in
theorem c_G_addOperator (l : Launch) (dC : Nat → ClassId) (dI : Nat → Nat → Nat) (sz : Nat) (g kq : Nat) (cA : ClassId) (zg : Nat → Value) (f : Nat → Int32) (x k o : Int32) (hi : 0 ≤ x ∧ x < 32) : Met l y_G_addOperator ws_G_addOperator ({ frames := 0, cells := 0, slots := 0, locals := 0 }) (va_Pc [Value.ref g, Value.int x, Value.int k] (fun U => U.heap.size = sz ∧ va_P (dC, dI) kcl [(g, .inr (1, [Value.ref kq, Value.int o, (zg 2), (zg 3), (zg 4), (zg 5), (zg 6), (zg 7), (zg 8), (zg 9), (zg 10), (zg 11), (zg 12), (zg 13)])), (kq, .inl (cA, 32, .inl f))] U.heap ∧ va_K (dC, dI) kcl [(cA, .int)] U ∧ va_D (fun _ => True) [(g, .inr (1, [Value.ref kq, Value.int o, (zg 2), (zg 3), (zg 4), (zg 5), (zg 6), (zg 7), (zg 8), (zg 9), (zg 10), (zg 11), (zg 12), (zg 13)])), (kq, .inl (cA, 32, .inl f))])) (va_Qi (fun (r : Int32) (_ : Unit) => r = o + 1) (fun (_ : Unit) (_ : State) => True) (va_A [(g, .inr (1, [Value.ref kq, Value.int o, (zg 2), (zg 3), (zg 4), (zg 5), (zg 6), (zg 7), (zg 8), (zg 9), (zg 10), (zg 11), (zg 12), (zg 13)])), (kq, .inl (cA, 32, .inl f))] sz)) 0 0 (va_A [(g, .inr (1, [Value.ref kq, Value.int o, (zg 2), (zg 3), (zg 4), (zg 5), (zg 6), (zg 7), (zg 8), (zg 9), (zg 10), (zg 11), (zg 12), (zg 13)])), (kq, .inl (cA, 32, .inl f))] sz) := by
  refine Met.ofW (cc := b_G_addOperator) (maxL := 3) (ret := (Option.some Jvm.ClassFile.FieldType.int)) (by decide) rfl ?_
  intro p e s m args below meth c s₁ B hml hv
  obtain ⟨rfl, hsz, hP, hK, hD0⟩ := hv
  have hx := B.exec
  have hb := B.bytes
  have hr := B.returns
  have hlocks := B.notSynchronized
  have hg : ∀ w ∈ gw, w.before _ s = true := fun w h => atoms_spec (ws := ws_G_addOperator) B.pre w (List.mem_cons_of_mem _ h)
  have hown : s.vm.findClass "TreeMatcher$Grammar" = some m.cls := findClass_of_methodNamed B.named
  subst hsz
  have hD := hD0.self (sz := s.heap.size)
  have hA : ∀ q : Nat, s.heap.size ≤ q → va_A [(g, .inr (1, [Value.ref kq, Value.int o, (zg 2), (zg 3), (zg 4), (zg 5), (zg 6), (zg 7), (zg 8), (zg 9), (zg 10), (zg 11), (zg 12), (zg 13)])), (kq, .inl (cA, 32, .inl f))] s.heap.size q := fun q h => Or.inr h
  generalize hAe : va_A [(g, .inr (1, [Value.ref kq, Value.int o, (zg 2), (zg 3), (zg 4), (zg 5), (zg 6), (zg 7), (zg 8), (zg 9), (zg 10), (zg 11), (zg 12), (zg 13)])), (kq, .inl (cA, 32, .inl f))] s.heap.size = A at hD hA ⊢
  have hS : va_S A s.heap s.heap [] := va_S.rf
  have hl := lv_entry ([Value.ref g, Value.int x, Value.int k] : List Value) (n := 3) (Nat.le_of_ble_eq_true rfl)
  rw [lg_entry_eq]
  generalize (lg_sl ([Value.ref g, Value.int x, Value.int k] : List Value) ++ List.replicate (3 - (lg_sl ([Value.ref g, Value.int x, Value.int k] : List Value)).length) Slot.unset).toArray = ls at hl ⊢
  have hl : lv_has ls 3 [(0, Value.ref g), (1, Value.int x), (2, Value.int k)] := hl
  refine lv_aload_n hx hb d_G_addOperator_0 rfl (lv_at hl 0 rfl) ?_
  refine va_get (D := (dC, dI)) (ci := 1) (v := Value.ref kq) (C := kR_G) (T := kT_G) (N := 14) hx hb hg kin_G hown hK hP 0 rfl rfl 0 (by decide) (hg _ tw_81) (fun _ h9 => h9) rfl d_G_addOperator_1 ?_
  refine lv_iload_n hx hb d_G_addOperator_4 rfl (lv_at hl 1 rfl) ?_
  refine lv_iload_n hx hb d_G_addOperator_5 rfl (lv_at hl 2 rfl) ?_
  refine va_iast hx hb hK hP hD hS 1 0 rfl rfl (tx_in32 hi) d_G_addOperator_6 (fun H_1 lo_2 hP hD hS => ?_)
  have hP : va_P (dC, dI) kcl [(g, .inr (1, [Value.ref kq, Value.int o, (zg 2), (zg 3), (zg 4), (zg 5), (zg 6), (zg 7), (zg 8), (zg 9), (zg 10), (zg 11), (zg 12), (zg 13)])), (kq, .inl (cA, 32, .inl (upd f (x : Int32).toNatClampNeg k)))] H_1 := hP
  have hD : va_D A [(g, .inr (1, [Value.ref kq, Value.int o, (zg 2), (zg 3), (zg 4), (zg 5), (zg 6), (zg 7), (zg 8), (zg 9), (zg 10), (zg 11), (zg 12), (zg 13)])), (kq, .inl (cA, 32, .inl (upd f (x : Int32).toNatClampNeg k)))] := hD
  refine lv_aload_n hx hb d_G_addOperator_7 rfl (lv_at hl 0 rfl) ?_
  refine lv_dup hx hb d_G_addOperator_8 rfl ?_
  refine va_get (D := (dC, dI)) (ci := 1) (v := Value.int o) (C := kR_G) (T := kT_G) (N := 14) hx hb hg kin_G hown hK hP 0 rfl rfl 1 (by decide) (hg _ tw_82) (fun _ h9 => h9) rfl d_G_addOperator_9 ?_
  refine lv_iconst (v := 1) hx hb d_G_addOperator_12 (by decide) ?_
  refine lv_iadd hx hb d_G_addOperator_13 ?_
  refine lv_topi (fun v_3 ev_3 => ?_)
  refine va_put (D := (dC, dI)) (ci := 1) (v := Value.int v_3) (ty := .int) (C := kR_G) (T := kT_G) (N := 14) hx hb hg kin_G kt_G kty_G knm_G hown hK hP hD hS 0 rfl rfl 1 (by decide) (hg _ tw_82) (fun _ h9 => h9) rfl (by decide +kernel) rfl rfl (Nat.le_of_ble_eq_true rfl) d_G_addOperator_14 (fun H_4 lo_5 hP hD hS => ?_)
  have hP : va_P (dC, dI) kcl [(g, .inr (1, [Value.ref kq, Value.int v_3, (zg 2), (zg 3), (zg 4), (zg 5), (zg 6), (zg 7), (zg 8), (zg 9), (zg 10), (zg 11), (zg 12), (zg 13)])), (kq, .inl (cA, 32, .inl (upd f (x : Int32).toNatClampNeg k)))] H_4 := hP
  have hD : va_D A [(g, .inr (1, [Value.ref kq, Value.int v_3, (zg 2), (zg 3), (zg 4), (zg 5), (zg 6), (zg 7), (zg 8), (zg 9), (zg 10), (zg 11), (zg 12), (zg 13)])), (kq, .inl (cA, 32, .inl (upd f (x : Int32).toNatClampNeg k)))] := hD
  refine lv_aload_n hx hb d_G_addOperator_17 rfl (lv_at hl 0 rfl) ?_
  refine va_get (D := (dC, dI)) (ci := 1) (v := Value.int v_3) (C := kR_G) (T := kT_G) (N := 14) hx hb hg kin_G hown hK hP 0 rfl rfl 1 (by decide) (hg _ tw_82) (fun _ h9 => h9) rfl d_G_addOperator_18 ?_
  exact W.iret (v := v_3) hx hb hr (fun t ht hW => ⟨⟨v_3, (), rfl, ev_3, trivial⟩, hS.F ht⟩) hS.2.2 d_G_addOperator_21
set_option maxHeartbeats 4000000 in
set_option maxRecDepth 100000 in
theorem c_G_addElement (l : Launch) (dC : Nat → ClassId) (dI : Nat → Nat → Nat) (sz : Nat) (g hq : Nat) (cA : ClassId) (zg : Nat → Value) (f : Nat → Int32) (x : Int32) : Met l y_G_addElement ws_G_addElement ({ frames := 0, cells := 0, slots := 0, locals := 0 }) (va_Pc [Value.ref g, Value.int x] (fun U => U.heap.size = sz ∧ va_P (dC, dI) kcl [(g, .inr (1, [(zg 0), (zg 1), Value.ref hq, Value.int 0, (zg 4), (zg 5), (zg 6), (zg 7), (zg 8), (zg 9), (zg 10), (zg 11), (zg 12), (zg 13)])), (hq, .inl (cA, 12, .inl f))] U.heap ∧ va_K (dC, dI) kcl [(cA, .int)] U ∧ va_D (fun _ => True) [(g, .inr (1, [(zg 0), (zg 1), Value.ref hq, Value.int 0, (zg 4), (zg 5), (zg 6), (zg 7), (zg 8), (zg 9), (zg 10), (zg 11), (zg 12), (zg 13)])), (hq, .inl (cA, 12, .inl f))])) (va_Qi (fun (r : Int32) (_ : Unit) => r = 0 + 1) (fun (_ : Unit) (_ : State) => True) (va_A [(g, .inr (1, [(zg 0), (zg 1), Value.ref hq, Value.int 0, (zg 4), (zg 5), (zg 6), (zg 7), (zg 8), (zg 9), (zg 10), (zg 11), (zg 12), (zg 13)])), (hq, .inl (cA, 12, .inl f))] sz)) 0 0 (va_A [(g, .inr (1, [(zg 0), (zg 1), Value.ref hq, Value.int 0, (zg 4), (zg 5), (zg 6), (zg 7), (zg 8), (zg 9), (zg 10), (zg 11), (zg 12), (zg 13)])), (hq, .inl (cA, 12, .inl f))] sz) := by
  refine Met.ofW (cc := b_G_addElement) (maxL := 2) (ret := (Option.some Jvm.ClassFile.FieldType.int)) (by decide) rfl ?_
  intro p e s m args below meth c s₁ B hml hv
  obtain ⟨rfl, hsz, hP, hK, hD0⟩ := hv
  have hx := B.exec
  have hb := B.bytes
  have hr := B.returns
  have hlocks := B.notSynchronized
  have hg : ∀ w ∈ gw, w.before _ s = true := fun w h => atoms_spec (ws := ws_G_addElement) B.pre w (List.mem_cons_of_mem _ h)
  have hown : s.vm.findClass "TreeMatcher$Grammar" = some m.cls := findClass_of_methodNamed B.named
  subst hsz
  have hD := hD0.self (sz := s.heap.size)
  have hA : ∀ q : Nat, s.heap.size ≤ q → va_A [(g, .inr (1, [(zg 0), (zg 1), Value.ref hq, Value.int 0, (zg 4), (zg 5), (zg 6), (zg 7), (zg 8), (zg 9), (zg 10), (zg 11), (zg 12), (zg 13)])), (hq, .inl (cA, 12, .inl f))] s.heap.size q := fun q h => Or.inr h
  generalize hAe : va_A [(g, .inr (1, [(zg 0), (zg 1), Value.ref hq, Value.int 0, (zg 4), (zg 5), (zg 6), (zg 7), (zg 8), (zg 9), (zg 10), (zg 11), (zg 12), (zg 13)])), (hq, .inl (cA, 12, .inl f))] s.heap.size = A at hD hA ⊢
  have hS : va_S A s.heap s.heap [] := va_S.rf
  have hl := lv_entry ([Value.ref g, Value.int x] : List Value) (n := 2) (Nat.le_of_ble_eq_true rfl)
  rw [lg_entry_eq]
  generalize (lg_sl ([Value.ref g, Value.int x] : List Value) ++ List.replicate (2 - (lg_sl ([Value.ref g, Value.int x] : List Value)).length) Slot.unset).toArray = ls at hl ⊢
  have hl : lv_has ls 2 [(0, Value.ref g), (1, Value.int x)] := hl
  refine lv_aload_n hx hb d_G_addElement_0 rfl (lv_at hl 0 rfl) ?_
  refine va_get (D := (dC, dI)) (ci := 1) (v := Value.ref hq) (C := kR_G) (T := kT_G) (N := 14) hx hb hg kin_G hown hK hP 0 rfl rfl 2 (by decide) (hg _ tw_83) (fun _ h9 => h9) rfl d_G_addElement_1 ?_
  refine lv_aload_n hx hb d_G_addElement_4 rfl (lv_at hl 0 rfl) ?_
  refine va_get (D := (dC, dI)) (ci := 1) (v := Value.int 0) (C := kR_G) (T := kT_G) (N := 14) hx hb hg kin_G hown hK hP 0 rfl rfl 3 (by decide) (hg _ tw_84) (fun _ h9 => h9) rfl d_G_addElement_5 ?_
  refine lv_iload_n hx hb d_G_addElement_8 rfl (lv_at hl 1 rfl) ?_
  refine va_iast hx hb hK hP hD hS 1 0 rfl rfl (by unfold vp_in; decide +kernel) d_G_addElement_9 (fun H_1 lo_2 hP hD hS => ?_)
  have hP : va_P (dC, dI) kcl [(g, .inr (1, [(zg 0), (zg 1), Value.ref hq, Value.int 0, (zg 4), (zg 5), (zg 6), (zg 7), (zg 8), (zg 9), (zg 10), (zg 11), (zg 12), (zg 13)])), (hq, .inl (cA, 12, .inl (upd f (0 : Int32).toNatClampNeg x)))] H_1 := hP
  have hD : va_D A [(g, .inr (1, [(zg 0), (zg 1), Value.ref hq, Value.int 0, (zg 4), (zg 5), (zg 6), (zg 7), (zg 8), (zg 9), (zg 10), (zg 11), (zg 12), (zg 13)])), (hq, .inl (cA, 12, .inl (upd f (0 : Int32).toNatClampNeg x)))] := hD
  refine lv_aload_n hx hb d_G_addElement_10 rfl (lv_at hl 0 rfl) ?_
  refine lv_dup hx hb d_G_addElement_11 rfl ?_
  refine va_get (D := (dC, dI)) (ci := 1) (v := Value.int 0) (C := kR_G) (T := kT_G) (N := 14) hx hb hg kin_G hown hK hP 0 rfl rfl 3 (by decide) (hg _ tw_84) (fun _ h9 => h9) rfl d_G_addElement_12 ?_
  refine lv_iconst (v := 1) hx hb d_G_addElement_15 (by decide) ?_
  refine lv_iadd hx hb d_G_addElement_16 ?_
  refine lv_topi (fun v_3 ev_3 => ?_)
  refine va_put (D := (dC, dI)) (ci := 1) (v := Value.int v_3) (ty := .int) (C := kR_G) (T := kT_G) (N := 14) hx hb hg kin_G kt_G kty_G knm_G hown hK hP hD hS 0 rfl rfl 3 (by decide) (hg _ tw_84) (fun _ h9 => h9) rfl (by decide +kernel) rfl rfl (Nat.le_of_ble_eq_true rfl) d_G_addElement_17 (fun H_4 lo_5 hP hD hS => ?_)
  have hP : va_P (dC, dI) kcl [(g, .inr (1, [(zg 0), (zg 1), Value.ref hq, Value.int v_3, (zg 4), (zg 5), (zg 6), (zg 7), (zg 8), (zg 9), (zg 10), (zg 11), (zg 12), (zg 13)])), (hq, .inl (cA, 12, .inl (upd f (0 : Int32).toNatClampNeg x)))] H_4 := hP
  have hD : va_D A [(g, .inr (1, [(zg 0), (zg 1), Value.ref hq, Value.int v_3, (zg 4), (zg 5), (zg 6), (zg 7), (zg 8), (zg 9), (zg 10), (zg 11), (zg 12), (zg 13)])), (hq, .inl (cA, 12, .inl (upd f (0 : Int32).toNatClampNeg x)))] := hD
  refine lv_aload_n hx hb d_G_addElement_20 rfl (lv_at hl 0 rfl) ?_
  refine va_get (D := (dC, dI)) (ci := 1) (v := Value.int v_3) (C := kR_G) (T := kT_G) (N := 14) hx hb hg kin_G hown hK hP 0 rfl rfl 3 (by decide) (hg _ tw_84) (fun _ h9 => h9) rfl d_G_addElement_21 ?_
  exact W.iret (v := v_3) hx hb hr (fun t ht hW => ⟨⟨v_3, (), rfl, ev_3, trivial⟩, hS.F ht⟩) hS.2.2 d_G_addElement_24
set_option maxHeartbeats 4000000 in
set_option maxRecDepth 100000 in
theorem c_G_dropHand (l : Launch) (dC : Nat → ClassId) (dI : Nat → Nat → Nat) (sz : Nat) (a : Nat) (za : Nat → Value) (n : Int32) : Met l y_G_dropHand ws_G_dropHand ({ frames := 0, cells := 0, slots := 0, locals := 0 }) (va_Pc [Value.ref a] (fun U => U.heap.size = sz ∧ va_P (dC, dI) kcl [(a, .inr (1, [(za 0), (za 1), (za 2), Value.int n, (za 4), (za 5), (za 6), (za 7), (za 8), (za 9), (za 10), (za 11), (za 12), (za 13)]))] U.heap ∧ va_K (dC, dI) kcl [] U ∧ va_D (fun _ => True) [(a, .inr (1, [(za 0), (za 1), (za 2), Value.int n, (za 4), (za 5), (za 6), (za 7), (za 8), (za 9), (za 10), (za 11), (za 12), (za 13)]))])) (va_Qv (fun (_ : Unit) => True) (fun (_ : Unit) (_ : State) => True) (va_A [(a, .inr (1, [(za 0), (za 1), (za 2), Value.int n, (za 4), (za 5), (za 6), (za 7), (za 8), (za 9), (za 10), (za 11), (za 12), (za 13)]))] sz)) 0 0 (va_A [(a, .inr (1, [(za 0), (za 1), (za 2), Value.int n, (za 4), (za 5), (za 6), (za 7), (za 8), (za 9), (za 10), (za 11), (za 12), (za 13)]))] sz) := by
  refine Met.ofW (cc := b_G_dropHand) (maxL := 1) (ret := (Option.none : Option Jvm.ClassFile.FieldType)) (by decide) rfl ?_
  intro p e s m args below meth c s₁ B hml hv
  obtain ⟨rfl, hsz, hP, hK, hD0⟩ := hv
  have hx := B.exec
  have hb := B.bytes
  have hr := B.returns
  have hlocks := B.notSynchronized
  have hg : ∀ w ∈ gw, w.before _ s = true := fun w h => atoms_spec (ws := ws_G_dropHand) B.pre w (List.mem_cons_of_mem _ h)
  have hown : s.vm.findClass "TreeMatcher$Grammar" = some m.cls := findClass_of_methodNamed B.named
  subst hsz
  have hD := hD0.self (sz := s.heap.size)
  have hA : ∀ q : Nat, s.heap.size ≤ q → va_A [(a, .inr (1, [(za 0), (za 1), (za 2), Value.int n, (za 4), (za 5), (za 6), (za 7), (za 8), (za 9), (za 10), (za 11), (za 12), (za 13)]))] s.heap.size q := fun q h => Or.inr h
  generalize hAe : va_A [(a, .inr (1, [(za 0), (za 1), (za 2), Value.int n, (za 4), (za 5), (za 6), (za 7), (za 8), (za 9), (za 10), (za 11), (za 12), (za 13)]))] s.heap.size = A at hD hA ⊢
  have hS : va_S A s.heap s.heap [] := va_S.rf
  have hl := lv_entry ([Value.ref a] : List Value) (n := 1) (Nat.le_of_ble_eq_true rfl)
  rw [lg_entry_eq]
  generalize (lg_sl ([Value.ref a] : List Value) ++ List.replicate (1 - (lg_sl ([Value.ref a] : List Value)).length) Slot.unset).toArray = ls at hl ⊢
  have hl : lv_has ls 1 [(0, Value.ref a)] := hl
  refine lv_aload_n hx hb d_G_dropHand_0 rfl (lv_at hl 0 rfl) ?_
  refine lv_iconst (v := 0) hx hb d_G_dropHand_1 (by decide) ?_
  refine va_put (D := (dC, dI)) (ci := 1) (v := Value.int 0) (ty := .int) (C := kR_G) (T := kT_G) (N := 14) hx hb hg kin_G kt_G kty_G knm_G hown hK hP hD hS 0 rfl rfl 3 (by decide) (hg _ tw_84) (fun _ h9 => h9) rfl (by decide +kernel) rfl rfl (Nat.le_of_ble_eq_true rfl) d_G_dropHand_2 (fun H_1 lo_2 hP hD hS => ?_)
  have hP : va_P (dC, dI) kcl [(a, .inr (1, [(za 0), (za 1), (za 2), Value.int 0, (za 4), (za 5), (za 6), (za 7), (za 8), (za 9), (za 10), (za 11), (za 12), (za 13)]))] H_1 := hP
  have hD : va_D A [(a, .inr (1, [(za 0), (za 1), (za 2), Value.int 0, (za 4), (za 5), (za 6), (za 7), (za 8), (za 9), (za 10), (za 11), (za 12), (za 13)]))] := hD
  exact W.vret hx hb hr (fun t ht hW => ⟨⟨(), rfl, trivial, trivial⟩, hS.F ht⟩) hS.2.2 d_G_dropHand_5
set_option maxHeartbeats 4000000 in
set_option maxRecDepth 100000 in
theorem c_C_forget (l : Launch) (dC : Nat → ClassId) (dI : Nat → Nat → Nat) (sz : Nat) (a : Nat) (za : Nat → Value) (n : Int32) : Met l y_C_forget ws_C_forget ({ frames := 0, cells := 0, slots := 0, locals := 0 }) (va_Pc [Value.ref a] (fun U => U.heap.size = sz ∧ va_P (dC, dI) kcl [(a, .inr (3, [(za 0), (za 1), (za 2), (za 3), (za 4), (za 5), Value.int n]))] U.heap ∧ va_K (dC, dI) kcl [] U ∧ va_D (fun _ => True) [(a, .inr (3, [(za 0), (za 1), (za 2), (za 3), (za 4), (za 5), Value.int n]))])) (va_Qv (fun (_ : Unit) => True) (fun (_ : Unit) (_ : State) => True) (va_A [(a, .inr (3, [(za 0), (za 1), (za 2), (za 3), (za 4), (za 5), Value.int n]))] sz)) 0 0 (va_A [(a, .inr (3, [(za 0), (za 1), (za 2), (za 3), (za 4), (za 5), Value.int n]))] sz) := by
  refine Met.ofW (cc := b_C_forget) (maxL := 1) (ret := (Option.none : Option Jvm.ClassFile.FieldType)) (by decide) rfl ?_
  intro p e s m args below meth c s₁ B hml hv
  obtain ⟨rfl, hsz, hP, hK, hD0⟩ := hv
  have hx := B.exec
  have hb := B.bytes
  have hr := B.returns
  have hlocks := B.notSynchronized
  have hg : ∀ w ∈ gw, w.before _ s = true := fun w h => atoms_spec (ws := ws_C_forget) B.pre w (List.mem_cons_of_mem _ h)
  have hown : s.vm.findClass "TreeMatcher$Covering" = some m.cls := findClass_of_methodNamed B.named
  subst hsz
  have hD := hD0.self (sz := s.heap.size)
  have hA : ∀ q : Nat, s.heap.size ≤ q → va_A [(a, .inr (3, [(za 0), (za 1), (za 2), (za 3), (za 4), (za 5), Value.int n]))] s.heap.size q := fun q h => Or.inr h
  generalize hAe : va_A [(a, .inr (3, [(za 0), (za 1), (za 2), (za 3), (za 4), (za 5), Value.int n]))] s.heap.size = A at hD hA ⊢
  have hS : va_S A s.heap s.heap [] := va_S.rf
  have hl := lv_entry ([Value.ref a] : List Value) (n := 1) (Nat.le_of_ble_eq_true rfl)
  rw [lg_entry_eq]
  generalize (lg_sl ([Value.ref a] : List Value) ++ List.replicate (1 - (lg_sl ([Value.ref a] : List Value)).length) Slot.unset).toArray = ls at hl ⊢
  have hl : lv_has ls 1 [(0, Value.ref a)] := hl
  refine lv_aload_n hx hb d_C_forget_0 rfl (lv_at hl 0 rfl) ?_
  refine lv_iconst (v := 0) hx hb d_C_forget_1 (by decide) ?_
  refine va_put (D := (dC, dI)) (ci := 3) (v := Value.int 0) (ty := .int) (C := kR_C) (T := kT_C) (N := 7) hx hb hg kin_C kt_C kty_C knm_C hown hK hP hD hS 0 rfl rfl 6 (by decide) (hg _ tw_246) (fun _ h9 => h9) rfl (by decide +kernel) rfl rfl (Nat.le_of_ble_eq_true rfl) d_C_forget_2 (fun H_1 lo_2 hP hD hS => ?_)
  have hP : va_P (dC, dI) kcl [(a, .inr (3, [(za 0), (za 1), (za 2), (za 3), (za 4), (za 5), Value.int 0]))] H_1 := hP
  have hD : va_D A [(a, .inr (3, [(za 0), (za 1), (za 2), (za 3), (za 4), (za 5), Value.int 0]))] := hD
  exact W.vret hx hb hr (fun t ht hW => ⟨⟨(), rfl, trivial, trivial⟩, hS.F ht⟩) hS.2.2 d_C_forget_5
set_option maxHeartbeats 4000000 in
set_option maxRecDepth 100000 in
theorem c_V_forget (l : Launch) (dC : Nat → ClassId) (dI : Nat → Nat → Nat) (sz : Nat) (a : Nat) (za : Nat → Value) (n : Int32) : Met l y_V_forget ws_V_forget ({ frames := 0, cells := 0, slots := 0, locals := 0 }) (va_Pc [Value.ref a] (fun U => U.heap.size = sz ∧ va_P (dC, dI) kcl [(a, .inr (5, [(za 0), (za 1), (za 2), (za 3), (za 4), (za 5), (za 6), Value.int n]))] U.heap ∧ va_K (dC, dI) kcl [] U ∧ va_D (fun _ => True) [(a, .inr (5, [(za 0), (za 1), (za 2), (za 3), (za 4), (za 5), (za 6), Value.int n]))])) (va_Qv (fun (_ : Unit) => True) (fun (_ : Unit) (_ : State) => True) (va_A [(a, .inr (5, [(za 0), (za 1), (za 2), (za 3), (za 4), (za 5), (za 6), Value.int n]))] sz)) 0 0 (va_A [(a, .inr (5, [(za 0), (za 1), (za 2), (za 3), (za 4), (za 5), (za 6), Value.int n]))] sz) := by
  refine Met.ofW (cc := b_V_forget) (maxL := 1) (ret := (Option.none : Option Jvm.ClassFile.FieldType)) (by decide) rfl ?_
  intro p e s m args below meth c s₁ B hml hv
  obtain ⟨rfl, hsz, hP, hK, hD0⟩ := hv
  have hx := B.exec
  have hb := B.bytes
  have hr := B.returns
  have hlocks := B.notSynchronized
  have hg : ∀ w ∈ gw, w.before _ s = true := fun w h => atoms_spec (ws := ws_V_forget) B.pre w (List.mem_cons_of_mem _ h)
  have hown : s.vm.findClass "TreeMatcher$Vectors" = some m.cls := findClass_of_methodNamed B.named
  subst hsz
  have hD := hD0.self (sz := s.heap.size)
  have hA : ∀ q : Nat, s.heap.size ≤ q → va_A [(a, .inr (5, [(za 0), (za 1), (za 2), (za 3), (za 4), (za 5), (za 6), Value.int n]))] s.heap.size q := fun q h => Or.inr h
  generalize hAe : va_A [(a, .inr (5, [(za 0), (za 1), (za 2), (za 3), (za 4), (za 5), (za 6), Value.int n]))] s.heap.size = A at hD hA ⊢
  have hS : va_S A s.heap s.heap [] := va_S.rf
  have hl := lv_entry ([Value.ref a] : List Value) (n := 1) (Nat.le_of_ble_eq_true rfl)
  rw [lg_entry_eq]
  generalize (lg_sl ([Value.ref a] : List Value) ++ List.replicate (1 - (lg_sl ([Value.ref a] : List Value)).length) Slot.unset).toArray = ls at hl ⊢
  have hl : lv_has ls 1 [(0, Value.ref a)] := hl
  refine lv_aload_n hx hb d_V_forget_0 rfl (lv_at hl 0 rfl) ?_
  refine lv_iconst (v := 0) hx hb d_V_forget_1 (by decide) ?_
  refine va_put (D := (dC, dI)) (ci := 5) (v := Value.int 0) (ty := .int) (C := kR_V) (T := kT_V) (N := 8) hx hb hg kin_V kt_V kty_V knm_V hown hK hP hD hS 0 rfl rfl 7 (by decide) (hg _ tw_173) (fun _ h9 => h9) rfl (by decide +kernel) rfl rfl (Nat.le_of_ble_eq_true rfl) d_V_forget_2 (fun H_1 lo_2 hP hD hS => ?_)
  have hP : va_P (dC, dI) kcl [(a, .inr (5, [(za 0), (za 1), (za 2), (za 3), (za 4), (za 5), (za 6), Value.int 0]))] H_1 := hP
  have hD : va_D A [(a, .inr (5, [(za 0), (za 1), (za 2), (za 3), (za 4), (za 5), (za 6), Value.int 0]))] := hD
  exact W.vret hx hb hr (fun t ht hW => ⟨⟨(), rfl, trivial, trivial⟩, hS.F ht⟩) hS.2.2 d_V_forget_5
set_option maxHeartbeats 4000000 in
set_option maxRecDepth 100000 in
theorem c_F_forget (l : Launch) (dC : Nat → ClassId) (dI : Nat → Nat → Nat) (sz : Nat) (f v : Nat) (zf : Nat → Value) (zv : Nat → Value) (n k : Int32) : Met l y_F_forget ws_F_forget ({ frames := 1, cells := 0, slots := 0, locals := 20 }) (va_Pc [Value.ref f] (fun U => U.heap.size = sz ∧ va_P (dC, dI) kcl [(f, .inr (2, [(zf 0), (zf 1), (zf 2), (zf 3), (zf 4), (zf 5), (zf 6), (zf 7), (zf 8), Value.int n, (zf 10), Value.ref v, (zf 12), (zf 13)])), (v, .inr (5, [(zv 0), (zv 1), (zv 2), (zv 3), (zv 4), (zv 5), (zv 6), Value.int k]))] U.heap ∧ va_K (dC, dI) kcl [] U ∧ va_D (fun _ => True) [(f, .inr (2, [(zf 0), (zf 1), (zf 2), (zf 3), (zf 4), (zf 5), (zf 6), (zf 7), (zf 8), Value.int n, (zf 10), Value.ref v, (zf 12), (zf 13)])), (v, .inr (5, [(zv 0), (zv 1), (zv 2), (zv 3), (zv 4), (zv 5), (zv 6), Value.int k]))])) (va_Qi (fun (r : Int32) (_ : Unit) => r = n) (fun (_ : Unit) (_ : State) => True) (va_A [(f, .inr (2, [(zf 0), (zf 1), (zf 2), (zf 3), (zf 4), (zf 5), (zf 6), (zf 7), (zf 8), Value.int n, (zf 10), Value.ref v, (zf 12), (zf 13)])), (v, .inr (5, [(zv 0), (zv 1), (zv 2), (zv 3), (zv 4), (zv 5), (zv 6), Value.int k]))] sz)) 0 0 (va_A [(f, .inr (2, [(zf 0), (zf 1), (zf 2), (zf 3), (zf 4), (zf 5), (zf 6), (zf 7), (zf 8), Value.int n, (zf 10), Value.ref v, (zf 12), (zf 13)])), (v, .inr (5, [(zv 0), (zv 1), (zv 2), (zv 3), (zv 4), (zv 5), (zv 6), Value.int k]))] sz) := by
  refine Met.ofW (cc := b_F_forget) (maxL := 2) (ret := (Option.some Jvm.ClassFile.FieldType.int)) (by decide) rfl ?_
  intro p e s m args below meth c s₁ B hml hv
  obtain ⟨rfl, hsz, hP, hK, hD0⟩ := hv
  have hx := B.exec
  have hb := B.bytes
  have hr := B.returns
  have hlocks := B.notSynchronized
  have hg : ∀ w ∈ gw, w.before _ s = true := fun w h => atoms_spec (ws := ws_F_forget) B.pre w (List.mem_cons_of_mem _ h)
  have hown : s.vm.findClass "TreeMatcher$Forest" = some m.cls := findClass_of_methodNamed B.named
  subst hsz
  have hD := hD0.self (sz := s.heap.size)
  have hA : ∀ q : Nat, s.heap.size ≤ q → va_A [(f, .inr (2, [(zf 0), (zf 1), (zf 2), (zf 3), (zf 4), (zf 5), (zf 6), (zf 7), (zf 8), Value.int n, (zf 10), Value.ref v, (zf 12), (zf 13)])), (v, .inr (5, [(zv 0), (zv 1), (zv 2), (zv 3), (zv 4), (zv 5), (zv 6), Value.int k]))] s.heap.size q := fun q h => Or.inr h
  generalize hAe : va_A [(f, .inr (2, [(zf 0), (zf 1), (zf 2), (zf 3), (zf 4), (zf 5), (zf 6), (zf 7), (zf 8), Value.int n, (zf 10), Value.ref v, (zf 12), (zf 13)])), (v, .inr (5, [(zv 0), (zv 1), (zv 2), (zv 3), (zv 4), (zv 5), (zv 6), Value.int k]))] s.heap.size = A at hD hA ⊢
  have hS : va_S A s.heap s.heap [] := va_S.rf
  have hl := lv_entry ([Value.ref f] : List Value) (n := 2) (Nat.le_of_ble_eq_true rfl)
  rw [lg_entry_eq]
  generalize (lg_sl ([Value.ref f] : List Value) ++ List.replicate (2 - (lg_sl ([Value.ref f] : List Value)).length) Slot.unset).toArray = ls at hl ⊢
  have hl : lv_has ls 2 [(0, Value.ref f)] := hl
  refine lv_aload_n hx hb d_F_forget_0 rfl (lv_at hl 0 rfl) ?_
  refine va_get (D := (dC, dI)) (ci := 2) (v := Value.int n) (C := kR_F) (T := kT_F) (N := 14) hx hb hg kin_F hown hK hP 0 rfl rfl 9 (by decide) (hg _ tw_200) (fun _ h9 => h9) rfl d_F_forget_1 ?_
  refine lv_istore_n (lv' := [(1, Value.int n), (0, Value.ref f)]) hx hb d_F_forget_4 rfl hl (by decide) rfl (fun ls hl => ?_)
  refine lv_aload_n hx hb d_F_forget_5 rfl (lv_at hl 1 rfl) ?_
  refine lv_iconst (v := 0) hx hb d_F_forget_6 (by decide) ?_
  refine va_put (D := (dC, dI)) (ci := 2) (v := Value.int 0) (ty := .int) (C := kR_F) (T := kT_F) (N := 14) hx hb hg kin_F kt_F kty_F knm_F hown hK hP hD hS 0 rfl rfl 9 (by decide) (hg _ tw_200) (fun _ h9 => h9) rfl (by decide +kernel) rfl rfl (Nat.le_of_ble_eq_true rfl) d_F_forget_7 (fun H_1 lo_2 hP hD hS => ?_)
  have hP : va_P (dC, dI) kcl [(f, .inr (2, [(zf 0), (zf 1), (zf 2), (zf 3), (zf 4), (zf 5), (zf 6), (zf 7), (zf 8), Value.int 0, (zf 10), Value.ref v, (zf 12), (zf 13)])), (v, .inr (5, [(zv 0), (zv 1), (zv 2), (zv 3), (zv 4), (zv 5), (zv 6), Value.int k]))] H_1 := hP
  have hD : va_D A [(f, .inr (2, [(zf 0), (zf 1), (zf 2), (zf 3), (zf 4), (zf 5), (zf 6), (zf 7), (zf 8), Value.int 0, (zf 10), Value.ref v, (zf 12), (zf 13)])), (v, .inr (5, [(zv 0), (zv 1), (zv 2), (zv 3), (zv 4), (zv 5), (zv 6), Value.int k]))] := hD
  refine lv_aload_n hx hb d_F_forget_10 rfl (lv_at hl 1 rfl) ?_
  refine va_get (D := (dC, dI)) (ci := 2) (v := Value.ref v) (C := kR_F) (T := kT_F) (N := 14) hx hb hg kin_F hown hK hP 0 rfl rfl 11 (by decide) (hg _ tw_202) (fun _ h9 => h9) rfl d_F_forget_11 ?_
  have hPc := hP.sub (ws' := [(v, .inr (5, [(zv 0), (zv 1), (zv 2), (zv 3), (zv 4), (zv 5), (zv 6), Value.int k]))]) [1] rfl
  have hKc := hK.sub (tys' := []) [] rfl
  have hDc := hD.sub (ws' := [(v, .inr (5, [(zv 0), (zv 1), (zv 2), (zv 3), (zv 4), (zv 5), (zv 6), Value.int k]))]) [1] (by decide) rfl
  have hFc := va_free (wc := [(v, .inr (5, [(zv 0), (zv 1), (zv 2), (zv 3), (zv 4), (zv 5), (zv 6), Value.int k]))]) hD hS hA [1] rfl
  refine va_callv (va_runV (As := []) (rest := []) ⟨hx, hb, hml, hown, hg⟩ (c_V_forget l dC dI H_1.size v zv k) (cwV 0 hg (gw_giV cin_V_forget tw_308 tw_309 tw_310 tw_8) rfl rfl rfl (by decide +kernel) ⟨Nat.le_of_ble_eq_true rfl, Nat.le_of_ble_eq_true rfl⟩) ⟨fun a U g mk q => by obtain ⟨q0, q1, qP, qK, qD⟩ := q; exact ⟨q0, q1, qP, va_K.moved (u := U) (U := U.calling g mk a) (Vm.Alike.refl U.vm) qK, qD⟩, va_recv hKc hPc (ci := 5) (q0 := 0) rfl rfl, fun U hU hW => ⟨rfl, by rw [hU], by rw [hU]; exact hPc, va_K.moved hW.alike hKc, hDc.weaken (fun _ _ _ _ => trivial)⟩⟩ rfl rfl hl.1 rfl (lv_room (Nat.le_of_ble_eq_true rfl)) d_F_forget_14 ⟨Nat.le_of_ble_eq_true rfl, Nat.le_of_ble_eq_true rfl⟩) hS (fun q _ h => hFc q h) hFc (fun u_k_3 t_k_3 H_4 l_k_3 ht hvm hw_k_3 hB hz1 hk1 hS => ?_)
  obtain ⟨hP, hD⟩ := tx_rest (wc := [(v, .inr (5, [(zv 0), (zv 1), (zv 2), (zv 3), (zv 4), (zv 5), (zv 6), Value.int k]))]) (wr := [(f, .inr (2, [(zf 0), (zf 1), (zf 2), (zf 3), (zf 4), (zf 5), (zf 6), (zf 7), (zf 8), Value.int 0, (zf 10), Value.ref v, (zf 12), (zf 13)]))]) hP hD [1] [0] rfl rfl (by decide) (by decide) hk1 hFc
  have hK := hK.sub (tys' := []) [] rfl
  refine lv_iload_n hx hb d_F_forget_17 rfl (lv_at hl 0 rfl) ?_
  exact W.iret (v := n) hx hb hr (fun t ht hW => ⟨⟨n, (), rfl, rfl, trivial⟩, hS.F ht⟩) hS.2.2 d_F_forget_18
set_option maxHeartbeats 4000000 in
set_option maxRecDepth 100000 in
/-- nothing at hand: no pattern -/
theorem c_G_handIsPattern (l : Launch) (dC : Nat → ClassId) (dI : Nat → Nat → Nat) (sz : Nat) (g : Nat) (zg : Nat → Value) : Met l y_G_handIsPattern ws_G_handIsPattern ({ frames := 0, cells := 0, slots := 0, locals := 0 }) (va_Pc [Value.ref g] (fun U => U.heap.size = sz ∧ va_P (dC, dI) kcl [(g, .inr (1, [(zg 0), (zg 1), (zg 2), Value.int 0, (zg 4), (zg 5), (zg 6), (zg 7), (zg 8), (zg 9), (zg 10), (zg 11), (zg 12), (zg 13)]))] U.heap ∧ va_K (dC, dI) kcl [] U)) (va_Qi (fun (r : Int32) (_ : Unit) => r = 0) (fun (_ : Unit) (_ : State) => True) (va_A [] sz)) 0 0 (va_A [] sz) := by
  refine Met.ofW (cc := b_G_handIsPattern) (maxL := 4) (ret := (Option.some Jvm.ClassFile.FieldType.boolean)) (by decide) rfl ?_
  intro p e s m args below meth c s₁ B hml hv
  obtain ⟨rfl, hsz, hP, hK⟩ := hv
  have hx := B.exec
  have hb := B.bytes
  have hr := B.returns
  have hlocks := B.notSynchronized
  have hg : ∀ w ∈ gw, w.before _ s = true := fun w h => atoms_spec (ws := ws_G_handIsPattern) B.pre w (List.mem_cons_of_mem _ h)
  have hown : s.vm.findClass "TreeMatcher$Grammar" = some m.cls := findClass_of_methodNamed B.named
  subst hsz
  have hA : ∀ q : Nat, s.heap.size ≤ q → va_A ([] : va_W) s.heap.size q := fun q h => Or.inr h
  generalize hAe : va_A ([] : va_W) s.heap.size = A at hA ⊢
  have hS : va_S A s.heap s.heap [] := va_S.rf
  have hl := lv_entry ([Value.ref g] : List Value) (n := 4) (Nat.le_of_ble_eq_true rfl)
  rw [lg_entry_eq]
  generalize (lg_sl ([Value.ref g] : List Value) ++ List.replicate (4 - (lg_sl ([Value.ref g] : List Value)).length) Slot.unset).toArray = ls at hl ⊢
  have hl : lv_has ls 4 [(0, Value.ref g)] := hl
  refine lv_iconst (v := 1) hx hb d_G_handIsPattern_0 (by decide) ?_
  refine lv_istore_n (lv' := [(1, Value.int 1), (0, Value.ref g)]) hx hb d_G_handIsPattern_1 rfl hl (by decide) rfl (fun ls hl => ?_)
  refine lv_iconst (v := 0) hx hb d_G_handIsPattern_2 (by decide) ?_
  refine lv_istore_n (lv' := [(2, Value.int 0), (1, Value.int 1), (0, Value.ref g)]) hx hb d_G_handIsPattern_3 rfl hl (by decide) rfl (fun ls hl => ?_)
  refine lv_iload_n hx hb d_G_handIsPattern_4 rfl (lv_at hl 0 rfl) ?_
  refine lv_aload_n hx hb d_G_handIsPattern_5 rfl (lv_at hl 2 rfl) ?_
  refine va_get (D := (dC, dI)) (ci := 1) (v := Value.int 0) (C := kR_G) (T := kT_G) (N := 14) hx hb hg kin_G hown hK hP 0 rfl rfl 3 (by decide) (hg _ tw_84) (fun _ h9 => h9) rfl d_G_handIsPattern_6 ?_
  refine lv_icmp_ge (tgt := 66) hx hb d_G_handIsPattern_9 (by decide) (fun c_1 => ?_) (fun c_1 => ?_)
  · refine lv_iload_n hx hb d_G_handIsPattern_66 rfl (lv_at hl 1 rfl) ?_
    refine lv_if_ne (tgt := 74) hx hb d_G_handIsPattern_67 (by decide) (fun c_2 => ?_) (fun c_2 => ?_)
    · refine lv_iconst (v := 0) hx hb d_G_handIsPattern_74 (by decide) ?_
      exact W.zret (v := 0) hx hb hr rfl (fun t ht hW => ⟨⟨0, (), rfl, rfl, trivial⟩, hS.F ht⟩) hS.2.2 d_G_handIsPattern_75
    · exact absurd c_2 (by decide)
  · exact absurd (by decide) c_1
set_option maxHeartbeats 4000000 in
set_option maxRecDepth 100000 in
theorem c_Y_refresh (l : Launch) (dC : Nat → ClassId) (dI : Nat → Nat → Nat) (sz : Nat) (y g : Nat) (zy : Nat → Value) (zg : Nat → Value) : Met l y_Y_refresh ws_Y_refresh ({ frames := 1, cells := 0, slots := 0, locals := 20 }) (va_Pc [Value.ref y] (fun U => U.heap.size = sz ∧ va_P (dC, dI) kcl [(y, .inr (4, [Value.ref g, (zy 1), Value.int 0, Value.int 0])), (g, .inr (1, [(zg 0), Value.int 0, (zg 2), (zg 3), (zg 4), (zg 5), (zg 6), (zg 7), (zg 8), (zg 9), (zg 10), Value.int 0, (zg 12), (zg 13)]))] U.heap ∧ va_K (dC, dI) kcl [] U)) (va_Qv (fun (_ : Unit) => True) (fun (_ : Unit) (_ : State) => True) (va_A [] sz)) 0 0 (va_A [] sz) := by
  refine Met.ofW (cc := b_Y_refresh) (maxL := 3) (ret := (Option.none : Option Jvm.ClassFile.FieldType)) (by decide) rfl ?_
  intro p e s m args below meth c s₁ B hml hv
  obtain ⟨rfl, hsz, hP, hK⟩ := hv
  have hx := B.exec
  have hb := B.bytes
  have hr := B.returns
  have hlocks := B.notSynchronized
  have hg : ∀ w ∈ gw, w.before _ s = true := fun w h => atoms_spec (ws := ws_Y_refresh) B.pre w (List.mem_cons_of_mem _ h)
  have hown : s.vm.findClass "TreeMatcher$Tally" = some m.cls := findClass_of_methodNamed B.named
  subst hsz
  have hA : ∀ q : Nat, s.heap.size ≤ q → va_A ([] : va_W) s.heap.size q := fun q h => Or.inr h
  generalize hAe : va_A ([] : va_W) s.heap.size = A at hA ⊢
  have hS : va_S A s.heap s.heap [] := va_S.rf
  have hl := lv_entry ([Value.ref y] : List Value) (n := 3) (Nat.le_of_ble_eq_true rfl)
  rw [lg_entry_eq]
  generalize (lg_sl ([Value.ref y] : List Value) ++ List.replicate (3 - (lg_sl ([Value.ref y] : List Value)).length) Slot.unset).toArray = ls at hl ⊢
  have hl : lv_has ls 3 [(0, Value.ref y)] := hl
  refine lv_aload_n hx hb d_Y_refresh_0 rfl (lv_at hl 0 rfl) ?_
  refine va_get (D := (dC, dI)) (ci := 4) (v := Value.int 0) (C := kR_Y) (T := kT_Y) (N := 4) hx hb hg kin_Y hown hK hP 0 rfl rfl 2 (by decide) (hg _ tw_272) (fun _ h9 => h9) rfl d_Y_refresh_1 ?_
  refine lv_aload_n hx hb d_Y_refresh_4 rfl (lv_at hl 0 rfl) ?_
  refine va_get (D := (dC, dI)) (ci := 4) (v := Value.ref g) (C := kR_Y) (T := kT_Y) (N := 4) hx hb hg kin_Y hown hK hP 0 rfl rfl 0 (by decide) (hg _ tw_270) (fun _ h9 => h9) rfl d_Y_refresh_5 ?_
  have hPc := hP.sub (ws' := [(g, .inr (1, [(zg 0), Value.int 0, (zg 2), (zg 3), (zg 4), (zg 5), (zg 6), (zg 7), (zg 8), (zg 9), (zg 10), Value.int 0, (zg 12), (zg 13)]))]) [1] rfl
  have hKc := hK.sub (tys' := []) [] rfl
  refine va_calli (va_runV (As := []) (rest := [Value.int 0]) ⟨hx, hb, hml, hown, hg⟩ (c_G_operatorCount l dC dI s.heap.size g (fun i => if i = 11 then .int 0 else zg i) 0) (cwV 0 hg (gw_giV cin_G_operatorCount tw_762 tw_763 tw_764 tw_2) rfl rfl rfl (by decide +kernel) ⟨Nat.le_of_ble_eq_true rfl, Nat.le_of_ble_eq_true rfl⟩) ⟨fun a U g mk q => by obtain ⟨q0, q1, qP, qK⟩ := q; exact ⟨q0, q1, qP, va_K.moved (u := U) (U := U.calling g mk a) (Vm.Alike.refl U.vm) qK⟩, va_recv hKc hPc (ci := 1) (q0 := 0) rfl rfl, fun U hU hW => ⟨rfl, by rw [hU], by rw [hU]; exact hPc, va_K.moved hW.alike hKc⟩⟩ rfl rfl hl.1 rfl (lv_room (Nat.le_of_ble_eq_true rfl)) d_Y_refresh_8 ⟨Nat.le_of_ble_eq_true rfl, Nat.le_of_ble_eq_true rfl⟩) hS (fun q h1 h => (tx_pA h1 h).elim) (tx_pF hS hA) (fun r_k_1 u_k_1 t_k_1 H_2 l_k_1 ht hvm hw_k_1 hB hz1 hk1 hS => ?_)
  have hw_k_1 : 0 = r_k_1 := Eq.symm hw_k_1
  subst hw_k_1
  have hP := tx_keep hP hk1
  refine lv_icmp_ne (tgt := 29) hx hb d_Y_refresh_11 (by decide) (fun c_3 => ?_) (fun c_3 => ?_)
  · exact absurd rfl c_3
  · refine lv_aload_n hx hb d_Y_refresh_14 rfl (lv_at hl 0 rfl) ?_
    refine va_get (D := (dC, dI)) (ci := 4) (v := Value.int 0) (C := kR_Y) (T := kT_Y) (N := 4) hx hb hg kin_Y hown hK hP 0 rfl rfl 3 (by decide) (hg _ tw_273) (fun _ h9 => h9) rfl d_Y_refresh_15 ?_
    refine lv_aload_n hx hb d_Y_refresh_18 rfl (lv_at hl 0 rfl) ?_
    refine va_get (D := (dC, dI)) (ci := 4) (v := Value.ref g) (C := kR_Y) (T := kT_Y) (N := 4) hx hb hg kin_Y hown hK hP 0 rfl rfl 0 (by decide) (hg _ tw_270) (fun _ h9 => h9) rfl d_Y_refresh_19 ?_
    have hPc := hP.sub (ws' := [(g, .inr (1, [(zg 0), Value.int 0, (zg 2), (zg 3), (zg 4), (zg 5), (zg 6), (zg 7), (zg 8), (zg 9), (zg 10), Value.int 0, (zg 12), (zg 13)]))]) [1] rfl
    have hKc := hK.sub (tys' := []) [] rfl
    refine va_calli (va_runV (As := []) (rest := [Value.int 0]) ⟨hx, hb, hml, hown, hg⟩ (c_G_ruleCount l dC dI H_2.size g (fun i => if i = 1 then .int 0 else zg i) 0) (cwV 0 hg (gw_giV cin_G_ruleCount tw_766 tw_442 tw_443 tw_2) rfl rfl rfl (by decide +kernel) ⟨Nat.le_of_ble_eq_true rfl, Nat.le_of_ble_eq_true rfl⟩) ⟨fun a U g mk q => by obtain ⟨q0, q1, qP, qK⟩ := q; exact ⟨q0, q1, qP, va_K.moved (u := U) (U := U.calling g mk a) (Vm.Alike.refl U.vm) qK⟩, va_recv hKc hPc (ci := 1) (q0 := 0) rfl rfl, fun U hU hW => ⟨rfl, by rw [hU], by rw [hU]; exact hPc, va_K.moved hW.alike hKc⟩⟩ rfl rfl hl.1 rfl (lv_room (Nat.le_of_ble_eq_true rfl)) d_Y_refresh_22 ⟨Nat.le_of_ble_eq_true rfl, Nat.le_of_ble_eq_true rfl⟩) hS (fun q h1 h => (tx_pA h1 h).elim) (tx_pF hS hA) (fun r_k_4 u_k_4 t_k_4 H_5 l_k_4 ht hvm hw_k_4 hB hz1 hk1 hS => ?_)
    have hw_k_4 : 0 = r_k_4 := Eq.symm hw_k_4
    subst hw_k_4
    have hP := tx_keep hP hk1
    refine lv_icmp_ne (tgt := 29) hx hb d_Y_refresh_25 (by decide) (fun c_6 => ?_) (fun c_6 => ?_)
    · exact absurd rfl c_6
    · exact W.vret hx hb hr (fun t ht hW => ⟨⟨(), rfl, trivial, trivial⟩, hS.F ht⟩) hS.2.2 d_Y_refresh_28
