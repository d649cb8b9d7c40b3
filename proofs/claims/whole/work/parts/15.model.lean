set_option maxRecDepth 100000 in
theorem tw_11 : (Jvm.Cond.initialized "TreeMatcherModel") ∈ gw := gw_of (List.mem_of_getElem? (i := 11) rfl) rfl
set_option maxRecDepth 100000 in
theorem tw_818 : (Jvm.Cond.fieldLink "TreeMatcherModel" (7 : Nat) "TreeMatcherModel" "kids" "[I") ∈ gw := gw_of (List.mem_of_getElem? (i := 818) rfl) rfl
set_option maxRecDepth 100000 in
theorem tw_819 : (Jvm.Cond.fieldLink "TreeMatcherModel" (127 : Nat) "TreeMatcherModel" "operators" "I") ∈ gw := gw_of (List.mem_of_getElem? (i := 819) rfl) rfl
set_option maxRecDepth 100000 in
theorem tw_820 : (Jvm.Cond.fieldLink "TreeMatcherModel" (13 : Nat) "TreeMatcherModel" "hand" "[I") ∈ gw := gw_of (List.mem_of_getElem? (i := 820) rfl) rfl
set_option maxRecDepth 100000 in
theorem tw_821 : (Jvm.Cond.fieldLink "TreeMatcherModel" (130 : Nat) "TreeMatcherModel" "handed" "I") ∈ gw := gw_of (List.mem_of_getElem? (i := 821) rfl) rfl
set_option maxRecDepth 100000 in
theorem tw_822 : (Jvm.Cond.fieldLink "TreeMatcherModel" (133 : Nat) "TreeMatcherModel" "rules" "I") ∈ gw := gw_of (List.mem_of_getElem? (i := 822) rfl) rfl
set_option maxRecDepth 100000 in
theorem tw_829 : (Jvm.Cond.fieldLink "TreeMatcherModel" (136 : Nat) "TreeMatcherModel" "nodes" "I") ∈ gw := gw_of (List.mem_of_getElem? (i := 829) rfl) rfl
set_option maxRecDepth 100000 in
theorem tw_837 : (Jvm.Cond.fieldLink "TreeMatcherModel" (162 : Nat) "TreeMatcherModel" "pairs" "I") ∈ gw := gw_of (List.mem_of_getElem? (i := 837) rfl) rfl
set_option maxRecDepth 100000 in
theorem tw_849 : (Jvm.Cond.fieldLink "TreeMatcherModel" (165 : Nat) "TreeMatcherModel" "parts" "I") ∈ gw := gw_of (List.mem_of_getElem? (i := 849) rfl) rfl
set_option maxRecDepth 100000 in
theorem tw_951 : (Jvm.Cond.code ({ cls := "TreeMatcherModel", name := "operator", desc := "(II)I" } : Jvm.MethodName) prog_11_method_5_code (3 : Nat) (Option.some Jvm.ClassFile.FieldType.int)) ∈ gw := gw_of (List.mem_of_getElem? (i := 951) rfl) rfl
set_option maxRecDepth 100000 in
theorem tw_952 : (Jvm.Cond.methodLink "TreeMatcherModel" (119 : Nat) ({ cls := "TreeMatcherModel", name := "within", desc := "(III)Z" } : Jvm.MethodName)) ∈ gw := gw_of (List.mem_of_getElem? (i := 952) rfl) rfl
set_option maxRecDepth 100000 in
theorem tw_953 : (Jvm.Cond.static ({ cls := "TreeMatcherModel", name := "within", desc := "(III)Z" } : Jvm.MethodName)) ∈ gw := gw_of (List.mem_of_getElem? (i := 953) rfl) rfl
set_option maxRecDepth 100000 in
theorem tw_954 : (Jvm.Cond.code ({ cls := "TreeMatcherModel", name := "within", desc := "(III)Z" } : Jvm.MethodName) prog_11_method_4_code (3 : Nat) (Option.some Jvm.ClassFile.FieldType.boolean)) ∈ gw := gw_of (List.mem_of_getElem? (i := 954) rfl) rfl
set_option maxRecDepth 100000 in
theorem tw_955 : (Jvm.Cond.methodLink "TreeMatcherModel" (123 : Nat) ({ cls := "TreeMatcherModel", name := "fail", desc := "(I)I" } : Jvm.MethodName)) ∈ gw := gw_of (List.mem_of_getElem? (i := 955) rfl) rfl
set_option maxRecDepth 100000 in
theorem tw_957 : (Jvm.Cond.instanceMethod ({ cls := "TreeMatcherModel", name := "fail", desc := "(I)I" } : Jvm.MethodName)) ∈ gw := gw_of (List.mem_of_getElem? (i := 957) rfl) rfl
set_option maxRecDepth 100000 in
theorem tw_958 : (Jvm.Cond.code ({ cls := "TreeMatcherModel", name := "fail", desc := "(I)I" } : Jvm.MethodName) prog_11_method_3_code (2 : Nat) (Option.some Jvm.ClassFile.FieldType.int)) ∈ gw := gw_of (List.mem_of_getElem? (i := 958) rfl) rfl
set_option maxRecDepth 100000 in
theorem tw_962 : (Jvm.Cond.code ({ cls := "TreeMatcherModel", name := "element", desc := "(I)I" } : Jvm.MethodName) prog_11_method_6_code (2 : Nat) (Option.some Jvm.ClassFile.FieldType.int)) ∈ gw := gw_of (List.mem_of_getElem? (i := 962) rfl) rfl
set_option maxRecDepth 100000 in
theorem tw_966 : (Jvm.Cond.code ({ cls := "TreeMatcherModel", name := "rule", desc := "(IIII)I" } : Jvm.MethodName) prog_11_method_8_code (8 : Nat) (Option.some Jvm.ClassFile.FieldType.int)) ∈ gw := gw_of (List.mem_of_getElem? (i := 966) rfl) rfl
set_option maxRecDepth 100000 in
theorem tw_967 : (Jvm.Cond.methodLink "TreeMatcherModel" (139 : Nat) ({ cls := "TreeMatcherModel", name := "isPattern", desc := "()Z" } : Jvm.MethodName)) ∈ gw := gw_of (List.mem_of_getElem? (i := 967) rfl) rfl
set_option maxRecDepth 100000 in
theorem tw_969 : (Jvm.Cond.instanceMethod ({ cls := "TreeMatcherModel", name := "isPattern", desc := "()Z" } : Jvm.MethodName)) ∈ gw := gw_of (List.mem_of_getElem? (i := 969) rfl) rfl
set_option maxRecDepth 100000 in
theorem tw_970 : (Jvm.Cond.code ({ cls := "TreeMatcherModel", name := "isPattern", desc := "()Z" } : Jvm.MethodName) prog_11_method_7_code (3 : Nat) (Option.some Jvm.ClassFile.FieldType.boolean)) ∈ gw := gw_of (List.mem_of_getElem? (i := 970) rfl) rfl
set_option maxRecDepth 100000 in
theorem tw_974 : (Jvm.Cond.code ({ cls := "TreeMatcherModel", name := "node", desc := "(IIII)I" } : Jvm.MethodName) prog_11_method_14_code (11 : Nat) (Option.some Jvm.ClassFile.FieldType.int)) ∈ gw := gw_of (List.mem_of_getElem? (i := 974) rfl) rfl
set_option maxRecDepth 100000 in
theorem tw_998 : (Jvm.Cond.code ({ cls := "TreeMatcherModel", name := "cost", desc := "(II)I" } : Jvm.MethodName) prog_11_method_15_code (3 : Nat) (Option.some Jvm.ClassFile.FieldType.int)) ∈ gw := gw_of (List.mem_of_getElem? (i := 998) rfl) rfl
set_option maxRecDepth 100000 in
theorem tw_1002 : (Jvm.Cond.code ({ cls := "TreeMatcherModel", name := "ruleAt", desc := "(II)I" } : Jvm.MethodName) prog_11_method_16_code (3 : Nat) (Option.some Jvm.ClassFile.FieldType.int)) ∈ gw := gw_of (List.mem_of_getElem? (i := 1002) rfl) rfl
set_option maxRecDepth 100000 in
theorem tw_1006 : (Jvm.Cond.code ({ cls := "TreeMatcherModel", name := "cover", desc := "(II)I" } : Jvm.MethodName) prog_11_method_17_code (10 : Nat) (Option.some Jvm.ClassFile.FieldType.int)) ∈ gw := gw_of (List.mem_of_getElem? (i := 1006) rfl) rfl
set_option maxRecDepth 100000 in
theorem tw_1010 : (Jvm.Cond.code ({ cls := "TreeMatcherModel", name := "pair", desc := "(II)I" } : Jvm.MethodName) prog_11_method_18_code (3 : Nat) (Option.some Jvm.ClassFile.FieldType.int)) ∈ gw := gw_of (List.mem_of_getElem? (i := 1010) rfl) rfl
set_option maxRecDepth 100000 in
theorem tw_1020 : (Jvm.Cond.code ({ cls := "TreeMatcherModel", name := "findParts", desc := "()V" } : Jvm.MethodName) prog_11_method_21_code (4 : Nat) (Option.none : Option Jvm.ClassFile.FieldType)) ∈ gw := gw_of (List.mem_of_getElem? (i := 1020) rfl) rfl
set_option maxRecDepth 100000 in
theorem tw_1040 : (Jvm.Cond.code ({ cls := "TreeMatcherModel", name := "same", desc := "(II)Z" } : Jvm.MethodName) prog_11_method_25_code (4 : Nat) (Option.some Jvm.ClassFile.FieldType.boolean)) ∈ gw := gw_of (List.mem_of_getElem? (i := 1040) rfl) rfl
set_option maxRecDepth 100000 in
theorem tw_1044 : (Jvm.Cond.code ({ cls := "TreeMatcherModel", name := "clear", desc := "()I" } : Jvm.MethodName) prog_11_method_26_code (2 : Nat) (Option.some Jvm.ClassFile.FieldType.int)) ∈ gw := gw_of (List.mem_of_getElem? (i := 1044) rfl) rfl
abbrev b_D_operator : ByteArray := prog_11_method_5_code
def y_D_operator : MethodName := ⟨"TreeMatcherModel", "operator", "(II)I"⟩
def ws_D_operator : List Cond := Cond.code y_D_operator b_D_operator 3 (Option.some Jvm.ClassFile.FieldType.int) :: gw
theorem cin_D_operator : Cond.code y_D_operator b_D_operator 3 (Option.some Jvm.ClassFile.FieldType.int) ∈ gw := tw_951
abbrev b_D_within : ByteArray := prog_11_method_4_code
def y_D_within : MethodName := ⟨"TreeMatcherModel", "within", "(III)Z"⟩
def ws_D_within : List Cond := Cond.code y_D_within b_D_within 3 (Option.some Jvm.ClassFile.FieldType.boolean) :: gw
theorem cin_D_within : Cond.code y_D_within b_D_within 3 (Option.some Jvm.ClassFile.FieldType.boolean) ∈ gw := tw_954
abbrev b_D_fail : ByteArray := prog_11_method_3_code
def y_D_fail : MethodName := ⟨"TreeMatcherModel", "fail", "(I)I"⟩
def ws_D_fail : List Cond := Cond.code y_D_fail b_D_fail 2 (Option.some Jvm.ClassFile.FieldType.int) :: gw
theorem cin_D_fail : Cond.code y_D_fail b_D_fail 2 (Option.some Jvm.ClassFile.FieldType.int) ∈ gw := tw_958
abbrev b_D_element : ByteArray := prog_11_method_6_code
def y_D_element : MethodName := ⟨"TreeMatcherModel", "element", "(I)I"⟩
def ws_D_element : List Cond := Cond.code y_D_element b_D_element 2 (Option.some Jvm.ClassFile.FieldType.int) :: gw
theorem cin_D_element : Cond.code y_D_element b_D_element 2 (Option.some Jvm.ClassFile.FieldType.int) ∈ gw := tw_962
abbrev b_D_rule : ByteArray := prog_11_method_8_code
def y_D_rule : MethodName := ⟨"TreeMatcherModel", "rule", "(IIII)I"⟩
def ws_D_rule : List Cond := Cond.code y_D_rule b_D_rule 8 (Option.some Jvm.ClassFile.FieldType.int) :: gw
theorem cin_D_rule : Cond.code y_D_rule b_D_rule 8 (Option.some Jvm.ClassFile.FieldType.int) ∈ gw := tw_966
abbrev b_D_isPattern : ByteArray := prog_11_method_7_code
def y_D_isPattern : MethodName := ⟨"TreeMatcherModel", "isPattern", "()Z"⟩
def ws_D_isPattern : List Cond := Cond.code y_D_isPattern b_D_isPattern 3 (Option.some Jvm.ClassFile.FieldType.boolean) :: gw
theorem cin_D_isPattern : Cond.code y_D_isPattern b_D_isPattern 3 (Option.some Jvm.ClassFile.FieldType.boolean) ∈ gw := tw_970
abbrev b_D_node : ByteArray := prog_11_method_14_code
def y_D_node : MethodName := ⟨"TreeMatcherModel", "node", "(IIII)I"⟩
def ws_D_node : List Cond := Cond.code y_D_node b_D_node 11 (Option.some Jvm.ClassFile.FieldType.int) :: gw
theorem cin_D_node : Cond.code y_D_node b_D_node 11 (Option.some Jvm.ClassFile.FieldType.int) ∈ gw := tw_974
abbrev b_D_cost : ByteArray := prog_11_method_15_code
def y_D_cost : MethodName := ⟨"TreeMatcherModel", "cost", "(II)I"⟩
def ws_D_cost : List Cond := Cond.code y_D_cost b_D_cost 3 (Option.some Jvm.ClassFile.FieldType.int) :: gw
theorem cin_D_cost : Cond.code y_D_cost b_D_cost 3 (Option.some Jvm.ClassFile.FieldType.int) ∈ gw := tw_998
abbrev b_D_ruleAt : ByteArray := prog_11_method_16_code
def y_D_ruleAt : MethodName := ⟨"TreeMatcherModel", "ruleAt", "(II)I"⟩
def ws_D_ruleAt : List Cond := Cond.code y_D_ruleAt b_D_ruleAt 3 (Option.some Jvm.ClassFile.FieldType.int) :: gw
theorem cin_D_ruleAt : Cond.code y_D_ruleAt b_D_ruleAt 3 (Option.some Jvm.ClassFile.FieldType.int) ∈ gw := tw_1002
abbrev b_D_cover : ByteArray := prog_11_method_17_code
def y_D_cover : MethodName := ⟨"TreeMatcherModel", "cover", "(II)I"⟩
def ws_D_cover : List Cond := Cond.code y_D_cover b_D_cover 10 (Option.some Jvm.ClassFile.FieldType.int) :: gw
theorem cin_D_cover : Cond.code y_D_cover b_D_cover 10 (Option.some Jvm.ClassFile.FieldType.int) ∈ gw := tw_1006
abbrev b_D_pair : ByteArray := prog_11_method_18_code
def y_D_pair : MethodName := ⟨"TreeMatcherModel", "pair", "(II)I"⟩
def ws_D_pair : List Cond := Cond.code y_D_pair b_D_pair 3 (Option.some Jvm.ClassFile.FieldType.int) :: gw
theorem cin_D_pair : Cond.code y_D_pair b_D_pair 3 (Option.some Jvm.ClassFile.FieldType.int) ∈ gw := tw_1010
abbrev b_D_findParts : ByteArray := prog_11_method_21_code
def y_D_findParts : MethodName := ⟨"TreeMatcherModel", "findParts", "()V"⟩
def ws_D_findParts : List Cond := Cond.code y_D_findParts b_D_findParts 4 (Option.none : Option Jvm.ClassFile.FieldType) :: gw
theorem cin_D_findParts : Cond.code y_D_findParts b_D_findParts 4 (Option.none : Option Jvm.ClassFile.FieldType) ∈ gw := tw_1020
abbrev b_D_same : ByteArray := prog_11_method_25_code
def y_D_same : MethodName := ⟨"TreeMatcherModel", "same", "(II)Z"⟩
def ws_D_same : List Cond := Cond.code y_D_same b_D_same 4 (Option.some Jvm.ClassFile.FieldType.boolean) :: gw
theorem cin_D_same : Cond.code y_D_same b_D_same 4 (Option.some Jvm.ClassFile.FieldType.boolean) ∈ gw := tw_1040
abbrev b_D_clear : ByteArray := prog_11_method_26_code
def y_D_clear : MethodName := ⟨"TreeMatcherModel", "clear", "()I"⟩
def ws_D_clear : List Cond := Cond.code y_D_clear b_D_clear 2 (Option.some Jvm.ClassFile.FieldType.int) :: gw
theorem cin_D_clear : Cond.code y_D_clear b_D_clear 2 (Option.some Jvm.ClassFile.FieldType.int) ∈ gw := tw_1044
theorem sw_D_fail : Cond.selects "TreeMatcherModel" ({ cls := "TreeMatcherModel", name := "fail", desc := "(I)I" } : Jvm.MethodName) ({ cls := "TreeMatcherModel", name := "fail", desc := "(I)I" } : Jvm.MethodName) ∈ gw := gw_sel (by decide +kernel) rfl
theorem sw_D_isPattern : Cond.selects "TreeMatcherModel" ({ cls := "TreeMatcherModel", name := "isPattern", desc := "()Z" } : Jvm.MethodName) ({ cls := "TreeMatcherModel", name := "isPattern", desc := "()Z" } : Jvm.MethodName) ∈ gw := gw_sel (by decide +kernel) rfl
theorem d_D_operator_0 : decode b_D_operator 0 = .ok (.aload_n 0, 1) := by decide +kernel
theorem d_D_operator_1 : decode b_D_operator 1 = .ok (.iconst 0, 1) := by decide +kernel
theorem d_D_operator_2 : decode b_D_operator 2 = .ok (.putfield 115, 3) := by decide +kernel
theorem d_D_operator_5 : decode b_D_operator 5 = .ok (.iload_n 1, 1) := by decide +kernel
theorem d_D_operator_6 : decode b_D_operator 6 = .ok (.iconst 0, 1) := by decide +kernel
theorem d_D_operator_7 : decode b_D_operator 7 = .ok (.bipush 31, 2) := by decide +kernel
theorem d_D_operator_9 : decode b_D_operator 9 = .ok (.invokestatic 119, 3) := by decide +kernel
theorem d_D_operator_12 : decode b_D_operator 12 = .ok (.ifCond .eq 12, 3) := by decide +kernel
theorem d_D_operator_15 : decode b_D_operator 15 = .ok (.iload_n 2, 1) := by decide +kernel
theorem d_D_operator_16 : decode b_D_operator 16 = .ok (.iconst 0, 1) := by decide +kernel
theorem d_D_operator_17 : decode b_D_operator 17 = .ok (.iconst 2, 1) := by decide +kernel
theorem d_D_operator_18 : decode b_D_operator 18 = .ok (.invokestatic 119, 3) := by decide +kernel
theorem d_D_operator_21 : decode b_D_operator 21 = .ok (.ifCond .ne 9, 3) := by decide +kernel
theorem d_D_operator_24 : decode b_D_operator 24 = .ok (.aload_n 0, 1) := by decide +kernel
theorem d_D_operator_25 : decode b_D_operator 25 = .ok (.iconst 1, 1) := by decide +kernel
theorem d_D_operator_26 : decode b_D_operator 26 = .ok (.invokevirtual 123, 3) := by decide +kernel
theorem d_D_operator_29 : decode b_D_operator 29 = .ok (.ireturn, 1) := by decide +kernel
theorem d_D_operator_30 : decode b_D_operator 30 = .ok (.aload_n 0, 1) := by decide +kernel
theorem d_D_operator_31 : decode b_D_operator 31 = .ok (.getfield 7, 3) := by decide +kernel
theorem d_D_operator_34 : decode b_D_operator 34 = .ok (.iload_n 1, 1) := by decide +kernel
theorem d_D_operator_35 : decode b_D_operator 35 = .ok (.iaload, 1) := by decide +kernel
theorem d_D_operator_36 : decode b_D_operator 36 = .ok (.iconst (-1), 1) := by decide +kernel
theorem d_D_operator_37 : decode b_D_operator 37 = .ok (.if_icmp .eq 9, 3) := by decide +kernel
theorem d_D_operator_46 : decode b_D_operator 46 = .ok (.aload_n 0, 1) := by decide +kernel
theorem d_D_operator_47 : decode b_D_operator 47 = .ok (.getfield 7, 3) := by decide +kernel
theorem d_D_operator_50 : decode b_D_operator 50 = .ok (.iload_n 1, 1) := by decide +kernel
theorem d_D_operator_51 : decode b_D_operator 51 = .ok (.iload_n 2, 1) := by decide +kernel
theorem d_D_operator_52 : decode b_D_operator 52 = .ok (.iastore, 1) := by decide +kernel
theorem d_D_operator_53 : decode b_D_operator 53 = .ok (.aload_n 0, 1) := by decide +kernel
theorem d_D_operator_54 : decode b_D_operator 54 = .ok (.dup, 1) := by decide +kernel
theorem d_D_operator_55 : decode b_D_operator 55 = .ok (.getfield 127, 3) := by decide +kernel
theorem d_D_operator_58 : decode b_D_operator 58 = .ok (.iconst 1, 1) := by decide +kernel
theorem d_D_operator_59 : decode b_D_operator 59 = .ok (.iadd, 1) := by decide +kernel
theorem d_D_operator_60 : decode b_D_operator 60 = .ok (.putfield 127, 3) := by decide +kernel
theorem d_D_operator_63 : decode b_D_operator 63 = .ok (.aload_n 0, 1) := by decide +kernel
theorem d_D_operator_64 : decode b_D_operator 64 = .ok (.getfield 127, 3) := by decide +kernel
theorem d_D_operator_67 : decode b_D_operator 67 = .ok (.ireturn, 1) := by decide +kernel
theorem d_D_within_0 : decode b_D_within 0 = .ok (.iload_n 0, 1) := by decide +kernel
theorem d_D_within_1 : decode b_D_within 1 = .ok (.iload_n 1, 1) := by decide +kernel
theorem d_D_within_2 : decode b_D_within 2 = .ok (.if_icmp .lt 12, 3) := by decide +kernel
theorem d_D_within_5 : decode b_D_within 5 = .ok (.iload_n 0, 1) := by decide +kernel
theorem d_D_within_6 : decode b_D_within 6 = .ok (.iload_n 2, 1) := by decide +kernel
theorem d_D_within_7 : decode b_D_within 7 = .ok (.if_icmp .gt 7, 3) := by decide +kernel
theorem d_D_within_10 : decode b_D_within 10 = .ok (.iconst 1, 1) := by decide +kernel
theorem d_D_within_11 : decode b_D_within 11 = .ok (.goto 4, 3) := by decide +kernel
theorem d_D_within_14 : decode b_D_within 14 = .ok (.iconst 0, 1) := by decide +kernel
theorem d_D_within_15 : decode b_D_within 15 = .ok (.ireturn, 1) := by decide +kernel
theorem d_D_fail_0 : decode b_D_fail 0 = .ok (.aload_n 0, 1) := by decide +kernel
theorem d_D_fail_1 : decode b_D_fail 1 = .ok (.iload_n 1, 1) := by decide +kernel
theorem d_D_fail_2 : decode b_D_fail 2 = .ok (.putfield 115, 3) := by decide +kernel
theorem d_D_fail_5 : decode b_D_fail 5 = .ok (.iconst 0, 1) := by decide +kernel
theorem d_D_fail_6 : decode b_D_fail 6 = .ok (.ireturn, 1) := by decide +kernel
theorem d_D_element_0 : decode b_D_element 0 = .ok (.aload_n 0, 1) := by decide +kernel
theorem d_D_element_1 : decode b_D_element 1 = .ok (.iconst 0, 1) := by decide +kernel
theorem d_D_element_2 : decode b_D_element 2 = .ok (.putfield 115, 3) := by decide +kernel
theorem d_D_element_5 : decode b_D_element 5 = .ok (.iload_n 1, 1) := by decide +kernel
theorem d_D_element_6 : decode b_D_element 6 = .ok (.iconst 0, 1) := by decide +kernel
theorem d_D_element_7 : decode b_D_element 7 = .ok (.bipush 47, 2) := by decide +kernel
theorem d_D_element_9 : decode b_D_element 9 = .ok (.invokestatic 119, 3) := by decide +kernel
theorem d_D_element_12 : decode b_D_element 12 = .ok (.ifCond .ne 9, 3) := by decide +kernel
theorem d_D_element_15 : decode b_D_element 15 = .ok (.aload_n 0, 1) := by decide +kernel
theorem d_D_element_16 : decode b_D_element 16 = .ok (.iconst 1, 1) := by decide +kernel
theorem d_D_element_17 : decode b_D_element 17 = .ok (.invokevirtual 123, 3) := by decide +kernel
theorem d_D_element_20 : decode b_D_element 20 = .ok (.ireturn, 1) := by decide +kernel
theorem d_D_element_21 : decode b_D_element 21 = .ok (.aload_n 0, 1) := by decide +kernel
theorem d_D_element_22 : decode b_D_element 22 = .ok (.getfield 130, 3) := by decide +kernel
theorem d_D_element_25 : decode b_D_element 25 = .ok (.bipush 12, 2) := by decide +kernel
theorem d_D_element_27 : decode b_D_element 27 = .ok (.if_icmp .ne 9, 3) := by decide +kernel
theorem d_D_element_36 : decode b_D_element 36 = .ok (.aload_n 0, 1) := by decide +kernel
theorem d_D_element_37 : decode b_D_element 37 = .ok (.getfield 13, 3) := by decide +kernel
theorem d_D_element_40 : decode b_D_element 40 = .ok (.aload_n 0, 1) := by decide +kernel
theorem d_D_element_41 : decode b_D_element 41 = .ok (.getfield 130, 3) := by decide +kernel
theorem d_D_element_44 : decode b_D_element 44 = .ok (.iload_n 1, 1) := by decide +kernel
theorem d_D_element_45 : decode b_D_element 45 = .ok (.iastore, 1) := by decide +kernel
theorem d_D_element_46 : decode b_D_element 46 = .ok (.aload_n 0, 1) := by decide +kernel
theorem d_D_element_47 : decode b_D_element 47 = .ok (.dup, 1) := by decide +kernel
theorem d_D_element_48 : decode b_D_element 48 = .ok (.getfield 130, 3) := by decide +kernel
theorem d_D_element_51 : decode b_D_element 51 = .ok (.iconst 1, 1) := by decide +kernel
theorem d_D_element_52 : decode b_D_element 52 = .ok (.iadd, 1) := by decide +kernel
theorem d_D_element_53 : decode b_D_element 53 = .ok (.putfield 130, 3) := by decide +kernel
theorem d_D_element_56 : decode b_D_element 56 = .ok (.aload_n 0, 1) := by decide +kernel
theorem d_D_element_57 : decode b_D_element 57 = .ok (.getfield 130, 3) := by decide +kernel
theorem d_D_element_60 : decode b_D_element 60 = .ok (.ireturn, 1) := by decide +kernel
theorem d_D_rule_0 : decode b_D_rule 0 = .ok (.aload_n 0, 1) := by decide +kernel
theorem d_D_rule_1 : decode b_D_rule 1 = .ok (.iconst 0, 1) := by decide +kernel
theorem d_D_rule_2 : decode b_D_rule 2 = .ok (.putfield 115, 3) := by decide +kernel
theorem d_D_rule_5 : decode b_D_rule 5 = .ok (.aload_n 0, 1) := by decide +kernel
theorem d_D_rule_6 : decode b_D_rule 6 = .ok (.getfield 133, 3) := by decide +kernel
theorem d_D_rule_9 : decode b_D_rule 9 = .ok (.bipush 64, 2) := by decide +kernel
theorem d_D_rule_11 : decode b_D_rule 11 = .ok (.if_icmp .eq 10, 3) := by decide +kernel
theorem d_D_rule_14 : decode b_D_rule 14 = .ok (.aload_n 0, 1) := by decide +kernel
theorem d_D_rule_15 : decode b_D_rule 15 = .ok (.getfield 136, 3) := by decide +kernel
theorem d_D_rule_18 : decode b_D_rule 18 = .ok (.ifCond .le 9, 3) := by decide +kernel
theorem d_D_rule_27 : decode b_D_rule 27 = .ok (.iload_n 1, 1) := by decide +kernel
theorem d_D_rule_28 : decode b_D_rule 28 = .ok (.iconst 0, 1) := by decide +kernel
theorem d_D_rule_29 : decode b_D_rule 29 = .ok (.bipush 15, 2) := by decide +kernel
theorem d_D_rule_31 : decode b_D_rule 31 = .ok (.invokestatic 119, 3) := by decide +kernel
theorem d_D_rule_34 : decode b_D_rule 34 = .ok (.ifCond .eq 30, 3) := by decide +kernel
theorem d_D_rule_37 : decode b_D_rule 37 = .ok (.iload_n 2, 1) := by decide +kernel
theorem d_D_rule_38 : decode b_D_rule 38 = .ok (.iconst 0, 1) := by decide +kernel
theorem d_D_rule_39 : decode b_D_rule 39 = .ok (.bipush 99, 2) := by decide +kernel
theorem d_D_rule_41 : decode b_D_rule 41 = .ok (.invokestatic 119, 3) := by decide +kernel
theorem d_D_rule_44 : decode b_D_rule 44 = .ok (.ifCond .eq 20, 3) := by decide +kernel
theorem d_D_rule_47 : decode b_D_rule 47 = .ok (.iload_n 3, 1) := by decide +kernel
theorem d_D_rule_48 : decode b_D_rule 48 = .ok (.iload 4, 2) := by decide +kernel
theorem d_D_rule_50 : decode b_D_rule 50 = .ok (.if_icmp .gt 14, 3) := by decide +kernel
theorem d_D_rule_53 : decode b_D_rule 53 = .ok (.aload_n 0, 1) := by decide +kernel
theorem d_D_rule_54 : decode b_D_rule 54 = .ok (.invokevirtual 139, 3) := by decide +kernel
theorem d_D_rule_57 : decode b_D_rule 57 = .ok (.ifCond .eq 7, 3) := by decide +kernel
theorem d_D_rule_64 : decode b_D_rule 64 = .ok (.iconst 0, 1) := by decide +kernel
theorem d_D_rule_65 : decode b_D_rule 65 = .ok (.istore 5, 2) := by decide +kernel
theorem d_D_rule_67 : decode b_D_rule 67 = .ok (.aload_n 0, 1) := by decide +kernel
theorem d_D_rule_68 : decode b_D_rule 68 = .ok (.getfield 130, 3) := by decide +kernel
theorem d_D_rule_71 : decode b_D_rule 71 = .ok (.istore 6, 2) := by decide +kernel
theorem d_D_rule_73 : decode b_D_rule 73 = .ok (.aload_n 0, 1) := by decide +kernel
theorem d_D_rule_74 : decode b_D_rule 74 = .ok (.iconst 0, 1) := by decide +kernel
theorem d_D_rule_75 : decode b_D_rule 75 = .ok (.putfield 130, 3) := by decide +kernel
theorem d_D_rule_78 : decode b_D_rule 78 = .ok (.iload 5, 2) := by decide +kernel
theorem d_D_rule_80 : decode b_D_rule 80 = .ok (.ifCond .ne 9, 3) := by decide +kernel
theorem d_D_rule_83 : decode b_D_rule 83 = .ok (.aload_n 0, 1) := by decide +kernel
theorem d_D_rule_84 : decode b_D_rule 84 = .ok (.iconst 2, 1) := by decide +kernel
theorem d_D_rule_85 : decode b_D_rule 85 = .ok (.invokevirtual 123, 3) := by decide +kernel
theorem d_D_rule_88 : decode b_D_rule 88 = .ok (.ireturn, 1) := by decide +kernel
theorem d_D_isPattern_0 : decode b_D_isPattern 0 = .ok (.iconst 1, 1) := by decide +kernel
theorem d_D_isPattern_1 : decode b_D_isPattern 1 = .ok (.istore_n 1, 1) := by decide +kernel
theorem d_D_isPattern_2 : decode b_D_isPattern 2 = .ok (.iconst 0, 1) := by decide +kernel
theorem d_D_isPattern_3 : decode b_D_isPattern 3 = .ok (.istore_n 2, 1) := by decide +kernel
theorem d_D_isPattern_4 : decode b_D_isPattern 4 = .ok (.iload_n 2, 1) := by decide +kernel
theorem d_D_isPattern_5 : decode b_D_isPattern 5 = .ok (.aload_n 0, 1) := by decide +kernel
theorem d_D_isPattern_6 : decode b_D_isPattern 6 = .ok (.getfield 130, 3) := by decide +kernel
theorem d_D_isPattern_9 : decode b_D_isPattern 9 = .ok (.if_icmp .ge 72, 3) := by decide +kernel
theorem d_D_isPattern_81 : decode b_D_isPattern 81 = .ok (.iload_n 1, 1) := by decide +kernel
theorem d_D_isPattern_82 : decode b_D_isPattern 82 = .ok (.ifCond .ne 7, 3) := by decide +kernel
theorem d_D_isPattern_89 : decode b_D_isPattern 89 = .ok (.iconst 0, 1) := by decide +kernel
theorem d_D_isPattern_90 : decode b_D_isPattern 90 = .ok (.ireturn, 1) := by decide +kernel
theorem d_D_node_0 : decode b_D_node 0 = .ok (.aload_n 0, 1) := by decide +kernel
theorem d_D_node_1 : decode b_D_node 1 = .ok (.iconst 0, 1) := by decide +kernel
theorem d_D_node_2 : decode b_D_node 2 = .ok (.putfield 115, 3) := by decide +kernel
theorem d_D_node_5 : decode b_D_node 5 = .ok (.iload_n 1, 1) := by decide +kernel
theorem d_D_node_6 : decode b_D_node 6 = .ok (.iconst 0, 1) := by decide +kernel
theorem d_D_node_7 : decode b_D_node 7 = .ok (.bipush 31, 2) := by decide +kernel
theorem d_D_node_9 : decode b_D_node 9 = .ok (.invokestatic 119, 3) := by decide +kernel
theorem d_D_node_12 : decode b_D_node 12 = .ok (.ifCond .eq 13, 3) := by decide +kernel
theorem d_D_node_15 : decode b_D_node 15 = .ok (.aload_n 0, 1) := by decide +kernel
theorem d_D_node_16 : decode b_D_node 16 = .ok (.getfield 7, 3) := by decide +kernel
theorem d_D_node_19 : decode b_D_node 19 = .ok (.iload_n 1, 1) := by decide +kernel
theorem d_D_node_20 : decode b_D_node 20 = .ok (.iaload, 1) := by decide +kernel
theorem d_D_node_21 : decode b_D_node 21 = .ok (.iconst (-1), 1) := by decide +kernel
theorem d_D_node_22 : decode b_D_node 22 = .ok (.if_icmp .ne 9, 3) := by decide +kernel
theorem d_D_node_25 : decode b_D_node 25 = .ok (.aload_n 0, 1) := by decide +kernel
theorem d_D_node_26 : decode b_D_node 26 = .ok (.iconst 1, 1) := by decide +kernel
theorem d_D_node_27 : decode b_D_node 27 = .ok (.invokevirtual 123, 3) := by decide +kernel
theorem d_D_node_30 : decode b_D_node 30 = .ok (.ireturn, 1) := by decide +kernel
theorem d_D_cost_0 : decode b_D_cost 0 = .ok (.aload_n 0, 1) := by decide +kernel
theorem d_D_cost_1 : decode b_D_cost 1 = .ok (.iconst 0, 1) := by decide +kernel
theorem d_D_cost_2 : decode b_D_cost 2 = .ok (.putfield 115, 3) := by decide +kernel
theorem d_D_cost_5 : decode b_D_cost 5 = .ok (.iload_n 1, 1) := by decide +kernel
theorem d_D_cost_6 : decode b_D_cost 6 = .ok (.iconst 0, 1) := by decide +kernel
theorem d_D_cost_7 : decode b_D_cost 7 = .ok (.aload_n 0, 1) := by decide +kernel
theorem d_D_cost_8 : decode b_D_cost 8 = .ok (.getfield 136, 3) := by decide +kernel
theorem d_D_cost_11 : decode b_D_cost 11 = .ok (.iconst 1, 1) := by decide +kernel
theorem d_D_cost_12 : decode b_D_cost 12 = .ok (.isub, 1) := by decide +kernel
theorem d_D_cost_13 : decode b_D_cost 13 = .ok (.invokestatic 119, 3) := by decide +kernel
theorem d_D_cost_16 : decode b_D_cost 16 = .ok (.ifCond .eq 27, 3) := by decide +kernel
theorem d_D_cost_43 : decode b_D_cost 43 = .ok (.aload_n 0, 1) := by decide +kernel
theorem d_D_cost_44 : decode b_D_cost 44 = .ok (.iconst 1, 1) := by decide +kernel
theorem d_D_cost_45 : decode b_D_cost 45 = .ok (.invokevirtual 123, 3) := by decide +kernel
theorem d_D_cost_48 : decode b_D_cost 48 = .ok (.ireturn, 1) := by decide +kernel
theorem d_D_ruleAt_0 : decode b_D_ruleAt 0 = .ok (.aload_n 0, 1) := by decide +kernel
theorem d_D_ruleAt_1 : decode b_D_ruleAt 1 = .ok (.iconst 0, 1) := by decide +kernel
theorem d_D_ruleAt_2 : decode b_D_ruleAt 2 = .ok (.putfield 115, 3) := by decide +kernel
theorem d_D_ruleAt_5 : decode b_D_ruleAt 5 = .ok (.iload_n 1, 1) := by decide +kernel
theorem d_D_ruleAt_6 : decode b_D_ruleAt 6 = .ok (.iconst 0, 1) := by decide +kernel
theorem d_D_ruleAt_7 : decode b_D_ruleAt 7 = .ok (.aload_n 0, 1) := by decide +kernel
theorem d_D_ruleAt_8 : decode b_D_ruleAt 8 = .ok (.getfield 136, 3) := by decide +kernel
theorem d_D_ruleAt_11 : decode b_D_ruleAt 11 = .ok (.iconst 1, 1) := by decide +kernel
theorem d_D_ruleAt_12 : decode b_D_ruleAt 12 = .ok (.isub, 1) := by decide +kernel
theorem d_D_ruleAt_13 : decode b_D_ruleAt 13 = .ok (.invokestatic 119, 3) := by decide +kernel
theorem d_D_ruleAt_16 : decode b_D_ruleAt 16 = .ok (.ifCond .eq 27, 3) := by decide +kernel
theorem d_D_ruleAt_43 : decode b_D_ruleAt 43 = .ok (.aload_n 0, 1) := by decide +kernel
theorem d_D_ruleAt_44 : decode b_D_ruleAt 44 = .ok (.iconst 1, 1) := by decide +kernel
theorem d_D_ruleAt_45 : decode b_D_ruleAt 45 = .ok (.invokevirtual 123, 3) := by decide +kernel
theorem d_D_ruleAt_48 : decode b_D_ruleAt 48 = .ok (.ireturn, 1) := by decide +kernel
theorem d_D_cover_0 : decode b_D_cover 0 = .ok (.aload_n 0, 1) := by decide +kernel
theorem d_D_cover_1 : decode b_D_cover 1 = .ok (.iconst 0, 1) := by decide +kernel
theorem d_D_cover_2 : decode b_D_cover 2 = .ok (.putfield 115, 3) := by decide +kernel
theorem d_D_cover_5 : decode b_D_cover 5 = .ok (.iload_n 1, 1) := by decide +kernel
theorem d_D_cover_6 : decode b_D_cover 6 = .ok (.iconst 0, 1) := by decide +kernel
theorem d_D_cover_7 : decode b_D_cover 7 = .ok (.aload_n 0, 1) := by decide +kernel
theorem d_D_cover_8 : decode b_D_cover 8 = .ok (.getfield 136, 3) := by decide +kernel
theorem d_D_cover_11 : decode b_D_cover 11 = .ok (.iconst 1, 1) := by decide +kernel
theorem d_D_cover_12 : decode b_D_cover 12 = .ok (.isub, 1) := by decide +kernel
theorem d_D_cover_13 : decode b_D_cover 13 = .ok (.invokestatic 119, 3) := by decide +kernel
theorem d_D_cover_16 : decode b_D_cover 16 = .ok (.ifCond .eq 13, 3) := by decide +kernel
theorem d_D_cover_29 : decode b_D_cover 29 = .ok (.aload_n 0, 1) := by decide +kernel
theorem d_D_cover_30 : decode b_D_cover 30 = .ok (.iconst 1, 1) := by decide +kernel
theorem d_D_cover_31 : decode b_D_cover 31 = .ok (.invokevirtual 123, 3) := by decide +kernel
theorem d_D_cover_34 : decode b_D_cover 34 = .ok (.ireturn, 1) := by decide +kernel
theorem d_D_pair_0 : decode b_D_pair 0 = .ok (.aload_n 0, 1) := by decide +kernel
theorem d_D_pair_1 : decode b_D_pair 1 = .ok (.iconst 0, 1) := by decide +kernel
theorem d_D_pair_2 : decode b_D_pair 2 = .ok (.putfield 115, 3) := by decide +kernel
theorem d_D_pair_5 : decode b_D_pair 5 = .ok (.iload_n 1, 1) := by decide +kernel
theorem d_D_pair_6 : decode b_D_pair 6 = .ok (.iconst 0, 1) := by decide +kernel
theorem d_D_pair_7 : decode b_D_pair 7 = .ok (.aload_n 0, 1) := by decide +kernel
theorem d_D_pair_8 : decode b_D_pair 8 = .ok (.getfield 162, 3) := by decide +kernel
theorem d_D_pair_11 : decode b_D_pair 11 = .ok (.iconst 1, 1) := by decide +kernel
theorem d_D_pair_12 : decode b_D_pair 12 = .ok (.isub, 1) := by decide +kernel
theorem d_D_pair_13 : decode b_D_pair 13 = .ok (.invokestatic 119, 3) := by decide +kernel
theorem d_D_pair_16 : decode b_D_pair 16 = .ok (.ifCond .eq 12, 3) := by decide +kernel
theorem d_D_pair_28 : decode b_D_pair 28 = .ok (.aload_n 0, 1) := by decide +kernel
theorem d_D_pair_29 : decode b_D_pair 29 = .ok (.iconst 1, 1) := by decide +kernel
theorem d_D_pair_30 : decode b_D_pair 30 = .ok (.invokevirtual 123, 3) := by decide +kernel
theorem d_D_pair_33 : decode b_D_pair 33 = .ok (.ireturn, 1) := by decide +kernel
theorem d_D_findParts_0 : decode b_D_findParts 0 = .ok (.aload_n 0, 1) := by decide +kernel
theorem d_D_findParts_1 : decode b_D_findParts 1 = .ok (.bipush 16, 2) := by decide +kernel
theorem d_D_findParts_3 : decode b_D_findParts 3 = .ok (.putfield 165, 3) := by decide +kernel
theorem d_D_findParts_6 : decode b_D_findParts 6 = .ok (.iconst 0, 1) := by decide +kernel
theorem d_D_findParts_7 : decode b_D_findParts 7 = .ok (.istore_n 1, 1) := by decide +kernel
theorem d_D_findParts_8 : decode b_D_findParts 8 = .ok (.iload_n 1, 1) := by decide +kernel
theorem d_D_findParts_9 : decode b_D_findParts 9 = .ok (.aload_n 0, 1) := by decide +kernel
theorem d_D_findParts_10 : decode b_D_findParts 10 = .ok (.getfield 133, 3) := by decide +kernel
theorem d_D_findParts_13 : decode b_D_findParts 13 = .ok (.if_icmp .ge 91, 3) := by decide +kernel
theorem d_D_findParts_104 : decode b_D_findParts 104 = .ok (.bipush 16, 2) := by decide +kernel
theorem d_D_findParts_106 : decode b_D_findParts 106 = .ok (.istore_n 1, 1) := by decide +kernel
theorem d_D_findParts_107 : decode b_D_findParts 107 = .ok (.iload_n 1, 1) := by decide +kernel
theorem d_D_findParts_108 : decode b_D_findParts 108 = .ok (.aload_n 0, 1) := by decide +kernel
theorem d_D_findParts_109 : decode b_D_findParts 109 = .ok (.getfield 165, 3) := by decide +kernel
theorem d_D_findParts_112 : decode b_D_findParts 112 = .ok (.if_icmp .ge 113, 3) := by decide +kernel
theorem d_D_findParts_225 : decode b_D_findParts 225 = .ok (.return_, 1) := by decide +kernel
theorem d_D_same_0 : decode b_D_same 0 = .ok (.aload_n 0, 1) := by decide +kernel
theorem d_D_same_1 : decode b_D_same 1 = .ok (.iconst 0, 1) := by decide +kernel
theorem d_D_same_2 : decode b_D_same 2 = .ok (.putfield 115, 3) := by decide +kernel
theorem d_D_same_5 : decode b_D_same 5 = .ok (.iload_n 1, 1) := by decide +kernel
theorem d_D_same_6 : decode b_D_same 6 = .ok (.iconst 0, 1) := by decide +kernel
theorem d_D_same_7 : decode b_D_same 7 = .ok (.aload_n 0, 1) := by decide +kernel
theorem d_D_same_8 : decode b_D_same 8 = .ok (.getfield 136, 3) := by decide +kernel
theorem d_D_same_11 : decode b_D_same 11 = .ok (.iconst 1, 1) := by decide +kernel
theorem d_D_same_12 : decode b_D_same 12 = .ok (.isub, 1) := by decide +kernel
theorem d_D_same_13 : decode b_D_same 13 = .ok (.invokestatic 119, 3) := by decide +kernel
theorem d_D_same_16 : decode b_D_same 16 = .ok (.ifCond .eq 17, 3) := by decide +kernel
theorem d_D_same_33 : decode b_D_same 33 = .ok (.aload_n 0, 1) := by decide +kernel
theorem d_D_same_34 : decode b_D_same 34 = .ok (.iconst 1, 1) := by decide +kernel
theorem d_D_same_35 : decode b_D_same 35 = .ok (.invokevirtual 123, 3) := by decide +kernel
theorem d_D_same_38 : decode b_D_same 38 = .ok (.ifCond .le 7, 3) := by decide +kernel
theorem d_D_same_45 : decode b_D_same 45 = .ok (.iconst 0, 1) := by decide +kernel
theorem d_D_same_46 : decode b_D_same 46 = .ok (.ireturn, 1) := by decide +kernel
theorem d_D_clear_0 : decode b_D_clear 0 = .ok (.aload_n 0, 1) := by decide +kernel
theorem d_D_clear_1 : decode b_D_clear 1 = .ok (.iconst 0, 1) := by decide +kernel
theorem d_D_clear_2 : decode b_D_clear 2 = .ok (.putfield 115, 3) := by decide +kernel
theorem d_D_clear_5 : decode b_D_clear 5 = .ok (.aload_n 0, 1) := by decide +kernel
theorem d_D_clear_6 : decode b_D_clear 6 = .ok (.getfield 136, 3) := by decide +kernel
theorem d_D_clear_9 : decode b_D_clear 9 = .ok (.istore_n 1, 1) := by decide +kernel
theorem d_D_clear_10 : decode b_D_clear 10 = .ok (.aload_n 0, 1) := by decide +kernel
theorem d_D_clear_11 : decode b_D_clear 11 = .ok (.iconst 0, 1) := by decide +kernel
theorem d_D_clear_12 : decode b_D_clear 12 = .ok (.putfield 136, 3) := by decide +kernel
theorem d_D_clear_15 : decode b_D_clear 15 = .ok (.aload_n 0, 1) := by decide +kernel
theorem d_D_clear_16 : decode b_D_clear 16 = .ok (.iconst 0, 1) := by decide +kernel
theorem d_D_clear_17 : decode b_D_clear 17 = .ok (.putfield 162, 3) := by decide +kernel
theorem d_D_clear_20 : decode b_D_clear 20 = .ok (.iload_n 1, 1) := by decide +kernel
theorem d_D_clear_21 : decode b_D_clear 21 = .ok (.ireturn, 1) := by decide +kernel
theorem tx_le31 {x : Int32} (h : 0 ≤ x ∧ x ≤ 31) : 0 ≤ x ∧ x < 32 := ⟨h.1, Int32.lt_iff_toInt_lt.mpr (by have := Int32.le_iff_toInt_le.mp h.2; have q : x.toInt ≤ 31 := this; show x.toInt < 32; omega)⟩
theorem tx_none2 {n : Int32} (h : 0 ≤ n ∧ n ≤ (0 - 1)) : False := by
  have a := Int32.le_iff_toInt_le.mp h.1
  have b := Int32.le_iff_toInt_le.mp h.2
  have a' : (0 : Int) ≤ n.toInt := a
  have b' : n.toInt ≤ -1 := b
  omega
set_option maxHeartbeats 4000000 in
set_option maxRecDepth 100000 in
theorem c_D_within (l : Launch) (dC : Nat → ClassId) (dI : Nat → Nat → Nat) (sz : Nat) (x a b : Int32) : Met l y_D_within ws_D_within ({ frames := 0, cells := 0, slots := 0, locals := 0 }) (va_Pc [.int x, .int a, .int b] (fun U => U.heap.size = sz ∧ va_P (dC, dI) kcl [] U.heap ∧ va_K (dC, dI) kcl [] U)) (va_Qi (fun (r : Int32) (_ : Unit) => r = if a ≤ x ∧ x ≤ b then 1 else 0) (fun (_ : Unit) (_ : State) => True) (va_A [] sz)) 0 0 (va_A [] sz) := by
  refine Met.ofW (cc := b_D_within) (maxL := 3) (ret := (Option.some Jvm.ClassFile.FieldType.boolean)) (by decide) rfl ?_
  intro p e s m args below meth c s₁ B hml hv
  obtain ⟨rfl, hsz, hP, hK⟩ := hv
  have hx := B.exec
  have hb := B.bytes
  have hr := B.returns
  have hlocks := B.notSynchronized
  have hg : ∀ w ∈ gw, w.before _ s = true := fun w h => atoms_spec (ws := ws_D_within) B.pre w (List.mem_cons_of_mem _ h)
  have hown : s.vm.findClass "TreeMatcherModel" = some m.cls := findClass_of_methodNamed B.named
  subst hsz
  have hA : ∀ q : Nat, s.heap.size ≤ q → va_A ([] : va_W) s.heap.size q := fun q h => Or.inr h
  generalize hAe : va_A ([] : va_W) s.heap.size = A at hA ⊢
  have hS : va_S A s.heap s.heap [] := va_S.rf
  have hl := lv_entry ([.int x, .int a, .int b] : List Value) (n := 3) (Nat.le_of_ble_eq_true rfl)
  rw [lg_entry_eq]
  generalize (lg_sl ([.int x, .int a, .int b] : List Value) ++ List.replicate (3 - (lg_sl ([.int x, .int a, .int b] : List Value)).length) Slot.unset).toArray = ls at hl ⊢
  have hl : lv_has ls 3 [(0, .int x), (1, .int a), (2, .int b)] := hl
  refine lv_iload_n hx hb d_D_within_0 rfl (lv_at hl 0 rfl) ?_
  refine lv_iload_n hx hb d_D_within_1 rfl (lv_at hl 1 rfl) ?_
  refine lv_icmp_lt (tgt := 14) hx hb d_D_within_2 (by decide) (fun c_1 => ?_) (fun c_1 => ?_)
  · refine lv_iconst (v := 0) hx hb d_D_within_14 (by decide) ?_
    exact W.zret (v := 0) hx hb hr rfl (fun t ht hW => ⟨⟨0, (), rfl, (by rw [if_neg (fun h => absurd c_1 (Int32.not_lt.mpr h.1))]), trivial⟩, hS.F ht⟩) hS.2.2 d_D_within_15
  · refine lv_iload_n hx hb d_D_within_5 rfl (lv_at hl 0 rfl) ?_
    refine lv_iload_n hx hb d_D_within_6 rfl (lv_at hl 2 rfl) ?_
    refine lv_icmp_gt (tgt := 14) hx hb d_D_within_7 (by decide) (fun c_2 => ?_) (fun c_2 => ?_)
    · refine lv_iconst (v := 0) hx hb d_D_within_14 (by decide) ?_
      exact W.zret (v := 0) hx hb hr rfl (fun t ht hW => ⟨⟨0, (), rfl, (by rw [if_neg (fun h => absurd c_2 (Int32.not_lt.mpr h.2))]), trivial⟩, hS.F ht⟩) hS.2.2 d_D_within_15
    · refine lv_iconst (v := 1) hx hb d_D_within_10 (by decide) ?_
      refine lv_goto (tgt := 15) hx hb d_D_within_11 (by decide) ?_
      exact W.zret (v := 1) hx hb hr rfl (fun t ht hW => ⟨⟨1, (), rfl, (by rw [if_pos ⟨Int32.not_lt.mp c_1, Int32.not_lt.mp c_2⟩]), trivial⟩, hS.F ht⟩) hS.2.2 d_D_within_15
set_option maxHeartbeats 4000000 in
set_option maxRecDepth 100000 in
theorem c_D_fail (l : Launch) (dC : Nat → ClassId) (dI : Nat → Nat → Nat) (sz : Nat) (d : Nat) (zd : Nat → Value) (t0 k : Int32) : Met l y_D_fail ws_D_fail ({ frames := 0, cells := 0, slots := 0, locals := 0 }) (va_Pc [.ref d, .int k] (fun U => U.heap.size = sz ∧ va_P (dC, dI) kcl [(d, .inr (9, [.int t0, (zd 1), (zd 2), (zd 3), (zd 4), (zd 5), (zd 6), (zd 7), (zd 8), (zd 9), (zd 10), (zd 11), (zd 12), (zd 13), (zd 14), (zd 15), (zd 16), (zd 17), (zd 18), (zd 19), (zd 20), (zd 21), (zd 22), (zd 23), (zd 24), (zd 25), (zd 26), (zd 27), (zd 28), (zd 29), (zd 30), (zd 31), (zd 32), (zd 33), (zd 34), (zd 35), (zd 36), (zd 37), (zd 38), (zd 39), (zd 40), (zd 41)]))] U.heap ∧ va_K (dC, dI) kcl [] U ∧ va_D (fun _ => True) [(d, .inr (9, [.int t0, (zd 1), (zd 2), (zd 3), (zd 4), (zd 5), (zd 6), (zd 7), (zd 8), (zd 9), (zd 10), (zd 11), (zd 12), (zd 13), (zd 14), (zd 15), (zd 16), (zd 17), (zd 18), (zd 19), (zd 20), (zd 21), (zd 22), (zd 23), (zd 24), (zd 25), (zd 26), (zd 27), (zd 28), (zd 29), (zd 30), (zd 31), (zd 32), (zd 33), (zd 34), (zd 35), (zd 36), (zd 37), (zd 38), (zd 39), (zd 40), (zd 41)]))])) (va_Qi (fun (r th : Int32) => r = 0 ∧ th = k) (fun (th : Int32) (t : State) => ∃ zd2 : Nat → Value, va_P (dC, dI) kcl [(d, .inr (9, [.int th, (zd2 1), (zd2 2), (zd2 3), (zd2 4), (zd2 5), (zd2 6), (zd2 7), (zd2 8), (zd2 9), (zd2 10), (zd2 11), (zd2 12), (zd2 13), (zd2 14), (zd2 15), (zd2 16), (zd2 17), (zd2 18), (zd2 19), (zd2 20), (zd2 21), (zd2 22), (zd2 23), (zd2 24), (zd2 25), (zd2 26), (zd2 27), (zd2 28), (zd2 29), (zd2 30), (zd2 31), (zd2 32), (zd2 33), (zd2 34), (zd2 35), (zd2 36), (zd2 37), (zd2 38), (zd2 39), (zd2 40), (zd2 41)]))] t.heap ∧ va_K (dC, dI) kcl [] t ∧ va_D (va_A [(d, .inr (9, [.int t0, (zd 1), (zd 2), (zd 3), (zd 4), (zd 5), (zd 6), (zd 7), (zd 8), (zd 9), (zd 10), (zd 11), (zd 12), (zd 13), (zd 14), (zd 15), (zd 16), (zd 17), (zd 18), (zd 19), (zd 20), (zd 21), (zd 22), (zd 23), (zd 24), (zd 25), (zd 26), (zd 27), (zd 28), (zd 29), (zd 30), (zd 31), (zd 32), (zd 33), (zd 34), (zd 35), (zd 36), (zd 37), (zd 38), (zd 39), (zd 40), (zd 41)]))] sz) [(d, .inr (9, [.int th, (zd2 1), (zd2 2), (zd2 3), (zd2 4), (zd2 5), (zd2 6), (zd2 7), (zd2 8), (zd2 9), (zd2 10), (zd2 11), (zd2 12), (zd2 13), (zd2 14), (zd2 15), (zd2 16), (zd2 17), (zd2 18), (zd2 19), (zd2 20), (zd2 21), (zd2 22), (zd2 23), (zd2 24), (zd2 25), (zd2 26), (zd2 27), (zd2 28), (zd2 29), (zd2 30), (zd2 31), (zd2 32), (zd2 33), (zd2 34), (zd2 35), (zd2 36), (zd2 37), (zd2 38), (zd2 39), (zd2 40), (zd2 41)]))]) (va_A [(d, .inr (9, [.int t0, (zd 1), (zd 2), (zd 3), (zd 4), (zd 5), (zd 6), (zd 7), (zd 8), (zd 9), (zd 10), (zd 11), (zd 12), (zd 13), (zd 14), (zd 15), (zd 16), (zd 17), (zd 18), (zd 19), (zd 20), (zd 21), (zd 22), (zd 23), (zd 24), (zd 25), (zd 26), (zd 27), (zd 28), (zd 29), (zd 30), (zd 31), (zd 32), (zd 33), (zd 34), (zd 35), (zd 36), (zd 37), (zd 38), (zd 39), (zd 40), (zd 41)]))] sz)) 0 0 (va_A [(d, .inr (9, [.int t0, (zd 1), (zd 2), (zd 3), (zd 4), (zd 5), (zd 6), (zd 7), (zd 8), (zd 9), (zd 10), (zd 11), (zd 12), (zd 13), (zd 14), (zd 15), (zd 16), (zd 17), (zd 18), (zd 19), (zd 20), (zd 21), (zd 22), (zd 23), (zd 24), (zd 25), (zd 26), (zd 27), (zd 28), (zd 29), (zd 30), (zd 31), (zd 32), (zd 33), (zd 34), (zd 35), (zd 36), (zd 37), (zd 38), (zd 39), (zd 40), (zd 41)]))] sz) := by
  refine Met.ofW (cc := b_D_fail) (maxL := 2) (ret := (Option.some Jvm.ClassFile.FieldType.int)) (by decide) rfl ?_
  intro p e s m args below meth c s₁ B hml hv
  obtain ⟨rfl, hsz, hP, hK, hD0⟩ := hv
  have hx := B.exec
  have hb := B.bytes
  have hr := B.returns
  have hlocks := B.notSynchronized
  have hg : ∀ w ∈ gw, w.before _ s = true := fun w h => atoms_spec (ws := ws_D_fail) B.pre w (List.mem_cons_of_mem _ h)
  have hown : s.vm.findClass "TreeMatcherModel" = some m.cls := findClass_of_methodNamed B.named
  subst hsz
  have hD := hD0.self (sz := s.heap.size)
  have hA : ∀ q : Nat, s.heap.size ≤ q → va_A [(d, .inr (9, [.int t0, (zd 1), (zd 2), (zd 3), (zd 4), (zd 5), (zd 6), (zd 7), (zd 8), (zd 9), (zd 10), (zd 11), (zd 12), (zd 13), (zd 14), (zd 15), (zd 16), (zd 17), (zd 18), (zd 19), (zd 20), (zd 21), (zd 22), (zd 23), (zd 24), (zd 25), (zd 26), (zd 27), (zd 28), (zd 29), (zd 30), (zd 31), (zd 32), (zd 33), (zd 34), (zd 35), (zd 36), (zd 37), (zd 38), (zd 39), (zd 40), (zd 41)]))] s.heap.size q := fun q h => Or.inr h
  generalize hAe : va_A [(d, .inr (9, [.int t0, (zd 1), (zd 2), (zd 3), (zd 4), (zd 5), (zd 6), (zd 7), (zd 8), (zd 9), (zd 10), (zd 11), (zd 12), (zd 13), (zd 14), (zd 15), (zd 16), (zd 17), (zd 18), (zd 19), (zd 20), (zd 21), (zd 22), (zd 23), (zd 24), (zd 25), (zd 26), (zd 27), (zd 28), (zd 29), (zd 30), (zd 31), (zd 32), (zd 33), (zd 34), (zd 35), (zd 36), (zd 37), (zd 38), (zd 39), (zd 40), (zd 41)]))] s.heap.size = A at hD hA ⊢
  have hS : va_S A s.heap s.heap [] := va_S.rf
  have hl := lv_entry ([.ref d, .int k] : List Value) (n := 2) (Nat.le_of_ble_eq_true rfl)
  rw [lg_entry_eq]
  generalize (lg_sl ([.ref d, .int k] : List Value) ++ List.replicate (2 - (lg_sl ([.ref d, .int k] : List Value)).length) Slot.unset).toArray = ls at hl ⊢
  have hl : lv_has ls 2 [(0, .ref d), (1, .int k)] := hl
  refine lv_aload_n hx hb d_D_fail_0 rfl (lv_at hl 0 rfl) ?_
  refine lv_iload_n hx hb d_D_fail_1 rfl (lv_at hl 1 rfl) ?_
  refine va_put (D := (dC, dI)) (ci := 9) (v := .int k) (ty := .int) (C := kR_D) (T := kT_D) (N := 42) hx hb hg kin_D kt_D kty_D knm_D hown hK hP hD hS 0 rfl rfl 0 (by decide) (hg _ tw_817) (fun _ h9 => h9) rfl (by decide +kernel) rfl rfl (Nat.le_of_ble_eq_true rfl) d_D_fail_2 (fun H_1 lo_2 hP hD hS => ?_)
  have hP : va_P (dC, dI) kcl [(d, .inr (9, [.int k, (zd 1), (zd 2), (zd 3), (zd 4), (zd 5), (zd 6), (zd 7), (zd 8), (zd 9), (zd 10), (zd 11), (zd 12), (zd 13), (zd 14), (zd 15), (zd 16), (zd 17), (zd 18), (zd 19), (zd 20), (zd 21), (zd 22), (zd 23), (zd 24), (zd 25), (zd 26), (zd 27), (zd 28), (zd 29), (zd 30), (zd 31), (zd 32), (zd 33), (zd 34), (zd 35), (zd 36), (zd 37), (zd 38), (zd 39), (zd 40), (zd 41)]))] H_1 := hP
  have hD : va_D A [(d, .inr (9, [.int k, (zd 1), (zd 2), (zd 3), (zd 4), (zd 5), (zd 6), (zd 7), (zd 8), (zd 9), (zd 10), (zd 11), (zd 12), (zd 13), (zd 14), (zd 15), (zd 16), (zd 17), (zd 18), (zd 19), (zd 20), (zd 21), (zd 22), (zd 23), (zd 24), (zd 25), (zd 26), (zd 27), (zd 28), (zd 29), (zd 30), (zd 31), (zd 32), (zd 33), (zd 34), (zd 35), (zd 36), (zd 37), (zd 38), (zd 39), (zd 40), (zd 41)]))] := hD
  refine lv_iconst (v := 0) hx hb d_D_fail_5 (by decide) ?_
  have hP9 := hP.sub (ws' := [(d, .inr (9, [.int k, (zd 1), (zd 2), (zd 3), (zd 4), (zd 5), (zd 6), (zd 7), (zd 8), (zd 9), (zd 10), (zd 11), (zd 12), (zd 13), (zd 14), (zd 15), (zd 16), (zd 17), (zd 18), (zd 19), (zd 20), (zd 21), (zd 22), (zd 23), (zd 24), (zd 25), (zd 26), (zd 27), (zd 28), (zd 29), (zd 30), (zd 31), (zd 32), (zd 33), (zd 34), (zd 35), (zd 36), (zd 37), (zd 38), (zd 39), (zd 40), (zd 41)]))]) [0] rfl
  have hD9 := hD.sub (ws' := [(d, .inr (9, [.int k, (zd 1), (zd 2), (zd 3), (zd 4), (zd 5), (zd 6), (zd 7), (zd 8), (zd 9), (zd 10), (zd 11), (zd 12), (zd 13), (zd 14), (zd 15), (zd 16), (zd 17), (zd 18), (zd 19), (zd 20), (zd 21), (zd 22), (zd 23), (zd 24), (zd 25), (zd 26), (zd 27), (zd 28), (zd 29), (zd 30), (zd 31), (zd 32), (zd 33), (zd 34), (zd 35), (zd 36), (zd 37), (zd 38), (zd 39), (zd 40), (zd 41)]))]) [0] (by decide) rfl
  have hK9 := hK.sub (tys' := []) [] rfl
  exact W.iret (v := 0) hx hb hr (fun t ht hW => ⟨⟨0, k, rfl, ⟨rfl, rfl⟩, ⟨(fun i => List.getD [Value.int (k : Int32), (zd 1), (zd 2), (zd 3), (zd 4), (zd 5), (zd 6), (zd 7), (zd 8), (zd 9), (zd 10), (zd 11), (zd 12), (zd 13), (zd 14), (zd 15), (zd 16), (zd 17), (zd 18), (zd 19), (zd 20), (zd 21), (zd 22), (zd 23), (zd 24), (zd 25), (zd 26), (zd 27), (zd 28), (zd 29), (zd 30), (zd 31), (zd 32), (zd 33), (zd 34), (zd 35), (zd 36), (zd 37), (zd 38), (zd 39), (zd 40), (zd 41)] i Value.null), by rw [ht]; exact hP9, va_K.moved hW.alike hK9, hD9⟩⟩, hS.F ht⟩) hS.2.2 d_D_fail_6
set_option maxHeartbeats 4000000 in
set_option maxRecDepth 100000 in
theorem c_D_isPattern (l : Launch) (dC : Nat → ClassId) (dI : Nat → Nat → Nat) (sz : Nat) (d : Nat) (zd : Nat → Value) : Met l y_D_isPattern ws_D_isPattern ({ frames := 0, cells := 0, slots := 0, locals := 0 }) (va_Pc [.ref d] (fun U => U.heap.size = sz ∧ va_P (dC, dI) kcl [(d, .inr (9, [(zd 0), (zd 1), (zd 2), (zd 3), .int 0, (zd 5), (zd 6), (zd 7), (zd 8), (zd 9), (zd 10), (zd 11), (zd 12), (zd 13), (zd 14), (zd 15), (zd 16), (zd 17), (zd 18), (zd 19), (zd 20), (zd 21), (zd 22), (zd 23), (zd 24), (zd 25), (zd 26), (zd 27), (zd 28), (zd 29), (zd 30), (zd 31), (zd 32), (zd 33), (zd 34), (zd 35), (zd 36), (zd 37), (zd 38), (zd 39), (zd 40), (zd 41)]))] U.heap ∧ va_K (dC, dI) kcl [] U)) (va_Qi (fun (r : Int32) (_ : Unit) => r = 0) (fun (_ : Unit) (_ : State) => True) (va_A [] sz)) 0 0 (va_A [] sz) := by
  refine Met.ofW (cc := b_D_isPattern) (maxL := 3) (ret := (Option.some Jvm.ClassFile.FieldType.boolean)) (by decide) rfl ?_
  intro p e s m args below meth c s₁ B hml hv
  obtain ⟨rfl, hsz, hP, hK⟩ := hv
  have hx := B.exec
  have hb := B.bytes
  have hr := B.returns
  have hlocks := B.notSynchronized
  have hg : ∀ w ∈ gw, w.before _ s = true := fun w h => atoms_spec (ws := ws_D_isPattern) B.pre w (List.mem_cons_of_mem _ h)
  have hown : s.vm.findClass "TreeMatcherModel" = some m.cls := findClass_of_methodNamed B.named
  subst hsz
  have hA : ∀ q : Nat, s.heap.size ≤ q → va_A ([] : va_W) s.heap.size q := fun q h => Or.inr h
  generalize hAe : va_A ([] : va_W) s.heap.size = A at hA ⊢
  have hS : va_S A s.heap s.heap [] := va_S.rf
  have hl := lv_entry ([.ref d] : List Value) (n := 3) (Nat.le_of_ble_eq_true rfl)
  rw [lg_entry_eq]
  generalize (lg_sl ([.ref d] : List Value) ++ List.replicate (3 - (lg_sl ([.ref d] : List Value)).length) Slot.unset).toArray = ls at hl ⊢
  have hl : lv_has ls 3 [(0, .ref d)] := hl
  refine lv_iconst (v := 1) hx hb d_D_isPattern_0 (by decide) ?_
  refine lv_istore_n (lv' := [(1, .int 1), (0, .ref d)]) hx hb d_D_isPattern_1 rfl hl (by decide) rfl (fun ls hl => ?_)
  refine lv_iconst (v := 0) hx hb d_D_isPattern_2 (by decide) ?_
  refine lv_istore_n (lv' := [(2, .int 0), (1, .int 1), (0, .ref d)]) hx hb d_D_isPattern_3 rfl hl (by decide) rfl (fun ls hl => ?_)
  refine lv_iload_n hx hb d_D_isPattern_4 rfl (lv_at hl 0 rfl) ?_
  refine lv_aload_n hx hb d_D_isPattern_5 rfl (lv_at hl 2 rfl) ?_
  refine va_get (D := (dC, dI)) (ci := 9) (v := .int 0) (C := kR_D) (T := kT_D) (N := 42) hx hb hg kin_D hown hK hP 0 rfl rfl 4 (by decide) (hg _ tw_821) (fun _ h9 => h9) rfl d_D_isPattern_6 ?_
  refine lv_icmp_ge (tgt := 81) hx hb d_D_isPattern_9 (by decide) (fun c_1 => ?_) (fun c_1 => ?_)
  · refine lv_iload_n hx hb d_D_isPattern_81 rfl (lv_at hl 1 rfl) ?_
    refine lv_if_ne (tgt := 89) hx hb d_D_isPattern_82 (by decide) (fun c_2 => ?_) (fun c_2 => ?_)
    · refine lv_iconst (v := 0) hx hb d_D_isPattern_89 (by decide) ?_
      exact W.zret (v := 0) hx hb hr rfl (fun t ht hW => ⟨⟨0, (), rfl, rfl, trivial⟩, hS.F ht⟩) hS.2.2 d_D_isPattern_90
    · exact absurd c_2 (by decide)
  · exact absurd (by decide) c_1
set_option maxHeartbeats 4000000 in
set_option maxRecDepth 100000 in
theorem c_D_findParts (l : Launch) (dC : Nat → ClassId) (dI : Nat → Nat → Nat) (sz : Nat) (d : Nat) (zd : Nat → Value) (q0 : Int32) : Met l y_D_findParts ws_D_findParts ({ frames := 0, cells := 0, slots := 0, locals := 0 }) (va_Pc [.ref d] (fun U => U.heap.size = sz ∧ va_P (dC, dI) kcl [(d, .inr (9, [(zd 0), (zd 1), (zd 2), (zd 3), (zd 4), .int 0, (zd 6), (zd 7), (zd 8), (zd 9), (zd 10), (zd 11), (zd 12), (zd 13), (zd 14), (zd 15), (zd 16), (zd 17), (zd 18), (zd 19), (zd 20), (zd 21), (zd 22), (zd 23), (zd 24), (zd 25), (zd 26), (zd 27), (zd 28), (zd 29), (zd 30), (zd 31), .int q0, (zd 33), (zd 34), (zd 35), (zd 36), (zd 37), (zd 38), (zd 39), (zd 40), (zd 41)]))] U.heap ∧ va_K (dC, dI) kcl [] U ∧ va_D (fun _ => True) [(d, .inr (9, [(zd 0), (zd 1), (zd 2), (zd 3), (zd 4), .int 0, (zd 6), (zd 7), (zd 8), (zd 9), (zd 10), (zd 11), (zd 12), (zd 13), (zd 14), (zd 15), (zd 16), (zd 17), (zd 18), (zd 19), (zd 20), (zd 21), (zd 22), (zd 23), (zd 24), (zd 25), (zd 26), (zd 27), (zd 28), (zd 29), (zd 30), (zd 31), .int q0, (zd 33), (zd 34), (zd 35), (zd 36), (zd 37), (zd 38), (zd 39), (zd 40), (zd 41)]))])) (va_Qv (fun (_ : Unit) => True) (fun (_ : Unit) (t : State) => va_P (dC, dI) kcl [(d, .inr (9, [(zd 0), (zd 1), (zd 2), (zd 3), (zd 4), .int 0, (zd 6), (zd 7), (zd 8), (zd 9), (zd 10), (zd 11), (zd 12), (zd 13), (zd 14), (zd 15), (zd 16), (zd 17), (zd 18), (zd 19), (zd 20), (zd 21), (zd 22), (zd 23), (zd 24), (zd 25), (zd 26), (zd 27), (zd 28), (zd 29), (zd 30), (zd 31), .int 16, (zd 33), (zd 34), (zd 35), (zd 36), (zd 37), (zd 38), (zd 39), (zd 40), (zd 41)]))] t.heap ∧ va_K (dC, dI) kcl [] t ∧ va_D (va_A [(d, .inr (9, [(zd 0), (zd 1), (zd 2), (zd 3), (zd 4), .int 0, (zd 6), (zd 7), (zd 8), (zd 9), (zd 10), (zd 11), (zd 12), (zd 13), (zd 14), (zd 15), (zd 16), (zd 17), (zd 18), (zd 19), (zd 20), (zd 21), (zd 22), (zd 23), (zd 24), (zd 25), (zd 26), (zd 27), (zd 28), (zd 29), (zd 30), (zd 31), .int q0, (zd 33), (zd 34), (zd 35), (zd 36), (zd 37), (zd 38), (zd 39), (zd 40), (zd 41)]))] sz) [(d, .inr (9, [(zd 0), (zd 1), (zd 2), (zd 3), (zd 4), .int 0, (zd 6), (zd 7), (zd 8), (zd 9), (zd 10), (zd 11), (zd 12), (zd 13), (zd 14), (zd 15), (zd 16), (zd 17), (zd 18), (zd 19), (zd 20), (zd 21), (zd 22), (zd 23), (zd 24), (zd 25), (zd 26), (zd 27), (zd 28), (zd 29), (zd 30), (zd 31), .int 16, (zd 33), (zd 34), (zd 35), (zd 36), (zd 37), (zd 38), (zd 39), (zd 40), (zd 41)]))]) (va_A [(d, .inr (9, [(zd 0), (zd 1), (zd 2), (zd 3), (zd 4), .int 0, (zd 6), (zd 7), (zd 8), (zd 9), (zd 10), (zd 11), (zd 12), (zd 13), (zd 14), (zd 15), (zd 16), (zd 17), (zd 18), (zd 19), (zd 20), (zd 21), (zd 22), (zd 23), (zd 24), (zd 25), (zd 26), (zd 27), (zd 28), (zd 29), (zd 30), (zd 31), .int q0, (zd 33), (zd 34), (zd 35), (zd 36), (zd 37), (zd 38), (zd 39), (zd 40), (zd 41)]))] sz)) 0 0 (va_A [(d, .inr (9, [(zd 0), (zd 1), (zd 2), (zd 3), (zd 4), .int 0, (zd 6), (zd 7), (zd 8), (zd 9), (zd 10), (zd 11), (zd 12), (zd 13), (zd 14), (zd 15), (zd 16), (zd 17), (zd 18), (zd 19), (zd 20), (zd 21), (zd 22), (zd 23), (zd 24), (zd 25), (zd 26), (zd 27), (zd 28), (zd 29), (zd 30), (zd 31), .int q0, (zd 33), (zd 34), (zd 35), (zd 36), (zd 37), (zd 38), (zd 39), (zd 40), (zd 41)]))] sz) := by
  refine Met.ofW (cc := b_D_findParts) (maxL := 4) (ret := (Option.none : Option Jvm.ClassFile.FieldType)) (by decide) rfl ?_
  intro p e s m args below meth c s₁ B hml hv
  obtain ⟨rfl, hsz, hP, hK, hD0⟩ := hv
  have hx := B.exec
  have hb := B.bytes
  have hr := B.returns
  have hlocks := B.notSynchronized
  have hg : ∀ w ∈ gw, w.before _ s = true := fun w h => atoms_spec (ws := ws_D_findParts) B.pre w (List.mem_cons_of_mem _ h)
  have hown : s.vm.findClass "TreeMatcherModel" = some m.cls := findClass_of_methodNamed B.named
  subst hsz
  have hD := hD0.self (sz := s.heap.size)
  have hA : ∀ q : Nat, s.heap.size ≤ q → va_A [(d, .inr (9, [(zd 0), (zd 1), (zd 2), (zd 3), (zd 4), .int 0, (zd 6), (zd 7), (zd 8), (zd 9), (zd 10), (zd 11), (zd 12), (zd 13), (zd 14), (zd 15), (zd 16), (zd 17), (zd 18), (zd 19), (zd 20), (zd 21), (zd 22), (zd 23), (zd 24), (zd 25), (zd 26), (zd 27), (zd 28), (zd 29), (zd 30), (zd 31), .int q0, (zd 33), (zd 34), (zd 35), (zd 36), (zd 37), (zd 38), (zd 39), (zd 40), (zd 41)]))] s.heap.size q := fun q h => Or.inr h
  generalize hAe : va_A [(d, .inr (9, [(zd 0), (zd 1), (zd 2), (zd 3), (zd 4), .int 0, (zd 6), (zd 7), (zd 8), (zd 9), (zd 10), (zd 11), (zd 12), (zd 13), (zd 14), (zd 15), (zd 16), (zd 17), (zd 18), (zd 19), (zd 20), (zd 21), (zd 22), (zd 23), (zd 24), (zd 25), (zd 26), (zd 27), (zd 28), (zd 29), (zd 30), (zd 31), .int q0, (zd 33), (zd 34), (zd 35), (zd 36), (zd 37), (zd 38), (zd 39), (zd 40), (zd 41)]))] s.heap.size = A at hD hA ⊢
  have hS : va_S A s.heap s.heap [] := va_S.rf
  have hl := lv_entry ([.ref d] : List Value) (n := 4) (Nat.le_of_ble_eq_true rfl)
  rw [lg_entry_eq]
  generalize (lg_sl ([.ref d] : List Value) ++ List.replicate (4 - (lg_sl ([.ref d] : List Value)).length) Slot.unset).toArray = ls at hl ⊢
  have hl : lv_has ls 4 [(0, .ref d)] := hl
  refine lv_aload_n hx hb d_D_findParts_0 rfl (lv_at hl 0 rfl) ?_
  refine lv_bipush (v := 16) hx hb d_D_findParts_1 (by decide) ?_
  refine va_put (D := (dC, dI)) (ci := 9) (v := .int 16) (ty := .int) (C := kR_D) (T := kT_D) (N := 42) hx hb hg kin_D kt_D kty_D knm_D hown hK hP hD hS 0 rfl rfl 32 (by decide) (hg _ tw_849) (fun _ h9 => h9) rfl (by decide +kernel) rfl rfl (Nat.le_of_ble_eq_true rfl) d_D_findParts_3 (fun H_1 lo_2 hP hD hS => ?_)
  have hP : va_P (dC, dI) kcl [(d, .inr (9, [(zd 0), (zd 1), (zd 2), (zd 3), (zd 4), .int 0, (zd 6), (zd 7), (zd 8), (zd 9), (zd 10), (zd 11), (zd 12), (zd 13), (zd 14), (zd 15), (zd 16), (zd 17), (zd 18), (zd 19), (zd 20), (zd 21), (zd 22), (zd 23), (zd 24), (zd 25), (zd 26), (zd 27), (zd 28), (zd 29), (zd 30), (zd 31), .int 16, (zd 33), (zd 34), (zd 35), (zd 36), (zd 37), (zd 38), (zd 39), (zd 40), (zd 41)]))] H_1 := hP
  have hD : va_D A [(d, .inr (9, [(zd 0), (zd 1), (zd 2), (zd 3), (zd 4), .int 0, (zd 6), (zd 7), (zd 8), (zd 9), (zd 10), (zd 11), (zd 12), (zd 13), (zd 14), (zd 15), (zd 16), (zd 17), (zd 18), (zd 19), (zd 20), (zd 21), (zd 22), (zd 23), (zd 24), (zd 25), (zd 26), (zd 27), (zd 28), (zd 29), (zd 30), (zd 31), .int 16, (zd 33), (zd 34), (zd 35), (zd 36), (zd 37), (zd 38), (zd 39), (zd 40), (zd 41)]))] := hD
  refine lv_iconst (v := 0) hx hb d_D_findParts_6 (by decide) ?_
  refine lv_istore_n (lv' := [(1, .int 0), (0, .ref d)]) hx hb d_D_findParts_7 rfl hl (by decide) rfl (fun ls hl => ?_)
  refine lv_iload_n hx hb d_D_findParts_8 rfl (lv_at hl 0 rfl) ?_
  refine lv_aload_n hx hb d_D_findParts_9 rfl (lv_at hl 1 rfl) ?_
  refine va_get (D := (dC, dI)) (ci := 9) (v := .int 0) (C := kR_D) (T := kT_D) (N := 42) hx hb hg kin_D hown hK hP 0 rfl rfl 5 (by decide) (hg _ tw_822) (fun _ h9 => h9) rfl d_D_findParts_10 ?_
  refine lv_icmp_ge (tgt := 104) hx hb d_D_findParts_13 (by decide) (fun c_3 => ?_) (fun c_3 => ?_)
  · refine lv_bipush (v := 16) hx hb d_D_findParts_104 (by decide) ?_
    refine lv_istore_n (lv' := [(1, .int 16), (0, .ref d)]) hx hb d_D_findParts_106 rfl hl (by decide) rfl (fun ls hl => ?_)
    refine lv_iload_n hx hb d_D_findParts_107 rfl (lv_at hl 0 rfl) ?_
    refine lv_aload_n hx hb d_D_findParts_108 rfl (lv_at hl 1 rfl) ?_
    refine va_get (D := (dC, dI)) (ci := 9) (v := .int 16) (C := kR_D) (T := kT_D) (N := 42) hx hb hg kin_D hown hK hP 0 rfl rfl 32 (by decide) (hg _ tw_849) (fun _ h9 => h9) rfl d_D_findParts_109 ?_
    refine lv_icmp_ge (tgt := 225) hx hb d_D_findParts_112 (by decide) (fun c_4 => ?_) (fun c_4 => ?_)
    · have hP9 := hP.sub (ws' := [(d, .inr (9, [(zd 0), (zd 1), (zd 2), (zd 3), (zd 4), .int 0, (zd 6), (zd 7), (zd 8), (zd 9), (zd 10), (zd 11), (zd 12), (zd 13), (zd 14), (zd 15), (zd 16), (zd 17), (zd 18), (zd 19), (zd 20), (zd 21), (zd 22), (zd 23), (zd 24), (zd 25), (zd 26), (zd 27), (zd 28), (zd 29), (zd 30), (zd 31), .int 16, (zd 33), (zd 34), (zd 35), (zd 36), (zd 37), (zd 38), (zd 39), (zd 40), (zd 41)]))]) [0] rfl
      have hD9 := hD.sub (ws' := [(d, .inr (9, [(zd 0), (zd 1), (zd 2), (zd 3), (zd 4), .int 0, (zd 6), (zd 7), (zd 8), (zd 9), (zd 10), (zd 11), (zd 12), (zd 13), (zd 14), (zd 15), (zd 16), (zd 17), (zd 18), (zd 19), (zd 20), (zd 21), (zd 22), (zd 23), (zd 24), (zd 25), (zd 26), (zd 27), (zd 28), (zd 29), (zd 30), (zd 31), .int 16, (zd 33), (zd 34), (zd 35), (zd 36), (zd 37), (zd 38), (zd 39), (zd 40), (zd 41)]))]) [0] (by decide) rfl
      have hK9 := hK.sub (tys' := []) [] rfl
      exact W.vret hx hb hr (fun t ht hW => ⟨⟨(), rfl, trivial, ⟨by rw [ht]; exact hP9, va_K.moved hW.alike hK9, hD9⟩⟩, hS.F ht⟩) hS.2.2 d_D_findParts_225
    · exact absurd (by decide) c_4
  · exact absurd (by decide) c_3
set_option maxHeartbeats 4000000 in
set_option maxRecDepth 100000 in
theorem c_D_operator (l : Launch) (dC : Nat → ClassId) (dI : Nat → Nat → Nat) (sz : Nat) (d kq hq : Nat) (cK cH : ClassId) (zd : Nat → Value) (fk fh : Nat → Int32) (hfk : ∀ j, j < 32 → fk j = -1) (t0 : Int32) (n k : Int32) : Met l y_D_operator ws_D_operator ({ frames := 1, cells := 0, slots := 0, locals := 22 }) (va_Pc [.ref d, .int n, .int k] (fun U => U.heap.size = sz ∧ va_P (dC, dI) kcl [(d, .inr (9, [.int t0, .ref kq, .int 0, .ref hq, .int 0, .int 0, (zd 6), (zd 7), (zd 8), (zd 9), (zd 10), (zd 11), .int 0, (zd 13), (zd 14), (zd 15), (zd 16), (zd 17), (zd 18), (zd 19), .int 0, (zd 21), (zd 22), (zd 23), (zd 24), (zd 25), (zd 26), (zd 27), (zd 28), (zd 29), (zd 30), (zd 31), .int 0, (zd 33), (zd 34), (zd 35), (zd 36), (zd 37), (zd 38), (zd 39), (zd 40), .int 0])), (kq, .inl (cK, 32, .inl fk)), (hq, .inl (cH, 12, .inl fh))] U.heap ∧ va_K (dC, dI) kcl [(cK, .int), (cH, .int)] U ∧ va_D (fun _ => True) [(d, .inr (9, [.int t0, .ref kq, .int 0, .ref hq, .int 0, .int 0, (zd 6), (zd 7), (zd 8), (zd 9), (zd 10), (zd 11), .int 0, (zd 13), (zd 14), (zd 15), (zd 16), (zd 17), (zd 18), (zd 19), .int 0, (zd 21), (zd 22), (zd 23), (zd 24), (zd 25), (zd 26), (zd 27), (zd 28), (zd 29), (zd 30), (zd 31), .int 0, (zd 33), (zd 34), (zd 35), (zd 36), (zd 37), (zd 38), (zd 39), (zd 40), .int 0])), (kq, .inl (cK, 32, .inl fk)), (hq, .inl (cH, 12, .inl fh))])) (va_Qi (fun (r th : Int32) => (((0 ≤ n ∧ n ≤ 31) ∧ (0 ≤ k ∧ k ≤ 2)) ∧ r = 1 ∧ th = 0) ∨ (¬ ((0 ≤ n ∧ n ≤ 31) ∧ (0 ≤ k ∧ k ≤ 2)) ∧ th = 1)) (fun (th : Int32) (t : State) => ∃ zd2 : Nat → Value, va_P (dC, dI) kcl [(d, .inr (9, [.int th, (zd2 1), (zd2 2), (zd2 3), (zd2 4), (zd2 5), (zd2 6), (zd2 7), (zd2 8), (zd2 9), (zd2 10), (zd2 11), (zd2 12), (zd2 13), (zd2 14), (zd2 15), (zd2 16), (zd2 17), (zd2 18), (zd2 19), (zd2 20), (zd2 21), (zd2 22), (zd2 23), (zd2 24), (zd2 25), (zd2 26), (zd2 27), (zd2 28), (zd2 29), (zd2 30), (zd2 31), (zd2 32), (zd2 33), (zd2 34), (zd2 35), (zd2 36), (zd2 37), (zd2 38), (zd2 39), (zd2 40), (zd2 41)]))] t.heap ∧ va_K (dC, dI) kcl [] t ∧ va_D (va_A [(d, .inr (9, [.int t0, .ref kq, .int 0, .ref hq, .int 0, .int 0, (zd 6), (zd 7), (zd 8), (zd 9), (zd 10), (zd 11), .int 0, (zd 13), (zd 14), (zd 15), (zd 16), (zd 17), (zd 18), (zd 19), .int 0, (zd 21), (zd 22), (zd 23), (zd 24), (zd 25), (zd 26), (zd 27), (zd 28), (zd 29), (zd 30), (zd 31), .int 0, (zd 33), (zd 34), (zd 35), (zd 36), (zd 37), (zd 38), (zd 39), (zd 40), .int 0])), (kq, .inl (cK, 32, .inl fk)), (hq, .inl (cH, 12, .inl fh))] sz) [(d, .inr (9, [.int th, (zd2 1), (zd2 2), (zd2 3), (zd2 4), (zd2 5), (zd2 6), (zd2 7), (zd2 8), (zd2 9), (zd2 10), (zd2 11), (zd2 12), (zd2 13), (zd2 14), (zd2 15), (zd2 16), (zd2 17), (zd2 18), (zd2 19), (zd2 20), (zd2 21), (zd2 22), (zd2 23), (zd2 24), (zd2 25), (zd2 26), (zd2 27), (zd2 28), (zd2 29), (zd2 30), (zd2 31), (zd2 32), (zd2 33), (zd2 34), (zd2 35), (zd2 36), (zd2 37), (zd2 38), (zd2 39), (zd2 40), (zd2 41)]))]) (va_A [(d, .inr (9, [.int t0, .ref kq, .int 0, .ref hq, .int 0, .int 0, (zd 6), (zd 7), (zd 8), (zd 9), (zd 10), (zd 11), .int 0, (zd 13), (zd 14), (zd 15), (zd 16), (zd 17), (zd 18), (zd 19), .int 0, (zd 21), (zd 22), (zd 23), (zd 24), (zd 25), (zd 26), (zd 27), (zd 28), (zd 29), (zd 30), (zd 31), .int 0, (zd 33), (zd 34), (zd 35), (zd 36), (zd 37), (zd 38), (zd 39), (zd 40), .int 0])), (kq, .inl (cK, 32, .inl fk)), (hq, .inl (cH, 12, .inl fh))] sz)) 0 0 (va_A [(d, .inr (9, [.int t0, .ref kq, .int 0, .ref hq, .int 0, .int 0, (zd 6), (zd 7), (zd 8), (zd 9), (zd 10), (zd 11), .int 0, (zd 13), (zd 14), (zd 15), (zd 16), (zd 17), (zd 18), (zd 19), .int 0, (zd 21), (zd 22), (zd 23), (zd 24), (zd 25), (zd 26), (zd 27), (zd 28), (zd 29), (zd 30), (zd 31), .int 0, (zd 33), (zd 34), (zd 35), (zd 36), (zd 37), (zd 38), (zd 39), (zd 40), .int 0])), (kq, .inl (cK, 32, .inl fk)), (hq, .inl (cH, 12, .inl fh))] sz) := by
  refine Met.ofW (cc := b_D_operator) (maxL := 3) (ret := (Option.some Jvm.ClassFile.FieldType.int)) (by decide) rfl ?_
  intro p e s m args below meth c s₁ B hml hv
  obtain ⟨rfl, hsz, hP, hK, hD0⟩ := hv
  have hx := B.exec
  have hb := B.bytes
  have hr := B.returns
  have hlocks := B.notSynchronized
  have hg : ∀ w ∈ gw, w.before _ s = true := fun w h => atoms_spec (ws := ws_D_operator) B.pre w (List.mem_cons_of_mem _ h)
  have hown : s.vm.findClass "TreeMatcherModel" = some m.cls := findClass_of_methodNamed B.named
  subst hsz
  have hD := hD0.self (sz := s.heap.size)
  have hA : ∀ q : Nat, s.heap.size ≤ q → va_A [(d, .inr (9, [.int t0, .ref kq, .int 0, .ref hq, .int 0, .int 0, (zd 6), (zd 7), (zd 8), (zd 9), (zd 10), (zd 11), .int 0, (zd 13), (zd 14), (zd 15), (zd 16), (zd 17), (zd 18), (zd 19), .int 0, (zd 21), (zd 22), (zd 23), (zd 24), (zd 25), (zd 26), (zd 27), (zd 28), (zd 29), (zd 30), (zd 31), .int 0, (zd 33), (zd 34), (zd 35), (zd 36), (zd 37), (zd 38), (zd 39), (zd 40), .int 0])), (kq, .inl (cK, 32, .inl fk)), (hq, .inl (cH, 12, .inl fh))] s.heap.size q := fun q h => Or.inr h
  generalize hAe : va_A [(d, .inr (9, [.int t0, .ref kq, .int 0, .ref hq, .int 0, .int 0, (zd 6), (zd 7), (zd 8), (zd 9), (zd 10), (zd 11), .int 0, (zd 13), (zd 14), (zd 15), (zd 16), (zd 17), (zd 18), (zd 19), .int 0, (zd 21), (zd 22), (zd 23), (zd 24), (zd 25), (zd 26), (zd 27), (zd 28), (zd 29), (zd 30), (zd 31), .int 0, (zd 33), (zd 34), (zd 35), (zd 36), (zd 37), (zd 38), (zd 39), (zd 40), .int 0])), (kq, .inl (cK, 32, .inl fk)), (hq, .inl (cH, 12, .inl fh))] s.heap.size = A at hD hA ⊢
  have hS : va_S A s.heap s.heap [] := va_S.rf
  have hl := lv_entry ([.ref d, .int n, .int k] : List Value) (n := 3) (Nat.le_of_ble_eq_true rfl)
  rw [lg_entry_eq]
  generalize (lg_sl ([.ref d, .int n, .int k] : List Value) ++ List.replicate (3 - (lg_sl ([.ref d, .int n, .int k] : List Value)).length) Slot.unset).toArray = ls at hl ⊢
  have hl : lv_has ls 3 [(0, .ref d), (1, .int n), (2, .int k)] := hl
  refine lv_aload_n hx hb d_D_operator_0 rfl (lv_at hl 0 rfl) ?_
  refine lv_iconst (v := 0) hx hb d_D_operator_1 (by decide) ?_
  refine va_put (D := (dC, dI)) (ci := 9) (v := .int 0) (ty := .int) (C := kR_D) (T := kT_D) (N := 42) hx hb hg kin_D kt_D kty_D knm_D hown hK hP hD hS 0 rfl rfl 0 (by decide) (hg _ tw_817) (fun _ h9 => h9) rfl (by decide +kernel) rfl rfl (Nat.le_of_ble_eq_true rfl) d_D_operator_2 (fun H_1 lo_2 hP hD hS => ?_)
  have hP : va_P (dC, dI) kcl [(d, .inr (9, [.int 0, .ref kq, .int 0, .ref hq, .int 0, .int 0, (zd 6), (zd 7), (zd 8), (zd 9), (zd 10), (zd 11), .int 0, (zd 13), (zd 14), (zd 15), (zd 16), (zd 17), (zd 18), (zd 19), .int 0, (zd 21), (zd 22), (zd 23), (zd 24), (zd 25), (zd 26), (zd 27), (zd 28), (zd 29), (zd 30), (zd 31), .int 0, (zd 33), (zd 34), (zd 35), (zd 36), (zd 37), (zd 38), (zd 39), (zd 40), .int 0])), (kq, .inl (cK, 32, .inl fk)), (hq, .inl (cH, 12, .inl fh))] H_1 := hP
  have hD : va_D A [(d, .inr (9, [.int 0, .ref kq, .int 0, .ref hq, .int 0, .int 0, (zd 6), (zd 7), (zd 8), (zd 9), (zd 10), (zd 11), .int 0, (zd 13), (zd 14), (zd 15), (zd 16), (zd 17), (zd 18), (zd 19), .int 0, (zd 21), (zd 22), (zd 23), (zd 24), (zd 25), (zd 26), (zd 27), (zd 28), (zd 29), (zd 30), (zd 31), .int 0, (zd 33), (zd 34), (zd 35), (zd 36), (zd 37), (zd 38), (zd 39), (zd 40), .int 0])), (kq, .inl (cK, 32, .inl fk)), (hq, .inl (cH, 12, .inl fh))] := hD
  refine lv_iload_n hx hb d_D_operator_5 rfl (lv_at hl 1 rfl) ?_
  refine lv_iconst (v := 0) hx hb d_D_operator_6 (by decide) ?_
  refine lv_bipush (v := 31) hx hb d_D_operator_7 (by decide) ?_
  have hPc := hP.sub (ws' := []) [] rfl
  have hKc := hK.sub (tys' := []) [] rfl
  refine va_calli (va_runS (As := [.int n, .int 0, .int 31]) (rest := []) ⟨hx, hb, hml, hown, hg⟩ (c_D_within l dC dI H_1.size n 0 31) (va_cwS 3 hg (gw_giS cin_D_within tw_952 tw_953 tw_11) rfl rfl rfl (by decide +kernel) ⟨Nat.le_of_ble_eq_true rfl, Nat.le_of_ble_eq_true rfl⟩) ⟨fun a U g mk q => by obtain ⟨q0, q1, qP, qK⟩ := q; exact ⟨q0, q1, qP, va_K.moved (u := U) (U := U.calling g mk a) (Vm.Alike.refl U.vm) qK⟩, fun U hU hW => ⟨rfl, by rw [hU], by rw [hU]; exact hPc, va_K.moved hW.alike hKc⟩⟩ rfl rfl hl.1 rfl (lv_room (Nat.le_of_ble_eq_true rfl)) d_D_operator_9 ⟨Nat.le_of_ble_eq_true rfl, Nat.le_of_ble_eq_true rfl⟩) hS (fun q h1 h => (tx_pA h1 h).elim) (tx_pF hS hA) (fun r_k_3 u_k_3 t_k_3 H_4 l_k_3 ht hvm hw_k_3 hB hz1 hk1 hS => ?_)
  have hw_k_3 : (if 0 ≤ n ∧ n ≤ 31 then 1 else 0) = r_k_3 := Eq.symm hw_k_3
  subst hw_k_3
  have hP := tx_keep hP hk1
  refine lv_if_eq (tgt := 24) hx hb d_D_operator_12 (by decide) (fun c_5 => ?_) (fun c_5 => ?_)
  · refine lv_aload_n hx hb d_D_operator_24 rfl (lv_at hl 0 rfl) ?_
    refine lv_iconst (v := 1) hx hb d_D_operator_25 (by decide) ?_
    have hPc := hP.sub (ws' := [(d, .inr (9, [.int 0, .ref kq, .int 0, .ref hq, .int 0, .int 0, (zd 6), (zd 7), (zd 8), (zd 9), (zd 10), (zd 11), .int 0, (zd 13), (zd 14), (zd 15), (zd 16), (zd 17), (zd 18), (zd 19), .int 0, (zd 21), (zd 22), (zd 23), (zd 24), (zd 25), (zd 26), (zd 27), (zd 28), (zd 29), (zd 30), (zd 31), .int 0, (zd 33), (zd 34), (zd 35), (zd 36), (zd 37), (zd 38), (zd 39), (zd 40), .int 0]))]) [0] rfl
    have hKc := hK.sub (tys' := []) [] rfl
    have hDc := hD.sub (ws' := [(d, .inr (9, [.int 0, .ref kq, .int 0, .ref hq, .int 0, .int 0, (zd 6), (zd 7), (zd 8), (zd 9), (zd 10), (zd 11), .int 0, (zd 13), (zd 14), (zd 15), (zd 16), (zd 17), (zd 18), (zd 19), .int 0, (zd 21), (zd 22), (zd 23), (zd 24), (zd 25), (zd 26), (zd 27), (zd 28), (zd 29), (zd 30), (zd 31), .int 0, (zd 33), (zd 34), (zd 35), (zd 36), (zd 37), (zd 38), (zd 39), (zd 40), .int 0]))]) [0] (by decide) rfl
    have hFc := va_free (wc := [(d, .inr (9, [.int 0, .ref kq, .int 0, .ref hq, .int 0, .int 0, (zd 6), (zd 7), (zd 8), (zd 9), (zd 10), (zd 11), .int 0, (zd 13), (zd 14), (zd 15), (zd 16), (zd 17), (zd 18), (zd 19), .int 0, (zd 21), (zd 22), (zd 23), (zd 24), (zd 25), (zd 26), (zd 27), (zd 28), (zd 29), (zd 30), (zd 31), .int 0, (zd 33), (zd 34), (zd 35), (zd 36), (zd 37), (zd 38), (zd 39), (zd 40), .int 0]))]) hD hS hA [0] rfl
    refine va_calli (va_runV (As := [.int 1]) (rest := []) ⟨hx, hb, hml, hown, hg⟩ (c_D_fail l dC dI H_4.size d (fun i => if i = 41 then .int 0 else if i = 32 then .int 0 else if i = 20 then .int 0 else if i = 12 then .int 0 else if i = 5 then .int 0 else if i = 4 then .int 0 else if i = 3 then .ref hq else if i = 2 then .int 0 else if i = 1 then .ref kq else zd i) 0 1) (cwV 1 hg (gw_giV cin_D_fail tw_955 tw_957 sw_D_fail tw_11) rfl rfl rfl (by decide +kernel) ⟨Nat.le_of_ble_eq_true rfl, Nat.le_of_ble_eq_true rfl⟩) ⟨fun a U g mk q => by obtain ⟨q0, q1, qP, qK, qD⟩ := q; exact ⟨q0, q1, qP, va_K.moved (u := U) (U := U.calling g mk a) (Vm.Alike.refl U.vm) qK, qD⟩, va_recv hKc hPc (ci := 9) (q0 := 0) rfl rfl, fun U hU hW => ⟨rfl, by rw [hU], by rw [hU]; exact hPc, va_K.moved hW.alike hKc, hDc.weaken (fun _ _ _ _ => trivial)⟩⟩ rfl rfl hl.1 rfl (lv_room (Nat.le_of_ble_eq_true rfl)) d_D_operator_26 ⟨Nat.le_of_ble_eq_true rfl, Nat.le_of_ble_eq_true rfl⟩) hS (fun q _ h => hFc q h) hFc (fun r_k_6 u_k_6 t_k_6 H_7 l_k_6 ht hvm hw_k_6 hB hz1 hk1 hS => ?_)
    obtain ⟨hr_k_6, hu_k_6⟩ := hw_k_6
    subst hr_k_6
    subst hu_k_6
    obtain ⟨zd_k_6, hP1, hK1, hD1⟩ := hB
    rw [ht] at hP1
    have hK1 := va_K.moved hvm.symm hK1
    obtain ⟨hP, hD⟩ := va_join (wr := [(kq, .inl (cK, 32, .inl fk)), (hq, .inl (cH, 12, .inl fh))]) (w1 := [(d, .inr (9, [.int 1, (zd_k_6 1), (zd_k_6 2), (zd_k_6 3), (zd_k_6 4), (zd_k_6 5), (zd_k_6 6), (zd_k_6 7), (zd_k_6 8), (zd_k_6 9), (zd_k_6 10), (zd_k_6 11), (zd_k_6 12), (zd_k_6 13), (zd_k_6 14), (zd_k_6 15), (zd_k_6 16), (zd_k_6 17), (zd_k_6 18), (zd_k_6 19), (zd_k_6 20), (zd_k_6 21), (zd_k_6 22), (zd_k_6 23), (zd_k_6 24), (zd_k_6 25), (zd_k_6 26), (zd_k_6 27), (zd_k_6 28), (zd_k_6 29), (zd_k_6 30), (zd_k_6 31), (zd_k_6 32), (zd_k_6 33), (zd_k_6 34), (zd_k_6 35), (zd_k_6 36), (zd_k_6 37), (zd_k_6 38), (zd_k_6 39), (zd_k_6 40), (zd_k_6 41)]))]) hP hD [0] [1, 2] rfl rfl (by decide) (by decide) hk1 hFc hP1 hD1
    have hK := (hK.sub (tys' := [(cK, .int), (cH, .int)]) [0, 1] rfl).app hK1
    have hP : va_P (dC, dI) kcl [(kq, .inl (cK, 32, .inl fk)), (hq, .inl (cH, 12, .inl fh)), (d, .inr (9, [.int 1, (zd_k_6 1), (zd_k_6 2), (zd_k_6 3), (zd_k_6 4), (zd_k_6 5), (zd_k_6 6), (zd_k_6 7), (zd_k_6 8), (zd_k_6 9), (zd_k_6 10), (zd_k_6 11), (zd_k_6 12), (zd_k_6 13), (zd_k_6 14), (zd_k_6 15), (zd_k_6 16), (zd_k_6 17), (zd_k_6 18), (zd_k_6 19), (zd_k_6 20), (zd_k_6 21), (zd_k_6 22), (zd_k_6 23), (zd_k_6 24), (zd_k_6 25), (zd_k_6 26), (zd_k_6 27), (zd_k_6 28), (zd_k_6 29), (zd_k_6 30), (zd_k_6 31), (zd_k_6 32), (zd_k_6 33), (zd_k_6 34), (zd_k_6 35), (zd_k_6 36), (zd_k_6 37), (zd_k_6 38), (zd_k_6 39), (zd_k_6 40), (zd_k_6 41)]))] H_7 := hP
    have hD : va_D A [(kq, .inl (cK, 32, .inl fk)), (hq, .inl (cH, 12, .inl fh)), (d, .inr (9, [.int 1, (zd_k_6 1), (zd_k_6 2), (zd_k_6 3), (zd_k_6 4), (zd_k_6 5), (zd_k_6 6), (zd_k_6 7), (zd_k_6 8), (zd_k_6 9), (zd_k_6 10), (zd_k_6 11), (zd_k_6 12), (zd_k_6 13), (zd_k_6 14), (zd_k_6 15), (zd_k_6 16), (zd_k_6 17), (zd_k_6 18), (zd_k_6 19), (zd_k_6 20), (zd_k_6 21), (zd_k_6 22), (zd_k_6 23), (zd_k_6 24), (zd_k_6 25), (zd_k_6 26), (zd_k_6 27), (zd_k_6 28), (zd_k_6 29), (zd_k_6 30), (zd_k_6 31), (zd_k_6 32), (zd_k_6 33), (zd_k_6 34), (zd_k_6 35), (zd_k_6 36), (zd_k_6 37), (zd_k_6 38), (zd_k_6 39), (zd_k_6 40), (zd_k_6 41)]))] := hD
    have hK : va_K (dC, dI) kcl [(cK, .int), (cH, .int)] s := hK
    have hP9 := hP.sub (ws' := [(d, .inr (9, [.int 1, (zd_k_6 1), (zd_k_6 2), (zd_k_6 3), (zd_k_6 4), (zd_k_6 5), (zd_k_6 6), (zd_k_6 7), (zd_k_6 8), (zd_k_6 9), (zd_k_6 10), (zd_k_6 11), (zd_k_6 12), (zd_k_6 13), (zd_k_6 14), (zd_k_6 15), (zd_k_6 16), (zd_k_6 17), (zd_k_6 18), (zd_k_6 19), (zd_k_6 20), (zd_k_6 21), (zd_k_6 22), (zd_k_6 23), (zd_k_6 24), (zd_k_6 25), (zd_k_6 26), (zd_k_6 27), (zd_k_6 28), (zd_k_6 29), (zd_k_6 30), (zd_k_6 31), (zd_k_6 32), (zd_k_6 33), (zd_k_6 34), (zd_k_6 35), (zd_k_6 36), (zd_k_6 37), (zd_k_6 38), (zd_k_6 39), (zd_k_6 40), (zd_k_6 41)]))]) [2] rfl
    have hD9 := hD.sub (ws' := [(d, .inr (9, [.int 1, (zd_k_6 1), (zd_k_6 2), (zd_k_6 3), (zd_k_6 4), (zd_k_6 5), (zd_k_6 6), (zd_k_6 7), (zd_k_6 8), (zd_k_6 9), (zd_k_6 10), (zd_k_6 11), (zd_k_6 12), (zd_k_6 13), (zd_k_6 14), (zd_k_6 15), (zd_k_6 16), (zd_k_6 17), (zd_k_6 18), (zd_k_6 19), (zd_k_6 20), (zd_k_6 21), (zd_k_6 22), (zd_k_6 23), (zd_k_6 24), (zd_k_6 25), (zd_k_6 26), (zd_k_6 27), (zd_k_6 28), (zd_k_6 29), (zd_k_6 30), (zd_k_6 31), (zd_k_6 32), (zd_k_6 33), (zd_k_6 34), (zd_k_6 35), (zd_k_6 36), (zd_k_6 37), (zd_k_6 38), (zd_k_6 39), (zd_k_6 40), (zd_k_6 41)]))]) [2] (by decide) rfl
    have hK9 := hK.sub (tys' := []) [] rfl
    exact W.iret (v := 0) hx hb hr (fun t ht hW => ⟨⟨0, 1, rfl, Or.inr ⟨fun h => tx_if0 c_5 h.1, rfl⟩, ⟨(fun i => List.getD [Value.int (1 : Int32), (zd_k_6 1), (zd_k_6 2), (zd_k_6 3), (zd_k_6 4), (zd_k_6 5), (zd_k_6 6), (zd_k_6 7), (zd_k_6 8), (zd_k_6 9), (zd_k_6 10), (zd_k_6 11), (zd_k_6 12), (zd_k_6 13), (zd_k_6 14), (zd_k_6 15), (zd_k_6 16), (zd_k_6 17), (zd_k_6 18), (zd_k_6 19), (zd_k_6 20), (zd_k_6 21), (zd_k_6 22), (zd_k_6 23), (zd_k_6 24), (zd_k_6 25), (zd_k_6 26), (zd_k_6 27), (zd_k_6 28), (zd_k_6 29), (zd_k_6 30), (zd_k_6 31), (zd_k_6 32), (zd_k_6 33), (zd_k_6 34), (zd_k_6 35), (zd_k_6 36), (zd_k_6 37), (zd_k_6 38), (zd_k_6 39), (zd_k_6 40), (zd_k_6 41)] i Value.null), by rw [ht]; exact hP9, va_K.moved hW.alike hK9, hD9⟩⟩, hS.F ht⟩) hS.2.2 d_D_operator_29
  · refine lv_iload_n hx hb d_D_operator_15 rfl (lv_at hl 2 rfl) ?_
    refine lv_iconst (v := 0) hx hb d_D_operator_16 (by decide) ?_
    refine lv_iconst (v := 2) hx hb d_D_operator_17 (by decide) ?_
    have hPc := hP.sub (ws' := []) [] rfl
    have hKc := hK.sub (tys' := []) [] rfl
    refine va_calli (va_runS (As := [.int k, .int 0, .int 2]) (rest := []) ⟨hx, hb, hml, hown, hg⟩ (c_D_within l dC dI H_4.size k 0 2) (va_cwS 3 hg (gw_giS cin_D_within tw_952 tw_953 tw_11) rfl rfl rfl (by decide +kernel) ⟨Nat.le_of_ble_eq_true rfl, Nat.le_of_ble_eq_true rfl⟩) ⟨fun a U g mk q => by obtain ⟨q0, q1, qP, qK⟩ := q; exact ⟨q0, q1, qP, va_K.moved (u := U) (U := U.calling g mk a) (Vm.Alike.refl U.vm) qK⟩, fun U hU hW => ⟨rfl, by rw [hU], by rw [hU]; exact hPc, va_K.moved hW.alike hKc⟩⟩ rfl rfl hl.1 rfl (lv_room (Nat.le_of_ble_eq_true rfl)) d_D_operator_18 ⟨Nat.le_of_ble_eq_true rfl, Nat.le_of_ble_eq_true rfl⟩) hS (fun q h1 h => (tx_pA h1 h).elim) (tx_pF hS hA) (fun r_k_9 u_k_9 t_k_9 H_10 l_k_9 ht hvm hw_k_9 hB hz1 hk1 hS => ?_)
    have hw_k_9 : (if 0 ≤ k ∧ k ≤ 2 then 1 else 0) = r_k_9 := Eq.symm hw_k_9
    subst hw_k_9
    have hP := tx_keep hP hk1
    refine lv_if_ne (tgt := 30) hx hb d_D_operator_21 (by decide) (fun c_11 => ?_) (fun c_11 => ?_)
    · refine lv_aload_n hx hb d_D_operator_30 rfl (lv_at hl 0 rfl) ?_
      refine va_get (D := (dC, dI)) (ci := 9) (v := .ref kq) (C := kR_D) (T := kT_D) (N := 42) hx hb hg kin_D hown hK hP 0 rfl rfl 1 (by decide) (hg _ tw_818) (fun _ h9 => h9) rfl d_D_operator_31 ?_
      refine lv_iload_n hx hb d_D_operator_34 rfl (lv_at hl 1 rfl) ?_
      have hi := tx_le31 (tx_if1 c_5)
      refine va_iald hx hb hK hP 1 0 rfl rfl (tx_in32 hi) d_D_operator_35 ?_
      refine lv_iconst (v := (-1)) hx hb d_D_operator_36 (by decide) ?_
      refine lv_icmp_eq (tgt := 46) hx hb d_D_operator_37 (by decide) (fun c_12 => ?_) (fun c_12 => ?_)
      · refine lv_aload_n hx hb d_D_operator_46 rfl (lv_at hl 0 rfl) ?_
        refine va_get (D := (dC, dI)) (ci := 9) (v := .ref kq) (C := kR_D) (T := kT_D) (N := 42) hx hb hg kin_D hown hK hP 0 rfl rfl 1 (by decide) (hg _ tw_818) (fun _ h9 => h9) rfl d_D_operator_47 ?_
        refine lv_iload_n hx hb d_D_operator_50 rfl (lv_at hl 1 rfl) ?_
        refine lv_iload_n hx hb d_D_operator_51 rfl (lv_at hl 2 rfl) ?_
        refine va_iast hx hb hK hP hD hS 1 0 rfl rfl (tx_in32 hi) d_D_operator_52 (fun H_13 lo_14 hP hD hS => ?_)
        have hP : va_P (dC, dI) kcl [(d, .inr (9, [.int 0, .ref kq, .int 0, .ref hq, .int 0, .int 0, (zd 6), (zd 7), (zd 8), (zd 9), (zd 10), (zd 11), .int 0, (zd 13), (zd 14), (zd 15), (zd 16), (zd 17), (zd 18), (zd 19), .int 0, (zd 21), (zd 22), (zd 23), (zd 24), (zd 25), (zd 26), (zd 27), (zd 28), (zd 29), (zd 30), (zd 31), .int 0, (zd 33), (zd 34), (zd 35), (zd 36), (zd 37), (zd 38), (zd 39), (zd 40), .int 0])), (kq, .inl (cK, 32, .inl (upd fk (n : Int32).toNatClampNeg k))), (hq, .inl (cH, 12, .inl fh))] H_13 := hP
        have hD : va_D A [(d, .inr (9, [.int 0, .ref kq, .int 0, .ref hq, .int 0, .int 0, (zd 6), (zd 7), (zd 8), (zd 9), (zd 10), (zd 11), .int 0, (zd 13), (zd 14), (zd 15), (zd 16), (zd 17), (zd 18), (zd 19), .int 0, (zd 21), (zd 22), (zd 23), (zd 24), (zd 25), (zd 26), (zd 27), (zd 28), (zd 29), (zd 30), (zd 31), .int 0, (zd 33), (zd 34), (zd 35), (zd 36), (zd 37), (zd 38), (zd 39), (zd 40), .int 0])), (kq, .inl (cK, 32, .inl (upd fk (n : Int32).toNatClampNeg k))), (hq, .inl (cH, 12, .inl fh))] := hD
        refine lv_aload_n hx hb d_D_operator_53 rfl (lv_at hl 0 rfl) ?_
        refine lv_dup hx hb d_D_operator_54 rfl ?_
        refine va_get (D := (dC, dI)) (ci := 9) (v := .int 0) (C := kR_D) (T := kT_D) (N := 42) hx hb hg kin_D hown hK hP 0 rfl rfl 2 (by decide) (hg _ tw_819) (fun _ h9 => h9) rfl d_D_operator_55 ?_
        refine lv_iconst (v := 1) hx hb d_D_operator_58 (by decide) ?_
        refine lv_iadd hx hb d_D_operator_59 ?_
        refine lv_topi (fun v_15 ev_15 => ?_)
        refine va_put (D := (dC, dI)) (ci := 9) (v := .int v_15) (ty := .int) (C := kR_D) (T := kT_D) (N := 42) hx hb hg kin_D kt_D kty_D knm_D hown hK hP hD hS 0 rfl rfl 2 (by decide) (hg _ tw_819) (fun _ h9 => h9) rfl (by decide +kernel) rfl rfl (Nat.le_of_ble_eq_true rfl) d_D_operator_60 (fun H_16 lo_17 hP hD hS => ?_)
        have hP : va_P (dC, dI) kcl [(d, .inr (9, [.int 0, .ref kq, .int v_15, .ref hq, .int 0, .int 0, (zd 6), (zd 7), (zd 8), (zd 9), (zd 10), (zd 11), .int 0, (zd 13), (zd 14), (zd 15), (zd 16), (zd 17), (zd 18), (zd 19), .int 0, (zd 21), (zd 22), (zd 23), (zd 24), (zd 25), (zd 26), (zd 27), (zd 28), (zd 29), (zd 30), (zd 31), .int 0, (zd 33), (zd 34), (zd 35), (zd 36), (zd 37), (zd 38), (zd 39), (zd 40), .int 0])), (kq, .inl (cK, 32, .inl (upd fk (n : Int32).toNatClampNeg k))), (hq, .inl (cH, 12, .inl fh))] H_16 := hP
        have hD : va_D A [(d, .inr (9, [.int 0, .ref kq, .int v_15, .ref hq, .int 0, .int 0, (zd 6), (zd 7), (zd 8), (zd 9), (zd 10), (zd 11), .int 0, (zd 13), (zd 14), (zd 15), (zd 16), (zd 17), (zd 18), (zd 19), .int 0, (zd 21), (zd 22), (zd 23), (zd 24), (zd 25), (zd 26), (zd 27), (zd 28), (zd 29), (zd 30), (zd 31), .int 0, (zd 33), (zd 34), (zd 35), (zd 36), (zd 37), (zd 38), (zd 39), (zd 40), .int 0])), (kq, .inl (cK, 32, .inl (upd fk (n : Int32).toNatClampNeg k))), (hq, .inl (cH, 12, .inl fh))] := hD
        refine lv_aload_n hx hb d_D_operator_63 rfl (lv_at hl 0 rfl) ?_
        refine va_get (D := (dC, dI)) (ci := 9) (v := .int v_15) (C := kR_D) (T := kT_D) (N := 42) hx hb hg kin_D hown hK hP 0 rfl rfl 2 (by decide) (hg _ tw_819) (fun _ h9 => h9) rfl d_D_operator_64 ?_
        have hP9 := hP.sub (ws' := [(d, .inr (9, [.int 0, .ref kq, .int v_15, .ref hq, .int 0, .int 0, (zd 6), (zd 7), (zd 8), (zd 9), (zd 10), (zd 11), .int 0, (zd 13), (zd 14), (zd 15), (zd 16), (zd 17), (zd 18), (zd 19), .int 0, (zd 21), (zd 22), (zd 23), (zd 24), (zd 25), (zd 26), (zd 27), (zd 28), (zd 29), (zd 30), (zd 31), .int 0, (zd 33), (zd 34), (zd 35), (zd 36), (zd 37), (zd 38), (zd 39), (zd 40), .int 0]))]) [0] rfl
        have hD9 := hD.sub (ws' := [(d, .inr (9, [.int 0, .ref kq, .int v_15, .ref hq, .int 0, .int 0, (zd 6), (zd 7), (zd 8), (zd 9), (zd 10), (zd 11), .int 0, (zd 13), (zd 14), (zd 15), (zd 16), (zd 17), (zd 18), (zd 19), .int 0, (zd 21), (zd 22), (zd 23), (zd 24), (zd 25), (zd 26), (zd 27), (zd 28), (zd 29), (zd 30), (zd 31), .int 0, (zd 33), (zd 34), (zd 35), (zd 36), (zd 37), (zd 38), (zd 39), (zd 40), .int 0]))]) [0] (by decide) rfl
        have hK9 := hK.sub (tys' := []) [] rfl
        exact W.iret (v := v_15) hx hb hr (fun t ht hW => ⟨⟨v_15, 0, rfl, Or.inl ⟨⟨tx_if1 c_5, tx_if1 c_11⟩, ev_15, rfl⟩, ⟨(fun i => List.getD [Value.int (0 : Int32), Value.ref kq, Value.int (v_15 : Int32), Value.ref hq, Value.int (0 : Int32), Value.int (0 : Int32), (zd 6), (zd 7), (zd 8), (zd 9), (zd 10), (zd 11), Value.int (0 : Int32), (zd 13), (zd 14), (zd 15), (zd 16), (zd 17), (zd 18), (zd 19), Value.int (0 : Int32), (zd 21), (zd 22), (zd 23), (zd 24), (zd 25), (zd 26), (zd 27), (zd 28), (zd 29), (zd 30), (zd 31), Value.int (0 : Int32), (zd 33), (zd 34), (zd 35), (zd 36), (zd 37), (zd 38), (zd 39), (zd 40), Value.int (0 : Int32)] i Value.null), by rw [ht]; exact hP9, va_K.moved hW.alike hK9, hD9⟩⟩, hS.F ht⟩) hS.2.2 d_D_operator_67
      · exact absurd (hfk _ (tx_in32n hi)) c_12
    · refine lv_aload_n hx hb d_D_operator_24 rfl (lv_at hl 0 rfl) ?_
      refine lv_iconst (v := 1) hx hb d_D_operator_25 (by decide) ?_
      have hPc := hP.sub (ws' := [(d, .inr (9, [.int 0, .ref kq, .int 0, .ref hq, .int 0, .int 0, (zd 6), (zd 7), (zd 8), (zd 9), (zd 10), (zd 11), .int 0, (zd 13), (zd 14), (zd 15), (zd 16), (zd 17), (zd 18), (zd 19), .int 0, (zd 21), (zd 22), (zd 23), (zd 24), (zd 25), (zd 26), (zd 27), (zd 28), (zd 29), (zd 30), (zd 31), .int 0, (zd 33), (zd 34), (zd 35), (zd 36), (zd 37), (zd 38), (zd 39), (zd 40), .int 0]))]) [0] rfl
      have hKc := hK.sub (tys' := []) [] rfl
      have hDc := hD.sub (ws' := [(d, .inr (9, [.int 0, .ref kq, .int 0, .ref hq, .int 0, .int 0, (zd 6), (zd 7), (zd 8), (zd 9), (zd 10), (zd 11), .int 0, (zd 13), (zd 14), (zd 15), (zd 16), (zd 17), (zd 18), (zd 19), .int 0, (zd 21), (zd 22), (zd 23), (zd 24), (zd 25), (zd 26), (zd 27), (zd 28), (zd 29), (zd 30), (zd 31), .int 0, (zd 33), (zd 34), (zd 35), (zd 36), (zd 37), (zd 38), (zd 39), (zd 40), .int 0]))]) [0] (by decide) rfl
      have hFc := va_free (wc := [(d, .inr (9, [.int 0, .ref kq, .int 0, .ref hq, .int 0, .int 0, (zd 6), (zd 7), (zd 8), (zd 9), (zd 10), (zd 11), .int 0, (zd 13), (zd 14), (zd 15), (zd 16), (zd 17), (zd 18), (zd 19), .int 0, (zd 21), (zd 22), (zd 23), (zd 24), (zd 25), (zd 26), (zd 27), (zd 28), (zd 29), (zd 30), (zd 31), .int 0, (zd 33), (zd 34), (zd 35), (zd 36), (zd 37), (zd 38), (zd 39), (zd 40), .int 0]))]) hD hS hA [0] rfl
      refine va_calli (va_runV (As := [.int 1]) (rest := []) ⟨hx, hb, hml, hown, hg⟩ (c_D_fail l dC dI H_10.size d (fun i => if i = 41 then .int 0 else if i = 32 then .int 0 else if i = 20 then .int 0 else if i = 12 then .int 0 else if i = 5 then .int 0 else if i = 4 then .int 0 else if i = 3 then .ref hq else if i = 2 then .int 0 else if i = 1 then .ref kq else zd i) 0 1) (cwV 1 hg (gw_giV cin_D_fail tw_955 tw_957 sw_D_fail tw_11) rfl rfl rfl (by decide +kernel) ⟨Nat.le_of_ble_eq_true rfl, Nat.le_of_ble_eq_true rfl⟩) ⟨fun a U g mk q => by obtain ⟨q0, q1, qP, qK, qD⟩ := q; exact ⟨q0, q1, qP, va_K.moved (u := U) (U := U.calling g mk a) (Vm.Alike.refl U.vm) qK, qD⟩, va_recv hKc hPc (ci := 9) (q0 := 0) rfl rfl, fun U hU hW => ⟨rfl, by rw [hU], by rw [hU]; exact hPc, va_K.moved hW.alike hKc, hDc.weaken (fun _ _ _ _ => trivial)⟩⟩ rfl rfl hl.1 rfl (lv_room (Nat.le_of_ble_eq_true rfl)) d_D_operator_26 ⟨Nat.le_of_ble_eq_true rfl, Nat.le_of_ble_eq_true rfl⟩) hS (fun q _ h => hFc q h) hFc (fun r_k_19 u_k_19 t_k_19 H_20 l_k_19 ht hvm hw_k_19 hB hz1 hk1 hS => ?_)
      obtain ⟨hr_k_19, hu_k_19⟩ := hw_k_19
      subst hr_k_19
      subst hu_k_19
      obtain ⟨zd_k_19, hP1, hK1, hD1⟩ := hB
      rw [ht] at hP1
      have hK1 := va_K.moved hvm.symm hK1
      obtain ⟨hP, hD⟩ := va_join (wr := [(kq, .inl (cK, 32, .inl fk)), (hq, .inl (cH, 12, .inl fh))]) (w1 := [(d, .inr (9, [.int 1, (zd_k_19 1), (zd_k_19 2), (zd_k_19 3), (zd_k_19 4), (zd_k_19 5), (zd_k_19 6), (zd_k_19 7), (zd_k_19 8), (zd_k_19 9), (zd_k_19 10), (zd_k_19 11), (zd_k_19 12), (zd_k_19 13), (zd_k_19 14), (zd_k_19 15), (zd_k_19 16), (zd_k_19 17), (zd_k_19 18), (zd_k_19 19), (zd_k_19 20), (zd_k_19 21), (zd_k_19 22), (zd_k_19 23), (zd_k_19 24), (zd_k_19 25), (zd_k_19 26), (zd_k_19 27), (zd_k_19 28), (zd_k_19 29), (zd_k_19 30), (zd_k_19 31), (zd_k_19 32), (zd_k_19 33), (zd_k_19 34), (zd_k_19 35), (zd_k_19 36), (zd_k_19 37), (zd_k_19 38), (zd_k_19 39), (zd_k_19 40), (zd_k_19 41)]))]) hP hD [0] [1, 2] rfl rfl (by decide) (by decide) hk1 hFc hP1 hD1
      have hK := (hK.sub (tys' := [(cK, .int), (cH, .int)]) [0, 1] rfl).app hK1
      have hP : va_P (dC, dI) kcl [(kq, .inl (cK, 32, .inl fk)), (hq, .inl (cH, 12, .inl fh)), (d, .inr (9, [.int 1, (zd_k_19 1), (zd_k_19 2), (zd_k_19 3), (zd_k_19 4), (zd_k_19 5), (zd_k_19 6), (zd_k_19 7), (zd_k_19 8), (zd_k_19 9), (zd_k_19 10), (zd_k_19 11), (zd_k_19 12), (zd_k_19 13), (zd_k_19 14), (zd_k_19 15), (zd_k_19 16), (zd_k_19 17), (zd_k_19 18), (zd_k_19 19), (zd_k_19 20), (zd_k_19 21), (zd_k_19 22), (zd_k_19 23), (zd_k_19 24), (zd_k_19 25), (zd_k_19 26), (zd_k_19 27), (zd_k_19 28), (zd_k_19 29), (zd_k_19 30), (zd_k_19 31), (zd_k_19 32), (zd_k_19 33), (zd_k_19 34), (zd_k_19 35), (zd_k_19 36), (zd_k_19 37), (zd_k_19 38), (zd_k_19 39), (zd_k_19 40), (zd_k_19 41)]))] H_20 := hP
      have hD : va_D A [(kq, .inl (cK, 32, .inl fk)), (hq, .inl (cH, 12, .inl fh)), (d, .inr (9, [.int 1, (zd_k_19 1), (zd_k_19 2), (zd_k_19 3), (zd_k_19 4), (zd_k_19 5), (zd_k_19 6), (zd_k_19 7), (zd_k_19 8), (zd_k_19 9), (zd_k_19 10), (zd_k_19 11), (zd_k_19 12), (zd_k_19 13), (zd_k_19 14), (zd_k_19 15), (zd_k_19 16), (zd_k_19 17), (zd_k_19 18), (zd_k_19 19), (zd_k_19 20), (zd_k_19 21), (zd_k_19 22), (zd_k_19 23), (zd_k_19 24), (zd_k_19 25), (zd_k_19 26), (zd_k_19 27), (zd_k_19 28), (zd_k_19 29), (zd_k_19 30), (zd_k_19 31), (zd_k_19 32), (zd_k_19 33), (zd_k_19 34), (zd_k_19 35), (zd_k_19 36), (zd_k_19 37), (zd_k_19 38), (zd_k_19 39), (zd_k_19 40), (zd_k_19 41)]))] := hD
      have hK : va_K (dC, dI) kcl [(cK, .int), (cH, .int)] s := hK
      have hP9 := hP.sub (ws' := [(d, .inr (9, [.int 1, (zd_k_19 1), (zd_k_19 2), (zd_k_19 3), (zd_k_19 4), (zd_k_19 5), (zd_k_19 6), (zd_k_19 7), (zd_k_19 8), (zd_k_19 9), (zd_k_19 10), (zd_k_19 11), (zd_k_19 12), (zd_k_19 13), (zd_k_19 14), (zd_k_19 15), (zd_k_19 16), (zd_k_19 17), (zd_k_19 18), (zd_k_19 19), (zd_k_19 20), (zd_k_19 21), (zd_k_19 22), (zd_k_19 23), (zd_k_19 24), (zd_k_19 25), (zd_k_19 26), (zd_k_19 27), (zd_k_19 28), (zd_k_19 29), (zd_k_19 30), (zd_k_19 31), (zd_k_19 32), (zd_k_19 33), (zd_k_19 34), (zd_k_19 35), (zd_k_19 36), (zd_k_19 37), (zd_k_19 38), (zd_k_19 39), (zd_k_19 40), (zd_k_19 41)]))]) [2] rfl
      have hD9 := hD.sub (ws' := [(d, .inr (9, [.int 1, (zd_k_19 1), (zd_k_19 2), (zd_k_19 3), (zd_k_19 4), (zd_k_19 5), (zd_k_19 6), (zd_k_19 7), (zd_k_19 8), (zd_k_19 9), (zd_k_19 10), (zd_k_19 11), (zd_k_19 12), (zd_k_19 13), (zd_k_19 14), (zd_k_19 15), (zd_k_19 16), (zd_k_19 17), (zd_k_19 18), (zd_k_19 19), (zd_k_19 20), (zd_k_19 21), (zd_k_19 22), (zd_k_19 23), (zd_k_19 24), (zd_k_19 25), (zd_k_19 26), (zd_k_19 27), (zd_k_19 28), (zd_k_19 29), (zd_k_19 30), (zd_k_19 31), (zd_k_19 32), (zd_k_19 33), (zd_k_19 34), (zd_k_19 35), (zd_k_19 36), (zd_k_19 37), (zd_k_19 38), (zd_k_19 39), (zd_k_19 40), (zd_k_19 41)]))]) [2] (by decide) rfl
      have hK9 := hK.sub (tys' := []) [] rfl
      exact W.iret (v := 0) hx hb hr (fun t ht hW => ⟨⟨0, 1, rfl, Or.inr ⟨fun h => tx_if0 c_11 h.2, rfl⟩, ⟨(fun i => List.getD [Value.int (1 : Int32), (zd_k_19 1), (zd_k_19 2), (zd_k_19 3), (zd_k_19 4), (zd_k_19 5), (zd_k_19 6), (zd_k_19 7), (zd_k_19 8), (zd_k_19 9), (zd_k_19 10), (zd_k_19 11), (zd_k_19 12), (zd_k_19 13), (zd_k_19 14), (zd_k_19 15), (zd_k_19 16), (zd_k_19 17), (zd_k_19 18), (zd_k_19 19), (zd_k_19 20), (zd_k_19 21), (zd_k_19 22), (zd_k_19 23), (zd_k_19 24), (zd_k_19 25), (zd_k_19 26), (zd_k_19 27), (zd_k_19 28), (zd_k_19 29), (zd_k_19 30), (zd_k_19 31), (zd_k_19 32), (zd_k_19 33), (zd_k_19 34), (zd_k_19 35), (zd_k_19 36), (zd_k_19 37), (zd_k_19 38), (zd_k_19 39), (zd_k_19 40), (zd_k_19 41)] i Value.null), by rw [ht]; exact hP9, va_K.moved hW.alike hK9, hD9⟩⟩, hS.F ht⟩) hS.2.2 d_D_operator_29
set_option maxHeartbeats 4000000 in
set_option maxRecDepth 100000 in
theorem c_D_element (l : Launch) (dC : Nat → ClassId) (dI : Nat → Nat → Nat) (sz : Nat) (d kq hq : Nat) (cK cH : ClassId) (zd : Nat → Value) (fk fh : Nat → Int32) (hfk : ∀ j, j < 32 → fk j = -1) (t0 : Int32) (n : Int32) : Met l y_D_element ws_D_element ({ frames := 1, cells := 0, slots := 0, locals := 22 }) (va_Pc [.ref d, .int n] (fun U => U.heap.size = sz ∧ va_P (dC, dI) kcl [(d, .inr (9, [.int t0, .ref kq, .int 0, .ref hq, .int 0, .int 0, (zd 6), (zd 7), (zd 8), (zd 9), (zd 10), (zd 11), .int 0, (zd 13), (zd 14), (zd 15), (zd 16), (zd 17), (zd 18), (zd 19), .int 0, (zd 21), (zd 22), (zd 23), (zd 24), (zd 25), (zd 26), (zd 27), (zd 28), (zd 29), (zd 30), (zd 31), .int 0, (zd 33), (zd 34), (zd 35), (zd 36), (zd 37), (zd 38), (zd 39), (zd 40), .int 0])), (kq, .inl (cK, 32, .inl fk)), (hq, .inl (cH, 12, .inl fh))] U.heap ∧ va_K (dC, dI) kcl [(cK, .int), (cH, .int)] U ∧ va_D (fun _ => True) [(d, .inr (9, [.int t0, .ref kq, .int 0, .ref hq, .int 0, .int 0, (zd 6), (zd 7), (zd 8), (zd 9), (zd 10), (zd 11), .int 0, (zd 13), (zd 14), (zd 15), (zd 16), (zd 17), (zd 18), (zd 19), .int 0, (zd 21), (zd 22), (zd 23), (zd 24), (zd 25), (zd 26), (zd 27), (zd 28), (zd 29), (zd 30), (zd 31), .int 0, (zd 33), (zd 34), (zd 35), (zd 36), (zd 37), (zd 38), (zd 39), (zd 40), .int 0])), (kq, .inl (cK, 32, .inl fk)), (hq, .inl (cH, 12, .inl fh))])) (va_Qi (fun (r th : Int32) => ((0 ≤ n ∧ n ≤ 47) ∧ r = 1 ∧ th = 0) ∨ (¬ (0 ≤ n ∧ n ≤ 47) ∧ th = 1)) (fun (th : Int32) (t : State) => ∃ zd2 : Nat → Value, va_P (dC, dI) kcl [(d, .inr (9, [.int th, (zd2 1), (zd2 2), (zd2 3), (zd2 4), (zd2 5), (zd2 6), (zd2 7), (zd2 8), (zd2 9), (zd2 10), (zd2 11), (zd2 12), (zd2 13), (zd2 14), (zd2 15), (zd2 16), (zd2 17), (zd2 18), (zd2 19), (zd2 20), (zd2 21), (zd2 22), (zd2 23), (zd2 24), (zd2 25), (zd2 26), (zd2 27), (zd2 28), (zd2 29), (zd2 30), (zd2 31), (zd2 32), (zd2 33), (zd2 34), (zd2 35), (zd2 36), (zd2 37), (zd2 38), (zd2 39), (zd2 40), (zd2 41)]))] t.heap ∧ va_K (dC, dI) kcl [] t ∧ va_D (va_A [(d, .inr (9, [.int t0, .ref kq, .int 0, .ref hq, .int 0, .int 0, (zd 6), (zd 7), (zd 8), (zd 9), (zd 10), (zd 11), .int 0, (zd 13), (zd 14), (zd 15), (zd 16), (zd 17), (zd 18), (zd 19), .int 0, (zd 21), (zd 22), (zd 23), (zd 24), (zd 25), (zd 26), (zd 27), (zd 28), (zd 29), (zd 30), (zd 31), .int 0, (zd 33), (zd 34), (zd 35), (zd 36), (zd 37), (zd 38), (zd 39), (zd 40), .int 0])), (kq, .inl (cK, 32, .inl fk)), (hq, .inl (cH, 12, .inl fh))] sz) [(d, .inr (9, [.int th, (zd2 1), (zd2 2), (zd2 3), (zd2 4), (zd2 5), (zd2 6), (zd2 7), (zd2 8), (zd2 9), (zd2 10), (zd2 11), (zd2 12), (zd2 13), (zd2 14), (zd2 15), (zd2 16), (zd2 17), (zd2 18), (zd2 19), (zd2 20), (zd2 21), (zd2 22), (zd2 23), (zd2 24), (zd2 25), (zd2 26), (zd2 27), (zd2 28), (zd2 29), (zd2 30), (zd2 31), (zd2 32), (zd2 33), (zd2 34), (zd2 35), (zd2 36), (zd2 37), (zd2 38), (zd2 39), (zd2 40), (zd2 41)]))]) (va_A [(d, .inr (9, [.int t0, .ref kq, .int 0, .ref hq, .int 0, .int 0, (zd 6), (zd 7), (zd 8), (zd 9), (zd 10), (zd 11), .int 0, (zd 13), (zd 14), (zd 15), (zd 16), (zd 17), (zd 18), (zd 19), .int 0, (zd 21), (zd 22), (zd 23), (zd 24), (zd 25), (zd 26), (zd 27), (zd 28), (zd 29), (zd 30), (zd 31), .int 0, (zd 33), (zd 34), (zd 35), (zd 36), (zd 37), (zd 38), (zd 39), (zd 40), .int 0])), (kq, .inl (cK, 32, .inl fk)), (hq, .inl (cH, 12, .inl fh))] sz)) 0 0 (va_A [(d, .inr (9, [.int t0, .ref kq, .int 0, .ref hq, .int 0, .int 0, (zd 6), (zd 7), (zd 8), (zd 9), (zd 10), (zd 11), .int 0, (zd 13), (zd 14), (zd 15), (zd 16), (zd 17), (zd 18), (zd 19), .int 0, (zd 21), (zd 22), (zd 23), (zd 24), (zd 25), (zd 26), (zd 27), (zd 28), (zd 29), (zd 30), (zd 31), .int 0, (zd 33), (zd 34), (zd 35), (zd 36), (zd 37), (zd 38), (zd 39), (zd 40), .int 0])), (kq, .inl (cK, 32, .inl fk)), (hq, .inl (cH, 12, .inl fh))] sz) := by
  refine Met.ofW (cc := b_D_element) (maxL := 2) (ret := (Option.some Jvm.ClassFile.FieldType.int)) (by decide) rfl ?_
  intro p e s m args below meth c s₁ B hml hv
  obtain ⟨rfl, hsz, hP, hK, hD0⟩ := hv
  have hx := B.exec
  have hb := B.bytes
  have hr := B.returns
  have hlocks := B.notSynchronized
  have hg : ∀ w ∈ gw, w.before _ s = true := fun w h => atoms_spec (ws := ws_D_element) B.pre w (List.mem_cons_of_mem _ h)
  have hown : s.vm.findClass "TreeMatcherModel" = some m.cls := findClass_of_methodNamed B.named
  subst hsz
  have hD := hD0.self (sz := s.heap.size)
  have hA : ∀ q : Nat, s.heap.size ≤ q → va_A [(d, .inr (9, [.int t0, .ref kq, .int 0, .ref hq, .int 0, .int 0, (zd 6), (zd 7), (zd 8), (zd 9), (zd 10), (zd 11), .int 0, (zd 13), (zd 14), (zd 15), (zd 16), (zd 17), (zd 18), (zd 19), .int 0, (zd 21), (zd 22), (zd 23), (zd 24), (zd 25), (zd 26), (zd 27), (zd 28), (zd 29), (zd 30), (zd 31), .int 0, (zd 33), (zd 34), (zd 35), (zd 36), (zd 37), (zd 38), (zd 39), (zd 40), .int 0])), (kq, .inl (cK, 32, .inl fk)), (hq, .inl (cH, 12, .inl fh))] s.heap.size q := fun q h => Or.inr h
  generalize hAe : va_A [(d, .inr (9, [.int t0, .ref kq, .int 0, .ref hq, .int 0, .int 0, (zd 6), (zd 7), (zd 8), (zd 9), (zd 10), (zd 11), .int 0, (zd 13), (zd 14), (zd 15), (zd 16), (zd 17), (zd 18), (zd 19), .int 0, (zd 21), (zd 22), (zd 23), (zd 24), (zd 25), (zd 26), (zd 27), (zd 28), (zd 29), (zd 30), (zd 31), .int 0, (zd 33), (zd 34), (zd 35), (zd 36), (zd 37), (zd 38), (zd 39), (zd 40), .int 0])), (kq, .inl (cK, 32, .inl fk)), (hq, .inl (cH, 12, .inl fh))] s.heap.size = A at hD hA ⊢
  have hS : va_S A s.heap s.heap [] := va_S.rf
  have hl := lv_entry ([.ref d, .int n] : List Value) (n := 2) (Nat.le_of_ble_eq_true rfl)
  rw [lg_entry_eq]
  generalize (lg_sl ([.ref d, .int n] : List Value) ++ List.replicate (2 - (lg_sl ([.ref d, .int n] : List Value)).length) Slot.unset).toArray = ls at hl ⊢
  have hl : lv_has ls 2 [(0, .ref d), (1, .int n)] := hl
  refine lv_aload_n hx hb d_D_element_0 rfl (lv_at hl 0 rfl) ?_
  refine lv_iconst (v := 0) hx hb d_D_element_1 (by decide) ?_
  refine va_put (D := (dC, dI)) (ci := 9) (v := .int 0) (ty := .int) (C := kR_D) (T := kT_D) (N := 42) hx hb hg kin_D kt_D kty_D knm_D hown hK hP hD hS 0 rfl rfl 0 (by decide) (hg _ tw_817) (fun _ h9 => h9) rfl (by decide +kernel) rfl rfl (Nat.le_of_ble_eq_true rfl) d_D_element_2 (fun H_1 lo_2 hP hD hS => ?_)
  have hP : va_P (dC, dI) kcl [(d, .inr (9, [.int 0, .ref kq, .int 0, .ref hq, .int 0, .int 0, (zd 6), (zd 7), (zd 8), (zd 9), (zd 10), (zd 11), .int 0, (zd 13), (zd 14), (zd 15), (zd 16), (zd 17), (zd 18), (zd 19), .int 0, (zd 21), (zd 22), (zd 23), (zd 24), (zd 25), (zd 26), (zd 27), (zd 28), (zd 29), (zd 30), (zd 31), .int 0, (zd 33), (zd 34), (zd 35), (zd 36), (zd 37), (zd 38), (zd 39), (zd 40), .int 0])), (kq, .inl (cK, 32, .inl fk)), (hq, .inl (cH, 12, .inl fh))] H_1 := hP
  have hD : va_D A [(d, .inr (9, [.int 0, .ref kq, .int 0, .ref hq, .int 0, .int 0, (zd 6), (zd 7), (zd 8), (zd 9), (zd 10), (zd 11), .int 0, (zd 13), (zd 14), (zd 15), (zd 16), (zd 17), (zd 18), (zd 19), .int 0, (zd 21), (zd 22), (zd 23), (zd 24), (zd 25), (zd 26), (zd 27), (zd 28), (zd 29), (zd 30), (zd 31), .int 0, (zd 33), (zd 34), (zd 35), (zd 36), (zd 37), (zd 38), (zd 39), (zd 40), .int 0])), (kq, .inl (cK, 32, .inl fk)), (hq, .inl (cH, 12, .inl fh))] := hD
  refine lv_iload_n hx hb d_D_element_5 rfl (lv_at hl 1 rfl) ?_
  refine lv_iconst (v := 0) hx hb d_D_element_6 (by decide) ?_
  refine lv_bipush (v := 47) hx hb d_D_element_7 (by decide) ?_
  have hPc := hP.sub (ws' := []) [] rfl
  have hKc := hK.sub (tys' := []) [] rfl
  refine va_calli (va_runS (As := [.int n, .int 0, .int 47]) (rest := []) ⟨hx, hb, hml, hown, hg⟩ (c_D_within l dC dI H_1.size n 0 47) (va_cwS 3 hg (gw_giS cin_D_within tw_952 tw_953 tw_11) rfl rfl rfl (by decide +kernel) ⟨Nat.le_of_ble_eq_true rfl, Nat.le_of_ble_eq_true rfl⟩) ⟨fun a U g mk q => by obtain ⟨q0, q1, qP, qK⟩ := q; exact ⟨q0, q1, qP, va_K.moved (u := U) (U := U.calling g mk a) (Vm.Alike.refl U.vm) qK⟩, fun U hU hW => ⟨rfl, by rw [hU], by rw [hU]; exact hPc, va_K.moved hW.alike hKc⟩⟩ rfl rfl hl.1 rfl (lv_room (Nat.le_of_ble_eq_true rfl)) d_D_element_9 ⟨Nat.le_of_ble_eq_true rfl, Nat.le_of_ble_eq_true rfl⟩) hS (fun q h1 h => (tx_pA h1 h).elim) (tx_pF hS hA) (fun r_k_3 u_k_3 t_k_3 H_4 l_k_3 ht hvm hw_k_3 hB hz1 hk1 hS => ?_)
  have hw_k_3 : (if 0 ≤ n ∧ n ≤ 47 then 1 else 0) = r_k_3 := Eq.symm hw_k_3
  subst hw_k_3
  have hP := tx_keep hP hk1
  refine lv_if_ne (tgt := 21) hx hb d_D_element_12 (by decide) (fun c_5 => ?_) (fun c_5 => ?_)
  · refine lv_aload_n hx hb d_D_element_21 rfl (lv_at hl 0 rfl) ?_
    refine va_get (D := (dC, dI)) (ci := 9) (v := .int 0) (C := kR_D) (T := kT_D) (N := 42) hx hb hg kin_D hown hK hP 0 rfl rfl 4 (by decide) (hg _ tw_821) (fun _ h9 => h9) rfl d_D_element_22 ?_
    refine lv_bipush (v := 12) hx hb d_D_element_25 (by decide) ?_
    refine lv_icmp_ne (tgt := 36) hx hb d_D_element_27 (by decide) (fun c_6 => ?_) (fun c_6 => ?_)
    · refine lv_aload_n hx hb d_D_element_36 rfl (lv_at hl 0 rfl) ?_
      refine va_get (D := (dC, dI)) (ci := 9) (v := .ref hq) (C := kR_D) (T := kT_D) (N := 42) hx hb hg kin_D hown hK hP 0 rfl rfl 3 (by decide) (hg _ tw_820) (fun _ h9 => h9) rfl d_D_element_37 ?_
      refine lv_aload_n hx hb d_D_element_40 rfl (lv_at hl 0 rfl) ?_
      refine va_get (D := (dC, dI)) (ci := 9) (v := .int 0) (C := kR_D) (T := kT_D) (N := 42) hx hb hg kin_D hown hK hP 0 rfl rfl 4 (by decide) (hg _ tw_821) (fun _ h9 => h9) rfl d_D_element_41 ?_
      refine lv_iload_n hx hb d_D_element_44 rfl (lv_at hl 1 rfl) ?_
      refine va_iast hx hb hK hP hD hS 2 1 rfl rfl (by unfold vp_in; decide +kernel) d_D_element_45 (fun H_7 lo_8 hP hD hS => ?_)
      have hP : va_P (dC, dI) kcl [(d, .inr (9, [.int 0, .ref kq, .int 0, .ref hq, .int 0, .int 0, (zd 6), (zd 7), (zd 8), (zd 9), (zd 10), (zd 11), .int 0, (zd 13), (zd 14), (zd 15), (zd 16), (zd 17), (zd 18), (zd 19), .int 0, (zd 21), (zd 22), (zd 23), (zd 24), (zd 25), (zd 26), (zd 27), (zd 28), (zd 29), (zd 30), (zd 31), .int 0, (zd 33), (zd 34), (zd 35), (zd 36), (zd 37), (zd 38), (zd 39), (zd 40), .int 0])), (kq, .inl (cK, 32, .inl fk)), (hq, .inl (cH, 12, .inl (upd fh (0 : Int32).toNatClampNeg n)))] H_7 := hP
      have hD : va_D A [(d, .inr (9, [.int 0, .ref kq, .int 0, .ref hq, .int 0, .int 0, (zd 6), (zd 7), (zd 8), (zd 9), (zd 10), (zd 11), .int 0, (zd 13), (zd 14), (zd 15), (zd 16), (zd 17), (zd 18), (zd 19), .int 0, (zd 21), (zd 22), (zd 23), (zd 24), (zd 25), (zd 26), (zd 27), (zd 28), (zd 29), (zd 30), (zd 31), .int 0, (zd 33), (zd 34), (zd 35), (zd 36), (zd 37), (zd 38), (zd 39), (zd 40), .int 0])), (kq, .inl (cK, 32, .inl fk)), (hq, .inl (cH, 12, .inl (upd fh (0 : Int32).toNatClampNeg n)))] := hD
      refine lv_aload_n hx hb d_D_element_46 rfl (lv_at hl 0 rfl) ?_
      refine lv_dup hx hb d_D_element_47 rfl ?_
      refine va_get (D := (dC, dI)) (ci := 9) (v := .int 0) (C := kR_D) (T := kT_D) (N := 42) hx hb hg kin_D hown hK hP 0 rfl rfl 4 (by decide) (hg _ tw_821) (fun _ h9 => h9) rfl d_D_element_48 ?_
      refine lv_iconst (v := 1) hx hb d_D_element_51 (by decide) ?_
      refine lv_iadd hx hb d_D_element_52 ?_
      refine lv_topi (fun v_9 ev_9 => ?_)
      refine va_put (D := (dC, dI)) (ci := 9) (v := .int v_9) (ty := .int) (C := kR_D) (T := kT_D) (N := 42) hx hb hg kin_D kt_D kty_D knm_D hown hK hP hD hS 0 rfl rfl 4 (by decide) (hg _ tw_821) (fun _ h9 => h9) rfl (by decide +kernel) rfl rfl (Nat.le_of_ble_eq_true rfl) d_D_element_53 (fun H_10 lo_11 hP hD hS => ?_)
      have hP : va_P (dC, dI) kcl [(d, .inr (9, [.int 0, .ref kq, .int 0, .ref hq, .int v_9, .int 0, (zd 6), (zd 7), (zd 8), (zd 9), (zd 10), (zd 11), .int 0, (zd 13), (zd 14), (zd 15), (zd 16), (zd 17), (zd 18), (zd 19), .int 0, (zd 21), (zd 22), (zd 23), (zd 24), (zd 25), (zd 26), (zd 27), (zd 28), (zd 29), (zd 30), (zd 31), .int 0, (zd 33), (zd 34), (zd 35), (zd 36), (zd 37), (zd 38), (zd 39), (zd 40), .int 0])), (kq, .inl (cK, 32, .inl fk)), (hq, .inl (cH, 12, .inl (upd fh (0 : Int32).toNatClampNeg n)))] H_10 := hP
      have hD : va_D A [(d, .inr (9, [.int 0, .ref kq, .int 0, .ref hq, .int v_9, .int 0, (zd 6), (zd 7), (zd 8), (zd 9), (zd 10), (zd 11), .int 0, (zd 13), (zd 14), (zd 15), (zd 16), (zd 17), (zd 18), (zd 19), .int 0, (zd 21), (zd 22), (zd 23), (zd 24), (zd 25), (zd 26), (zd 27), (zd 28), (zd 29), (zd 30), (zd 31), .int 0, (zd 33), (zd 34), (zd 35), (zd 36), (zd 37), (zd 38), (zd 39), (zd 40), .int 0])), (kq, .inl (cK, 32, .inl fk)), (hq, .inl (cH, 12, .inl (upd fh (0 : Int32).toNatClampNeg n)))] := hD
      refine lv_aload_n hx hb d_D_element_56 rfl (lv_at hl 0 rfl) ?_
      refine va_get (D := (dC, dI)) (ci := 9) (v := .int v_9) (C := kR_D) (T := kT_D) (N := 42) hx hb hg kin_D hown hK hP 0 rfl rfl 4 (by decide) (hg _ tw_821) (fun _ h9 => h9) rfl d_D_element_57 ?_
      have hP9 := hP.sub (ws' := [(d, .inr (9, [.int 0, .ref kq, .int 0, .ref hq, .int v_9, .int 0, (zd 6), (zd 7), (zd 8), (zd 9), (zd 10), (zd 11), .int 0, (zd 13), (zd 14), (zd 15), (zd 16), (zd 17), (zd 18), (zd 19), .int 0, (zd 21), (zd 22), (zd 23), (zd 24), (zd 25), (zd 26), (zd 27), (zd 28), (zd 29), (zd 30), (zd 31), .int 0, (zd 33), (zd 34), (zd 35), (zd 36), (zd 37), (zd 38), (zd 39), (zd 40), .int 0]))]) [0] rfl
      have hD9 := hD.sub (ws' := [(d, .inr (9, [.int 0, .ref kq, .int 0, .ref hq, .int v_9, .int 0, (zd 6), (zd 7), (zd 8), (zd 9), (zd 10), (zd 11), .int 0, (zd 13), (zd 14), (zd 15), (zd 16), (zd 17), (zd 18), (zd 19), .int 0, (zd 21), (zd 22), (zd 23), (zd 24), (zd 25), (zd 26), (zd 27), (zd 28), (zd 29), (zd 30), (zd 31), .int 0, (zd 33), (zd 34), (zd 35), (zd 36), (zd 37), (zd 38), (zd 39), (zd 40), .int 0]))]) [0] (by decide) rfl
      have hK9 := hK.sub (tys' := []) [] rfl
      exact W.iret (v := v_9) hx hb hr (fun t ht hW => ⟨⟨v_9, 0, rfl, Or.inl ⟨tx_if1 c_5, ev_9, rfl⟩, ⟨(fun i => List.getD [Value.int (0 : Int32), Value.ref kq, Value.int (0 : Int32), Value.ref hq, Value.int (v_9 : Int32), Value.int (0 : Int32), (zd 6), (zd 7), (zd 8), (zd 9), (zd 10), (zd 11), Value.int (0 : Int32), (zd 13), (zd 14), (zd 15), (zd 16), (zd 17), (zd 18), (zd 19), Value.int (0 : Int32), (zd 21), (zd 22), (zd 23), (zd 24), (zd 25), (zd 26), (zd 27), (zd 28), (zd 29), (zd 30), (zd 31), Value.int (0 : Int32), (zd 33), (zd 34), (zd 35), (zd 36), (zd 37), (zd 38), (zd 39), (zd 40), Value.int (0 : Int32)] i Value.null), by rw [ht]; exact hP9, va_K.moved hW.alike hK9, hD9⟩⟩, hS.F ht⟩) hS.2.2 d_D_element_60
    · exact absurd c_6 (by decide)
  · refine lv_aload_n hx hb d_D_element_15 rfl (lv_at hl 0 rfl) ?_
    refine lv_iconst (v := 1) hx hb d_D_element_16 (by decide) ?_
    have hPc := hP.sub (ws' := [(d, .inr (9, [.int 0, .ref kq, .int 0, .ref hq, .int 0, .int 0, (zd 6), (zd 7), (zd 8), (zd 9), (zd 10), (zd 11), .int 0, (zd 13), (zd 14), (zd 15), (zd 16), (zd 17), (zd 18), (zd 19), .int 0, (zd 21), (zd 22), (zd 23), (zd 24), (zd 25), (zd 26), (zd 27), (zd 28), (zd 29), (zd 30), (zd 31), .int 0, (zd 33), (zd 34), (zd 35), (zd 36), (zd 37), (zd 38), (zd 39), (zd 40), .int 0]))]) [0] rfl
    have hKc := hK.sub (tys' := []) [] rfl
    have hDc := hD.sub (ws' := [(d, .inr (9, [.int 0, .ref kq, .int 0, .ref hq, .int 0, .int 0, (zd 6), (zd 7), (zd 8), (zd 9), (zd 10), (zd 11), .int 0, (zd 13), (zd 14), (zd 15), (zd 16), (zd 17), (zd 18), (zd 19), .int 0, (zd 21), (zd 22), (zd 23), (zd 24), (zd 25), (zd 26), (zd 27), (zd 28), (zd 29), (zd 30), (zd 31), .int 0, (zd 33), (zd 34), (zd 35), (zd 36), (zd 37), (zd 38), (zd 39), (zd 40), .int 0]))]) [0] (by decide) rfl
    have hFc := va_free (wc := [(d, .inr (9, [.int 0, .ref kq, .int 0, .ref hq, .int 0, .int 0, (zd 6), (zd 7), (zd 8), (zd 9), (zd 10), (zd 11), .int 0, (zd 13), (zd 14), (zd 15), (zd 16), (zd 17), (zd 18), (zd 19), .int 0, (zd 21), (zd 22), (zd 23), (zd 24), (zd 25), (zd 26), (zd 27), (zd 28), (zd 29), (zd 30), (zd 31), .int 0, (zd 33), (zd 34), (zd 35), (zd 36), (zd 37), (zd 38), (zd 39), (zd 40), .int 0]))]) hD hS hA [0] rfl
    refine va_calli (va_runV (As := [.int 1]) (rest := []) ⟨hx, hb, hml, hown, hg⟩ (c_D_fail l dC dI H_4.size d (fun i => if i = 41 then .int 0 else if i = 32 then .int 0 else if i = 20 then .int 0 else if i = 12 then .int 0 else if i = 5 then .int 0 else if i = 4 then .int 0 else if i = 3 then .ref hq else if i = 2 then .int 0 else if i = 1 then .ref kq else zd i) 0 1) (cwV 1 hg (gw_giV cin_D_fail tw_955 tw_957 sw_D_fail tw_11) rfl rfl rfl (by decide +kernel) ⟨Nat.le_of_ble_eq_true rfl, Nat.le_of_ble_eq_true rfl⟩) ⟨fun a U g mk q => by obtain ⟨q0, q1, qP, qK, qD⟩ := q; exact ⟨q0, q1, qP, va_K.moved (u := U) (U := U.calling g mk a) (Vm.Alike.refl U.vm) qK, qD⟩, va_recv hKc hPc (ci := 9) (q0 := 0) rfl rfl, fun U hU hW => ⟨rfl, by rw [hU], by rw [hU]; exact hPc, va_K.moved hW.alike hKc, hDc.weaken (fun _ _ _ _ => trivial)⟩⟩ rfl rfl hl.1 rfl (lv_room (Nat.le_of_ble_eq_true rfl)) d_D_element_17 ⟨Nat.le_of_ble_eq_true rfl, Nat.le_of_ble_eq_true rfl⟩) hS (fun q _ h => hFc q h) hFc (fun r_k_13 u_k_13 t_k_13 H_14 l_k_13 ht hvm hw_k_13 hB hz1 hk1 hS => ?_)
    obtain ⟨hr_k_13, hu_k_13⟩ := hw_k_13
    subst hr_k_13
    subst hu_k_13
    obtain ⟨zd_k_13, hP1, hK1, hD1⟩ := hB
    rw [ht] at hP1
    have hK1 := va_K.moved hvm.symm hK1
    obtain ⟨hP, hD⟩ := va_join (wr := [(kq, .inl (cK, 32, .inl fk)), (hq, .inl (cH, 12, .inl fh))]) (w1 := [(d, .inr (9, [.int 1, (zd_k_13 1), (zd_k_13 2), (zd_k_13 3), (zd_k_13 4), (zd_k_13 5), (zd_k_13 6), (zd_k_13 7), (zd_k_13 8), (zd_k_13 9), (zd_k_13 10), (zd_k_13 11), (zd_k_13 12), (zd_k_13 13), (zd_k_13 14), (zd_k_13 15), (zd_k_13 16), (zd_k_13 17), (zd_k_13 18), (zd_k_13 19), (zd_k_13 20), (zd_k_13 21), (zd_k_13 22), (zd_k_13 23), (zd_k_13 24), (zd_k_13 25), (zd_k_13 26), (zd_k_13 27), (zd_k_13 28), (zd_k_13 29), (zd_k_13 30), (zd_k_13 31), (zd_k_13 32), (zd_k_13 33), (zd_k_13 34), (zd_k_13 35), (zd_k_13 36), (zd_k_13 37), (zd_k_13 38), (zd_k_13 39), (zd_k_13 40), (zd_k_13 41)]))]) hP hD [0] [1, 2] rfl rfl (by decide) (by decide) hk1 hFc hP1 hD1
    have hK := (hK.sub (tys' := [(cK, .int), (cH, .int)]) [0, 1] rfl).app hK1
    have hP : va_P (dC, dI) kcl [(kq, .inl (cK, 32, .inl fk)), (hq, .inl (cH, 12, .inl fh)), (d, .inr (9, [.int 1, (zd_k_13 1), (zd_k_13 2), (zd_k_13 3), (zd_k_13 4), (zd_k_13 5), (zd_k_13 6), (zd_k_13 7), (zd_k_13 8), (zd_k_13 9), (zd_k_13 10), (zd_k_13 11), (zd_k_13 12), (zd_k_13 13), (zd_k_13 14), (zd_k_13 15), (zd_k_13 16), (zd_k_13 17), (zd_k_13 18), (zd_k_13 19), (zd_k_13 20), (zd_k_13 21), (zd_k_13 22), (zd_k_13 23), (zd_k_13 24), (zd_k_13 25), (zd_k_13 26), (zd_k_13 27), (zd_k_13 28), (zd_k_13 29), (zd_k_13 30), (zd_k_13 31), (zd_k_13 32), (zd_k_13 33), (zd_k_13 34), (zd_k_13 35), (zd_k_13 36), (zd_k_13 37), (zd_k_13 38), (zd_k_13 39), (zd_k_13 40), (zd_k_13 41)]))] H_14 := hP
    have hD : va_D A [(kq, .inl (cK, 32, .inl fk)), (hq, .inl (cH, 12, .inl fh)), (d, .inr (9, [.int 1, (zd_k_13 1), (zd_k_13 2), (zd_k_13 3), (zd_k_13 4), (zd_k_13 5), (zd_k_13 6), (zd_k_13 7), (zd_k_13 8), (zd_k_13 9), (zd_k_13 10), (zd_k_13 11), (zd_k_13 12), (zd_k_13 13), (zd_k_13 14), (zd_k_13 15), (zd_k_13 16), (zd_k_13 17), (zd_k_13 18), (zd_k_13 19), (zd_k_13 20), (zd_k_13 21), (zd_k_13 22), (zd_k_13 23), (zd_k_13 24), (zd_k_13 25), (zd_k_13 26), (zd_k_13 27), (zd_k_13 28), (zd_k_13 29), (zd_k_13 30), (zd_k_13 31), (zd_k_13 32), (zd_k_13 33), (zd_k_13 34), (zd_k_13 35), (zd_k_13 36), (zd_k_13 37), (zd_k_13 38), (zd_k_13 39), (zd_k_13 40), (zd_k_13 41)]))] := hD
    have hK : va_K (dC, dI) kcl [(cK, .int), (cH, .int)] s := hK
    have hP9 := hP.sub (ws' := [(d, .inr (9, [.int 1, (zd_k_13 1), (zd_k_13 2), (zd_k_13 3), (zd_k_13 4), (zd_k_13 5), (zd_k_13 6), (zd_k_13 7), (zd_k_13 8), (zd_k_13 9), (zd_k_13 10), (zd_k_13 11), (zd_k_13 12), (zd_k_13 13), (zd_k_13 14), (zd_k_13 15), (zd_k_13 16), (zd_k_13 17), (zd_k_13 18), (zd_k_13 19), (zd_k_13 20), (zd_k_13 21), (zd_k_13 22), (zd_k_13 23), (zd_k_13 24), (zd_k_13 25), (zd_k_13 26), (zd_k_13 27), (zd_k_13 28), (zd_k_13 29), (zd_k_13 30), (zd_k_13 31), (zd_k_13 32), (zd_k_13 33), (zd_k_13 34), (zd_k_13 35), (zd_k_13 36), (zd_k_13 37), (zd_k_13 38), (zd_k_13 39), (zd_k_13 40), (zd_k_13 41)]))]) [2] rfl
    have hD9 := hD.sub (ws' := [(d, .inr (9, [.int 1, (zd_k_13 1), (zd_k_13 2), (zd_k_13 3), (zd_k_13 4), (zd_k_13 5), (zd_k_13 6), (zd_k_13 7), (zd_k_13 8), (zd_k_13 9), (zd_k_13 10), (zd_k_13 11), (zd_k_13 12), (zd_k_13 13), (zd_k_13 14), (zd_k_13 15), (zd_k_13 16), (zd_k_13 17), (zd_k_13 18), (zd_k_13 19), (zd_k_13 20), (zd_k_13 21), (zd_k_13 22), (zd_k_13 23), (zd_k_13 24), (zd_k_13 25), (zd_k_13 26), (zd_k_13 27), (zd_k_13 28), (zd_k_13 29), (zd_k_13 30), (zd_k_13 31), (zd_k_13 32), (zd_k_13 33), (zd_k_13 34), (zd_k_13 35), (zd_k_13 36), (zd_k_13 37), (zd_k_13 38), (zd_k_13 39), (zd_k_13 40), (zd_k_13 41)]))]) [2] (by decide) rfl
    have hK9 := hK.sub (tys' := []) [] rfl
    exact W.iret (v := 0) hx hb hr (fun t ht hW => ⟨⟨0, 1, rfl, Or.inr ⟨tx_if0 c_5, rfl⟩, ⟨(fun i => List.getD [Value.int (1 : Int32), (zd_k_13 1), (zd_k_13 2), (zd_k_13 3), (zd_k_13 4), (zd_k_13 5), (zd_k_13 6), (zd_k_13 7), (zd_k_13 8), (zd_k_13 9), (zd_k_13 10), (zd_k_13 11), (zd_k_13 12), (zd_k_13 13), (zd_k_13 14), (zd_k_13 15), (zd_k_13 16), (zd_k_13 17), (zd_k_13 18), (zd_k_13 19), (zd_k_13 20), (zd_k_13 21), (zd_k_13 22), (zd_k_13 23), (zd_k_13 24), (zd_k_13 25), (zd_k_13 26), (zd_k_13 27), (zd_k_13 28), (zd_k_13 29), (zd_k_13 30), (zd_k_13 31), (zd_k_13 32), (zd_k_13 33), (zd_k_13 34), (zd_k_13 35), (zd_k_13 36), (zd_k_13 37), (zd_k_13 38), (zd_k_13 39), (zd_k_13 40), (zd_k_13 41)] i Value.null), by rw [ht]; exact hP9, va_K.moved hW.alike hK9, hD9⟩⟩, hS.F ht⟩) hS.2.2 d_D_element_20
set_option maxHeartbeats 4000000 in
set_option maxRecDepth 100000 in
theorem c_D_rule (l : Launch) (dC : Nat → ClassId) (dI : Nat → Nat → Nat) (sz : Nat) (d kq hq : Nat) (cK cH : ClassId) (zd : Nat → Value) (fk fh : Nat → Int32) (hfk : ∀ j, j < 32 → fk j = -1) (t0 : Int32) (n k lo hi : Int32) : Met l y_D_rule ws_D_rule ({ frames := 1, cells := 0, slots := 0, locals := 22 }) (va_Pc [.ref d, .int n, .int k, .int lo, .int hi] (fun U => U.heap.size = sz ∧ va_P (dC, dI) kcl [(d, .inr (9, [.int t0, .ref kq, .int 0, .ref hq, .int 0, .int 0, (zd 6), (zd 7), (zd 8), (zd 9), (zd 10), (zd 11), .int 0, (zd 13), (zd 14), (zd 15), (zd 16), (zd 17), (zd 18), (zd 19), .int 0, (zd 21), (zd 22), (zd 23), (zd 24), (zd 25), (zd 26), (zd 27), (zd 28), (zd 29), (zd 30), (zd 31), .int 0, (zd 33), (zd 34), (zd 35), (zd 36), (zd 37), (zd 38), (zd 39), (zd 40), .int 0])), (kq, .inl (cK, 32, .inl fk)), (hq, .inl (cH, 12, .inl fh))] U.heap ∧ va_K (dC, dI) kcl [(cK, .int), (cH, .int)] U ∧ va_D (fun _ => True) [(d, .inr (9, [.int t0, .ref kq, .int 0, .ref hq, .int 0, .int 0, (zd 6), (zd 7), (zd 8), (zd 9), (zd 10), (zd 11), .int 0, (zd 13), (zd 14), (zd 15), (zd 16), (zd 17), (zd 18), (zd 19), .int 0, (zd 21), (zd 22), (zd 23), (zd 24), (zd 25), (zd 26), (zd 27), (zd 28), (zd 29), (zd 30), (zd 31), .int 0, (zd 33), (zd 34), (zd 35), (zd 36), (zd 37), (zd 38), (zd 39), (zd 40), .int 0])), (kq, .inl (cK, 32, .inl fk)), (hq, .inl (cH, 12, .inl fh))])) (va_Qi (fun (_ th : Int32) => th = 2) (fun (th : Int32) (t : State) => ∃ zd2 : Nat → Value, va_P (dC, dI) kcl [(d, .inr (9, [.int th, (zd2 1), (zd2 2), (zd2 3), (zd2 4), (zd2 5), (zd2 6), (zd2 7), (zd2 8), (zd2 9), (zd2 10), (zd2 11), (zd2 12), (zd2 13), (zd2 14), (zd2 15), (zd2 16), (zd2 17), (zd2 18), (zd2 19), (zd2 20), (zd2 21), (zd2 22), (zd2 23), (zd2 24), (zd2 25), (zd2 26), (zd2 27), (zd2 28), (zd2 29), (zd2 30), (zd2 31), (zd2 32), (zd2 33), (zd2 34), (zd2 35), (zd2 36), (zd2 37), (zd2 38), (zd2 39), (zd2 40), (zd2 41)]))] t.heap ∧ va_K (dC, dI) kcl [] t ∧ va_D (va_A [(d, .inr (9, [.int t0, .ref kq, .int 0, .ref hq, .int 0, .int 0, (zd 6), (zd 7), (zd 8), (zd 9), (zd 10), (zd 11), .int 0, (zd 13), (zd 14), (zd 15), (zd 16), (zd 17), (zd 18), (zd 19), .int 0, (zd 21), (zd 22), (zd 23), (zd 24), (zd 25), (zd 26), (zd 27), (zd 28), (zd 29), (zd 30), (zd 31), .int 0, (zd 33), (zd 34), (zd 35), (zd 36), (zd 37), (zd 38), (zd 39), (zd 40), .int 0])), (kq, .inl (cK, 32, .inl fk)), (hq, .inl (cH, 12, .inl fh))] sz) [(d, .inr (9, [.int th, (zd2 1), (zd2 2), (zd2 3), (zd2 4), (zd2 5), (zd2 6), (zd2 7), (zd2 8), (zd2 9), (zd2 10), (zd2 11), (zd2 12), (zd2 13), (zd2 14), (zd2 15), (zd2 16), (zd2 17), (zd2 18), (zd2 19), (zd2 20), (zd2 21), (zd2 22), (zd2 23), (zd2 24), (zd2 25), (zd2 26), (zd2 27), (zd2 28), (zd2 29), (zd2 30), (zd2 31), (zd2 32), (zd2 33), (zd2 34), (zd2 35), (zd2 36), (zd2 37), (zd2 38), (zd2 39), (zd2 40), (zd2 41)]))]) (va_A [(d, .inr (9, [.int t0, .ref kq, .int 0, .ref hq, .int 0, .int 0, (zd 6), (zd 7), (zd 8), (zd 9), (zd 10), (zd 11), .int 0, (zd 13), (zd 14), (zd 15), (zd 16), (zd 17), (zd 18), (zd 19), .int 0, (zd 21), (zd 22), (zd 23), (zd 24), (zd 25), (zd 26), (zd 27), (zd 28), (zd 29), (zd 30), (zd 31), .int 0, (zd 33), (zd 34), (zd 35), (zd 36), (zd 37), (zd 38), (zd 39), (zd 40), .int 0])), (kq, .inl (cK, 32, .inl fk)), (hq, .inl (cH, 12, .inl fh))] sz)) 0 0 (va_A [(d, .inr (9, [.int t0, .ref kq, .int 0, .ref hq, .int 0, .int 0, (zd 6), (zd 7), (zd 8), (zd 9), (zd 10), (zd 11), .int 0, (zd 13), (zd 14), (zd 15), (zd 16), (zd 17), (zd 18), (zd 19), .int 0, (zd 21), (zd 22), (zd 23), (zd 24), (zd 25), (zd 26), (zd 27), (zd 28), (zd 29), (zd 30), (zd 31), .int 0, (zd 33), (zd 34), (zd 35), (zd 36), (zd 37), (zd 38), (zd 39), (zd 40), .int 0])), (kq, .inl (cK, 32, .inl fk)), (hq, .inl (cH, 12, .inl fh))] sz) := by
  refine Met.ofW (cc := b_D_rule) (maxL := 8) (ret := (Option.some Jvm.ClassFile.FieldType.int)) (by decide) rfl ?_
  intro p e s m args below meth c s₁ B hml hv
  obtain ⟨rfl, hsz, hP, hK, hD0⟩ := hv
  have hx := B.exec
  have hb := B.bytes
  have hr := B.returns
  have hlocks := B.notSynchronized
  have hg : ∀ w ∈ gw, w.before _ s = true := fun w h => atoms_spec (ws := ws_D_rule) B.pre w (List.mem_cons_of_mem _ h)
  have hown : s.vm.findClass "TreeMatcherModel" = some m.cls := findClass_of_methodNamed B.named
  subst hsz
  have hD := hD0.self (sz := s.heap.size)
  have hA : ∀ q : Nat, s.heap.size ≤ q → va_A [(d, .inr (9, [.int t0, .ref kq, .int 0, .ref hq, .int 0, .int 0, (zd 6), (zd 7), (zd 8), (zd 9), (zd 10), (zd 11), .int 0, (zd 13), (zd 14), (zd 15), (zd 16), (zd 17), (zd 18), (zd 19), .int 0, (zd 21), (zd 22), (zd 23), (zd 24), (zd 25), (zd 26), (zd 27), (zd 28), (zd 29), (zd 30), (zd 31), .int 0, (zd 33), (zd 34), (zd 35), (zd 36), (zd 37), (zd 38), (zd 39), (zd 40), .int 0])), (kq, .inl (cK, 32, .inl fk)), (hq, .inl (cH, 12, .inl fh))] s.heap.size q := fun q h => Or.inr h
  generalize hAe : va_A [(d, .inr (9, [.int t0, .ref kq, .int 0, .ref hq, .int 0, .int 0, (zd 6), (zd 7), (zd 8), (zd 9), (zd 10), (zd 11), .int 0, (zd 13), (zd 14), (zd 15), (zd 16), (zd 17), (zd 18), (zd 19), .int 0, (zd 21), (zd 22), (zd 23), (zd 24), (zd 25), (zd 26), (zd 27), (zd 28), (zd 29), (zd 30), (zd 31), .int 0, (zd 33), (zd 34), (zd 35), (zd 36), (zd 37), (zd 38), (zd 39), (zd 40), .int 0])), (kq, .inl (cK, 32, .inl fk)), (hq, .inl (cH, 12, .inl fh))] s.heap.size = A at hD hA ⊢
  have hS : va_S A s.heap s.heap [] := va_S.rf
  have hl := lv_entry ([.ref d, .int n, .int k, .int lo, .int hi] : List Value) (n := 8) (Nat.le_of_ble_eq_true rfl)
  rw [lg_entry_eq]
  generalize (lg_sl ([.ref d, .int n, .int k, .int lo, .int hi] : List Value) ++ List.replicate (8 - (lg_sl ([.ref d, .int n, .int k, .int lo, .int hi] : List Value)).length) Slot.unset).toArray = ls at hl ⊢
  have hl : lv_has ls 8 [(0, .ref d), (1, .int n), (2, .int k), (3, .int lo), (4, .int hi)] := hl
  refine lv_aload_n hx hb d_D_rule_0 rfl (lv_at hl 0 rfl) ?_
  refine lv_iconst (v := 0) hx hb d_D_rule_1 (by decide) ?_
  refine va_put (D := (dC, dI)) (ci := 9) (v := .int 0) (ty := .int) (C := kR_D) (T := kT_D) (N := 42) hx hb hg kin_D kt_D kty_D knm_D hown hK hP hD hS 0 rfl rfl 0 (by decide) (hg _ tw_817) (fun _ h9 => h9) rfl (by decide +kernel) rfl rfl (Nat.le_of_ble_eq_true rfl) d_D_rule_2 (fun H_1 lo_2 hP hD hS => ?_)
  have hP : va_P (dC, dI) kcl [(d, .inr (9, [.int 0, .ref kq, .int 0, .ref hq, .int 0, .int 0, (zd 6), (zd 7), (zd 8), (zd 9), (zd 10), (zd 11), .int 0, (zd 13), (zd 14), (zd 15), (zd 16), (zd 17), (zd 18), (zd 19), .int 0, (zd 21), (zd 22), (zd 23), (zd 24), (zd 25), (zd 26), (zd 27), (zd 28), (zd 29), (zd 30), (zd 31), .int 0, (zd 33), (zd 34), (zd 35), (zd 36), (zd 37), (zd 38), (zd 39), (zd 40), .int 0])), (kq, .inl (cK, 32, .inl fk)), (hq, .inl (cH, 12, .inl fh))] H_1 := hP
  have hD : va_D A [(d, .inr (9, [.int 0, .ref kq, .int 0, .ref hq, .int 0, .int 0, (zd 6), (zd 7), (zd 8), (zd 9), (zd 10), (zd 11), .int 0, (zd 13), (zd 14), (zd 15), (zd 16), (zd 17), (zd 18), (zd 19), .int 0, (zd 21), (zd 22), (zd 23), (zd 24), (zd 25), (zd 26), (zd 27), (zd 28), (zd 29), (zd 30), (zd 31), .int 0, (zd 33), (zd 34), (zd 35), (zd 36), (zd 37), (zd 38), (zd 39), (zd 40), .int 0])), (kq, .inl (cK, 32, .inl fk)), (hq, .inl (cH, 12, .inl fh))] := hD
  refine lv_aload_n hx hb d_D_rule_5 rfl (lv_at hl 0 rfl) ?_
  refine va_get (D := (dC, dI)) (ci := 9) (v := .int 0) (C := kR_D) (T := kT_D) (N := 42) hx hb hg kin_D hown hK hP 0 rfl rfl 5 (by decide) (hg _ tw_822) (fun _ h9 => h9) rfl d_D_rule_6 ?_
  refine lv_bipush (v := 64) hx hb d_D_rule_9 (by decide) ?_
  refine lv_icmp_eq (tgt := 21) hx hb d_D_rule_11 (by decide) (fun c_3 => ?_) (fun c_3 => ?_)
  · exact absurd c_3 (by decide)
  · refine lv_aload_n hx hb d_D_rule_14 rfl (lv_at hl 0 rfl) ?_
    refine va_get (D := (dC, dI)) (ci := 9) (v := .int 0) (C := kR_D) (T := kT_D) (N := 42) hx hb hg kin_D hown hK hP 0 rfl rfl 12 (by decide) (hg _ tw_829) (fun _ h9 => h9) rfl d_D_rule_15 ?_
    refine lv_if_le (tgt := 27) hx hb d_D_rule_18 (by decide) (fun c_4 => ?_) (fun c_4 => ?_)
    · refine lv_iload_n hx hb d_D_rule_27 rfl (lv_at hl 1 rfl) ?_
      refine lv_iconst (v := 0) hx hb d_D_rule_28 (by decide) ?_
      refine lv_bipush (v := 15) hx hb d_D_rule_29 (by decide) ?_
      have hPc := hP.sub (ws' := []) [] rfl
      have hKc := hK.sub (tys' := []) [] rfl
      refine va_calli (va_runS (As := [.int n, .int 0, .int 15]) (rest := []) ⟨hx, hb, hml, hown, hg⟩ (c_D_within l dC dI H_1.size n 0 15) (va_cwS 3 hg (gw_giS cin_D_within tw_952 tw_953 tw_11) rfl rfl rfl (by decide +kernel) ⟨Nat.le_of_ble_eq_true rfl, Nat.le_of_ble_eq_true rfl⟩) ⟨fun a U g mk q => by obtain ⟨q0, q1, qP, qK⟩ := q; exact ⟨q0, q1, qP, va_K.moved (u := U) (U := U.calling g mk a) (Vm.Alike.refl U.vm) qK⟩, fun U hU hW => ⟨rfl, by rw [hU], by rw [hU]; exact hPc, va_K.moved hW.alike hKc⟩⟩ rfl rfl hl.1 rfl (lv_room (Nat.le_of_ble_eq_true rfl)) d_D_rule_31 ⟨Nat.le_of_ble_eq_true rfl, Nat.le_of_ble_eq_true rfl⟩) hS (fun q h1 h => (tx_pA h1 h).elim) (tx_pF hS hA) (fun r_k_5 u_k_5 t_k_5 H_6 l_k_5 ht hvm hw_k_5 hB hz1 hk1 hS => ?_)
      have hw_k_5 : (if 0 ≤ n ∧ n ≤ 15 then 1 else 0) = r_k_5 := Eq.symm hw_k_5
      subst hw_k_5
      have hP := tx_keep hP hk1
      refine lv_if_eq (tgt := 64) hx hb d_D_rule_34 (by decide) (fun c_7 => ?_) (fun c_7 => ?_)
      · refine lv_iconst (v := 0) hx hb d_D_rule_64 (by decide) ?_
        refine lv_istore (lv' := [(5, .int 0), (0, .ref d), (1, .int n), (2, .int k), (3, .int lo), (4, .int hi)]) hx hb d_D_rule_65 hl (by decide) rfl (fun ls hl => ?_)
        refine lv_aload_n hx hb d_D_rule_67 rfl (lv_at hl 1 rfl) ?_
        refine va_get (D := (dC, dI)) (ci := 9) (v := .int 0) (C := kR_D) (T := kT_D) (N := 42) hx hb hg kin_D hown hK hP 0 rfl rfl 4 (by decide) (hg _ tw_821) (fun _ h9 => h9) rfl d_D_rule_68 ?_
        refine lv_istore (lv' := [(6, .int 0), (5, .int 0), (0, .ref d), (1, .int n), (2, .int k), (3, .int lo), (4, .int hi)]) hx hb d_D_rule_71 hl (by decide) rfl (fun ls hl => ?_)
        refine lv_aload_n hx hb d_D_rule_73 rfl (lv_at hl 2 rfl) ?_
        refine lv_iconst (v := 0) hx hb d_D_rule_74 (by decide) ?_
        refine va_put (D := (dC, dI)) (ci := 9) (v := .int 0) (ty := .int) (C := kR_D) (T := kT_D) (N := 42) hx hb hg kin_D kt_D kty_D knm_D hown hK hP hD hS 0 rfl rfl 4 (by decide) (hg _ tw_821) (fun _ h9 => h9) rfl (by decide +kernel) rfl rfl (Nat.le_of_ble_eq_true rfl) d_D_rule_75 (fun H_8 lo_9 hP hD hS => ?_)
        have hP : va_P (dC, dI) kcl [(d, .inr (9, [.int 0, .ref kq, .int 0, .ref hq, .int 0, .int 0, (zd 6), (zd 7), (zd 8), (zd 9), (zd 10), (zd 11), .int 0, (zd 13), (zd 14), (zd 15), (zd 16), (zd 17), (zd 18), (zd 19), .int 0, (zd 21), (zd 22), (zd 23), (zd 24), (zd 25), (zd 26), (zd 27), (zd 28), (zd 29), (zd 30), (zd 31), .int 0, (zd 33), (zd 34), (zd 35), (zd 36), (zd 37), (zd 38), (zd 39), (zd 40), .int 0])), (kq, .inl (cK, 32, .inl fk)), (hq, .inl (cH, 12, .inl fh))] H_8 := hP
        have hD : va_D A [(d, .inr (9, [.int 0, .ref kq, .int 0, .ref hq, .int 0, .int 0, (zd 6), (zd 7), (zd 8), (zd 9), (zd 10), (zd 11), .int 0, (zd 13), (zd 14), (zd 15), (zd 16), (zd 17), (zd 18), (zd 19), .int 0, (zd 21), (zd 22), (zd 23), (zd 24), (zd 25), (zd 26), (zd 27), (zd 28), (zd 29), (zd 30), (zd 31), .int 0, (zd 33), (zd 34), (zd 35), (zd 36), (zd 37), (zd 38), (zd 39), (zd 40), .int 0])), (kq, .inl (cK, 32, .inl fk)), (hq, .inl (cH, 12, .inl fh))] := hD
        refine lv_iload hx hb d_D_rule_78 (lv_at hl 1 rfl) ?_
        refine lv_if_ne (tgt := 89) hx hb d_D_rule_80 (by decide) (fun c_10 => ?_) (fun c_10 => ?_)
        · exact absurd rfl c_10
        · refine lv_aload_n hx hb d_D_rule_83 rfl (lv_at hl 2 rfl) ?_
          refine lv_iconst (v := 2) hx hb d_D_rule_84 (by decide) ?_
          have hPc := hP.sub (ws' := [(d, .inr (9, [.int 0, .ref kq, .int 0, .ref hq, .int 0, .int 0, (zd 6), (zd 7), (zd 8), (zd 9), (zd 10), (zd 11), .int 0, (zd 13), (zd 14), (zd 15), (zd 16), (zd 17), (zd 18), (zd 19), .int 0, (zd 21), (zd 22), (zd 23), (zd 24), (zd 25), (zd 26), (zd 27), (zd 28), (zd 29), (zd 30), (zd 31), .int 0, (zd 33), (zd 34), (zd 35), (zd 36), (zd 37), (zd 38), (zd 39), (zd 40), .int 0]))]) [0] rfl
          have hKc := hK.sub (tys' := []) [] rfl
          have hDc := hD.sub (ws' := [(d, .inr (9, [.int 0, .ref kq, .int 0, .ref hq, .int 0, .int 0, (zd 6), (zd 7), (zd 8), (zd 9), (zd 10), (zd 11), .int 0, (zd 13), (zd 14), (zd 15), (zd 16), (zd 17), (zd 18), (zd 19), .int 0, (zd 21), (zd 22), (zd 23), (zd 24), (zd 25), (zd 26), (zd 27), (zd 28), (zd 29), (zd 30), (zd 31), .int 0, (zd 33), (zd 34), (zd 35), (zd 36), (zd 37), (zd 38), (zd 39), (zd 40), .int 0]))]) [0] (by decide) rfl
          have hFc := va_free (wc := [(d, .inr (9, [.int 0, .ref kq, .int 0, .ref hq, .int 0, .int 0, (zd 6), (zd 7), (zd 8), (zd 9), (zd 10), (zd 11), .int 0, (zd 13), (zd 14), (zd 15), (zd 16), (zd 17), (zd 18), (zd 19), .int 0, (zd 21), (zd 22), (zd 23), (zd 24), (zd 25), (zd 26), (zd 27), (zd 28), (zd 29), (zd 30), (zd 31), .int 0, (zd 33), (zd 34), (zd 35), (zd 36), (zd 37), (zd 38), (zd 39), (zd 40), .int 0]))]) hD hS hA [0] rfl
          refine va_calli (va_runV (As := [.int 2]) (rest := []) ⟨hx, hb, hml, hown, hg⟩ (c_D_fail l dC dI H_8.size d (fun i => if i = 41 then .int 0 else if i = 32 then .int 0 else if i = 20 then .int 0 else if i = 12 then .int 0 else if i = 5 then .int 0 else if i = 4 then .int 0 else if i = 3 then .ref hq else if i = 2 then .int 0 else if i = 1 then .ref kq else zd i) 0 2) (cwV 1 hg (gw_giV cin_D_fail tw_955 tw_957 sw_D_fail tw_11) rfl rfl rfl (by decide +kernel) ⟨Nat.le_of_ble_eq_true rfl, Nat.le_of_ble_eq_true rfl⟩) ⟨fun a U g mk q => by obtain ⟨q0, q1, qP, qK, qD⟩ := q; exact ⟨q0, q1, qP, va_K.moved (u := U) (U := U.calling g mk a) (Vm.Alike.refl U.vm) qK, qD⟩, va_recv hKc hPc (ci := 9) (q0 := 0) rfl rfl, fun U hU hW => ⟨rfl, by rw [hU], by rw [hU]; exact hPc, va_K.moved hW.alike hKc, hDc.weaken (fun _ _ _ _ => trivial)⟩⟩ rfl rfl hl.1 rfl (lv_room (Nat.le_of_ble_eq_true rfl)) d_D_rule_85 ⟨Nat.le_of_ble_eq_true rfl, Nat.le_of_ble_eq_true rfl⟩) hS (fun q _ h => hFc q h) hFc (fun r_k_11 u_k_11 t_k_11 H_12 l_k_11 ht hvm hw_k_11 hB hz1 hk1 hS => ?_)
          obtain ⟨hr_k_11, hu_k_11⟩ := hw_k_11
          subst hr_k_11
          subst hu_k_11
          obtain ⟨zd_k_11, hP1, hK1, hD1⟩ := hB
          rw [ht] at hP1
          have hK1 := va_K.moved hvm.symm hK1
          obtain ⟨hP, hD⟩ := va_join (wr := [(kq, .inl (cK, 32, .inl fk)), (hq, .inl (cH, 12, .inl fh))]) (w1 := [(d, .inr (9, [.int 2, (zd_k_11 1), (zd_k_11 2), (zd_k_11 3), (zd_k_11 4), (zd_k_11 5), (zd_k_11 6), (zd_k_11 7), (zd_k_11 8), (zd_k_11 9), (zd_k_11 10), (zd_k_11 11), (zd_k_11 12), (zd_k_11 13), (zd_k_11 14), (zd_k_11 15), (zd_k_11 16), (zd_k_11 17), (zd_k_11 18), (zd_k_11 19), (zd_k_11 20), (zd_k_11 21), (zd_k_11 22), (zd_k_11 23), (zd_k_11 24), (zd_k_11 25), (zd_k_11 26), (zd_k_11 27), (zd_k_11 28), (zd_k_11 29), (zd_k_11 30), (zd_k_11 31), (zd_k_11 32), (zd_k_11 33), (zd_k_11 34), (zd_k_11 35), (zd_k_11 36), (zd_k_11 37), (zd_k_11 38), (zd_k_11 39), (zd_k_11 40), (zd_k_11 41)]))]) hP hD [0] [1, 2] rfl rfl (by decide) (by decide) hk1 hFc hP1 hD1
          have hK := (hK.sub (tys' := [(cK, .int), (cH, .int)]) [0, 1] rfl).app hK1
          have hP : va_P (dC, dI) kcl [(kq, .inl (cK, 32, .inl fk)), (hq, .inl (cH, 12, .inl fh)), (d, .inr (9, [.int 2, (zd_k_11 1), (zd_k_11 2), (zd_k_11 3), (zd_k_11 4), (zd_k_11 5), (zd_k_11 6), (zd_k_11 7), (zd_k_11 8), (zd_k_11 9), (zd_k_11 10), (zd_k_11 11), (zd_k_11 12), (zd_k_11 13), (zd_k_11 14), (zd_k_11 15), (zd_k_11 16), (zd_k_11 17), (zd_k_11 18), (zd_k_11 19), (zd_k_11 20), (zd_k_11 21), (zd_k_11 22), (zd_k_11 23), (zd_k_11 24), (zd_k_11 25), (zd_k_11 26), (zd_k_11 27), (zd_k_11 28), (zd_k_11 29), (zd_k_11 30), (zd_k_11 31), (zd_k_11 32), (zd_k_11 33), (zd_k_11 34), (zd_k_11 35), (zd_k_11 36), (zd_k_11 37), (zd_k_11 38), (zd_k_11 39), (zd_k_11 40), (zd_k_11 41)]))] H_12 := hP
          have hD : va_D A [(kq, .inl (cK, 32, .inl fk)), (hq, .inl (cH, 12, .inl fh)), (d, .inr (9, [.int 2, (zd_k_11 1), (zd_k_11 2), (zd_k_11 3), (zd_k_11 4), (zd_k_11 5), (zd_k_11 6), (zd_k_11 7), (zd_k_11 8), (zd_k_11 9), (zd_k_11 10), (zd_k_11 11), (zd_k_11 12), (zd_k_11 13), (zd_k_11 14), (zd_k_11 15), (zd_k_11 16), (zd_k_11 17), (zd_k_11 18), (zd_k_11 19), (zd_k_11 20), (zd_k_11 21), (zd_k_11 22), (zd_k_11 23), (zd_k_11 24), (zd_k_11 25), (zd_k_11 26), (zd_k_11 27), (zd_k_11 28), (zd_k_11 29), (zd_k_11 30), (zd_k_11 31), (zd_k_11 32), (zd_k_11 33), (zd_k_11 34), (zd_k_11 35), (zd_k_11 36), (zd_k_11 37), (zd_k_11 38), (zd_k_11 39), (zd_k_11 40), (zd_k_11 41)]))] := hD
          have hK : va_K (dC, dI) kcl [(cK, .int), (cH, .int)] s := hK
          have hP9 := hP.sub (ws' := [(d, .inr (9, [.int 2, (zd_k_11 1), (zd_k_11 2), (zd_k_11 3), (zd_k_11 4), (zd_k_11 5), (zd_k_11 6), (zd_k_11 7), (zd_k_11 8), (zd_k_11 9), (zd_k_11 10), (zd_k_11 11), (zd_k_11 12), (zd_k_11 13), (zd_k_11 14), (zd_k_11 15), (zd_k_11 16), (zd_k_11 17), (zd_k_11 18), (zd_k_11 19), (zd_k_11 20), (zd_k_11 21), (zd_k_11 22), (zd_k_11 23), (zd_k_11 24), (zd_k_11 25), (zd_k_11 26), (zd_k_11 27), (zd_k_11 28), (zd_k_11 29), (zd_k_11 30), (zd_k_11 31), (zd_k_11 32), (zd_k_11 33), (zd_k_11 34), (zd_k_11 35), (zd_k_11 36), (zd_k_11 37), (zd_k_11 38), (zd_k_11 39), (zd_k_11 40), (zd_k_11 41)]))]) [2] rfl
          have hD9 := hD.sub (ws' := [(d, .inr (9, [.int 2, (zd_k_11 1), (zd_k_11 2), (zd_k_11 3), (zd_k_11 4), (zd_k_11 5), (zd_k_11 6), (zd_k_11 7), (zd_k_11 8), (zd_k_11 9), (zd_k_11 10), (zd_k_11 11), (zd_k_11 12), (zd_k_11 13), (zd_k_11 14), (zd_k_11 15), (zd_k_11 16), (zd_k_11 17), (zd_k_11 18), (zd_k_11 19), (zd_k_11 20), (zd_k_11 21), (zd_k_11 22), (zd_k_11 23), (zd_k_11 24), (zd_k_11 25), (zd_k_11 26), (zd_k_11 27), (zd_k_11 28), (zd_k_11 29), (zd_k_11 30), (zd_k_11 31), (zd_k_11 32), (zd_k_11 33), (zd_k_11 34), (zd_k_11 35), (zd_k_11 36), (zd_k_11 37), (zd_k_11 38), (zd_k_11 39), (zd_k_11 40), (zd_k_11 41)]))]) [2] (by decide) rfl
          have hK9 := hK.sub (tys' := []) [] rfl
          exact W.iret (v := 0) hx hb hr (fun t ht hW => ⟨⟨0, 2, rfl, rfl, ⟨(fun i => List.getD [Value.int (2 : Int32), (zd_k_11 1), (zd_k_11 2), (zd_k_11 3), (zd_k_11 4), (zd_k_11 5), (zd_k_11 6), (zd_k_11 7), (zd_k_11 8), (zd_k_11 9), (zd_k_11 10), (zd_k_11 11), (zd_k_11 12), (zd_k_11 13), (zd_k_11 14), (zd_k_11 15), (zd_k_11 16), (zd_k_11 17), (zd_k_11 18), (zd_k_11 19), (zd_k_11 20), (zd_k_11 21), (zd_k_11 22), (zd_k_11 23), (zd_k_11 24), (zd_k_11 25), (zd_k_11 26), (zd_k_11 27), (zd_k_11 28), (zd_k_11 29), (zd_k_11 30), (zd_k_11 31), (zd_k_11 32), (zd_k_11 33), (zd_k_11 34), (zd_k_11 35), (zd_k_11 36), (zd_k_11 37), (zd_k_11 38), (zd_k_11 39), (zd_k_11 40), (zd_k_11 41)] i Value.null), by rw [ht]; exact hP9, va_K.moved hW.alike hK9, hD9⟩⟩, hS.F ht⟩) hS.2.2 d_D_rule_88
      · refine lv_iload_n hx hb d_D_rule_37 rfl (lv_at hl 2 rfl) ?_
        refine lv_iconst (v := 0) hx hb d_D_rule_38 (by decide) ?_
        refine lv_bipush (v := 99) hx hb d_D_rule_39 (by decide) ?_
        have hPc := hP.sub (ws' := []) [] rfl
        have hKc := hK.sub (tys' := []) [] rfl
        refine va_calli (va_runS (As := [.int k, .int 0, .int 99]) (rest := []) ⟨hx, hb, hml, hown, hg⟩ (c_D_within l dC dI H_6.size k 0 99) (va_cwS 3 hg (gw_giS cin_D_within tw_952 tw_953 tw_11) rfl rfl rfl (by decide +kernel) ⟨Nat.le_of_ble_eq_true rfl, Nat.le_of_ble_eq_true rfl⟩) ⟨fun a U g mk q => by obtain ⟨q0, q1, qP, qK⟩ := q; exact ⟨q0, q1, qP, va_K.moved (u := U) (U := U.calling g mk a) (Vm.Alike.refl U.vm) qK⟩, fun U hU hW => ⟨rfl, by rw [hU], by rw [hU]; exact hPc, va_K.moved hW.alike hKc⟩⟩ rfl rfl hl.1 rfl (lv_room (Nat.le_of_ble_eq_true rfl)) d_D_rule_41 ⟨Nat.le_of_ble_eq_true rfl, Nat.le_of_ble_eq_true rfl⟩) hS (fun q h1 h => (tx_pA h1 h).elim) (tx_pF hS hA) (fun r_k_14 u_k_14 t_k_14 H_15 l_k_14 ht hvm hw_k_14 hB hz1 hk1 hS => ?_)
        have hw_k_14 : (if 0 ≤ k ∧ k ≤ 99 then 1 else 0) = r_k_14 := Eq.symm hw_k_14
        subst hw_k_14
        have hP := tx_keep hP hk1
        refine lv_if_eq (tgt := 64) hx hb d_D_rule_44 (by decide) (fun c_16 => ?_) (fun c_16 => ?_)
        · refine lv_iconst (v := 0) hx hb d_D_rule_64 (by decide) ?_
          refine lv_istore (lv' := [(5, .int 0), (0, .ref d), (1, .int n), (2, .int k), (3, .int lo), (4, .int hi)]) hx hb d_D_rule_65 hl (by decide) rfl (fun ls hl => ?_)
          refine lv_aload_n hx hb d_D_rule_67 rfl (lv_at hl 1 rfl) ?_
          refine va_get (D := (dC, dI)) (ci := 9) (v := .int 0) (C := kR_D) (T := kT_D) (N := 42) hx hb hg kin_D hown hK hP 0 rfl rfl 4 (by decide) (hg _ tw_821) (fun _ h9 => h9) rfl d_D_rule_68 ?_
          refine lv_istore (lv' := [(6, .int 0), (5, .int 0), (0, .ref d), (1, .int n), (2, .int k), (3, .int lo), (4, .int hi)]) hx hb d_D_rule_71 hl (by decide) rfl (fun ls hl => ?_)
          refine lv_aload_n hx hb d_D_rule_73 rfl (lv_at hl 2 rfl) ?_
          refine lv_iconst (v := 0) hx hb d_D_rule_74 (by decide) ?_
          refine va_put (D := (dC, dI)) (ci := 9) (v := .int 0) (ty := .int) (C := kR_D) (T := kT_D) (N := 42) hx hb hg kin_D kt_D kty_D knm_D hown hK hP hD hS 0 rfl rfl 4 (by decide) (hg _ tw_821) (fun _ h9 => h9) rfl (by decide +kernel) rfl rfl (Nat.le_of_ble_eq_true rfl) d_D_rule_75 (fun H_17 lo_18 hP hD hS => ?_)
          have hP : va_P (dC, dI) kcl [(d, .inr (9, [.int 0, .ref kq, .int 0, .ref hq, .int 0, .int 0, (zd 6), (zd 7), (zd 8), (zd 9), (zd 10), (zd 11), .int 0, (zd 13), (zd 14), (zd 15), (zd 16), (zd 17), (zd 18), (zd 19), .int 0, (zd 21), (zd 22), (zd 23), (zd 24), (zd 25), (zd 26), (zd 27), (zd 28), (zd 29), (zd 30), (zd 31), .int 0, (zd 33), (zd 34), (zd 35), (zd 36), (zd 37), (zd 38), (zd 39), (zd 40), .int 0])), (kq, .inl (cK, 32, .inl fk)), (hq, .inl (cH, 12, .inl fh))] H_17 := hP
          have hD : va_D A [(d, .inr (9, [.int 0, .ref kq, .int 0, .ref hq, .int 0, .int 0, (zd 6), (zd 7), (zd 8), (zd 9), (zd 10), (zd 11), .int 0, (zd 13), (zd 14), (zd 15), (zd 16), (zd 17), (zd 18), (zd 19), .int 0, (zd 21), (zd 22), (zd 23), (zd 24), (zd 25), (zd 26), (zd 27), (zd 28), (zd 29), (zd 30), (zd 31), .int 0, (zd 33), (zd 34), (zd 35), (zd 36), (zd 37), (zd 38), (zd 39), (zd 40), .int 0])), (kq, .inl (cK, 32, .inl fk)), (hq, .inl (cH, 12, .inl fh))] := hD
          refine lv_iload hx hb d_D_rule_78 (lv_at hl 1 rfl) ?_
          refine lv_if_ne (tgt := 89) hx hb d_D_rule_80 (by decide) (fun c_19 => ?_) (fun c_19 => ?_)
          · exact absurd rfl c_19
          · refine lv_aload_n hx hb d_D_rule_83 rfl (lv_at hl 2 rfl) ?_
            refine lv_iconst (v := 2) hx hb d_D_rule_84 (by decide) ?_
            have hPc := hP.sub (ws' := [(d, .inr (9, [.int 0, .ref kq, .int 0, .ref hq, .int 0, .int 0, (zd 6), (zd 7), (zd 8), (zd 9), (zd 10), (zd 11), .int 0, (zd 13), (zd 14), (zd 15), (zd 16), (zd 17), (zd 18), (zd 19), .int 0, (zd 21), (zd 22), (zd 23), (zd 24), (zd 25), (zd 26), (zd 27), (zd 28), (zd 29), (zd 30), (zd 31), .int 0, (zd 33), (zd 34), (zd 35), (zd 36), (zd 37), (zd 38), (zd 39), (zd 40), .int 0]))]) [0] rfl
            have hKc := hK.sub (tys' := []) [] rfl
            have hDc := hD.sub (ws' := [(d, .inr (9, [.int 0, .ref kq, .int 0, .ref hq, .int 0, .int 0, (zd 6), (zd 7), (zd 8), (zd 9), (zd 10), (zd 11), .int 0, (zd 13), (zd 14), (zd 15), (zd 16), (zd 17), (zd 18), (zd 19), .int 0, (zd 21), (zd 22), (zd 23), (zd 24), (zd 25), (zd 26), (zd 27), (zd 28), (zd 29), (zd 30), (zd 31), .int 0, (zd 33), (zd 34), (zd 35), (zd 36), (zd 37), (zd 38), (zd 39), (zd 40), .int 0]))]) [0] (by decide) rfl
            have hFc := va_free (wc := [(d, .inr (9, [.int 0, .ref kq, .int 0, .ref hq, .int 0, .int 0, (zd 6), (zd 7), (zd 8), (zd 9), (zd 10), (zd 11), .int 0, (zd 13), (zd 14), (zd 15), (zd 16), (zd 17), (zd 18), (zd 19), .int 0, (zd 21), (zd 22), (zd 23), (zd 24), (zd 25), (zd 26), (zd 27), (zd 28), (zd 29), (zd 30), (zd 31), .int 0, (zd 33), (zd 34), (zd 35), (zd 36), (zd 37), (zd 38), (zd 39), (zd 40), .int 0]))]) hD hS hA [0] rfl
            refine va_calli (va_runV (As := [.int 2]) (rest := []) ⟨hx, hb, hml, hown, hg⟩ (c_D_fail l dC dI H_17.size d (fun i => if i = 41 then .int 0 else if i = 32 then .int 0 else if i = 20 then .int 0 else if i = 12 then .int 0 else if i = 5 then .int 0 else if i = 4 then .int 0 else if i = 3 then .ref hq else if i = 2 then .int 0 else if i = 1 then .ref kq else zd i) 0 2) (cwV 1 hg (gw_giV cin_D_fail tw_955 tw_957 sw_D_fail tw_11) rfl rfl rfl (by decide +kernel) ⟨Nat.le_of_ble_eq_true rfl, Nat.le_of_ble_eq_true rfl⟩) ⟨fun a U g mk q => by obtain ⟨q0, q1, qP, qK, qD⟩ := q; exact ⟨q0, q1, qP, va_K.moved (u := U) (U := U.calling g mk a) (Vm.Alike.refl U.vm) qK, qD⟩, va_recv hKc hPc (ci := 9) (q0 := 0) rfl rfl, fun U hU hW => ⟨rfl, by rw [hU], by rw [hU]; exact hPc, va_K.moved hW.alike hKc, hDc.weaken (fun _ _ _ _ => trivial)⟩⟩ rfl rfl hl.1 rfl (lv_room (Nat.le_of_ble_eq_true rfl)) d_D_rule_85 ⟨Nat.le_of_ble_eq_true rfl, Nat.le_of_ble_eq_true rfl⟩) hS (fun q _ h => hFc q h) hFc (fun r_k_20 u_k_20 t_k_20 H_21 l_k_20 ht hvm hw_k_20 hB hz1 hk1 hS => ?_)
            obtain ⟨hr_k_20, hu_k_20⟩ := hw_k_20
            subst hr_k_20
            subst hu_k_20
            obtain ⟨zd_k_20, hP1, hK1, hD1⟩ := hB
            rw [ht] at hP1
            have hK1 := va_K.moved hvm.symm hK1
            obtain ⟨hP, hD⟩ := va_join (wr := [(kq, .inl (cK, 32, .inl fk)), (hq, .inl (cH, 12, .inl fh))]) (w1 := [(d, .inr (9, [.int 2, (zd_k_20 1), (zd_k_20 2), (zd_k_20 3), (zd_k_20 4), (zd_k_20 5), (zd_k_20 6), (zd_k_20 7), (zd_k_20 8), (zd_k_20 9), (zd_k_20 10), (zd_k_20 11), (zd_k_20 12), (zd_k_20 13), (zd_k_20 14), (zd_k_20 15), (zd_k_20 16), (zd_k_20 17), (zd_k_20 18), (zd_k_20 19), (zd_k_20 20), (zd_k_20 21), (zd_k_20 22), (zd_k_20 23), (zd_k_20 24), (zd_k_20 25), (zd_k_20 26), (zd_k_20 27), (zd_k_20 28), (zd_k_20 29), (zd_k_20 30), (zd_k_20 31), (zd_k_20 32), (zd_k_20 33), (zd_k_20 34), (zd_k_20 35), (zd_k_20 36), (zd_k_20 37), (zd_k_20 38), (zd_k_20 39), (zd_k_20 40), (zd_k_20 41)]))]) hP hD [0] [1, 2] rfl rfl (by decide) (by decide) hk1 hFc hP1 hD1
            have hK := (hK.sub (tys' := [(cK, .int), (cH, .int)]) [0, 1] rfl).app hK1
            have hP : va_P (dC, dI) kcl [(kq, .inl (cK, 32, .inl fk)), (hq, .inl (cH, 12, .inl fh)), (d, .inr (9, [.int 2, (zd_k_20 1), (zd_k_20 2), (zd_k_20 3), (zd_k_20 4), (zd_k_20 5), (zd_k_20 6), (zd_k_20 7), (zd_k_20 8), (zd_k_20 9), (zd_k_20 10), (zd_k_20 11), (zd_k_20 12), (zd_k_20 13), (zd_k_20 14), (zd_k_20 15), (zd_k_20 16), (zd_k_20 17), (zd_k_20 18), (zd_k_20 19), (zd_k_20 20), (zd_k_20 21), (zd_k_20 22), (zd_k_20 23), (zd_k_20 24), (zd_k_20 25), (zd_k_20 26), (zd_k_20 27), (zd_k_20 28), (zd_k_20 29), (zd_k_20 30), (zd_k_20 31), (zd_k_20 32), (zd_k_20 33), (zd_k_20 34), (zd_k_20 35), (zd_k_20 36), (zd_k_20 37), (zd_k_20 38), (zd_k_20 39), (zd_k_20 40), (zd_k_20 41)]))] H_21 := hP
            have hD : va_D A [(kq, .inl (cK, 32, .inl fk)), (hq, .inl (cH, 12, .inl fh)), (d, .inr (9, [.int 2, (zd_k_20 1), (zd_k_20 2), (zd_k_20 3), (zd_k_20 4), (zd_k_20 5), (zd_k_20 6), (zd_k_20 7), (zd_k_20 8), (zd_k_20 9), (zd_k_20 10), (zd_k_20 11), (zd_k_20 12), (zd_k_20 13), (zd_k_20 14), (zd_k_20 15), (zd_k_20 16), (zd_k_20 17), (zd_k_20 18), (zd_k_20 19), (zd_k_20 20), (zd_k_20 21), (zd_k_20 22), (zd_k_20 23), (zd_k_20 24), (zd_k_20 25), (zd_k_20 26), (zd_k_20 27), (zd_k_20 28), (zd_k_20 29), (zd_k_20 30), (zd_k_20 31), (zd_k_20 32), (zd_k_20 33), (zd_k_20 34), (zd_k_20 35), (zd_k_20 36), (zd_k_20 37), (zd_k_20 38), (zd_k_20 39), (zd_k_20 40), (zd_k_20 41)]))] := hD
            have hK : va_K (dC, dI) kcl [(cK, .int), (cH, .int)] s := hK
            have hP9 := hP.sub (ws' := [(d, .inr (9, [.int 2, (zd_k_20 1), (zd_k_20 2), (zd_k_20 3), (zd_k_20 4), (zd_k_20 5), (zd_k_20 6), (zd_k_20 7), (zd_k_20 8), (zd_k_20 9), (zd_k_20 10), (zd_k_20 11), (zd_k_20 12), (zd_k_20 13), (zd_k_20 14), (zd_k_20 15), (zd_k_20 16), (zd_k_20 17), (zd_k_20 18), (zd_k_20 19), (zd_k_20 20), (zd_k_20 21), (zd_k_20 22), (zd_k_20 23), (zd_k_20 24), (zd_k_20 25), (zd_k_20 26), (zd_k_20 27), (zd_k_20 28), (zd_k_20 29), (zd_k_20 30), (zd_k_20 31), (zd_k_20 32), (zd_k_20 33), (zd_k_20 34), (zd_k_20 35), (zd_k_20 36), (zd_k_20 37), (zd_k_20 38), (zd_k_20 39), (zd_k_20 40), (zd_k_20 41)]))]) [2] rfl
            have hD9 := hD.sub (ws' := [(d, .inr (9, [.int 2, (zd_k_20 1), (zd_k_20 2), (zd_k_20 3), (zd_k_20 4), (zd_k_20 5), (zd_k_20 6), (zd_k_20 7), (zd_k_20 8), (zd_k_20 9), (zd_k_20 10), (zd_k_20 11), (zd_k_20 12), (zd_k_20 13), (zd_k_20 14), (zd_k_20 15), (zd_k_20 16), (zd_k_20 17), (zd_k_20 18), (zd_k_20 19), (zd_k_20 20), (zd_k_20 21), (zd_k_20 22), (zd_k_20 23), (zd_k_20 24), (zd_k_20 25), (zd_k_20 26), (zd_k_20 27), (zd_k_20 28), (zd_k_20 29), (zd_k_20 30), (zd_k_20 31), (zd_k_20 32), (zd_k_20 33), (zd_k_20 34), (zd_k_20 35), (zd_k_20 36), (zd_k_20 37), (zd_k_20 38), (zd_k_20 39), (zd_k_20 40), (zd_k_20 41)]))]) [2] (by decide) rfl
            have hK9 := hK.sub (tys' := []) [] rfl
            exact W.iret (v := 0) hx hb hr (fun t ht hW => ⟨⟨0, 2, rfl, rfl, ⟨(fun i => List.getD [Value.int (2 : Int32), (zd_k_20 1), (zd_k_20 2), (zd_k_20 3), (zd_k_20 4), (zd_k_20 5), (zd_k_20 6), (zd_k_20 7), (zd_k_20 8), (zd_k_20 9), (zd_k_20 10), (zd_k_20 11), (zd_k_20 12), (zd_k_20 13), (zd_k_20 14), (zd_k_20 15), (zd_k_20 16), (zd_k_20 17), (zd_k_20 18), (zd_k_20 19), (zd_k_20 20), (zd_k_20 21), (zd_k_20 22), (zd_k_20 23), (zd_k_20 24), (zd_k_20 25), (zd_k_20 26), (zd_k_20 27), (zd_k_20 28), (zd_k_20 29), (zd_k_20 30), (zd_k_20 31), (zd_k_20 32), (zd_k_20 33), (zd_k_20 34), (zd_k_20 35), (zd_k_20 36), (zd_k_20 37), (zd_k_20 38), (zd_k_20 39), (zd_k_20 40), (zd_k_20 41)] i Value.null), by rw [ht]; exact hP9, va_K.moved hW.alike hK9, hD9⟩⟩, hS.F ht⟩) hS.2.2 d_D_rule_88
        · refine lv_iload_n hx hb d_D_rule_47 rfl (lv_at hl 3 rfl) ?_
          refine lv_iload hx hb d_D_rule_48 (lv_at hl 4 rfl) ?_
          refine lv_icmp_gt (tgt := 64) hx hb d_D_rule_50 (by decide) (fun c_23 => ?_) (fun c_23 => ?_)
          · refine lv_iconst (v := 0) hx hb d_D_rule_64 (by decide) ?_
            refine lv_istore (lv' := [(5, .int 0), (0, .ref d), (1, .int n), (2, .int k), (3, .int lo), (4, .int hi)]) hx hb d_D_rule_65 hl (by decide) rfl (fun ls hl => ?_)
            refine lv_aload_n hx hb d_D_rule_67 rfl (lv_at hl 1 rfl) ?_
            refine va_get (D := (dC, dI)) (ci := 9) (v := .int 0) (C := kR_D) (T := kT_D) (N := 42) hx hb hg kin_D hown hK hP 0 rfl rfl 4 (by decide) (hg _ tw_821) (fun _ h9 => h9) rfl d_D_rule_68 ?_
            refine lv_istore (lv' := [(6, .int 0), (5, .int 0), (0, .ref d), (1, .int n), (2, .int k), (3, .int lo), (4, .int hi)]) hx hb d_D_rule_71 hl (by decide) rfl (fun ls hl => ?_)
            refine lv_aload_n hx hb d_D_rule_73 rfl (lv_at hl 2 rfl) ?_
            refine lv_iconst (v := 0) hx hb d_D_rule_74 (by decide) ?_
            refine va_put (D := (dC, dI)) (ci := 9) (v := .int 0) (ty := .int) (C := kR_D) (T := kT_D) (N := 42) hx hb hg kin_D kt_D kty_D knm_D hown hK hP hD hS 0 rfl rfl 4 (by decide) (hg _ tw_821) (fun _ h9 => h9) rfl (by decide +kernel) rfl rfl (Nat.le_of_ble_eq_true rfl) d_D_rule_75 (fun H_24 lo_25 hP hD hS => ?_)
            have hP : va_P (dC, dI) kcl [(d, .inr (9, [.int 0, .ref kq, .int 0, .ref hq, .int 0, .int 0, (zd 6), (zd 7), (zd 8), (zd 9), (zd 10), (zd 11), .int 0, (zd 13), (zd 14), (zd 15), (zd 16), (zd 17), (zd 18), (zd 19), .int 0, (zd 21), (zd 22), (zd 23), (zd 24), (zd 25), (zd 26), (zd 27), (zd 28), (zd 29), (zd 30), (zd 31), .int 0, (zd 33), (zd 34), (zd 35), (zd 36), (zd 37), (zd 38), (zd 39), (zd 40), .int 0])), (kq, .inl (cK, 32, .inl fk)), (hq, .inl (cH, 12, .inl fh))] H_24 := hP
            have hD : va_D A [(d, .inr (9, [.int 0, .ref kq, .int 0, .ref hq, .int 0, .int 0, (zd 6), (zd 7), (zd 8), (zd 9), (zd 10), (zd 11), .int 0, (zd 13), (zd 14), (zd 15), (zd 16), (zd 17), (zd 18), (zd 19), .int 0, (zd 21), (zd 22), (zd 23), (zd 24), (zd 25), (zd 26), (zd 27), (zd 28), (zd 29), (zd 30), (zd 31), .int 0, (zd 33), (zd 34), (zd 35), (zd 36), (zd 37), (zd 38), (zd 39), (zd 40), .int 0])), (kq, .inl (cK, 32, .inl fk)), (hq, .inl (cH, 12, .inl fh))] := hD
            refine lv_iload hx hb d_D_rule_78 (lv_at hl 1 rfl) ?_
            refine lv_if_ne (tgt := 89) hx hb d_D_rule_80 (by decide) (fun c_26 => ?_) (fun c_26 => ?_)
            · exact absurd rfl c_26
            · refine lv_aload_n hx hb d_D_rule_83 rfl (lv_at hl 2 rfl) ?_
              refine lv_iconst (v := 2) hx hb d_D_rule_84 (by decide) ?_
              have hPc := hP.sub (ws' := [(d, .inr (9, [.int 0, .ref kq, .int 0, .ref hq, .int 0, .int 0, (zd 6), (zd 7), (zd 8), (zd 9), (zd 10), (zd 11), .int 0, (zd 13), (zd 14), (zd 15), (zd 16), (zd 17), (zd 18), (zd 19), .int 0, (zd 21), (zd 22), (zd 23), (zd 24), (zd 25), (zd 26), (zd 27), (zd 28), (zd 29), (zd 30), (zd 31), .int 0, (zd 33), (zd 34), (zd 35), (zd 36), (zd 37), (zd 38), (zd 39), (zd 40), .int 0]))]) [0] rfl
              have hKc := hK.sub (tys' := []) [] rfl
              have hDc := hD.sub (ws' := [(d, .inr (9, [.int 0, .ref kq, .int 0, .ref hq, .int 0, .int 0, (zd 6), (zd 7), (zd 8), (zd 9), (zd 10), (zd 11), .int 0, (zd 13), (zd 14), (zd 15), (zd 16), (zd 17), (zd 18), (zd 19), .int 0, (zd 21), (zd 22), (zd 23), (zd 24), (zd 25), (zd 26), (zd 27), (zd 28), (zd 29), (zd 30), (zd 31), .int 0, (zd 33), (zd 34), (zd 35), (zd 36), (zd 37), (zd 38), (zd 39), (zd 40), .int 0]))]) [0] (by decide) rfl
              have hFc := va_free (wc := [(d, .inr (9, [.int 0, .ref kq, .int 0, .ref hq, .int 0, .int 0, (zd 6), (zd 7), (zd 8), (zd 9), (zd 10), (zd 11), .int 0, (zd 13), (zd 14), (zd 15), (zd 16), (zd 17), (zd 18), (zd 19), .int 0, (zd 21), (zd 22), (zd 23), (zd 24), (zd 25), (zd 26), (zd 27), (zd 28), (zd 29), (zd 30), (zd 31), .int 0, (zd 33), (zd 34), (zd 35), (zd 36), (zd 37), (zd 38), (zd 39), (zd 40), .int 0]))]) hD hS hA [0] rfl
              refine va_calli (va_runV (As := [.int 2]) (rest := []) ⟨hx, hb, hml, hown, hg⟩ (c_D_fail l dC dI H_24.size d (fun i => if i = 41 then .int 0 else if i = 32 then .int 0 else if i = 20 then .int 0 else if i = 12 then .int 0 else if i = 5 then .int 0 else if i = 4 then .int 0 else if i = 3 then .ref hq else if i = 2 then .int 0 else if i = 1 then .ref kq else zd i) 0 2) (cwV 1 hg (gw_giV cin_D_fail tw_955 tw_957 sw_D_fail tw_11) rfl rfl rfl (by decide +kernel) ⟨Nat.le_of_ble_eq_true rfl, Nat.le_of_ble_eq_true rfl⟩) ⟨fun a U g mk q => by obtain ⟨q0, q1, qP, qK, qD⟩ := q; exact ⟨q0, q1, qP, va_K.moved (u := U) (U := U.calling g mk a) (Vm.Alike.refl U.vm) qK, qD⟩, va_recv hKc hPc (ci := 9) (q0 := 0) rfl rfl, fun U hU hW => ⟨rfl, by rw [hU], by rw [hU]; exact hPc, va_K.moved hW.alike hKc, hDc.weaken (fun _ _ _ _ => trivial)⟩⟩ rfl rfl hl.1 rfl (lv_room (Nat.le_of_ble_eq_true rfl)) d_D_rule_85 ⟨Nat.le_of_ble_eq_true rfl, Nat.le_of_ble_eq_true rfl⟩) hS (fun q _ h => hFc q h) hFc (fun r_k_27 u_k_27 t_k_27 H_28 l_k_27 ht hvm hw_k_27 hB hz1 hk1 hS => ?_)
              obtain ⟨hr_k_27, hu_k_27⟩ := hw_k_27
              subst hr_k_27
              subst hu_k_27
              obtain ⟨zd_k_27, hP1, hK1, hD1⟩ := hB
              rw [ht] at hP1
              have hK1 := va_K.moved hvm.symm hK1
              obtain ⟨hP, hD⟩ := va_join (wr := [(kq, .inl (cK, 32, .inl fk)), (hq, .inl (cH, 12, .inl fh))]) (w1 := [(d, .inr (9, [.int 2, (zd_k_27 1), (zd_k_27 2), (zd_k_27 3), (zd_k_27 4), (zd_k_27 5), (zd_k_27 6), (zd_k_27 7), (zd_k_27 8), (zd_k_27 9), (zd_k_27 10), (zd_k_27 11), (zd_k_27 12), (zd_k_27 13), (zd_k_27 14), (zd_k_27 15), (zd_k_27 16), (zd_k_27 17), (zd_k_27 18), (zd_k_27 19), (zd_k_27 20), (zd_k_27 21), (zd_k_27 22), (zd_k_27 23), (zd_k_27 24), (zd_k_27 25), (zd_k_27 26), (zd_k_27 27), (zd_k_27 28), (zd_k_27 29), (zd_k_27 30), (zd_k_27 31), (zd_k_27 32), (zd_k_27 33), (zd_k_27 34), (zd_k_27 35), (zd_k_27 36), (zd_k_27 37), (zd_k_27 38), (zd_k_27 39), (zd_k_27 40), (zd_k_27 41)]))]) hP hD [0] [1, 2] rfl rfl (by decide) (by decide) hk1 hFc hP1 hD1
              have hK := (hK.sub (tys' := [(cK, .int), (cH, .int)]) [0, 1] rfl).app hK1
              have hP : va_P (dC, dI) kcl [(kq, .inl (cK, 32, .inl fk)), (hq, .inl (cH, 12, .inl fh)), (d, .inr (9, [.int 2, (zd_k_27 1), (zd_k_27 2), (zd_k_27 3), (zd_k_27 4), (zd_k_27 5), (zd_k_27 6), (zd_k_27 7), (zd_k_27 8), (zd_k_27 9), (zd_k_27 10), (zd_k_27 11), (zd_k_27 12), (zd_k_27 13), (zd_k_27 14), (zd_k_27 15), (zd_k_27 16), (zd_k_27 17), (zd_k_27 18), (zd_k_27 19), (zd_k_27 20), (zd_k_27 21), (zd_k_27 22), (zd_k_27 23), (zd_k_27 24), (zd_k_27 25), (zd_k_27 26), (zd_k_27 27), (zd_k_27 28), (zd_k_27 29), (zd_k_27 30), (zd_k_27 31), (zd_k_27 32), (zd_k_27 33), (zd_k_27 34), (zd_k_27 35), (zd_k_27 36), (zd_k_27 37), (zd_k_27 38), (zd_k_27 39), (zd_k_27 40), (zd_k_27 41)]))] H_28 := hP
              have hD : va_D A [(kq, .inl (cK, 32, .inl fk)), (hq, .inl (cH, 12, .inl fh)), (d, .inr (9, [.int 2, (zd_k_27 1), (zd_k_27 2), (zd_k_27 3), (zd_k_27 4), (zd_k_27 5), (zd_k_27 6), (zd_k_27 7), (zd_k_27 8), (zd_k_27 9), (zd_k_27 10), (zd_k_27 11), (zd_k_27 12), (zd_k_27 13), (zd_k_27 14), (zd_k_27 15), (zd_k_27 16), (zd_k_27 17), (zd_k_27 18), (zd_k_27 19), (zd_k_27 20), (zd_k_27 21), (zd_k_27 22), (zd_k_27 23), (zd_k_27 24), (zd_k_27 25), (zd_k_27 26), (zd_k_27 27), (zd_k_27 28), (zd_k_27 29), (zd_k_27 30), (zd_k_27 31), (zd_k_27 32), (zd_k_27 33), (zd_k_27 34), (zd_k_27 35), (zd_k_27 36), (zd_k_27 37), (zd_k_27 38), (zd_k_27 39), (zd_k_27 40), (zd_k_27 41)]))] := hD
              have hK : va_K (dC, dI) kcl [(cK, .int), (cH, .int)] s := hK
              have hP9 := hP.sub (ws' := [(d, .inr (9, [.int 2, (zd_k_27 1), (zd_k_27 2), (zd_k_27 3), (zd_k_27 4), (zd_k_27 5), (zd_k_27 6), (zd_k_27 7), (zd_k_27 8), (zd_k_27 9), (zd_k_27 10), (zd_k_27 11), (zd_k_27 12), (zd_k_27 13), (zd_k_27 14), (zd_k_27 15), (zd_k_27 16), (zd_k_27 17), (zd_k_27 18), (zd_k_27 19), (zd_k_27 20), (zd_k_27 21), (zd_k_27 22), (zd_k_27 23), (zd_k_27 24), (zd_k_27 25), (zd_k_27 26), (zd_k_27 27), (zd_k_27 28), (zd_k_27 29), (zd_k_27 30), (zd_k_27 31), (zd_k_27 32), (zd_k_27 33), (zd_k_27 34), (zd_k_27 35), (zd_k_27 36), (zd_k_27 37), (zd_k_27 38), (zd_k_27 39), (zd_k_27 40), (zd_k_27 41)]))]) [2] rfl
              have hD9 := hD.sub (ws' := [(d, .inr (9, [.int 2, (zd_k_27 1), (zd_k_27 2), (zd_k_27 3), (zd_k_27 4), (zd_k_27 5), (zd_k_27 6), (zd_k_27 7), (zd_k_27 8), (zd_k_27 9), (zd_k_27 10), (zd_k_27 11), (zd_k_27 12), (zd_k_27 13), (zd_k_27 14), (zd_k_27 15), (zd_k_27 16), (zd_k_27 17), (zd_k_27 18), (zd_k_27 19), (zd_k_27 20), (zd_k_27 21), (zd_k_27 22), (zd_k_27 23), (zd_k_27 24), (zd_k_27 25), (zd_k_27 26), (zd_k_27 27), (zd_k_27 28), (zd_k_27 29), (zd_k_27 30), (zd_k_27 31), (zd_k_27 32), (zd_k_27 33), (zd_k_27 34), (zd_k_27 35), (zd_k_27 36), (zd_k_27 37), (zd_k_27 38), (zd_k_27 39), (zd_k_27 40), (zd_k_27 41)]))]) [2] (by decide) rfl
              have hK9 := hK.sub (tys' := []) [] rfl
              exact W.iret (v := 0) hx hb hr (fun t ht hW => ⟨⟨0, 2, rfl, rfl, ⟨(fun i => List.getD [Value.int (2 : Int32), (zd_k_27 1), (zd_k_27 2), (zd_k_27 3), (zd_k_27 4), (zd_k_27 5), (zd_k_27 6), (zd_k_27 7), (zd_k_27 8), (zd_k_27 9), (zd_k_27 10), (zd_k_27 11), (zd_k_27 12), (zd_k_27 13), (zd_k_27 14), (zd_k_27 15), (zd_k_27 16), (zd_k_27 17), (zd_k_27 18), (zd_k_27 19), (zd_k_27 20), (zd_k_27 21), (zd_k_27 22), (zd_k_27 23), (zd_k_27 24), (zd_k_27 25), (zd_k_27 26), (zd_k_27 27), (zd_k_27 28), (zd_k_27 29), (zd_k_27 30), (zd_k_27 31), (zd_k_27 32), (zd_k_27 33), (zd_k_27 34), (zd_k_27 35), (zd_k_27 36), (zd_k_27 37), (zd_k_27 38), (zd_k_27 39), (zd_k_27 40), (zd_k_27 41)] i Value.null), by rw [ht]; exact hP9, va_K.moved hW.alike hK9, hD9⟩⟩, hS.F ht⟩) hS.2.2 d_D_rule_88
          · refine lv_aload_n hx hb d_D_rule_53 rfl (lv_at hl 0 rfl) ?_
            have hPc := hP.sub (ws' := [(d, .inr (9, [.int 0, .ref kq, .int 0, .ref hq, .int 0, .int 0, (zd 6), (zd 7), (zd 8), (zd 9), (zd 10), (zd 11), .int 0, (zd 13), (zd 14), (zd 15), (zd 16), (zd 17), (zd 18), (zd 19), .int 0, (zd 21), (zd 22), (zd 23), (zd 24), (zd 25), (zd 26), (zd 27), (zd 28), (zd 29), (zd 30), (zd 31), .int 0, (zd 33), (zd 34), (zd 35), (zd 36), (zd 37), (zd 38), (zd 39), (zd 40), .int 0]))]) [0] rfl
            have hKc := hK.sub (tys' := []) [] rfl
            refine va_calli (va_runV (As := []) (rest := []) ⟨hx, hb, hml, hown, hg⟩ (c_D_isPattern l dC dI H_15.size d (fun i => if i = 41 then .int 0 else if i = 32 then .int 0 else if i = 20 then .int 0 else if i = 12 then .int 0 else if i = 5 then .int 0 else if i = 3 then .ref hq else if i = 2 then .int 0 else if i = 1 then .ref kq else if i = 0 then .int 0 else zd i)) (cwV 0 hg (gw_giV cin_D_isPattern tw_967 tw_969 sw_D_isPattern tw_11) rfl rfl rfl (by decide +kernel) ⟨Nat.le_of_ble_eq_true rfl, Nat.le_of_ble_eq_true rfl⟩) ⟨fun a U g mk q => by obtain ⟨q0, q1, qP, qK⟩ := q; exact ⟨q0, q1, qP, va_K.moved (u := U) (U := U.calling g mk a) (Vm.Alike.refl U.vm) qK⟩, va_recv hKc hPc (ci := 9) (q0 := 0) rfl rfl, fun U hU hW => ⟨rfl, by rw [hU], by rw [hU]; exact hPc, va_K.moved hW.alike hKc⟩⟩ rfl rfl hl.1 rfl (lv_room (Nat.le_of_ble_eq_true rfl)) d_D_rule_54 ⟨Nat.le_of_ble_eq_true rfl, Nat.le_of_ble_eq_true rfl⟩) hS (fun q h1 h => (tx_pA h1 h).elim) (tx_pF hS hA) (fun r_k_30 u_k_30 t_k_30 H_31 l_k_30 ht hvm hw_k_30 hB hz1 hk1 hS => ?_)
            have hw_k_30 : 0 = r_k_30 := Eq.symm hw_k_30
            subst hw_k_30
            have hP := tx_keep hP hk1
            refine lv_if_eq (tgt := 64) hx hb d_D_rule_57 (by decide) (fun c_32 => ?_) (fun c_32 => ?_)
            · refine lv_iconst (v := 0) hx hb d_D_rule_64 (by decide) ?_
              refine lv_istore (lv' := [(5, .int 0), (0, .ref d), (1, .int n), (2, .int k), (3, .int lo), (4, .int hi)]) hx hb d_D_rule_65 hl (by decide) rfl (fun ls hl => ?_)
              refine lv_aload_n hx hb d_D_rule_67 rfl (lv_at hl 1 rfl) ?_
              refine va_get (D := (dC, dI)) (ci := 9) (v := .int 0) (C := kR_D) (T := kT_D) (N := 42) hx hb hg kin_D hown hK hP 0 rfl rfl 4 (by decide) (hg _ tw_821) (fun _ h9 => h9) rfl d_D_rule_68 ?_
              refine lv_istore (lv' := [(6, .int 0), (5, .int 0), (0, .ref d), (1, .int n), (2, .int k), (3, .int lo), (4, .int hi)]) hx hb d_D_rule_71 hl (by decide) rfl (fun ls hl => ?_)
              refine lv_aload_n hx hb d_D_rule_73 rfl (lv_at hl 2 rfl) ?_
              refine lv_iconst (v := 0) hx hb d_D_rule_74 (by decide) ?_
              refine va_put (D := (dC, dI)) (ci := 9) (v := .int 0) (ty := .int) (C := kR_D) (T := kT_D) (N := 42) hx hb hg kin_D kt_D kty_D knm_D hown hK hP hD hS 0 rfl rfl 4 (by decide) (hg _ tw_821) (fun _ h9 => h9) rfl (by decide +kernel) rfl rfl (Nat.le_of_ble_eq_true rfl) d_D_rule_75 (fun H_33 lo_34 hP hD hS => ?_)
              have hP : va_P (dC, dI) kcl [(d, .inr (9, [.int 0, .ref kq, .int 0, .ref hq, .int 0, .int 0, (zd 6), (zd 7), (zd 8), (zd 9), (zd 10), (zd 11), .int 0, (zd 13), (zd 14), (zd 15), (zd 16), (zd 17), (zd 18), (zd 19), .int 0, (zd 21), (zd 22), (zd 23), (zd 24), (zd 25), (zd 26), (zd 27), (zd 28), (zd 29), (zd 30), (zd 31), .int 0, (zd 33), (zd 34), (zd 35), (zd 36), (zd 37), (zd 38), (zd 39), (zd 40), .int 0])), (kq, .inl (cK, 32, .inl fk)), (hq, .inl (cH, 12, .inl fh))] H_33 := hP
              have hD : va_D A [(d, .inr (9, [.int 0, .ref kq, .int 0, .ref hq, .int 0, .int 0, (zd 6), (zd 7), (zd 8), (zd 9), (zd 10), (zd 11), .int 0, (zd 13), (zd 14), (zd 15), (zd 16), (zd 17), (zd 18), (zd 19), .int 0, (zd 21), (zd 22), (zd 23), (zd 24), (zd 25), (zd 26), (zd 27), (zd 28), (zd 29), (zd 30), (zd 31), .int 0, (zd 33), (zd 34), (zd 35), (zd 36), (zd 37), (zd 38), (zd 39), (zd 40), .int 0])), (kq, .inl (cK, 32, .inl fk)), (hq, .inl (cH, 12, .inl fh))] := hD
              refine lv_iload hx hb d_D_rule_78 (lv_at hl 1 rfl) ?_
              refine lv_if_ne (tgt := 89) hx hb d_D_rule_80 (by decide) (fun c_35 => ?_) (fun c_35 => ?_)
              · exact absurd rfl c_35
              · refine lv_aload_n hx hb d_D_rule_83 rfl (lv_at hl 2 rfl) ?_
                refine lv_iconst (v := 2) hx hb d_D_rule_84 (by decide) ?_
                have hPc := hP.sub (ws' := [(d, .inr (9, [.int 0, .ref kq, .int 0, .ref hq, .int 0, .int 0, (zd 6), (zd 7), (zd 8), (zd 9), (zd 10), (zd 11), .int 0, (zd 13), (zd 14), (zd 15), (zd 16), (zd 17), (zd 18), (zd 19), .int 0, (zd 21), (zd 22), (zd 23), (zd 24), (zd 25), (zd 26), (zd 27), (zd 28), (zd 29), (zd 30), (zd 31), .int 0, (zd 33), (zd 34), (zd 35), (zd 36), (zd 37), (zd 38), (zd 39), (zd 40), .int 0]))]) [0] rfl
                have hKc := hK.sub (tys' := []) [] rfl
                have hDc := hD.sub (ws' := [(d, .inr (9, [.int 0, .ref kq, .int 0, .ref hq, .int 0, .int 0, (zd 6), (zd 7), (zd 8), (zd 9), (zd 10), (zd 11), .int 0, (zd 13), (zd 14), (zd 15), (zd 16), (zd 17), (zd 18), (zd 19), .int 0, (zd 21), (zd 22), (zd 23), (zd 24), (zd 25), (zd 26), (zd 27), (zd 28), (zd 29), (zd 30), (zd 31), .int 0, (zd 33), (zd 34), (zd 35), (zd 36), (zd 37), (zd 38), (zd 39), (zd 40), .int 0]))]) [0] (by decide) rfl
                have hFc := va_free (wc := [(d, .inr (9, [.int 0, .ref kq, .int 0, .ref hq, .int 0, .int 0, (zd 6), (zd 7), (zd 8), (zd 9), (zd 10), (zd 11), .int 0, (zd 13), (zd 14), (zd 15), (zd 16), (zd 17), (zd 18), (zd 19), .int 0, (zd 21), (zd 22), (zd 23), (zd 24), (zd 25), (zd 26), (zd 27), (zd 28), (zd 29), (zd 30), (zd 31), .int 0, (zd 33), (zd 34), (zd 35), (zd 36), (zd 37), (zd 38), (zd 39), (zd 40), .int 0]))]) hD hS hA [0] rfl
                refine va_calli (va_runV (As := [.int 2]) (rest := []) ⟨hx, hb, hml, hown, hg⟩ (c_D_fail l dC dI H_33.size d (fun i => if i = 41 then .int 0 else if i = 32 then .int 0 else if i = 20 then .int 0 else if i = 12 then .int 0 else if i = 5 then .int 0 else if i = 4 then .int 0 else if i = 3 then .ref hq else if i = 2 then .int 0 else if i = 1 then .ref kq else zd i) 0 2) (cwV 1 hg (gw_giV cin_D_fail tw_955 tw_957 sw_D_fail tw_11) rfl rfl rfl (by decide +kernel) ⟨Nat.le_of_ble_eq_true rfl, Nat.le_of_ble_eq_true rfl⟩) ⟨fun a U g mk q => by obtain ⟨q0, q1, qP, qK, qD⟩ := q; exact ⟨q0, q1, qP, va_K.moved (u := U) (U := U.calling g mk a) (Vm.Alike.refl U.vm) qK, qD⟩, va_recv hKc hPc (ci := 9) (q0 := 0) rfl rfl, fun U hU hW => ⟨rfl, by rw [hU], by rw [hU]; exact hPc, va_K.moved hW.alike hKc, hDc.weaken (fun _ _ _ _ => trivial)⟩⟩ rfl rfl hl.1 rfl (lv_room (Nat.le_of_ble_eq_true rfl)) d_D_rule_85 ⟨Nat.le_of_ble_eq_true rfl, Nat.le_of_ble_eq_true rfl⟩) hS (fun q _ h => hFc q h) hFc (fun r_k_36 u_k_36 t_k_36 H_37 l_k_36 ht hvm hw_k_36 hB hz1 hk1 hS => ?_)
                obtain ⟨hr_k_36, hu_k_36⟩ := hw_k_36
                subst hr_k_36
                subst hu_k_36
                obtain ⟨zd_k_36, hP1, hK1, hD1⟩ := hB
                rw [ht] at hP1
                have hK1 := va_K.moved hvm.symm hK1
                obtain ⟨hP, hD⟩ := va_join (wr := [(kq, .inl (cK, 32, .inl fk)), (hq, .inl (cH, 12, .inl fh))]) (w1 := [(d, .inr (9, [.int 2, (zd_k_36 1), (zd_k_36 2), (zd_k_36 3), (zd_k_36 4), (zd_k_36 5), (zd_k_36 6), (zd_k_36 7), (zd_k_36 8), (zd_k_36 9), (zd_k_36 10), (zd_k_36 11), (zd_k_36 12), (zd_k_36 13), (zd_k_36 14), (zd_k_36 15), (zd_k_36 16), (zd_k_36 17), (zd_k_36 18), (zd_k_36 19), (zd_k_36 20), (zd_k_36 21), (zd_k_36 22), (zd_k_36 23), (zd_k_36 24), (zd_k_36 25), (zd_k_36 26), (zd_k_36 27), (zd_k_36 28), (zd_k_36 29), (zd_k_36 30), (zd_k_36 31), (zd_k_36 32), (zd_k_36 33), (zd_k_36 34), (zd_k_36 35), (zd_k_36 36), (zd_k_36 37), (zd_k_36 38), (zd_k_36 39), (zd_k_36 40), (zd_k_36 41)]))]) hP hD [0] [1, 2] rfl rfl (by decide) (by decide) hk1 hFc hP1 hD1
                have hK := (hK.sub (tys' := [(cK, .int), (cH, .int)]) [0, 1] rfl).app hK1
                have hP : va_P (dC, dI) kcl [(kq, .inl (cK, 32, .inl fk)), (hq, .inl (cH, 12, .inl fh)), (d, .inr (9, [.int 2, (zd_k_36 1), (zd_k_36 2), (zd_k_36 3), (zd_k_36 4), (zd_k_36 5), (zd_k_36 6), (zd_k_36 7), (zd_k_36 8), (zd_k_36 9), (zd_k_36 10), (zd_k_36 11), (zd_k_36 12), (zd_k_36 13), (zd_k_36 14), (zd_k_36 15), (zd_k_36 16), (zd_k_36 17), (zd_k_36 18), (zd_k_36 19), (zd_k_36 20), (zd_k_36 21), (zd_k_36 22), (zd_k_36 23), (zd_k_36 24), (zd_k_36 25), (zd_k_36 26), (zd_k_36 27), (zd_k_36 28), (zd_k_36 29), (zd_k_36 30), (zd_k_36 31), (zd_k_36 32), (zd_k_36 33), (zd_k_36 34), (zd_k_36 35), (zd_k_36 36), (zd_k_36 37), (zd_k_36 38), (zd_k_36 39), (zd_k_36 40), (zd_k_36 41)]))] H_37 := hP
                have hD : va_D A [(kq, .inl (cK, 32, .inl fk)), (hq, .inl (cH, 12, .inl fh)), (d, .inr (9, [.int 2, (zd_k_36 1), (zd_k_36 2), (zd_k_36 3), (zd_k_36 4), (zd_k_36 5), (zd_k_36 6), (zd_k_36 7), (zd_k_36 8), (zd_k_36 9), (zd_k_36 10), (zd_k_36 11), (zd_k_36 12), (zd_k_36 13), (zd_k_36 14), (zd_k_36 15), (zd_k_36 16), (zd_k_36 17), (zd_k_36 18), (zd_k_36 19), (zd_k_36 20), (zd_k_36 21), (zd_k_36 22), (zd_k_36 23), (zd_k_36 24), (zd_k_36 25), (zd_k_36 26), (zd_k_36 27), (zd_k_36 28), (zd_k_36 29), (zd_k_36 30), (zd_k_36 31), (zd_k_36 32), (zd_k_36 33), (zd_k_36 34), (zd_k_36 35), (zd_k_36 36), (zd_k_36 37), (zd_k_36 38), (zd_k_36 39), (zd_k_36 40), (zd_k_36 41)]))] := hD
                have hK : va_K (dC, dI) kcl [(cK, .int), (cH, .int)] s := hK
                have hP9 := hP.sub (ws' := [(d, .inr (9, [.int 2, (zd_k_36 1), (zd_k_36 2), (zd_k_36 3), (zd_k_36 4), (zd_k_36 5), (zd_k_36 6), (zd_k_36 7), (zd_k_36 8), (zd_k_36 9), (zd_k_36 10), (zd_k_36 11), (zd_k_36 12), (zd_k_36 13), (zd_k_36 14), (zd_k_36 15), (zd_k_36 16), (zd_k_36 17), (zd_k_36 18), (zd_k_36 19), (zd_k_36 20), (zd_k_36 21), (zd_k_36 22), (zd_k_36 23), (zd_k_36 24), (zd_k_36 25), (zd_k_36 26), (zd_k_36 27), (zd_k_36 28), (zd_k_36 29), (zd_k_36 30), (zd_k_36 31), (zd_k_36 32), (zd_k_36 33), (zd_k_36 34), (zd_k_36 35), (zd_k_36 36), (zd_k_36 37), (zd_k_36 38), (zd_k_36 39), (zd_k_36 40), (zd_k_36 41)]))]) [2] rfl
                have hD9 := hD.sub (ws' := [(d, .inr (9, [.int 2, (zd_k_36 1), (zd_k_36 2), (zd_k_36 3), (zd_k_36 4), (zd_k_36 5), (zd_k_36 6), (zd_k_36 7), (zd_k_36 8), (zd_k_36 9), (zd_k_36 10), (zd_k_36 11), (zd_k_36 12), (zd_k_36 13), (zd_k_36 14), (zd_k_36 15), (zd_k_36 16), (zd_k_36 17), (zd_k_36 18), (zd_k_36 19), (zd_k_36 20), (zd_k_36 21), (zd_k_36 22), (zd_k_36 23), (zd_k_36 24), (zd_k_36 25), (zd_k_36 26), (zd_k_36 27), (zd_k_36 28), (zd_k_36 29), (zd_k_36 30), (zd_k_36 31), (zd_k_36 32), (zd_k_36 33), (zd_k_36 34), (zd_k_36 35), (zd_k_36 36), (zd_k_36 37), (zd_k_36 38), (zd_k_36 39), (zd_k_36 40), (zd_k_36 41)]))]) [2] (by decide) rfl
                have hK9 := hK.sub (tys' := []) [] rfl
                exact W.iret (v := 0) hx hb hr (fun t ht hW => ⟨⟨0, 2, rfl, rfl, ⟨(fun i => List.getD [Value.int (2 : Int32), (zd_k_36 1), (zd_k_36 2), (zd_k_36 3), (zd_k_36 4), (zd_k_36 5), (zd_k_36 6), (zd_k_36 7), (zd_k_36 8), (zd_k_36 9), (zd_k_36 10), (zd_k_36 11), (zd_k_36 12), (zd_k_36 13), (zd_k_36 14), (zd_k_36 15), (zd_k_36 16), (zd_k_36 17), (zd_k_36 18), (zd_k_36 19), (zd_k_36 20), (zd_k_36 21), (zd_k_36 22), (zd_k_36 23), (zd_k_36 24), (zd_k_36 25), (zd_k_36 26), (zd_k_36 27), (zd_k_36 28), (zd_k_36 29), (zd_k_36 30), (zd_k_36 31), (zd_k_36 32), (zd_k_36 33), (zd_k_36 34), (zd_k_36 35), (zd_k_36 36), (zd_k_36 37), (zd_k_36 38), (zd_k_36 39), (zd_k_36 40), (zd_k_36 41)] i Value.null), by rw [ht]; exact hP9, va_K.moved hW.alike hK9, hD9⟩⟩, hS.F ht⟩) hS.2.2 d_D_rule_88
            · exact absurd rfl c_32
    · exact absurd (by decide) c_4
set_option maxHeartbeats 4000000 in
set_option maxRecDepth 100000 in
theorem c_D_node (l : Launch) (dC : Nat → ClassId) (dI : Nat → Nat → Nat) (sz : Nat) (d kq hq : Nat) (cK cH : ClassId) (zd : Nat → Value) (fk fh : Nat → Int32) (hfk : ∀ j, j < 32 → fk j = -1) (t0 : Int32) (n k lo hi : Int32) : Met l y_D_node ws_D_node ({ frames := 1, cells := 0, slots := 0, locals := 22 }) (va_Pc [.ref d, .int n, .int k, .int lo, .int hi] (fun U => U.heap.size = sz ∧ va_P (dC, dI) kcl [(d, .inr (9, [.int t0, .ref kq, .int 0, .ref hq, .int 0, .int 0, (zd 6), (zd 7), (zd 8), (zd 9), (zd 10), (zd 11), .int 0, (zd 13), (zd 14), (zd 15), (zd 16), (zd 17), (zd 18), (zd 19), .int 0, (zd 21), (zd 22), (zd 23), (zd 24), (zd 25), (zd 26), (zd 27), (zd 28), (zd 29), (zd 30), (zd 31), .int 0, (zd 33), (zd 34), (zd 35), (zd 36), (zd 37), (zd 38), (zd 39), (zd 40), .int 0])), (kq, .inl (cK, 32, .inl fk)), (hq, .inl (cH, 12, .inl fh))] U.heap ∧ va_K (dC, dI) kcl [(cK, .int), (cH, .int)] U ∧ va_D (fun _ => True) [(d, .inr (9, [.int t0, .ref kq, .int 0, .ref hq, .int 0, .int 0, (zd 6), (zd 7), (zd 8), (zd 9), (zd 10), (zd 11), .int 0, (zd 13), (zd 14), (zd 15), (zd 16), (zd 17), (zd 18), (zd 19), .int 0, (zd 21), (zd 22), (zd 23), (zd 24), (zd 25), (zd 26), (zd 27), (zd 28), (zd 29), (zd 30), (zd 31), .int 0, (zd 33), (zd 34), (zd 35), (zd 36), (zd 37), (zd 38), (zd 39), (zd 40), .int 0])), (kq, .inl (cK, 32, .inl fk)), (hq, .inl (cH, 12, .inl fh))])) (va_Qi (fun (_ th : Int32) => th = 1) (fun (th : Int32) (t : State) => ∃ zd2 : Nat → Value, va_P (dC, dI) kcl [(d, .inr (9, [.int th, (zd2 1), (zd2 2), (zd2 3), (zd2 4), (zd2 5), (zd2 6), (zd2 7), (zd2 8), (zd2 9), (zd2 10), (zd2 11), (zd2 12), (zd2 13), (zd2 14), (zd2 15), (zd2 16), (zd2 17), (zd2 18), (zd2 19), (zd2 20), (zd2 21), (zd2 22), (zd2 23), (zd2 24), (zd2 25), (zd2 26), (zd2 27), (zd2 28), (zd2 29), (zd2 30), (zd2 31), (zd2 32), (zd2 33), (zd2 34), (zd2 35), (zd2 36), (zd2 37), (zd2 38), (zd2 39), (zd2 40), (zd2 41)]))] t.heap ∧ va_K (dC, dI) kcl [] t ∧ va_D (va_A [(d, .inr (9, [.int t0, .ref kq, .int 0, .ref hq, .int 0, .int 0, (zd 6), (zd 7), (zd 8), (zd 9), (zd 10), (zd 11), .int 0, (zd 13), (zd 14), (zd 15), (zd 16), (zd 17), (zd 18), (zd 19), .int 0, (zd 21), (zd 22), (zd 23), (zd 24), (zd 25), (zd 26), (zd 27), (zd 28), (zd 29), (zd 30), (zd 31), .int 0, (zd 33), (zd 34), (zd 35), (zd 36), (zd 37), (zd 38), (zd 39), (zd 40), .int 0])), (kq, .inl (cK, 32, .inl fk)), (hq, .inl (cH, 12, .inl fh))] sz) [(d, .inr (9, [.int th, (zd2 1), (zd2 2), (zd2 3), (zd2 4), (zd2 5), (zd2 6), (zd2 7), (zd2 8), (zd2 9), (zd2 10), (zd2 11), (zd2 12), (zd2 13), (zd2 14), (zd2 15), (zd2 16), (zd2 17), (zd2 18), (zd2 19), (zd2 20), (zd2 21), (zd2 22), (zd2 23), (zd2 24), (zd2 25), (zd2 26), (zd2 27), (zd2 28), (zd2 29), (zd2 30), (zd2 31), (zd2 32), (zd2 33), (zd2 34), (zd2 35), (zd2 36), (zd2 37), (zd2 38), (zd2 39), (zd2 40), (zd2 41)]))]) (va_A [(d, .inr (9, [.int t0, .ref kq, .int 0, .ref hq, .int 0, .int 0, (zd 6), (zd 7), (zd 8), (zd 9), (zd 10), (zd 11), .int 0, (zd 13), (zd 14), (zd 15), (zd 16), (zd 17), (zd 18), (zd 19), .int 0, (zd 21), (zd 22), (zd 23), (zd 24), (zd 25), (zd 26), (zd 27), (zd 28), (zd 29), (zd 30), (zd 31), .int 0, (zd 33), (zd 34), (zd 35), (zd 36), (zd 37), (zd 38), (zd 39), (zd 40), .int 0])), (kq, .inl (cK, 32, .inl fk)), (hq, .inl (cH, 12, .inl fh))] sz)) 0 0 (va_A [(d, .inr (9, [.int t0, .ref kq, .int 0, .ref hq, .int 0, .int 0, (zd 6), (zd 7), (zd 8), (zd 9), (zd 10), (zd 11), .int 0, (zd 13), (zd 14), (zd 15), (zd 16), (zd 17), (zd 18), (zd 19), .int 0, (zd 21), (zd 22), (zd 23), (zd 24), (zd 25), (zd 26), (zd 27), (zd 28), (zd 29), (zd 30), (zd 31), .int 0, (zd 33), (zd 34), (zd 35), (zd 36), (zd 37), (zd 38), (zd 39), (zd 40), .int 0])), (kq, .inl (cK, 32, .inl fk)), (hq, .inl (cH, 12, .inl fh))] sz) := by
  refine Met.ofW (cc := b_D_node) (maxL := 11) (ret := (Option.some Jvm.ClassFile.FieldType.int)) (by decide) rfl ?_
  intro p e s m args below meth c s₁ B hml hv
  obtain ⟨rfl, hsz, hP, hK, hD0⟩ := hv
  have hx := B.exec
  have hb := B.bytes
  have hr := B.returns
  have hlocks := B.notSynchronized
  have hg : ∀ w ∈ gw, w.before _ s = true := fun w h => atoms_spec (ws := ws_D_node) B.pre w (List.mem_cons_of_mem _ h)
  have hown : s.vm.findClass "TreeMatcherModel" = some m.cls := findClass_of_methodNamed B.named
  subst hsz
  have hD := hD0.self (sz := s.heap.size)
  have hA : ∀ q : Nat, s.heap.size ≤ q → va_A [(d, .inr (9, [.int t0, .ref kq, .int 0, .ref hq, .int 0, .int 0, (zd 6), (zd 7), (zd 8), (zd 9), (zd 10), (zd 11), .int 0, (zd 13), (zd 14), (zd 15), (zd 16), (zd 17), (zd 18), (zd 19), .int 0, (zd 21), (zd 22), (zd 23), (zd 24), (zd 25), (zd 26), (zd 27), (zd 28), (zd 29), (zd 30), (zd 31), .int 0, (zd 33), (zd 34), (zd 35), (zd 36), (zd 37), (zd 38), (zd 39), (zd 40), .int 0])), (kq, .inl (cK, 32, .inl fk)), (hq, .inl (cH, 12, .inl fh))] s.heap.size q := fun q h => Or.inr h
  generalize hAe : va_A [(d, .inr (9, [.int t0, .ref kq, .int 0, .ref hq, .int 0, .int 0, (zd 6), (zd 7), (zd 8), (zd 9), (zd 10), (zd 11), .int 0, (zd 13), (zd 14), (zd 15), (zd 16), (zd 17), (zd 18), (zd 19), .int 0, (zd 21), (zd 22), (zd 23), (zd 24), (zd 25), (zd 26), (zd 27), (zd 28), (zd 29), (zd 30), (zd 31), .int 0, (zd 33), (zd 34), (zd 35), (zd 36), (zd 37), (zd 38), (zd 39), (zd 40), .int 0])), (kq, .inl (cK, 32, .inl fk)), (hq, .inl (cH, 12, .inl fh))] s.heap.size = A at hD hA ⊢
  have hS : va_S A s.heap s.heap [] := va_S.rf
  have hl := lv_entry ([.ref d, .int n, .int k, .int lo, .int hi] : List Value) (n := 11) (Nat.le_of_ble_eq_true rfl)
  rw [lg_entry_eq]
  generalize (lg_sl ([.ref d, .int n, .int k, .int lo, .int hi] : List Value) ++ List.replicate (11 - (lg_sl ([.ref d, .int n, .int k, .int lo, .int hi] : List Value)).length) Slot.unset).toArray = ls at hl ⊢
  have hl : lv_has ls 11 [(0, .ref d), (1, .int n), (2, .int k), (3, .int lo), (4, .int hi)] := hl
  refine lv_aload_n hx hb d_D_node_0 rfl (lv_at hl 0 rfl) ?_
  refine lv_iconst (v := 0) hx hb d_D_node_1 (by decide) ?_
  refine va_put (D := (dC, dI)) (ci := 9) (v := .int 0) (ty := .int) (C := kR_D) (T := kT_D) (N := 42) hx hb hg kin_D kt_D kty_D knm_D hown hK hP hD hS 0 rfl rfl 0 (by decide) (hg _ tw_817) (fun _ h9 => h9) rfl (by decide +kernel) rfl rfl (Nat.le_of_ble_eq_true rfl) d_D_node_2 (fun H_1 lo_2 hP hD hS => ?_)
  have hP : va_P (dC, dI) kcl [(d, .inr (9, [.int 0, .ref kq, .int 0, .ref hq, .int 0, .int 0, (zd 6), (zd 7), (zd 8), (zd 9), (zd 10), (zd 11), .int 0, (zd 13), (zd 14), (zd 15), (zd 16), (zd 17), (zd 18), (zd 19), .int 0, (zd 21), (zd 22), (zd 23), (zd 24), (zd 25), (zd 26), (zd 27), (zd 28), (zd 29), (zd 30), (zd 31), .int 0, (zd 33), (zd 34), (zd 35), (zd 36), (zd 37), (zd 38), (zd 39), (zd 40), .int 0])), (kq, .inl (cK, 32, .inl fk)), (hq, .inl (cH, 12, .inl fh))] H_1 := hP
  have hD : va_D A [(d, .inr (9, [.int 0, .ref kq, .int 0, .ref hq, .int 0, .int 0, (zd 6), (zd 7), (zd 8), (zd 9), (zd 10), (zd 11), .int 0, (zd 13), (zd 14), (zd 15), (zd 16), (zd 17), (zd 18), (zd 19), .int 0, (zd 21), (zd 22), (zd 23), (zd 24), (zd 25), (zd 26), (zd 27), (zd 28), (zd 29), (zd 30), (zd 31), .int 0, (zd 33), (zd 34), (zd 35), (zd 36), (zd 37), (zd 38), (zd 39), (zd 40), .int 0])), (kq, .inl (cK, 32, .inl fk)), (hq, .inl (cH, 12, .inl fh))] := hD
  refine lv_iload_n hx hb d_D_node_5 rfl (lv_at hl 1 rfl) ?_
  refine lv_iconst (v := 0) hx hb d_D_node_6 (by decide) ?_
  refine lv_bipush (v := 31) hx hb d_D_node_7 (by decide) ?_
  have hPc := hP.sub (ws' := []) [] rfl
  have hKc := hK.sub (tys' := []) [] rfl
  refine va_calli (va_runS (As := [.int n, .int 0, .int 31]) (rest := []) ⟨hx, hb, hml, hown, hg⟩ (c_D_within l dC dI H_1.size n 0 31) (va_cwS 3 hg (gw_giS cin_D_within tw_952 tw_953 tw_11) rfl rfl rfl (by decide +kernel) ⟨Nat.le_of_ble_eq_true rfl, Nat.le_of_ble_eq_true rfl⟩) ⟨fun a U g mk q => by obtain ⟨q0, q1, qP, qK⟩ := q; exact ⟨q0, q1, qP, va_K.moved (u := U) (U := U.calling g mk a) (Vm.Alike.refl U.vm) qK⟩, fun U hU hW => ⟨rfl, by rw [hU], by rw [hU]; exact hPc, va_K.moved hW.alike hKc⟩⟩ rfl rfl hl.1 rfl (lv_room (Nat.le_of_ble_eq_true rfl)) d_D_node_9 ⟨Nat.le_of_ble_eq_true rfl, Nat.le_of_ble_eq_true rfl⟩) hS (fun q h1 h => (tx_pA h1 h).elim) (tx_pF hS hA) (fun r_k_3 u_k_3 t_k_3 H_4 l_k_3 ht hvm hw_k_3 hB hz1 hk1 hS => ?_)
  have hw_k_3 : (if 0 ≤ n ∧ n ≤ 31 then 1 else 0) = r_k_3 := Eq.symm hw_k_3
  subst hw_k_3
  have hP := tx_keep hP hk1
  refine lv_if_eq (tgt := 25) hx hb d_D_node_12 (by decide) (fun c_5 => ?_) (fun c_5 => ?_)
  · refine lv_aload_n hx hb d_D_node_25 rfl (lv_at hl 0 rfl) ?_
    refine lv_iconst (v := 1) hx hb d_D_node_26 (by decide) ?_
    have hPc := hP.sub (ws' := [(d, .inr (9, [.int 0, .ref kq, .int 0, .ref hq, .int 0, .int 0, (zd 6), (zd 7), (zd 8), (zd 9), (zd 10), (zd 11), .int 0, (zd 13), (zd 14), (zd 15), (zd 16), (zd 17), (zd 18), (zd 19), .int 0, (zd 21), (zd 22), (zd 23), (zd 24), (zd 25), (zd 26), (zd 27), (zd 28), (zd 29), (zd 30), (zd 31), .int 0, (zd 33), (zd 34), (zd 35), (zd 36), (zd 37), (zd 38), (zd 39), (zd 40), .int 0]))]) [0] rfl
    have hKc := hK.sub (tys' := []) [] rfl
    have hDc := hD.sub (ws' := [(d, .inr (9, [.int 0, .ref kq, .int 0, .ref hq, .int 0, .int 0, (zd 6), (zd 7), (zd 8), (zd 9), (zd 10), (zd 11), .int 0, (zd 13), (zd 14), (zd 15), (zd 16), (zd 17), (zd 18), (zd 19), .int 0, (zd 21), (zd 22), (zd 23), (zd 24), (zd 25), (zd 26), (zd 27), (zd 28), (zd 29), (zd 30), (zd 31), .int 0, (zd 33), (zd 34), (zd 35), (zd 36), (zd 37), (zd 38), (zd 39), (zd 40), .int 0]))]) [0] (by decide) rfl
    have hFc := va_free (wc := [(d, .inr (9, [.int 0, .ref kq, .int 0, .ref hq, .int 0, .int 0, (zd 6), (zd 7), (zd 8), (zd 9), (zd 10), (zd 11), .int 0, (zd 13), (zd 14), (zd 15), (zd 16), (zd 17), (zd 18), (zd 19), .int 0, (zd 21), (zd 22), (zd 23), (zd 24), (zd 25), (zd 26), (zd 27), (zd 28), (zd 29), (zd 30), (zd 31), .int 0, (zd 33), (zd 34), (zd 35), (zd 36), (zd 37), (zd 38), (zd 39), (zd 40), .int 0]))]) hD hS hA [0] rfl
    refine va_calli (va_runV (As := [.int 1]) (rest := []) ⟨hx, hb, hml, hown, hg⟩ (c_D_fail l dC dI H_4.size d (fun i => if i = 41 then .int 0 else if i = 32 then .int 0 else if i = 20 then .int 0 else if i = 12 then .int 0 else if i = 5 then .int 0 else if i = 4 then .int 0 else if i = 3 then .ref hq else if i = 2 then .int 0 else if i = 1 then .ref kq else zd i) 0 1) (cwV 1 hg (gw_giV cin_D_fail tw_955 tw_957 sw_D_fail tw_11) rfl rfl rfl (by decide +kernel) ⟨Nat.le_of_ble_eq_true rfl, Nat.le_of_ble_eq_true rfl⟩) ⟨fun a U g mk q => by obtain ⟨q0, q1, qP, qK, qD⟩ := q; exact ⟨q0, q1, qP, va_K.moved (u := U) (U := U.calling g mk a) (Vm.Alike.refl U.vm) qK, qD⟩, va_recv hKc hPc (ci := 9) (q0 := 0) rfl rfl, fun U hU hW => ⟨rfl, by rw [hU], by rw [hU]; exact hPc, va_K.moved hW.alike hKc, hDc.weaken (fun _ _ _ _ => trivial)⟩⟩ rfl rfl hl.1 rfl (lv_room (Nat.le_of_ble_eq_true rfl)) d_D_node_27 ⟨Nat.le_of_ble_eq_true rfl, Nat.le_of_ble_eq_true rfl⟩) hS (fun q _ h => hFc q h) hFc (fun r_k_6 u_k_6 t_k_6 H_7 l_k_6 ht hvm hw_k_6 hB hz1 hk1 hS => ?_)
    obtain ⟨hr_k_6, hu_k_6⟩ := hw_k_6
    subst hr_k_6
    subst hu_k_6
    obtain ⟨zd_k_6, hP1, hK1, hD1⟩ := hB
    rw [ht] at hP1
    have hK1 := va_K.moved hvm.symm hK1
    obtain ⟨hP, hD⟩ := va_join (wr := [(kq, .inl (cK, 32, .inl fk)), (hq, .inl (cH, 12, .inl fh))]) (w1 := [(d, .inr (9, [.int 1, (zd_k_6 1), (zd_k_6 2), (zd_k_6 3), (zd_k_6 4), (zd_k_6 5), (zd_k_6 6), (zd_k_6 7), (zd_k_6 8), (zd_k_6 9), (zd_k_6 10), (zd_k_6 11), (zd_k_6 12), (zd_k_6 13), (zd_k_6 14), (zd_k_6 15), (zd_k_6 16), (zd_k_6 17), (zd_k_6 18), (zd_k_6 19), (zd_k_6 20), (zd_k_6 21), (zd_k_6 22), (zd_k_6 23), (zd_k_6 24), (zd_k_6 25), (zd_k_6 26), (zd_k_6 27), (zd_k_6 28), (zd_k_6 29), (zd_k_6 30), (zd_k_6 31), (zd_k_6 32), (zd_k_6 33), (zd_k_6 34), (zd_k_6 35), (zd_k_6 36), (zd_k_6 37), (zd_k_6 38), (zd_k_6 39), (zd_k_6 40), (zd_k_6 41)]))]) hP hD [0] [1, 2] rfl rfl (by decide) (by decide) hk1 hFc hP1 hD1
    have hK := (hK.sub (tys' := [(cK, .int), (cH, .int)]) [0, 1] rfl).app hK1
    have hP : va_P (dC, dI) kcl [(kq, .inl (cK, 32, .inl fk)), (hq, .inl (cH, 12, .inl fh)), (d, .inr (9, [.int 1, (zd_k_6 1), (zd_k_6 2), (zd_k_6 3), (zd_k_6 4), (zd_k_6 5), (zd_k_6 6), (zd_k_6 7), (zd_k_6 8), (zd_k_6 9), (zd_k_6 10), (zd_k_6 11), (zd_k_6 12), (zd_k_6 13), (zd_k_6 14), (zd_k_6 15), (zd_k_6 16), (zd_k_6 17), (zd_k_6 18), (zd_k_6 19), (zd_k_6 20), (zd_k_6 21), (zd_k_6 22), (zd_k_6 23), (zd_k_6 24), (zd_k_6 25), (zd_k_6 26), (zd_k_6 27), (zd_k_6 28), (zd_k_6 29), (zd_k_6 30), (zd_k_6 31), (zd_k_6 32), (zd_k_6 33), (zd_k_6 34), (zd_k_6 35), (zd_k_6 36), (zd_k_6 37), (zd_k_6 38), (zd_k_6 39), (zd_k_6 40), (zd_k_6 41)]))] H_7 := hP
    have hD : va_D A [(kq, .inl (cK, 32, .inl fk)), (hq, .inl (cH, 12, .inl fh)), (d, .inr (9, [.int 1, (zd_k_6 1), (zd_k_6 2), (zd_k_6 3), (zd_k_6 4), (zd_k_6 5), (zd_k_6 6), (zd_k_6 7), (zd_k_6 8), (zd_k_6 9), (zd_k_6 10), (zd_k_6 11), (zd_k_6 12), (zd_k_6 13), (zd_k_6 14), (zd_k_6 15), (zd_k_6 16), (zd_k_6 17), (zd_k_6 18), (zd_k_6 19), (zd_k_6 20), (zd_k_6 21), (zd_k_6 22), (zd_k_6 23), (zd_k_6 24), (zd_k_6 25), (zd_k_6 26), (zd_k_6 27), (zd_k_6 28), (zd_k_6 29), (zd_k_6 30), (zd_k_6 31), (zd_k_6 32), (zd_k_6 33), (zd_k_6 34), (zd_k_6 35), (zd_k_6 36), (zd_k_6 37), (zd_k_6 38), (zd_k_6 39), (zd_k_6 40), (zd_k_6 41)]))] := hD
    have hK : va_K (dC, dI) kcl [(cK, .int), (cH, .int)] s := hK
    have hP9 := hP.sub (ws' := [(d, .inr (9, [.int 1, (zd_k_6 1), (zd_k_6 2), (zd_k_6 3), (zd_k_6 4), (zd_k_6 5), (zd_k_6 6), (zd_k_6 7), (zd_k_6 8), (zd_k_6 9), (zd_k_6 10), (zd_k_6 11), (zd_k_6 12), (zd_k_6 13), (zd_k_6 14), (zd_k_6 15), (zd_k_6 16), (zd_k_6 17), (zd_k_6 18), (zd_k_6 19), (zd_k_6 20), (zd_k_6 21), (zd_k_6 22), (zd_k_6 23), (zd_k_6 24), (zd_k_6 25), (zd_k_6 26), (zd_k_6 27), (zd_k_6 28), (zd_k_6 29), (zd_k_6 30), (zd_k_6 31), (zd_k_6 32), (zd_k_6 33), (zd_k_6 34), (zd_k_6 35), (zd_k_6 36), (zd_k_6 37), (zd_k_6 38), (zd_k_6 39), (zd_k_6 40), (zd_k_6 41)]))]) [2] rfl
    have hD9 := hD.sub (ws' := [(d, .inr (9, [.int 1, (zd_k_6 1), (zd_k_6 2), (zd_k_6 3), (zd_k_6 4), (zd_k_6 5), (zd_k_6 6), (zd_k_6 7), (zd_k_6 8), (zd_k_6 9), (zd_k_6 10), (zd_k_6 11), (zd_k_6 12), (zd_k_6 13), (zd_k_6 14), (zd_k_6 15), (zd_k_6 16), (zd_k_6 17), (zd_k_6 18), (zd_k_6 19), (zd_k_6 20), (zd_k_6 21), (zd_k_6 22), (zd_k_6 23), (zd_k_6 24), (zd_k_6 25), (zd_k_6 26), (zd_k_6 27), (zd_k_6 28), (zd_k_6 29), (zd_k_6 30), (zd_k_6 31), (zd_k_6 32), (zd_k_6 33), (zd_k_6 34), (zd_k_6 35), (zd_k_6 36), (zd_k_6 37), (zd_k_6 38), (zd_k_6 39), (zd_k_6 40), (zd_k_6 41)]))]) [2] (by decide) rfl
    have hK9 := hK.sub (tys' := []) [] rfl
    exact W.iret (v := 0) hx hb hr (fun t ht hW => ⟨⟨0, 1, rfl, rfl, ⟨(fun i => List.getD [Value.int (1 : Int32), (zd_k_6 1), (zd_k_6 2), (zd_k_6 3), (zd_k_6 4), (zd_k_6 5), (zd_k_6 6), (zd_k_6 7), (zd_k_6 8), (zd_k_6 9), (zd_k_6 10), (zd_k_6 11), (zd_k_6 12), (zd_k_6 13), (zd_k_6 14), (zd_k_6 15), (zd_k_6 16), (zd_k_6 17), (zd_k_6 18), (zd_k_6 19), (zd_k_6 20), (zd_k_6 21), (zd_k_6 22), (zd_k_6 23), (zd_k_6 24), (zd_k_6 25), (zd_k_6 26), (zd_k_6 27), (zd_k_6 28), (zd_k_6 29), (zd_k_6 30), (zd_k_6 31), (zd_k_6 32), (zd_k_6 33), (zd_k_6 34), (zd_k_6 35), (zd_k_6 36), (zd_k_6 37), (zd_k_6 38), (zd_k_6 39), (zd_k_6 40), (zd_k_6 41)] i Value.null), by rw [ht]; exact hP9, va_K.moved hW.alike hK9, hD9⟩⟩, hS.F ht⟩) hS.2.2 d_D_node_30
  · refine lv_aload_n hx hb d_D_node_15 rfl (lv_at hl 0 rfl) ?_
    refine va_get (D := (dC, dI)) (ci := 9) (v := .ref kq) (C := kR_D) (T := kT_D) (N := 42) hx hb hg kin_D hown hK hP 0 rfl rfl 1 (by decide) (hg _ tw_818) (fun _ h9 => h9) rfl d_D_node_16 ?_
    refine lv_iload_n hx hb d_D_node_19 rfl (lv_at hl 1 rfl) ?_
    have hi := tx_le31 (tx_if1 c_5)
    refine va_iald hx hb hK hP 1 0 rfl rfl (tx_in32 hi) d_D_node_20 ?_
    refine lv_iconst (v := (-1)) hx hb d_D_node_21 (by decide) ?_
    refine lv_icmp_ne (tgt := 31) hx hb d_D_node_22 (by decide) (fun c_9 => ?_) (fun c_9 => ?_)
    · exact absurd (hfk _ (tx_in32n hi)) c_9
    · refine lv_aload_n hx hb d_D_node_25 rfl (lv_at hl 0 rfl) ?_
      refine lv_iconst (v := 1) hx hb d_D_node_26 (by decide) ?_
      have hPc := hP.sub (ws' := [(d, .inr (9, [.int 0, .ref kq, .int 0, .ref hq, .int 0, .int 0, (zd 6), (zd 7), (zd 8), (zd 9), (zd 10), (zd 11), .int 0, (zd 13), (zd 14), (zd 15), (zd 16), (zd 17), (zd 18), (zd 19), .int 0, (zd 21), (zd 22), (zd 23), (zd 24), (zd 25), (zd 26), (zd 27), (zd 28), (zd 29), (zd 30), (zd 31), .int 0, (zd 33), (zd 34), (zd 35), (zd 36), (zd 37), (zd 38), (zd 39), (zd 40), .int 0]))]) [0] rfl
      have hKc := hK.sub (tys' := []) [] rfl
      have hDc := hD.sub (ws' := [(d, .inr (9, [.int 0, .ref kq, .int 0, .ref hq, .int 0, .int 0, (zd 6), (zd 7), (zd 8), (zd 9), (zd 10), (zd 11), .int 0, (zd 13), (zd 14), (zd 15), (zd 16), (zd 17), (zd 18), (zd 19), .int 0, (zd 21), (zd 22), (zd 23), (zd 24), (zd 25), (zd 26), (zd 27), (zd 28), (zd 29), (zd 30), (zd 31), .int 0, (zd 33), (zd 34), (zd 35), (zd 36), (zd 37), (zd 38), (zd 39), (zd 40), .int 0]))]) [0] (by decide) rfl
      have hFc := va_free (wc := [(d, .inr (9, [.int 0, .ref kq, .int 0, .ref hq, .int 0, .int 0, (zd 6), (zd 7), (zd 8), (zd 9), (zd 10), (zd 11), .int 0, (zd 13), (zd 14), (zd 15), (zd 16), (zd 17), (zd 18), (zd 19), .int 0, (zd 21), (zd 22), (zd 23), (zd 24), (zd 25), (zd 26), (zd 27), (zd 28), (zd 29), (zd 30), (zd 31), .int 0, (zd 33), (zd 34), (zd 35), (zd 36), (zd 37), (zd 38), (zd 39), (zd 40), .int 0]))]) hD hS hA [0] rfl
      refine va_calli (va_runV (As := [.int 1]) (rest := []) ⟨hx, hb, hml, hown, hg⟩ (c_D_fail l dC dI H_4.size d (fun i => if i = 41 then .int 0 else if i = 32 then .int 0 else if i = 20 then .int 0 else if i = 12 then .int 0 else if i = 5 then .int 0 else if i = 4 then .int 0 else if i = 3 then .ref hq else if i = 2 then .int 0 else if i = 1 then .ref kq else zd i) 0 1) (cwV 1 hg (gw_giV cin_D_fail tw_955 tw_957 sw_D_fail tw_11) rfl rfl rfl (by decide +kernel) ⟨Nat.le_of_ble_eq_true rfl, Nat.le_of_ble_eq_true rfl⟩) ⟨fun a U g mk q => by obtain ⟨q0, q1, qP, qK, qD⟩ := q; exact ⟨q0, q1, qP, va_K.moved (u := U) (U := U.calling g mk a) (Vm.Alike.refl U.vm) qK, qD⟩, va_recv hKc hPc (ci := 9) (q0 := 0) rfl rfl, fun U hU hW => ⟨rfl, by rw [hU], by rw [hU]; exact hPc, va_K.moved hW.alike hKc, hDc.weaken (fun _ _ _ _ => trivial)⟩⟩ rfl rfl hl.1 rfl (lv_room (Nat.le_of_ble_eq_true rfl)) d_D_node_27 ⟨Nat.le_of_ble_eq_true rfl, Nat.le_of_ble_eq_true rfl⟩) hS (fun q _ h => hFc q h) hFc (fun r_k_10 u_k_10 t_k_10 H_11 l_k_10 ht hvm hw_k_10 hB hz1 hk1 hS => ?_)
      obtain ⟨hr_k_10, hu_k_10⟩ := hw_k_10
      subst hr_k_10
      subst hu_k_10
      obtain ⟨zd_k_10, hP1, hK1, hD1⟩ := hB
      rw [ht] at hP1
      have hK1 := va_K.moved hvm.symm hK1
      obtain ⟨hP, hD⟩ := va_join (wr := [(kq, .inl (cK, 32, .inl fk)), (hq, .inl (cH, 12, .inl fh))]) (w1 := [(d, .inr (9, [.int 1, (zd_k_10 1), (zd_k_10 2), (zd_k_10 3), (zd_k_10 4), (zd_k_10 5), (zd_k_10 6), (zd_k_10 7), (zd_k_10 8), (zd_k_10 9), (zd_k_10 10), (zd_k_10 11), (zd_k_10 12), (zd_k_10 13), (zd_k_10 14), (zd_k_10 15), (zd_k_10 16), (zd_k_10 17), (zd_k_10 18), (zd_k_10 19), (zd_k_10 20), (zd_k_10 21), (zd_k_10 22), (zd_k_10 23), (zd_k_10 24), (zd_k_10 25), (zd_k_10 26), (zd_k_10 27), (zd_k_10 28), (zd_k_10 29), (zd_k_10 30), (zd_k_10 31), (zd_k_10 32), (zd_k_10 33), (zd_k_10 34), (zd_k_10 35), (zd_k_10 36), (zd_k_10 37), (zd_k_10 38), (zd_k_10 39), (zd_k_10 40), (zd_k_10 41)]))]) hP hD [0] [1, 2] rfl rfl (by decide) (by decide) hk1 hFc hP1 hD1
      have hK := (hK.sub (tys' := [(cK, .int), (cH, .int)]) [0, 1] rfl).app hK1
      have hP : va_P (dC, dI) kcl [(kq, .inl (cK, 32, .inl fk)), (hq, .inl (cH, 12, .inl fh)), (d, .inr (9, [.int 1, (zd_k_10 1), (zd_k_10 2), (zd_k_10 3), (zd_k_10 4), (zd_k_10 5), (zd_k_10 6), (zd_k_10 7), (zd_k_10 8), (zd_k_10 9), (zd_k_10 10), (zd_k_10 11), (zd_k_10 12), (zd_k_10 13), (zd_k_10 14), (zd_k_10 15), (zd_k_10 16), (zd_k_10 17), (zd_k_10 18), (zd_k_10 19), (zd_k_10 20), (zd_k_10 21), (zd_k_10 22), (zd_k_10 23), (zd_k_10 24), (zd_k_10 25), (zd_k_10 26), (zd_k_10 27), (zd_k_10 28), (zd_k_10 29), (zd_k_10 30), (zd_k_10 31), (zd_k_10 32), (zd_k_10 33), (zd_k_10 34), (zd_k_10 35), (zd_k_10 36), (zd_k_10 37), (zd_k_10 38), (zd_k_10 39), (zd_k_10 40), (zd_k_10 41)]))] H_11 := hP
      have hD : va_D A [(kq, .inl (cK, 32, .inl fk)), (hq, .inl (cH, 12, .inl fh)), (d, .inr (9, [.int 1, (zd_k_10 1), (zd_k_10 2), (zd_k_10 3), (zd_k_10 4), (zd_k_10 5), (zd_k_10 6), (zd_k_10 7), (zd_k_10 8), (zd_k_10 9), (zd_k_10 10), (zd_k_10 11), (zd_k_10 12), (zd_k_10 13), (zd_k_10 14), (zd_k_10 15), (zd_k_10 16), (zd_k_10 17), (zd_k_10 18), (zd_k_10 19), (zd_k_10 20), (zd_k_10 21), (zd_k_10 22), (zd_k_10 23), (zd_k_10 24), (zd_k_10 25), (zd_k_10 26), (zd_k_10 27), (zd_k_10 28), (zd_k_10 29), (zd_k_10 30), (zd_k_10 31), (zd_k_10 32), (zd_k_10 33), (zd_k_10 34), (zd_k_10 35), (zd_k_10 36), (zd_k_10 37), (zd_k_10 38), (zd_k_10 39), (zd_k_10 40), (zd_k_10 41)]))] := hD
      have hK : va_K (dC, dI) kcl [(cK, .int), (cH, .int)] s := hK
      have hP9 := hP.sub (ws' := [(d, .inr (9, [.int 1, (zd_k_10 1), (zd_k_10 2), (zd_k_10 3), (zd_k_10 4), (zd_k_10 5), (zd_k_10 6), (zd_k_10 7), (zd_k_10 8), (zd_k_10 9), (zd_k_10 10), (zd_k_10 11), (zd_k_10 12), (zd_k_10 13), (zd_k_10 14), (zd_k_10 15), (zd_k_10 16), (zd_k_10 17), (zd_k_10 18), (zd_k_10 19), (zd_k_10 20), (zd_k_10 21), (zd_k_10 22), (zd_k_10 23), (zd_k_10 24), (zd_k_10 25), (zd_k_10 26), (zd_k_10 27), (zd_k_10 28), (zd_k_10 29), (zd_k_10 30), (zd_k_10 31), (zd_k_10 32), (zd_k_10 33), (zd_k_10 34), (zd_k_10 35), (zd_k_10 36), (zd_k_10 37), (zd_k_10 38), (zd_k_10 39), (zd_k_10 40), (zd_k_10 41)]))]) [2] rfl
      have hD9 := hD.sub (ws' := [(d, .inr (9, [.int 1, (zd_k_10 1), (zd_k_10 2), (zd_k_10 3), (zd_k_10 4), (zd_k_10 5), (zd_k_10 6), (zd_k_10 7), (zd_k_10 8), (zd_k_10 9), (zd_k_10 10), (zd_k_10 11), (zd_k_10 12), (zd_k_10 13), (zd_k_10 14), (zd_k_10 15), (zd_k_10 16), (zd_k_10 17), (zd_k_10 18), (zd_k_10 19), (zd_k_10 20), (zd_k_10 21), (zd_k_10 22), (zd_k_10 23), (zd_k_10 24), (zd_k_10 25), (zd_k_10 26), (zd_k_10 27), (zd_k_10 28), (zd_k_10 29), (zd_k_10 30), (zd_k_10 31), (zd_k_10 32), (zd_k_10 33), (zd_k_10 34), (zd_k_10 35), (zd_k_10 36), (zd_k_10 37), (zd_k_10 38), (zd_k_10 39), (zd_k_10 40), (zd_k_10 41)]))]) [2] (by decide) rfl
      have hK9 := hK.sub (tys' := []) [] rfl
      exact W.iret (v := 0) hx hb hr (fun t ht hW => ⟨⟨0, 1, rfl, rfl, ⟨(fun i => List.getD [Value.int (1 : Int32), (zd_k_10 1), (zd_k_10 2), (zd_k_10 3), (zd_k_10 4), (zd_k_10 5), (zd_k_10 6), (zd_k_10 7), (zd_k_10 8), (zd_k_10 9), (zd_k_10 10), (zd_k_10 11), (zd_k_10 12), (zd_k_10 13), (zd_k_10 14), (zd_k_10 15), (zd_k_10 16), (zd_k_10 17), (zd_k_10 18), (zd_k_10 19), (zd_k_10 20), (zd_k_10 21), (zd_k_10 22), (zd_k_10 23), (zd_k_10 24), (zd_k_10 25), (zd_k_10 26), (zd_k_10 27), (zd_k_10 28), (zd_k_10 29), (zd_k_10 30), (zd_k_10 31), (zd_k_10 32), (zd_k_10 33), (zd_k_10 34), (zd_k_10 35), (zd_k_10 36), (zd_k_10 37), (zd_k_10 38), (zd_k_10 39), (zd_k_10 40), (zd_k_10 41)] i Value.null), by rw [ht]; exact hP9, va_K.moved hW.alike hK9, hD9⟩⟩, hS.F ht⟩) hS.2.2 d_D_node_30
set_option maxHeartbeats 4000000 in
set_option maxRecDepth 100000 in
theorem c_D_cost (l : Launch) (dC : Nat → ClassId) (dI : Nat → Nat → Nat) (sz : Nat) (d kq hq : Nat) (cK cH : ClassId) (zd : Nat → Value) (fk fh : Nat → Int32) (hfk : ∀ j, j < 32 → fk j = -1) (t0 : Int32) (n k : Int32) : Met l y_D_cost ws_D_cost ({ frames := 1, cells := 0, slots := 0, locals := 22 }) (va_Pc [.ref d, .int n, .int k] (fun U => U.heap.size = sz ∧ va_P (dC, dI) kcl [(d, .inr (9, [.int t0, .ref kq, .int 0, .ref hq, .int 0, .int 0, (zd 6), (zd 7), (zd 8), (zd 9), (zd 10), (zd 11), .int 0, (zd 13), (zd 14), (zd 15), (zd 16), (zd 17), (zd 18), (zd 19), .int 0, (zd 21), (zd 22), (zd 23), (zd 24), (zd 25), (zd 26), (zd 27), (zd 28), (zd 29), (zd 30), (zd 31), .int 0, (zd 33), (zd 34), (zd 35), (zd 36), (zd 37), (zd 38), (zd 39), (zd 40), .int 0])), (kq, .inl (cK, 32, .inl fk)), (hq, .inl (cH, 12, .inl fh))] U.heap ∧ va_K (dC, dI) kcl [(cK, .int), (cH, .int)] U ∧ va_D (fun _ => True) [(d, .inr (9, [.int t0, .ref kq, .int 0, .ref hq, .int 0, .int 0, (zd 6), (zd 7), (zd 8), (zd 9), (zd 10), (zd 11), .int 0, (zd 13), (zd 14), (zd 15), (zd 16), (zd 17), (zd 18), (zd 19), .int 0, (zd 21), (zd 22), (zd 23), (zd 24), (zd 25), (zd 26), (zd 27), (zd 28), (zd 29), (zd 30), (zd 31), .int 0, (zd 33), (zd 34), (zd 35), (zd 36), (zd 37), (zd 38), (zd 39), (zd 40), .int 0])), (kq, .inl (cK, 32, .inl fk)), (hq, .inl (cH, 12, .inl fh))])) (va_Qi (fun (_ th : Int32) => th = 1) (fun (th : Int32) (t : State) => ∃ zd2 : Nat → Value, va_P (dC, dI) kcl [(d, .inr (9, [.int th, (zd2 1), (zd2 2), (zd2 3), (zd2 4), (zd2 5), (zd2 6), (zd2 7), (zd2 8), (zd2 9), (zd2 10), (zd2 11), (zd2 12), (zd2 13), (zd2 14), (zd2 15), (zd2 16), (zd2 17), (zd2 18), (zd2 19), (zd2 20), (zd2 21), (zd2 22), (zd2 23), (zd2 24), (zd2 25), (zd2 26), (zd2 27), (zd2 28), (zd2 29), (zd2 30), (zd2 31), (zd2 32), (zd2 33), (zd2 34), (zd2 35), (zd2 36), (zd2 37), (zd2 38), (zd2 39), (zd2 40), (zd2 41)]))] t.heap ∧ va_K (dC, dI) kcl [] t ∧ va_D (va_A [(d, .inr (9, [.int t0, .ref kq, .int 0, .ref hq, .int 0, .int 0, (zd 6), (zd 7), (zd 8), (zd 9), (zd 10), (zd 11), .int 0, (zd 13), (zd 14), (zd 15), (zd 16), (zd 17), (zd 18), (zd 19), .int 0, (zd 21), (zd 22), (zd 23), (zd 24), (zd 25), (zd 26), (zd 27), (zd 28), (zd 29), (zd 30), (zd 31), .int 0, (zd 33), (zd 34), (zd 35), (zd 36), (zd 37), (zd 38), (zd 39), (zd 40), .int 0])), (kq, .inl (cK, 32, .inl fk)), (hq, .inl (cH, 12, .inl fh))] sz) [(d, .inr (9, [.int th, (zd2 1), (zd2 2), (zd2 3), (zd2 4), (zd2 5), (zd2 6), (zd2 7), (zd2 8), (zd2 9), (zd2 10), (zd2 11), (zd2 12), (zd2 13), (zd2 14), (zd2 15), (zd2 16), (zd2 17), (zd2 18), (zd2 19), (zd2 20), (zd2 21), (zd2 22), (zd2 23), (zd2 24), (zd2 25), (zd2 26), (zd2 27), (zd2 28), (zd2 29), (zd2 30), (zd2 31), (zd2 32), (zd2 33), (zd2 34), (zd2 35), (zd2 36), (zd2 37), (zd2 38), (zd2 39), (zd2 40), (zd2 41)]))]) (va_A [(d, .inr (9, [.int t0, .ref kq, .int 0, .ref hq, .int 0, .int 0, (zd 6), (zd 7), (zd 8), (zd 9), (zd 10), (zd 11), .int 0, (zd 13), (zd 14), (zd 15), (zd 16), (zd 17), (zd 18), (zd 19), .int 0, (zd 21), (zd 22), (zd 23), (zd 24), (zd 25), (zd 26), (zd 27), (zd 28), (zd 29), (zd 30), (zd 31), .int 0, (zd 33), (zd 34), (zd 35), (zd 36), (zd 37), (zd 38), (zd 39), (zd 40), .int 0])), (kq, .inl (cK, 32, .inl fk)), (hq, .inl (cH, 12, .inl fh))] sz)) 0 0 (va_A [(d, .inr (9, [.int t0, .ref kq, .int 0, .ref hq, .int 0, .int 0, (zd 6), (zd 7), (zd 8), (zd 9), (zd 10), (zd 11), .int 0, (zd 13), (zd 14), (zd 15), (zd 16), (zd 17), (zd 18), (zd 19), .int 0, (zd 21), (zd 22), (zd 23), (zd 24), (zd 25), (zd 26), (zd 27), (zd 28), (zd 29), (zd 30), (zd 31), .int 0, (zd 33), (zd 34), (zd 35), (zd 36), (zd 37), (zd 38), (zd 39), (zd 40), .int 0])), (kq, .inl (cK, 32, .inl fk)), (hq, .inl (cH, 12, .inl fh))] sz) := by
  refine Met.ofW (cc := b_D_cost) (maxL := 3) (ret := (Option.some Jvm.ClassFile.FieldType.int)) (by decide) rfl ?_
  intro p e s m args below meth c s₁ B hml hv
  obtain ⟨rfl, hsz, hP, hK, hD0⟩ := hv
  have hx := B.exec
  have hb := B.bytes
  have hr := B.returns
  have hlocks := B.notSynchronized
  have hg : ∀ w ∈ gw, w.before _ s = true := fun w h => atoms_spec (ws := ws_D_cost) B.pre w (List.mem_cons_of_mem _ h)
  have hown : s.vm.findClass "TreeMatcherModel" = some m.cls := findClass_of_methodNamed B.named
  subst hsz
  have hD := hD0.self (sz := s.heap.size)
  have hA : ∀ q : Nat, s.heap.size ≤ q → va_A [(d, .inr (9, [.int t0, .ref kq, .int 0, .ref hq, .int 0, .int 0, (zd 6), (zd 7), (zd 8), (zd 9), (zd 10), (zd 11), .int 0, (zd 13), (zd 14), (zd 15), (zd 16), (zd 17), (zd 18), (zd 19), .int 0, (zd 21), (zd 22), (zd 23), (zd 24), (zd 25), (zd 26), (zd 27), (zd 28), (zd 29), (zd 30), (zd 31), .int 0, (zd 33), (zd 34), (zd 35), (zd 36), (zd 37), (zd 38), (zd 39), (zd 40), .int 0])), (kq, .inl (cK, 32, .inl fk)), (hq, .inl (cH, 12, .inl fh))] s.heap.size q := fun q h => Or.inr h
  generalize hAe : va_A [(d, .inr (9, [.int t0, .ref kq, .int 0, .ref hq, .int 0, .int 0, (zd 6), (zd 7), (zd 8), (zd 9), (zd 10), (zd 11), .int 0, (zd 13), (zd 14), (zd 15), (zd 16), (zd 17), (zd 18), (zd 19), .int 0, (zd 21), (zd 22), (zd 23), (zd 24), (zd 25), (zd 26), (zd 27), (zd 28), (zd 29), (zd 30), (zd 31), .int 0, (zd 33), (zd 34), (zd 35), (zd 36), (zd 37), (zd 38), (zd 39), (zd 40), .int 0])), (kq, .inl (cK, 32, .inl fk)), (hq, .inl (cH, 12, .inl fh))] s.heap.size = A at hD hA ⊢
  have hS : va_S A s.heap s.heap [] := va_S.rf
  have hl := lv_entry ([.ref d, .int n, .int k] : List Value) (n := 3) (Nat.le_of_ble_eq_true rfl)
  rw [lg_entry_eq]
  generalize (lg_sl ([.ref d, .int n, .int k] : List Value) ++ List.replicate (3 - (lg_sl ([.ref d, .int n, .int k] : List Value)).length) Slot.unset).toArray = ls at hl ⊢
  have hl : lv_has ls 3 [(0, .ref d), (1, .int n), (2, .int k)] := hl
  refine lv_aload_n hx hb d_D_cost_0 rfl (lv_at hl 0 rfl) ?_
  refine lv_iconst (v := 0) hx hb d_D_cost_1 (by decide) ?_
  refine va_put (D := (dC, dI)) (ci := 9) (v := .int 0) (ty := .int) (C := kR_D) (T := kT_D) (N := 42) hx hb hg kin_D kt_D kty_D knm_D hown hK hP hD hS 0 rfl rfl 0 (by decide) (hg _ tw_817) (fun _ h9 => h9) rfl (by decide +kernel) rfl rfl (Nat.le_of_ble_eq_true rfl) d_D_cost_2 (fun H_1 lo_2 hP hD hS => ?_)
  have hP : va_P (dC, dI) kcl [(d, .inr (9, [.int 0, .ref kq, .int 0, .ref hq, .int 0, .int 0, (zd 6), (zd 7), (zd 8), (zd 9), (zd 10), (zd 11), .int 0, (zd 13), (zd 14), (zd 15), (zd 16), (zd 17), (zd 18), (zd 19), .int 0, (zd 21), (zd 22), (zd 23), (zd 24), (zd 25), (zd 26), (zd 27), (zd 28), (zd 29), (zd 30), (zd 31), .int 0, (zd 33), (zd 34), (zd 35), (zd 36), (zd 37), (zd 38), (zd 39), (zd 40), .int 0])), (kq, .inl (cK, 32, .inl fk)), (hq, .inl (cH, 12, .inl fh))] H_1 := hP
  have hD : va_D A [(d, .inr (9, [.int 0, .ref kq, .int 0, .ref hq, .int 0, .int 0, (zd 6), (zd 7), (zd 8), (zd 9), (zd 10), (zd 11), .int 0, (zd 13), (zd 14), (zd 15), (zd 16), (zd 17), (zd 18), (zd 19), .int 0, (zd 21), (zd 22), (zd 23), (zd 24), (zd 25), (zd 26), (zd 27), (zd 28), (zd 29), (zd 30), (zd 31), .int 0, (zd 33), (zd 34), (zd 35), (zd 36), (zd 37), (zd 38), (zd 39), (zd 40), .int 0])), (kq, .inl (cK, 32, .inl fk)), (hq, .inl (cH, 12, .inl fh))] := hD
  refine lv_iload_n hx hb d_D_cost_5 rfl (lv_at hl 1 rfl) ?_
  refine lv_iconst (v := 0) hx hb d_D_cost_6 (by decide) ?_
  refine lv_aload_n hx hb d_D_cost_7 rfl (lv_at hl 0 rfl) ?_
  refine va_get (D := (dC, dI)) (ci := 9) (v := .int 0) (C := kR_D) (T := kT_D) (N := 42) hx hb hg kin_D hown hK hP 0 rfl rfl 12 (by decide) (hg _ tw_829) (fun _ h9 => h9) rfl d_D_cost_8 ?_
  refine lv_iconst (v := 1) hx hb d_D_cost_11 (by decide) ?_
  refine lv_isub hx hb d_D_cost_12 ?_
  have hPc := hP.sub (ws' := []) [] rfl
  have hKc := hK.sub (tys' := []) [] rfl
  refine va_calli (va_runS (As := [.int n, .int 0, .int (0 - 1)]) (rest := []) ⟨hx, hb, hml, hown, hg⟩ (c_D_within l dC dI H_1.size n 0 (0 - 1)) (va_cwS 3 hg (gw_giS cin_D_within tw_952 tw_953 tw_11) rfl rfl rfl (by decide +kernel) ⟨Nat.le_of_ble_eq_true rfl, Nat.le_of_ble_eq_true rfl⟩) ⟨fun a U g mk q => by obtain ⟨q0, q1, qP, qK⟩ := q; exact ⟨q0, q1, qP, va_K.moved (u := U) (U := U.calling g mk a) (Vm.Alike.refl U.vm) qK⟩, fun U hU hW => ⟨rfl, by rw [hU], by rw [hU]; exact hPc, va_K.moved hW.alike hKc⟩⟩ rfl rfl hl.1 rfl (lv_room (Nat.le_of_ble_eq_true rfl)) d_D_cost_13 ⟨Nat.le_of_ble_eq_true rfl, Nat.le_of_ble_eq_true rfl⟩) hS (fun q h1 h => (tx_pA h1 h).elim) (tx_pF hS hA) (fun r_k_3 u_k_3 t_k_3 H_4 l_k_3 ht hvm hw_k_3 hB hz1 hk1 hS => ?_)
  have hw_k_3 : (if 0 ≤ n ∧ n ≤ (0 - 1) then 1 else 0) = r_k_3 := Eq.symm hw_k_3
  subst hw_k_3
  have hP := tx_keep hP hk1
  refine lv_if_eq (tgt := 43) hx hb d_D_cost_16 (by decide) (fun c_5 => ?_) (fun c_5 => ?_)
  · refine lv_aload_n hx hb d_D_cost_43 rfl (lv_at hl 0 rfl) ?_
    refine lv_iconst (v := 1) hx hb d_D_cost_44 (by decide) ?_
    have hPc := hP.sub (ws' := [(d, .inr (9, [.int 0, .ref kq, .int 0, .ref hq, .int 0, .int 0, (zd 6), (zd 7), (zd 8), (zd 9), (zd 10), (zd 11), .int 0, (zd 13), (zd 14), (zd 15), (zd 16), (zd 17), (zd 18), (zd 19), .int 0, (zd 21), (zd 22), (zd 23), (zd 24), (zd 25), (zd 26), (zd 27), (zd 28), (zd 29), (zd 30), (zd 31), .int 0, (zd 33), (zd 34), (zd 35), (zd 36), (zd 37), (zd 38), (zd 39), (zd 40), .int 0]))]) [0] rfl
    have hKc := hK.sub (tys' := []) [] rfl
    have hDc := hD.sub (ws' := [(d, .inr (9, [.int 0, .ref kq, .int 0, .ref hq, .int 0, .int 0, (zd 6), (zd 7), (zd 8), (zd 9), (zd 10), (zd 11), .int 0, (zd 13), (zd 14), (zd 15), (zd 16), (zd 17), (zd 18), (zd 19), .int 0, (zd 21), (zd 22), (zd 23), (zd 24), (zd 25), (zd 26), (zd 27), (zd 28), (zd 29), (zd 30), (zd 31), .int 0, (zd 33), (zd 34), (zd 35), (zd 36), (zd 37), (zd 38), (zd 39), (zd 40), .int 0]))]) [0] (by decide) rfl
    have hFc := va_free (wc := [(d, .inr (9, [.int 0, .ref kq, .int 0, .ref hq, .int 0, .int 0, (zd 6), (zd 7), (zd 8), (zd 9), (zd 10), (zd 11), .int 0, (zd 13), (zd 14), (zd 15), (zd 16), (zd 17), (zd 18), (zd 19), .int 0, (zd 21), (zd 22), (zd 23), (zd 24), (zd 25), (zd 26), (zd 27), (zd 28), (zd 29), (zd 30), (zd 31), .int 0, (zd 33), (zd 34), (zd 35), (zd 36), (zd 37), (zd 38), (zd 39), (zd 40), .int 0]))]) hD hS hA [0] rfl
    refine va_calli (va_runV (As := [.int 1]) (rest := []) ⟨hx, hb, hml, hown, hg⟩ (c_D_fail l dC dI H_4.size d (fun i => if i = 41 then .int 0 else if i = 32 then .int 0 else if i = 20 then .int 0 else if i = 12 then .int 0 else if i = 5 then .int 0 else if i = 4 then .int 0 else if i = 3 then .ref hq else if i = 2 then .int 0 else if i = 1 then .ref kq else zd i) 0 1) (cwV 1 hg (gw_giV cin_D_fail tw_955 tw_957 sw_D_fail tw_11) rfl rfl rfl (by decide +kernel) ⟨Nat.le_of_ble_eq_true rfl, Nat.le_of_ble_eq_true rfl⟩) ⟨fun a U g mk q => by obtain ⟨q0, q1, qP, qK, qD⟩ := q; exact ⟨q0, q1, qP, va_K.moved (u := U) (U := U.calling g mk a) (Vm.Alike.refl U.vm) qK, qD⟩, va_recv hKc hPc (ci := 9) (q0 := 0) rfl rfl, fun U hU hW => ⟨rfl, by rw [hU], by rw [hU]; exact hPc, va_K.moved hW.alike hKc, hDc.weaken (fun _ _ _ _ => trivial)⟩⟩ rfl rfl hl.1 rfl (lv_room (Nat.le_of_ble_eq_true rfl)) d_D_cost_45 ⟨Nat.le_of_ble_eq_true rfl, Nat.le_of_ble_eq_true rfl⟩) hS (fun q _ h => hFc q h) hFc (fun r_k_6 u_k_6 t_k_6 H_7 l_k_6 ht hvm hw_k_6 hB hz1 hk1 hS => ?_)
    obtain ⟨hr_k_6, hu_k_6⟩ := hw_k_6
    subst hr_k_6
    subst hu_k_6
    obtain ⟨zd_k_6, hP1, hK1, hD1⟩ := hB
    rw [ht] at hP1
    have hK1 := va_K.moved hvm.symm hK1
    obtain ⟨hP, hD⟩ := va_join (wr := [(kq, .inl (cK, 32, .inl fk)), (hq, .inl (cH, 12, .inl fh))]) (w1 := [(d, .inr (9, [.int 1, (zd_k_6 1), (zd_k_6 2), (zd_k_6 3), (zd_k_6 4), (zd_k_6 5), (zd_k_6 6), (zd_k_6 7), (zd_k_6 8), (zd_k_6 9), (zd_k_6 10), (zd_k_6 11), (zd_k_6 12), (zd_k_6 13), (zd_k_6 14), (zd_k_6 15), (zd_k_6 16), (zd_k_6 17), (zd_k_6 18), (zd_k_6 19), (zd_k_6 20), (zd_k_6 21), (zd_k_6 22), (zd_k_6 23), (zd_k_6 24), (zd_k_6 25), (zd_k_6 26), (zd_k_6 27), (zd_k_6 28), (zd_k_6 29), (zd_k_6 30), (zd_k_6 31), (zd_k_6 32), (zd_k_6 33), (zd_k_6 34), (zd_k_6 35), (zd_k_6 36), (zd_k_6 37), (zd_k_6 38), (zd_k_6 39), (zd_k_6 40), (zd_k_6 41)]))]) hP hD [0] [1, 2] rfl rfl (by decide) (by decide) hk1 hFc hP1 hD1
    have hK := (hK.sub (tys' := [(cK, .int), (cH, .int)]) [0, 1] rfl).app hK1
    have hP : va_P (dC, dI) kcl [(kq, .inl (cK, 32, .inl fk)), (hq, .inl (cH, 12, .inl fh)), (d, .inr (9, [.int 1, (zd_k_6 1), (zd_k_6 2), (zd_k_6 3), (zd_k_6 4), (zd_k_6 5), (zd_k_6 6), (zd_k_6 7), (zd_k_6 8), (zd_k_6 9), (zd_k_6 10), (zd_k_6 11), (zd_k_6 12), (zd_k_6 13), (zd_k_6 14), (zd_k_6 15), (zd_k_6 16), (zd_k_6 17), (zd_k_6 18), (zd_k_6 19), (zd_k_6 20), (zd_k_6 21), (zd_k_6 22), (zd_k_6 23), (zd_k_6 24), (zd_k_6 25), (zd_k_6 26), (zd_k_6 27), (zd_k_6 28), (zd_k_6 29), (zd_k_6 30), (zd_k_6 31), (zd_k_6 32), (zd_k_6 33), (zd_k_6 34), (zd_k_6 35), (zd_k_6 36), (zd_k_6 37), (zd_k_6 38), (zd_k_6 39), (zd_k_6 40), (zd_k_6 41)]))] H_7 := hP
    have hD : va_D A [(kq, .inl (cK, 32, .inl fk)), (hq, .inl (cH, 12, .inl fh)), (d, .inr (9, [.int 1, (zd_k_6 1), (zd_k_6 2), (zd_k_6 3), (zd_k_6 4), (zd_k_6 5), (zd_k_6 6), (zd_k_6 7), (zd_k_6 8), (zd_k_6 9), (zd_k_6 10), (zd_k_6 11), (zd_k_6 12), (zd_k_6 13), (zd_k_6 14), (zd_k_6 15), (zd_k_6 16), (zd_k_6 17), (zd_k_6 18), (zd_k_6 19), (zd_k_6 20), (zd_k_6 21), (zd_k_6 22), (zd_k_6 23), (zd_k_6 24), (zd_k_6 25), (zd_k_6 26), (zd_k_6 27), (zd_k_6 28), (zd_k_6 29), (zd_k_6 30), (zd_k_6 31), (zd_k_6 32), (zd_k_6 33), (zd_k_6 34), (zd_k_6 35), (zd_k_6 36), (zd_k_6 37), (zd_k_6 38), (zd_k_6 39), (zd_k_6 40), (zd_k_6 41)]))] := hD
    have hK : va_K (dC, dI) kcl [(cK, .int), (cH, .int)] s := hK
    have hP9 := hP.sub (ws' := [(d, .inr (9, [.int 1, (zd_k_6 1), (zd_k_6 2), (zd_k_6 3), (zd_k_6 4), (zd_k_6 5), (zd_k_6 6), (zd_k_6 7), (zd_k_6 8), (zd_k_6 9), (zd_k_6 10), (zd_k_6 11), (zd_k_6 12), (zd_k_6 13), (zd_k_6 14), (zd_k_6 15), (zd_k_6 16), (zd_k_6 17), (zd_k_6 18), (zd_k_6 19), (zd_k_6 20), (zd_k_6 21), (zd_k_6 22), (zd_k_6 23), (zd_k_6 24), (zd_k_6 25), (zd_k_6 26), (zd_k_6 27), (zd_k_6 28), (zd_k_6 29), (zd_k_6 30), (zd_k_6 31), (zd_k_6 32), (zd_k_6 33), (zd_k_6 34), (zd_k_6 35), (zd_k_6 36), (zd_k_6 37), (zd_k_6 38), (zd_k_6 39), (zd_k_6 40), (zd_k_6 41)]))]) [2] rfl
    have hD9 := hD.sub (ws' := [(d, .inr (9, [.int 1, (zd_k_6 1), (zd_k_6 2), (zd_k_6 3), (zd_k_6 4), (zd_k_6 5), (zd_k_6 6), (zd_k_6 7), (zd_k_6 8), (zd_k_6 9), (zd_k_6 10), (zd_k_6 11), (zd_k_6 12), (zd_k_6 13), (zd_k_6 14), (zd_k_6 15), (zd_k_6 16), (zd_k_6 17), (zd_k_6 18), (zd_k_6 19), (zd_k_6 20), (zd_k_6 21), (zd_k_6 22), (zd_k_6 23), (zd_k_6 24), (zd_k_6 25), (zd_k_6 26), (zd_k_6 27), (zd_k_6 28), (zd_k_6 29), (zd_k_6 30), (zd_k_6 31), (zd_k_6 32), (zd_k_6 33), (zd_k_6 34), (zd_k_6 35), (zd_k_6 36), (zd_k_6 37), (zd_k_6 38), (zd_k_6 39), (zd_k_6 40), (zd_k_6 41)]))]) [2] (by decide) rfl
    have hK9 := hK.sub (tys' := []) [] rfl
    exact W.iret (v := 0) hx hb hr (fun t ht hW => ⟨⟨0, 1, rfl, rfl, ⟨(fun i => List.getD [Value.int (1 : Int32), (zd_k_6 1), (zd_k_6 2), (zd_k_6 3), (zd_k_6 4), (zd_k_6 5), (zd_k_6 6), (zd_k_6 7), (zd_k_6 8), (zd_k_6 9), (zd_k_6 10), (zd_k_6 11), (zd_k_6 12), (zd_k_6 13), (zd_k_6 14), (zd_k_6 15), (zd_k_6 16), (zd_k_6 17), (zd_k_6 18), (zd_k_6 19), (zd_k_6 20), (zd_k_6 21), (zd_k_6 22), (zd_k_6 23), (zd_k_6 24), (zd_k_6 25), (zd_k_6 26), (zd_k_6 27), (zd_k_6 28), (zd_k_6 29), (zd_k_6 30), (zd_k_6 31), (zd_k_6 32), (zd_k_6 33), (zd_k_6 34), (zd_k_6 35), (zd_k_6 36), (zd_k_6 37), (zd_k_6 38), (zd_k_6 39), (zd_k_6 40), (zd_k_6 41)] i Value.null), by rw [ht]; exact hP9, va_K.moved hW.alike hK9, hD9⟩⟩, hS.F ht⟩) hS.2.2 d_D_cost_48
  · exact (tx_none2 (tx_if1 c_5)).elim
set_option maxHeartbeats 4000000 in
set_option maxRecDepth 100000 in
theorem c_D_ruleAt (l : Launch) (dC : Nat → ClassId) (dI : Nat → Nat → Nat) (sz : Nat) (d kq hq : Nat) (cK cH : ClassId) (zd : Nat → Value) (fk fh : Nat → Int32) (hfk : ∀ j, j < 32 → fk j = -1) (t0 : Int32) (n k : Int32) : Met l y_D_ruleAt ws_D_ruleAt ({ frames := 1, cells := 0, slots := 0, locals := 22 }) (va_Pc [.ref d, .int n, .int k] (fun U => U.heap.size = sz ∧ va_P (dC, dI) kcl [(d, .inr (9, [.int t0, .ref kq, .int 0, .ref hq, .int 0, .int 0, (zd 6), (zd 7), (zd 8), (zd 9), (zd 10), (zd 11), .int 0, (zd 13), (zd 14), (zd 15), (zd 16), (zd 17), (zd 18), (zd 19), .int 0, (zd 21), (zd 22), (zd 23), (zd 24), (zd 25), (zd 26), (zd 27), (zd 28), (zd 29), (zd 30), (zd 31), .int 0, (zd 33), (zd 34), (zd 35), (zd 36), (zd 37), (zd 38), (zd 39), (zd 40), .int 0])), (kq, .inl (cK, 32, .inl fk)), (hq, .inl (cH, 12, .inl fh))] U.heap ∧ va_K (dC, dI) kcl [(cK, .int), (cH, .int)] U ∧ va_D (fun _ => True) [(d, .inr (9, [.int t0, .ref kq, .int 0, .ref hq, .int 0, .int 0, (zd 6), (zd 7), (zd 8), (zd 9), (zd 10), (zd 11), .int 0, (zd 13), (zd 14), (zd 15), (zd 16), (zd 17), (zd 18), (zd 19), .int 0, (zd 21), (zd 22), (zd 23), (zd 24), (zd 25), (zd 26), (zd 27), (zd 28), (zd 29), (zd 30), (zd 31), .int 0, (zd 33), (zd 34), (zd 35), (zd 36), (zd 37), (zd 38), (zd 39), (zd 40), .int 0])), (kq, .inl (cK, 32, .inl fk)), (hq, .inl (cH, 12, .inl fh))])) (va_Qi (fun (_ th : Int32) => th = 1) (fun (th : Int32) (t : State) => ∃ zd2 : Nat → Value, va_P (dC, dI) kcl [(d, .inr (9, [.int th, (zd2 1), (zd2 2), (zd2 3), (zd2 4), (zd2 5), (zd2 6), (zd2 7), (zd2 8), (zd2 9), (zd2 10), (zd2 11), (zd2 12), (zd2 13), (zd2 14), (zd2 15), (zd2 16), (zd2 17), (zd2 18), (zd2 19), (zd2 20), (zd2 21), (zd2 22), (zd2 23), (zd2 24), (zd2 25), (zd2 26), (zd2 27), (zd2 28), (zd2 29), (zd2 30), (zd2 31), (zd2 32), (zd2 33), (zd2 34), (zd2 35), (zd2 36), (zd2 37), (zd2 38), (zd2 39), (zd2 40), (zd2 41)]))] t.heap ∧ va_K (dC, dI) kcl [] t ∧ va_D (va_A [(d, .inr (9, [.int t0, .ref kq, .int 0, .ref hq, .int 0, .int 0, (zd 6), (zd 7), (zd 8), (zd 9), (zd 10), (zd 11), .int 0, (zd 13), (zd 14), (zd 15), (zd 16), (zd 17), (zd 18), (zd 19), .int 0, (zd 21), (zd 22), (zd 23), (zd 24), (zd 25), (zd 26), (zd 27), (zd 28), (zd 29), (zd 30), (zd 31), .int 0, (zd 33), (zd 34), (zd 35), (zd 36), (zd 37), (zd 38), (zd 39), (zd 40), .int 0])), (kq, .inl (cK, 32, .inl fk)), (hq, .inl (cH, 12, .inl fh))] sz) [(d, .inr (9, [.int th, (zd2 1), (zd2 2), (zd2 3), (zd2 4), (zd2 5), (zd2 6), (zd2 7), (zd2 8), (zd2 9), (zd2 10), (zd2 11), (zd2 12), (zd2 13), (zd2 14), (zd2 15), (zd2 16), (zd2 17), (zd2 18), (zd2 19), (zd2 20), (zd2 21), (zd2 22), (zd2 23), (zd2 24), (zd2 25), (zd2 26), (zd2 27), (zd2 28), (zd2 29), (zd2 30), (zd2 31), (zd2 32), (zd2 33), (zd2 34), (zd2 35), (zd2 36), (zd2 37), (zd2 38), (zd2 39), (zd2 40), (zd2 41)]))]) (va_A [(d, .inr (9, [.int t0, .ref kq, .int 0, .ref hq, .int 0, .int 0, (zd 6), (zd 7), (zd 8), (zd 9), (zd 10), (zd 11), .int 0, (zd 13), (zd 14), (zd 15), (zd 16), (zd 17), (zd 18), (zd 19), .int 0, (zd 21), (zd 22), (zd 23), (zd 24), (zd 25), (zd 26), (zd 27), (zd 28), (zd 29), (zd 30), (zd 31), .int 0, (zd 33), (zd 34), (zd 35), (zd 36), (zd 37), (zd 38), (zd 39), (zd 40), .int 0])), (kq, .inl (cK, 32, .inl fk)), (hq, .inl (cH, 12, .inl fh))] sz)) 0 0 (va_A [(d, .inr (9, [.int t0, .ref kq, .int 0, .ref hq, .int 0, .int 0, (zd 6), (zd 7), (zd 8), (zd 9), (zd 10), (zd 11), .int 0, (zd 13), (zd 14), (zd 15), (zd 16), (zd 17), (zd 18), (zd 19), .int 0, (zd 21), (zd 22), (zd 23), (zd 24), (zd 25), (zd 26), (zd 27), (zd 28), (zd 29), (zd 30), (zd 31), .int 0, (zd 33), (zd 34), (zd 35), (zd 36), (zd 37), (zd 38), (zd 39), (zd 40), .int 0])), (kq, .inl (cK, 32, .inl fk)), (hq, .inl (cH, 12, .inl fh))] sz) := by
  refine Met.ofW (cc := b_D_ruleAt) (maxL := 3) (ret := (Option.some Jvm.ClassFile.FieldType.int)) (by decide) rfl ?_
  intro p e s m args below meth c s₁ B hml hv
  obtain ⟨rfl, hsz, hP, hK, hD0⟩ := hv
  have hx := B.exec
  have hb := B.bytes
  have hr := B.returns
  have hlocks := B.notSynchronized
  have hg : ∀ w ∈ gw, w.before _ s = true := fun w h => atoms_spec (ws := ws_D_ruleAt) B.pre w (List.mem_cons_of_mem _ h)
  have hown : s.vm.findClass "TreeMatcherModel" = some m.cls := findClass_of_methodNamed B.named
  subst hsz
  have hD := hD0.self (sz := s.heap.size)
  have hA : ∀ q : Nat, s.heap.size ≤ q → va_A [(d, .inr (9, [.int t0, .ref kq, .int 0, .ref hq, .int 0, .int 0, (zd 6), (zd 7), (zd 8), (zd 9), (zd 10), (zd 11), .int 0, (zd 13), (zd 14), (zd 15), (zd 16), (zd 17), (zd 18), (zd 19), .int 0, (zd 21), (zd 22), (zd 23), (zd 24), (zd 25), (zd 26), (zd 27), (zd 28), (zd 29), (zd 30), (zd 31), .int 0, (zd 33), (zd 34), (zd 35), (zd 36), (zd 37), (zd 38), (zd 39), (zd 40), .int 0])), (kq, .inl (cK, 32, .inl fk)), (hq, .inl (cH, 12, .inl fh))] s.heap.size q := fun q h => Or.inr h
  generalize hAe : va_A [(d, .inr (9, [.int t0, .ref kq, .int 0, .ref hq, .int 0, .int 0, (zd 6), (zd 7), (zd 8), (zd 9), (zd 10), (zd 11), .int 0, (zd 13), (zd 14), (zd 15), (zd 16), (zd 17), (zd 18), (zd 19), .int 0, (zd 21), (zd 22), (zd 23), (zd 24), (zd 25), (zd 26), (zd 27), (zd 28), (zd 29), (zd 30), (zd 31), .int 0, (zd 33), (zd 34), (zd 35), (zd 36), (zd 37), (zd 38), (zd 39), (zd 40), .int 0])), (kq, .inl (cK, 32, .inl fk)), (hq, .inl (cH, 12, .inl fh))] s.heap.size = A at hD hA ⊢
  have hS : va_S A s.heap s.heap [] := va_S.rf
  have hl := lv_entry ([.ref d, .int n, .int k] : List Value) (n := 3) (Nat.le_of_ble_eq_true rfl)
  rw [lg_entry_eq]
  generalize (lg_sl ([.ref d, .int n, .int k] : List Value) ++ List.replicate (3 - (lg_sl ([.ref d, .int n, .int k] : List Value)).length) Slot.unset).toArray = ls at hl ⊢
  have hl : lv_has ls 3 [(0, .ref d), (1, .int n), (2, .int k)] := hl
  refine lv_aload_n hx hb d_D_ruleAt_0 rfl (lv_at hl 0 rfl) ?_
  refine lv_iconst (v := 0) hx hb d_D_ruleAt_1 (by decide) ?_
  refine va_put (D := (dC, dI)) (ci := 9) (v := .int 0) (ty := .int) (C := kR_D) (T := kT_D) (N := 42) hx hb hg kin_D kt_D kty_D knm_D hown hK hP hD hS 0 rfl rfl 0 (by decide) (hg _ tw_817) (fun _ h9 => h9) rfl (by decide +kernel) rfl rfl (Nat.le_of_ble_eq_true rfl) d_D_ruleAt_2 (fun H_1 lo_2 hP hD hS => ?_)
  have hP : va_P (dC, dI) kcl [(d, .inr (9, [.int 0, .ref kq, .int 0, .ref hq, .int 0, .int 0, (zd 6), (zd 7), (zd 8), (zd 9), (zd 10), (zd 11), .int 0, (zd 13), (zd 14), (zd 15), (zd 16), (zd 17), (zd 18), (zd 19), .int 0, (zd 21), (zd 22), (zd 23), (zd 24), (zd 25), (zd 26), (zd 27), (zd 28), (zd 29), (zd 30), (zd 31), .int 0, (zd 33), (zd 34), (zd 35), (zd 36), (zd 37), (zd 38), (zd 39), (zd 40), .int 0])), (kq, .inl (cK, 32, .inl fk)), (hq, .inl (cH, 12, .inl fh))] H_1 := hP
  have hD : va_D A [(d, .inr (9, [.int 0, .ref kq, .int 0, .ref hq, .int 0, .int 0, (zd 6), (zd 7), (zd 8), (zd 9), (zd 10), (zd 11), .int 0, (zd 13), (zd 14), (zd 15), (zd 16), (zd 17), (zd 18), (zd 19), .int 0, (zd 21), (zd 22), (zd 23), (zd 24), (zd 25), (zd 26), (zd 27), (zd 28), (zd 29), (zd 30), (zd 31), .int 0, (zd 33), (zd 34), (zd 35), (zd 36), (zd 37), (zd 38), (zd 39), (zd 40), .int 0])), (kq, .inl (cK, 32, .inl fk)), (hq, .inl (cH, 12, .inl fh))] := hD
  refine lv_iload_n hx hb d_D_ruleAt_5 rfl (lv_at hl 1 rfl) ?_
  refine lv_iconst (v := 0) hx hb d_D_ruleAt_6 (by decide) ?_
  refine lv_aload_n hx hb d_D_ruleAt_7 rfl (lv_at hl 0 rfl) ?_
  refine va_get (D := (dC, dI)) (ci := 9) (v := .int 0) (C := kR_D) (T := kT_D) (N := 42) hx hb hg kin_D hown hK hP 0 rfl rfl 12 (by decide) (hg _ tw_829) (fun _ h9 => h9) rfl d_D_ruleAt_8 ?_
  refine lv_iconst (v := 1) hx hb d_D_ruleAt_11 (by decide) ?_
  refine lv_isub hx hb d_D_ruleAt_12 ?_
  have hPc := hP.sub (ws' := []) [] rfl
  have hKc := hK.sub (tys' := []) [] rfl
  refine va_calli (va_runS (As := [.int n, .int 0, .int (0 - 1)]) (rest := []) ⟨hx, hb, hml, hown, hg⟩ (c_D_within l dC dI H_1.size n 0 (0 - 1)) (va_cwS 3 hg (gw_giS cin_D_within tw_952 tw_953 tw_11) rfl rfl rfl (by decide +kernel) ⟨Nat.le_of_ble_eq_true rfl, Nat.le_of_ble_eq_true rfl⟩) ⟨fun a U g mk q => by obtain ⟨q0, q1, qP, qK⟩ := q; exact ⟨q0, q1, qP, va_K.moved (u := U) (U := U.calling g mk a) (Vm.Alike.refl U.vm) qK⟩, fun U hU hW => ⟨rfl, by rw [hU], by rw [hU]; exact hPc, va_K.moved hW.alike hKc⟩⟩ rfl rfl hl.1 rfl (lv_room (Nat.le_of_ble_eq_true rfl)) d_D_ruleAt_13 ⟨Nat.le_of_ble_eq_true rfl, Nat.le_of_ble_eq_true rfl⟩) hS (fun q h1 h => (tx_pA h1 h).elim) (tx_pF hS hA) (fun r_k_3 u_k_3 t_k_3 H_4 l_k_3 ht hvm hw_k_3 hB hz1 hk1 hS => ?_)
  have hw_k_3 : (if 0 ≤ n ∧ n ≤ (0 - 1) then 1 else 0) = r_k_3 := Eq.symm hw_k_3
  subst hw_k_3
  have hP := tx_keep hP hk1
  refine lv_if_eq (tgt := 43) hx hb d_D_ruleAt_16 (by decide) (fun c_5 => ?_) (fun c_5 => ?_)
  · refine lv_aload_n hx hb d_D_ruleAt_43 rfl (lv_at hl 0 rfl) ?_
    refine lv_iconst (v := 1) hx hb d_D_ruleAt_44 (by decide) ?_
    have hPc := hP.sub (ws' := [(d, .inr (9, [.int 0, .ref kq, .int 0, .ref hq, .int 0, .int 0, (zd 6), (zd 7), (zd 8), (zd 9), (zd 10), (zd 11), .int 0, (zd 13), (zd 14), (zd 15), (zd 16), (zd 17), (zd 18), (zd 19), .int 0, (zd 21), (zd 22), (zd 23), (zd 24), (zd 25), (zd 26), (zd 27), (zd 28), (zd 29), (zd 30), (zd 31), .int 0, (zd 33), (zd 34), (zd 35), (zd 36), (zd 37), (zd 38), (zd 39), (zd 40), .int 0]))]) [0] rfl
    have hKc := hK.sub (tys' := []) [] rfl
    have hDc := hD.sub (ws' := [(d, .inr (9, [.int 0, .ref kq, .int 0, .ref hq, .int 0, .int 0, (zd 6), (zd 7), (zd 8), (zd 9), (zd 10), (zd 11), .int 0, (zd 13), (zd 14), (zd 15), (zd 16), (zd 17), (zd 18), (zd 19), .int 0, (zd 21), (zd 22), (zd 23), (zd 24), (zd 25), (zd 26), (zd 27), (zd 28), (zd 29), (zd 30), (zd 31), .int 0, (zd 33), (zd 34), (zd 35), (zd 36), (zd 37), (zd 38), (zd 39), (zd 40), .int 0]))]) [0] (by decide) rfl
    have hFc := va_free (wc := [(d, .inr (9, [.int 0, .ref kq, .int 0, .ref hq, .int 0, .int 0, (zd 6), (zd 7), (zd 8), (zd 9), (zd 10), (zd 11), .int 0, (zd 13), (zd 14), (zd 15), (zd 16), (zd 17), (zd 18), (zd 19), .int 0, (zd 21), (zd 22), (zd 23), (zd 24), (zd 25), (zd 26), (zd 27), (zd 28), (zd 29), (zd 30), (zd 31), .int 0, (zd 33), (zd 34), (zd 35), (zd 36), (zd 37), (zd 38), (zd 39), (zd 40), .int 0]))]) hD hS hA [0] rfl
    refine va_calli (va_runV (As := [.int 1]) (rest := []) ⟨hx, hb, hml, hown, hg⟩ (c_D_fail l dC dI H_4.size d (fun i => if i = 41 then .int 0 else if i = 32 then .int 0 else if i = 20 then .int 0 else if i = 12 then .int 0 else if i = 5 then .int 0 else if i = 4 then .int 0 else if i = 3 then .ref hq else if i = 2 then .int 0 else if i = 1 then .ref kq else zd i) 0 1) (cwV 1 hg (gw_giV cin_D_fail tw_955 tw_957 sw_D_fail tw_11) rfl rfl rfl (by decide +kernel) ⟨Nat.le_of_ble_eq_true rfl, Nat.le_of_ble_eq_true rfl⟩) ⟨fun a U g mk q => by obtain ⟨q0, q1, qP, qK, qD⟩ := q; exact ⟨q0, q1, qP, va_K.moved (u := U) (U := U.calling g mk a) (Vm.Alike.refl U.vm) qK, qD⟩, va_recv hKc hPc (ci := 9) (q0 := 0) rfl rfl, fun U hU hW => ⟨rfl, by rw [hU], by rw [hU]; exact hPc, va_K.moved hW.alike hKc, hDc.weaken (fun _ _ _ _ => trivial)⟩⟩ rfl rfl hl.1 rfl (lv_room (Nat.le_of_ble_eq_true rfl)) d_D_ruleAt_45 ⟨Nat.le_of_ble_eq_true rfl, Nat.le_of_ble_eq_true rfl⟩) hS (fun q _ h => hFc q h) hFc (fun r_k_6 u_k_6 t_k_6 H_7 l_k_6 ht hvm hw_k_6 hB hz1 hk1 hS => ?_)
    obtain ⟨hr_k_6, hu_k_6⟩ := hw_k_6
    subst hr_k_6
    subst hu_k_6
    obtain ⟨zd_k_6, hP1, hK1, hD1⟩ := hB
    rw [ht] at hP1
    have hK1 := va_K.moved hvm.symm hK1
    obtain ⟨hP, hD⟩ := va_join (wr := [(kq, .inl (cK, 32, .inl fk)), (hq, .inl (cH, 12, .inl fh))]) (w1 := [(d, .inr (9, [.int 1, (zd_k_6 1), (zd_k_6 2), (zd_k_6 3), (zd_k_6 4), (zd_k_6 5), (zd_k_6 6), (zd_k_6 7), (zd_k_6 8), (zd_k_6 9), (zd_k_6 10), (zd_k_6 11), (zd_k_6 12), (zd_k_6 13), (zd_k_6 14), (zd_k_6 15), (zd_k_6 16), (zd_k_6 17), (zd_k_6 18), (zd_k_6 19), (zd_k_6 20), (zd_k_6 21), (zd_k_6 22), (zd_k_6 23), (zd_k_6 24), (zd_k_6 25), (zd_k_6 26), (zd_k_6 27), (zd_k_6 28), (zd_k_6 29), (zd_k_6 30), (zd_k_6 31), (zd_k_6 32), (zd_k_6 33), (zd_k_6 34), (zd_k_6 35), (zd_k_6 36), (zd_k_6 37), (zd_k_6 38), (zd_k_6 39), (zd_k_6 40), (zd_k_6 41)]))]) hP hD [0] [1, 2] rfl rfl (by decide) (by decide) hk1 hFc hP1 hD1
    have hK := (hK.sub (tys' := [(cK, .int), (cH, .int)]) [0, 1] rfl).app hK1
    have hP : va_P (dC, dI) kcl [(kq, .inl (cK, 32, .inl fk)), (hq, .inl (cH, 12, .inl fh)), (d, .inr (9, [.int 1, (zd_k_6 1), (zd_k_6 2), (zd_k_6 3), (zd_k_6 4), (zd_k_6 5), (zd_k_6 6), (zd_k_6 7), (zd_k_6 8), (zd_k_6 9), (zd_k_6 10), (zd_k_6 11), (zd_k_6 12), (zd_k_6 13), (zd_k_6 14), (zd_k_6 15), (zd_k_6 16), (zd_k_6 17), (zd_k_6 18), (zd_k_6 19), (zd_k_6 20), (zd_k_6 21), (zd_k_6 22), (zd_k_6 23), (zd_k_6 24), (zd_k_6 25), (zd_k_6 26), (zd_k_6 27), (zd_k_6 28), (zd_k_6 29), (zd_k_6 30), (zd_k_6 31), (zd_k_6 32), (zd_k_6 33), (zd_k_6 34), (zd_k_6 35), (zd_k_6 36), (zd_k_6 37), (zd_k_6 38), (zd_k_6 39), (zd_k_6 40), (zd_k_6 41)]))] H_7 := hP
    have hD : va_D A [(kq, .inl (cK, 32, .inl fk)), (hq, .inl (cH, 12, .inl fh)), (d, .inr (9, [.int 1, (zd_k_6 1), (zd_k_6 2), (zd_k_6 3), (zd_k_6 4), (zd_k_6 5), (zd_k_6 6), (zd_k_6 7), (zd_k_6 8), (zd_k_6 9), (zd_k_6 10), (zd_k_6 11), (zd_k_6 12), (zd_k_6 13), (zd_k_6 14), (zd_k_6 15), (zd_k_6 16), (zd_k_6 17), (zd_k_6 18), (zd_k_6 19), (zd_k_6 20), (zd_k_6 21), (zd_k_6 22), (zd_k_6 23), (zd_k_6 24), (zd_k_6 25), (zd_k_6 26), (zd_k_6 27), (zd_k_6 28), (zd_k_6 29), (zd_k_6 30), (zd_k_6 31), (zd_k_6 32), (zd_k_6 33), (zd_k_6 34), (zd_k_6 35), (zd_k_6 36), (zd_k_6 37), (zd_k_6 38), (zd_k_6 39), (zd_k_6 40), (zd_k_6 41)]))] := hD
    have hK : va_K (dC, dI) kcl [(cK, .int), (cH, .int)] s := hK
    have hP9 := hP.sub (ws' := [(d, .inr (9, [.int 1, (zd_k_6 1), (zd_k_6 2), (zd_k_6 3), (zd_k_6 4), (zd_k_6 5), (zd_k_6 6), (zd_k_6 7), (zd_k_6 8), (zd_k_6 9), (zd_k_6 10), (zd_k_6 11), (zd_k_6 12), (zd_k_6 13), (zd_k_6 14), (zd_k_6 15), (zd_k_6 16), (zd_k_6 17), (zd_k_6 18), (zd_k_6 19), (zd_k_6 20), (zd_k_6 21), (zd_k_6 22), (zd_k_6 23), (zd_k_6 24), (zd_k_6 25), (zd_k_6 26), (zd_k_6 27), (zd_k_6 28), (zd_k_6 29), (zd_k_6 30), (zd_k_6 31), (zd_k_6 32), (zd_k_6 33), (zd_k_6 34), (zd_k_6 35), (zd_k_6 36), (zd_k_6 37), (zd_k_6 38), (zd_k_6 39), (zd_k_6 40), (zd_k_6 41)]))]) [2] rfl
    have hD9 := hD.sub (ws' := [(d, .inr (9, [.int 1, (zd_k_6 1), (zd_k_6 2), (zd_k_6 3), (zd_k_6 4), (zd_k_6 5), (zd_k_6 6), (zd_k_6 7), (zd_k_6 8), (zd_k_6 9), (zd_k_6 10), (zd_k_6 11), (zd_k_6 12), (zd_k_6 13), (zd_k_6 14), (zd_k_6 15), (zd_k_6 16), (zd_k_6 17), (zd_k_6 18), (zd_k_6 19), (zd_k_6 20), (zd_k_6 21), (zd_k_6 22), (zd_k_6 23), (zd_k_6 24), (zd_k_6 25), (zd_k_6 26), (zd_k_6 27), (zd_k_6 28), (zd_k_6 29), (zd_k_6 30), (zd_k_6 31), (zd_k_6 32), (zd_k_6 33), (zd_k_6 34), (zd_k_6 35), (zd_k_6 36), (zd_k_6 37), (zd_k_6 38), (zd_k_6 39), (zd_k_6 40), (zd_k_6 41)]))]) [2] (by decide) rfl
    have hK9 := hK.sub (tys' := []) [] rfl
    exact W.iret (v := 0) hx hb hr (fun t ht hW => ⟨⟨0, 1, rfl, rfl, ⟨(fun i => List.getD [Value.int (1 : Int32), (zd_k_6 1), (zd_k_6 2), (zd_k_6 3), (zd_k_6 4), (zd_k_6 5), (zd_k_6 6), (zd_k_6 7), (zd_k_6 8), (zd_k_6 9), (zd_k_6 10), (zd_k_6 11), (zd_k_6 12), (zd_k_6 13), (zd_k_6 14), (zd_k_6 15), (zd_k_6 16), (zd_k_6 17), (zd_k_6 18), (zd_k_6 19), (zd_k_6 20), (zd_k_6 21), (zd_k_6 22), (zd_k_6 23), (zd_k_6 24), (zd_k_6 25), (zd_k_6 26), (zd_k_6 27), (zd_k_6 28), (zd_k_6 29), (zd_k_6 30), (zd_k_6 31), (zd_k_6 32), (zd_k_6 33), (zd_k_6 34), (zd_k_6 35), (zd_k_6 36), (zd_k_6 37), (zd_k_6 38), (zd_k_6 39), (zd_k_6 40), (zd_k_6 41)] i Value.null), by rw [ht]; exact hP9, va_K.moved hW.alike hK9, hD9⟩⟩, hS.F ht⟩) hS.2.2 d_D_ruleAt_48
  · exact (tx_none2 (tx_if1 c_5)).elim
set_option maxHeartbeats 4000000 in
set_option maxRecDepth 100000 in
theorem c_D_cover (l : Launch) (dC : Nat → ClassId) (dI : Nat → Nat → Nat) (sz : Nat) (d kq hq : Nat) (cK cH : ClassId) (zd : Nat → Value) (fk fh : Nat → Int32) (hfk : ∀ j, j < 32 → fk j = -1) (t0 : Int32) (n k : Int32) : Met l y_D_cover ws_D_cover ({ frames := 1, cells := 0, slots := 0, locals := 22 }) (va_Pc [.ref d, .int n, .int k] (fun U => U.heap.size = sz ∧ va_P (dC, dI) kcl [(d, .inr (9, [.int t0, .ref kq, .int 0, .ref hq, .int 0, .int 0, (zd 6), (zd 7), (zd 8), (zd 9), (zd 10), (zd 11), .int 0, (zd 13), (zd 14), (zd 15), (zd 16), (zd 17), (zd 18), (zd 19), .int 0, (zd 21), (zd 22), (zd 23), (zd 24), (zd 25), (zd 26), (zd 27), (zd 28), (zd 29), (zd 30), (zd 31), .int 0, (zd 33), (zd 34), (zd 35), (zd 36), (zd 37), (zd 38), (zd 39), (zd 40), .int 0])), (kq, .inl (cK, 32, .inl fk)), (hq, .inl (cH, 12, .inl fh))] U.heap ∧ va_K (dC, dI) kcl [(cK, .int), (cH, .int)] U ∧ va_D (fun _ => True) [(d, .inr (9, [.int t0, .ref kq, .int 0, .ref hq, .int 0, .int 0, (zd 6), (zd 7), (zd 8), (zd 9), (zd 10), (zd 11), .int 0, (zd 13), (zd 14), (zd 15), (zd 16), (zd 17), (zd 18), (zd 19), .int 0, (zd 21), (zd 22), (zd 23), (zd 24), (zd 25), (zd 26), (zd 27), (zd 28), (zd 29), (zd 30), (zd 31), .int 0, (zd 33), (zd 34), (zd 35), (zd 36), (zd 37), (zd 38), (zd 39), (zd 40), .int 0])), (kq, .inl (cK, 32, .inl fk)), (hq, .inl (cH, 12, .inl fh))])) (va_Qi (fun (_ th : Int32) => th = 1) (fun (th : Int32) (t : State) => ∃ zd2 : Nat → Value, va_P (dC, dI) kcl [(d, .inr (9, [.int th, (zd2 1), (zd2 2), (zd2 3), (zd2 4), (zd2 5), (zd2 6), (zd2 7), (zd2 8), (zd2 9), (zd2 10), (zd2 11), (zd2 12), (zd2 13), (zd2 14), (zd2 15), (zd2 16), (zd2 17), (zd2 18), (zd2 19), (zd2 20), (zd2 21), (zd2 22), (zd2 23), (zd2 24), (zd2 25), (zd2 26), (zd2 27), (zd2 28), (zd2 29), (zd2 30), (zd2 31), (zd2 32), (zd2 33), (zd2 34), (zd2 35), (zd2 36), (zd2 37), (zd2 38), (zd2 39), (zd2 40), (zd2 41)]))] t.heap ∧ va_K (dC, dI) kcl [] t ∧ va_D (va_A [(d, .inr (9, [.int t0, .ref kq, .int 0, .ref hq, .int 0, .int 0, (zd 6), (zd 7), (zd 8), (zd 9), (zd 10), (zd 11), .int 0, (zd 13), (zd 14), (zd 15), (zd 16), (zd 17), (zd 18), (zd 19), .int 0, (zd 21), (zd 22), (zd 23), (zd 24), (zd 25), (zd 26), (zd 27), (zd 28), (zd 29), (zd 30), (zd 31), .int 0, (zd 33), (zd 34), (zd 35), (zd 36), (zd 37), (zd 38), (zd 39), (zd 40), .int 0])), (kq, .inl (cK, 32, .inl fk)), (hq, .inl (cH, 12, .inl fh))] sz) [(d, .inr (9, [.int th, (zd2 1), (zd2 2), (zd2 3), (zd2 4), (zd2 5), (zd2 6), (zd2 7), (zd2 8), (zd2 9), (zd2 10), (zd2 11), (zd2 12), (zd2 13), (zd2 14), (zd2 15), (zd2 16), (zd2 17), (zd2 18), (zd2 19), (zd2 20), (zd2 21), (zd2 22), (zd2 23), (zd2 24), (zd2 25), (zd2 26), (zd2 27), (zd2 28), (zd2 29), (zd2 30), (zd2 31), (zd2 32), (zd2 33), (zd2 34), (zd2 35), (zd2 36), (zd2 37), (zd2 38), (zd2 39), (zd2 40), (zd2 41)]))]) (va_A [(d, .inr (9, [.int t0, .ref kq, .int 0, .ref hq, .int 0, .int 0, (zd 6), (zd 7), (zd 8), (zd 9), (zd 10), (zd 11), .int 0, (zd 13), (zd 14), (zd 15), (zd 16), (zd 17), (zd 18), (zd 19), .int 0, (zd 21), (zd 22), (zd 23), (zd 24), (zd 25), (zd 26), (zd 27), (zd 28), (zd 29), (zd 30), (zd 31), .int 0, (zd 33), (zd 34), (zd 35), (zd 36), (zd 37), (zd 38), (zd 39), (zd 40), .int 0])), (kq, .inl (cK, 32, .inl fk)), (hq, .inl (cH, 12, .inl fh))] sz)) 0 0 (va_A [(d, .inr (9, [.int t0, .ref kq, .int 0, .ref hq, .int 0, .int 0, (zd 6), (zd 7), (zd 8), (zd 9), (zd 10), (zd 11), .int 0, (zd 13), (zd 14), (zd 15), (zd 16), (zd 17), (zd 18), (zd 19), .int 0, (zd 21), (zd 22), (zd 23), (zd 24), (zd 25), (zd 26), (zd 27), (zd 28), (zd 29), (zd 30), (zd 31), .int 0, (zd 33), (zd 34), (zd 35), (zd 36), (zd 37), (zd 38), (zd 39), (zd 40), .int 0])), (kq, .inl (cK, 32, .inl fk)), (hq, .inl (cH, 12, .inl fh))] sz) := by
  refine Met.ofW (cc := b_D_cover) (maxL := 10) (ret := (Option.some Jvm.ClassFile.FieldType.int)) (by decide) rfl ?_
  intro p e s m args below meth c s₁ B hml hv
  obtain ⟨rfl, hsz, hP, hK, hD0⟩ := hv
  have hx := B.exec
  have hb := B.bytes
  have hr := B.returns
  have hlocks := B.notSynchronized
  have hg : ∀ w ∈ gw, w.before _ s = true := fun w h => atoms_spec (ws := ws_D_cover) B.pre w (List.mem_cons_of_mem _ h)
  have hown : s.vm.findClass "TreeMatcherModel" = some m.cls := findClass_of_methodNamed B.named
  subst hsz
  have hD := hD0.self (sz := s.heap.size)
  have hA : ∀ q : Nat, s.heap.size ≤ q → va_A [(d, .inr (9, [.int t0, .ref kq, .int 0, .ref hq, .int 0, .int 0, (zd 6), (zd 7), (zd 8), (zd 9), (zd 10), (zd 11), .int 0, (zd 13), (zd 14), (zd 15), (zd 16), (zd 17), (zd 18), (zd 19), .int 0, (zd 21), (zd 22), (zd 23), (zd 24), (zd 25), (zd 26), (zd 27), (zd 28), (zd 29), (zd 30), (zd 31), .int 0, (zd 33), (zd 34), (zd 35), (zd 36), (zd 37), (zd 38), (zd 39), (zd 40), .int 0])), (kq, .inl (cK, 32, .inl fk)), (hq, .inl (cH, 12, .inl fh))] s.heap.size q := fun q h => Or.inr h
  generalize hAe : va_A [(d, .inr (9, [.int t0, .ref kq, .int 0, .ref hq, .int 0, .int 0, (zd 6), (zd 7), (zd 8), (zd 9), (zd 10), (zd 11), .int 0, (zd 13), (zd 14), (zd 15), (zd 16), (zd 17), (zd 18), (zd 19), .int 0, (zd 21), (zd 22), (zd 23), (zd 24), (zd 25), (zd 26), (zd 27), (zd 28), (zd 29), (zd 30), (zd 31), .int 0, (zd 33), (zd 34), (zd 35), (zd 36), (zd 37), (zd 38), (zd 39), (zd 40), .int 0])), (kq, .inl (cK, 32, .inl fk)), (hq, .inl (cH, 12, .inl fh))] s.heap.size = A at hD hA ⊢
  have hS : va_S A s.heap s.heap [] := va_S.rf
  have hl := lv_entry ([.ref d, .int n, .int k] : List Value) (n := 10) (Nat.le_of_ble_eq_true rfl)
  rw [lg_entry_eq]
  generalize (lg_sl ([.ref d, .int n, .int k] : List Value) ++ List.replicate (10 - (lg_sl ([.ref d, .int n, .int k] : List Value)).length) Slot.unset).toArray = ls at hl ⊢
  have hl : lv_has ls 10 [(0, .ref d), (1, .int n), (2, .int k)] := hl
  refine lv_aload_n hx hb d_D_cover_0 rfl (lv_at hl 0 rfl) ?_
  refine lv_iconst (v := 0) hx hb d_D_cover_1 (by decide) ?_
  refine va_put (D := (dC, dI)) (ci := 9) (v := .int 0) (ty := .int) (C := kR_D) (T := kT_D) (N := 42) hx hb hg kin_D kt_D kty_D knm_D hown hK hP hD hS 0 rfl rfl 0 (by decide) (hg _ tw_817) (fun _ h9 => h9) rfl (by decide +kernel) rfl rfl (Nat.le_of_ble_eq_true rfl) d_D_cover_2 (fun H_1 lo_2 hP hD hS => ?_)
  have hP : va_P (dC, dI) kcl [(d, .inr (9, [.int 0, .ref kq, .int 0, .ref hq, .int 0, .int 0, (zd 6), (zd 7), (zd 8), (zd 9), (zd 10), (zd 11), .int 0, (zd 13), (zd 14), (zd 15), (zd 16), (zd 17), (zd 18), (zd 19), .int 0, (zd 21), (zd 22), (zd 23), (zd 24), (zd 25), (zd 26), (zd 27), (zd 28), (zd 29), (zd 30), (zd 31), .int 0, (zd 33), (zd 34), (zd 35), (zd 36), (zd 37), (zd 38), (zd 39), (zd 40), .int 0])), (kq, .inl (cK, 32, .inl fk)), (hq, .inl (cH, 12, .inl fh))] H_1 := hP
  have hD : va_D A [(d, .inr (9, [.int 0, .ref kq, .int 0, .ref hq, .int 0, .int 0, (zd 6), (zd 7), (zd 8), (zd 9), (zd 10), (zd 11), .int 0, (zd 13), (zd 14), (zd 15), (zd 16), (zd 17), (zd 18), (zd 19), .int 0, (zd 21), (zd 22), (zd 23), (zd 24), (zd 25), (zd 26), (zd 27), (zd 28), (zd 29), (zd 30), (zd 31), .int 0, (zd 33), (zd 34), (zd 35), (zd 36), (zd 37), (zd 38), (zd 39), (zd 40), .int 0])), (kq, .inl (cK, 32, .inl fk)), (hq, .inl (cH, 12, .inl fh))] := hD
  refine lv_iload_n hx hb d_D_cover_5 rfl (lv_at hl 1 rfl) ?_
  refine lv_iconst (v := 0) hx hb d_D_cover_6 (by decide) ?_
  refine lv_aload_n hx hb d_D_cover_7 rfl (lv_at hl 0 rfl) ?_
  refine va_get (D := (dC, dI)) (ci := 9) (v := .int 0) (C := kR_D) (T := kT_D) (N := 42) hx hb hg kin_D hown hK hP 0 rfl rfl 12 (by decide) (hg _ tw_829) (fun _ h9 => h9) rfl d_D_cover_8 ?_
  refine lv_iconst (v := 1) hx hb d_D_cover_11 (by decide) ?_
  refine lv_isub hx hb d_D_cover_12 ?_
  have hPc := hP.sub (ws' := []) [] rfl
  have hKc := hK.sub (tys' := []) [] rfl
  refine va_calli (va_runS (As := [.int n, .int 0, .int (0 - 1)]) (rest := []) ⟨hx, hb, hml, hown, hg⟩ (c_D_within l dC dI H_1.size n 0 (0 - 1)) (va_cwS 3 hg (gw_giS cin_D_within tw_952 tw_953 tw_11) rfl rfl rfl (by decide +kernel) ⟨Nat.le_of_ble_eq_true rfl, Nat.le_of_ble_eq_true rfl⟩) ⟨fun a U g mk q => by obtain ⟨q0, q1, qP, qK⟩ := q; exact ⟨q0, q1, qP, va_K.moved (u := U) (U := U.calling g mk a) (Vm.Alike.refl U.vm) qK⟩, fun U hU hW => ⟨rfl, by rw [hU], by rw [hU]; exact hPc, va_K.moved hW.alike hKc⟩⟩ rfl rfl hl.1 rfl (lv_room (Nat.le_of_ble_eq_true rfl)) d_D_cover_13 ⟨Nat.le_of_ble_eq_true rfl, Nat.le_of_ble_eq_true rfl⟩) hS (fun q h1 h => (tx_pA h1 h).elim) (tx_pF hS hA) (fun r_k_3 u_k_3 t_k_3 H_4 l_k_3 ht hvm hw_k_3 hB hz1 hk1 hS => ?_)
  have hw_k_3 : (if 0 ≤ n ∧ n ≤ (0 - 1) then 1 else 0) = r_k_3 := Eq.symm hw_k_3
  subst hw_k_3
  have hP := tx_keep hP hk1
  refine lv_if_eq (tgt := 29) hx hb d_D_cover_16 (by decide) (fun c_5 => ?_) (fun c_5 => ?_)
  · refine lv_aload_n hx hb d_D_cover_29 rfl (lv_at hl 0 rfl) ?_
    refine lv_iconst (v := 1) hx hb d_D_cover_30 (by decide) ?_
    have hPc := hP.sub (ws' := [(d, .inr (9, [.int 0, .ref kq, .int 0, .ref hq, .int 0, .int 0, (zd 6), (zd 7), (zd 8), (zd 9), (zd 10), (zd 11), .int 0, (zd 13), (zd 14), (zd 15), (zd 16), (zd 17), (zd 18), (zd 19), .int 0, (zd 21), (zd 22), (zd 23), (zd 24), (zd 25), (zd 26), (zd 27), (zd 28), (zd 29), (zd 30), (zd 31), .int 0, (zd 33), (zd 34), (zd 35), (zd 36), (zd 37), (zd 38), (zd 39), (zd 40), .int 0]))]) [0] rfl
    have hKc := hK.sub (tys' := []) [] rfl
    have hDc := hD.sub (ws' := [(d, .inr (9, [.int 0, .ref kq, .int 0, .ref hq, .int 0, .int 0, (zd 6), (zd 7), (zd 8), (zd 9), (zd 10), (zd 11), .int 0, (zd 13), (zd 14), (zd 15), (zd 16), (zd 17), (zd 18), (zd 19), .int 0, (zd 21), (zd 22), (zd 23), (zd 24), (zd 25), (zd 26), (zd 27), (zd 28), (zd 29), (zd 30), (zd 31), .int 0, (zd 33), (zd 34), (zd 35), (zd 36), (zd 37), (zd 38), (zd 39), (zd 40), .int 0]))]) [0] (by decide) rfl
    have hFc := va_free (wc := [(d, .inr (9, [.int 0, .ref kq, .int 0, .ref hq, .int 0, .int 0, (zd 6), (zd 7), (zd 8), (zd 9), (zd 10), (zd 11), .int 0, (zd 13), (zd 14), (zd 15), (zd 16), (zd 17), (zd 18), (zd 19), .int 0, (zd 21), (zd 22), (zd 23), (zd 24), (zd 25), (zd 26), (zd 27), (zd 28), (zd 29), (zd 30), (zd 31), .int 0, (zd 33), (zd 34), (zd 35), (zd 36), (zd 37), (zd 38), (zd 39), (zd 40), .int 0]))]) hD hS hA [0] rfl
    refine va_calli (va_runV (As := [.int 1]) (rest := []) ⟨hx, hb, hml, hown, hg⟩ (c_D_fail l dC dI H_4.size d (fun i => if i = 41 then .int 0 else if i = 32 then .int 0 else if i = 20 then .int 0 else if i = 12 then .int 0 else if i = 5 then .int 0 else if i = 4 then .int 0 else if i = 3 then .ref hq else if i = 2 then .int 0 else if i = 1 then .ref kq else zd i) 0 1) (cwV 1 hg (gw_giV cin_D_fail tw_955 tw_957 sw_D_fail tw_11) rfl rfl rfl (by decide +kernel) ⟨Nat.le_of_ble_eq_true rfl, Nat.le_of_ble_eq_true rfl⟩) ⟨fun a U g mk q => by obtain ⟨q0, q1, qP, qK, qD⟩ := q; exact ⟨q0, q1, qP, va_K.moved (u := U) (U := U.calling g mk a) (Vm.Alike.refl U.vm) qK, qD⟩, va_recv hKc hPc (ci := 9) (q0 := 0) rfl rfl, fun U hU hW => ⟨rfl, by rw [hU], by rw [hU]; exact hPc, va_K.moved hW.alike hKc, hDc.weaken (fun _ _ _ _ => trivial)⟩⟩ rfl rfl hl.1 rfl (lv_room (Nat.le_of_ble_eq_true rfl)) d_D_cover_31 ⟨Nat.le_of_ble_eq_true rfl, Nat.le_of_ble_eq_true rfl⟩) hS (fun q _ h => hFc q h) hFc (fun r_k_6 u_k_6 t_k_6 H_7 l_k_6 ht hvm hw_k_6 hB hz1 hk1 hS => ?_)
    obtain ⟨hr_k_6, hu_k_6⟩ := hw_k_6
    subst hr_k_6
    subst hu_k_6
    obtain ⟨zd_k_6, hP1, hK1, hD1⟩ := hB
    rw [ht] at hP1
    have hK1 := va_K.moved hvm.symm hK1
    obtain ⟨hP, hD⟩ := va_join (wr := [(kq, .inl (cK, 32, .inl fk)), (hq, .inl (cH, 12, .inl fh))]) (w1 := [(d, .inr (9, [.int 1, (zd_k_6 1), (zd_k_6 2), (zd_k_6 3), (zd_k_6 4), (zd_k_6 5), (zd_k_6 6), (zd_k_6 7), (zd_k_6 8), (zd_k_6 9), (zd_k_6 10), (zd_k_6 11), (zd_k_6 12), (zd_k_6 13), (zd_k_6 14), (zd_k_6 15), (zd_k_6 16), (zd_k_6 17), (zd_k_6 18), (zd_k_6 19), (zd_k_6 20), (zd_k_6 21), (zd_k_6 22), (zd_k_6 23), (zd_k_6 24), (zd_k_6 25), (zd_k_6 26), (zd_k_6 27), (zd_k_6 28), (zd_k_6 29), (zd_k_6 30), (zd_k_6 31), (zd_k_6 32), (zd_k_6 33), (zd_k_6 34), (zd_k_6 35), (zd_k_6 36), (zd_k_6 37), (zd_k_6 38), (zd_k_6 39), (zd_k_6 40), (zd_k_6 41)]))]) hP hD [0] [1, 2] rfl rfl (by decide) (by decide) hk1 hFc hP1 hD1
    have hK := (hK.sub (tys' := [(cK, .int), (cH, .int)]) [0, 1] rfl).app hK1
    have hP : va_P (dC, dI) kcl [(kq, .inl (cK, 32, .inl fk)), (hq, .inl (cH, 12, .inl fh)), (d, .inr (9, [.int 1, (zd_k_6 1), (zd_k_6 2), (zd_k_6 3), (zd_k_6 4), (zd_k_6 5), (zd_k_6 6), (zd_k_6 7), (zd_k_6 8), (zd_k_6 9), (zd_k_6 10), (zd_k_6 11), (zd_k_6 12), (zd_k_6 13), (zd_k_6 14), (zd_k_6 15), (zd_k_6 16), (zd_k_6 17), (zd_k_6 18), (zd_k_6 19), (zd_k_6 20), (zd_k_6 21), (zd_k_6 22), (zd_k_6 23), (zd_k_6 24), (zd_k_6 25), (zd_k_6 26), (zd_k_6 27), (zd_k_6 28), (zd_k_6 29), (zd_k_6 30), (zd_k_6 31), (zd_k_6 32), (zd_k_6 33), (zd_k_6 34), (zd_k_6 35), (zd_k_6 36), (zd_k_6 37), (zd_k_6 38), (zd_k_6 39), (zd_k_6 40), (zd_k_6 41)]))] H_7 := hP
    have hD : va_D A [(kq, .inl (cK, 32, .inl fk)), (hq, .inl (cH, 12, .inl fh)), (d, .inr (9, [.int 1, (zd_k_6 1), (zd_k_6 2), (zd_k_6 3), (zd_k_6 4), (zd_k_6 5), (zd_k_6 6), (zd_k_6 7), (zd_k_6 8), (zd_k_6 9), (zd_k_6 10), (zd_k_6 11), (zd_k_6 12), (zd_k_6 13), (zd_k_6 14), (zd_k_6 15), (zd_k_6 16), (zd_k_6 17), (zd_k_6 18), (zd_k_6 19), (zd_k_6 20), (zd_k_6 21), (zd_k_6 22), (zd_k_6 23), (zd_k_6 24), (zd_k_6 25), (zd_k_6 26), (zd_k_6 27), (zd_k_6 28), (zd_k_6 29), (zd_k_6 30), (zd_k_6 31), (zd_k_6 32), (zd_k_6 33), (zd_k_6 34), (zd_k_6 35), (zd_k_6 36), (zd_k_6 37), (zd_k_6 38), (zd_k_6 39), (zd_k_6 40), (zd_k_6 41)]))] := hD
    have hK : va_K (dC, dI) kcl [(cK, .int), (cH, .int)] s := hK
    have hP9 := hP.sub (ws' := [(d, .inr (9, [.int 1, (zd_k_6 1), (zd_k_6 2), (zd_k_6 3), (zd_k_6 4), (zd_k_6 5), (zd_k_6 6), (zd_k_6 7), (zd_k_6 8), (zd_k_6 9), (zd_k_6 10), (zd_k_6 11), (zd_k_6 12), (zd_k_6 13), (zd_k_6 14), (zd_k_6 15), (zd_k_6 16), (zd_k_6 17), (zd_k_6 18), (zd_k_6 19), (zd_k_6 20), (zd_k_6 21), (zd_k_6 22), (zd_k_6 23), (zd_k_6 24), (zd_k_6 25), (zd_k_6 26), (zd_k_6 27), (zd_k_6 28), (zd_k_6 29), (zd_k_6 30), (zd_k_6 31), (zd_k_6 32), (zd_k_6 33), (zd_k_6 34), (zd_k_6 35), (zd_k_6 36), (zd_k_6 37), (zd_k_6 38), (zd_k_6 39), (zd_k_6 40), (zd_k_6 41)]))]) [2] rfl
    have hD9 := hD.sub (ws' := [(d, .inr (9, [.int 1, (zd_k_6 1), (zd_k_6 2), (zd_k_6 3), (zd_k_6 4), (zd_k_6 5), (zd_k_6 6), (zd_k_6 7), (zd_k_6 8), (zd_k_6 9), (zd_k_6 10), (zd_k_6 11), (zd_k_6 12), (zd_k_6 13), (zd_k_6 14), (zd_k_6 15), (zd_k_6 16), (zd_k_6 17), (zd_k_6 18), (zd_k_6 19), (zd_k_6 20), (zd_k_6 21), (zd_k_6 22), (zd_k_6 23), (zd_k_6 24), (zd_k_6 25), (zd_k_6 26), (zd_k_6 27), (zd_k_6 28), (zd_k_6 29), (zd_k_6 30), (zd_k_6 31), (zd_k_6 32), (zd_k_6 33), (zd_k_6 34), (zd_k_6 35), (zd_k_6 36), (zd_k_6 37), (zd_k_6 38), (zd_k_6 39), (zd_k_6 40), (zd_k_6 41)]))]) [2] (by decide) rfl
    have hK9 := hK.sub (tys' := []) [] rfl
    exact W.iret (v := 0) hx hb hr (fun t ht hW => ⟨⟨0, 1, rfl, rfl, ⟨(fun i => List.getD [Value.int (1 : Int32), (zd_k_6 1), (zd_k_6 2), (zd_k_6 3), (zd_k_6 4), (zd_k_6 5), (zd_k_6 6), (zd_k_6 7), (zd_k_6 8), (zd_k_6 9), (zd_k_6 10), (zd_k_6 11), (zd_k_6 12), (zd_k_6 13), (zd_k_6 14), (zd_k_6 15), (zd_k_6 16), (zd_k_6 17), (zd_k_6 18), (zd_k_6 19), (zd_k_6 20), (zd_k_6 21), (zd_k_6 22), (zd_k_6 23), (zd_k_6 24), (zd_k_6 25), (zd_k_6 26), (zd_k_6 27), (zd_k_6 28), (zd_k_6 29), (zd_k_6 30), (zd_k_6 31), (zd_k_6 32), (zd_k_6 33), (zd_k_6 34), (zd_k_6 35), (zd_k_6 36), (zd_k_6 37), (zd_k_6 38), (zd_k_6 39), (zd_k_6 40), (zd_k_6 41)] i Value.null), by rw [ht]; exact hP9, va_K.moved hW.alike hK9, hD9⟩⟩, hS.F ht⟩) hS.2.2 d_D_cover_34
  · exact (tx_none2 (tx_if1 c_5)).elim
set_option maxHeartbeats 4000000 in
set_option maxRecDepth 100000 in
theorem c_D_pair (l : Launch) (dC : Nat → ClassId) (dI : Nat → Nat → Nat) (sz : Nat) (d kq hq : Nat) (cK cH : ClassId) (zd : Nat → Value) (fk fh : Nat → Int32) (hfk : ∀ j, j < 32 → fk j = -1) (t0 : Int32) (n k : Int32) : Met l y_D_pair ws_D_pair ({ frames := 1, cells := 0, slots := 0, locals := 22 }) (va_Pc [.ref d, .int n, .int k] (fun U => U.heap.size = sz ∧ va_P (dC, dI) kcl [(d, .inr (9, [.int t0, .ref kq, .int 0, .ref hq, .int 0, .int 0, (zd 6), (zd 7), (zd 8), (zd 9), (zd 10), (zd 11), .int 0, (zd 13), (zd 14), (zd 15), (zd 16), (zd 17), (zd 18), (zd 19), .int 0, (zd 21), (zd 22), (zd 23), (zd 24), (zd 25), (zd 26), (zd 27), (zd 28), (zd 29), (zd 30), (zd 31), .int 0, (zd 33), (zd 34), (zd 35), (zd 36), (zd 37), (zd 38), (zd 39), (zd 40), .int 0])), (kq, .inl (cK, 32, .inl fk)), (hq, .inl (cH, 12, .inl fh))] U.heap ∧ va_K (dC, dI) kcl [(cK, .int), (cH, .int)] U ∧ va_D (fun _ => True) [(d, .inr (9, [.int t0, .ref kq, .int 0, .ref hq, .int 0, .int 0, (zd 6), (zd 7), (zd 8), (zd 9), (zd 10), (zd 11), .int 0, (zd 13), (zd 14), (zd 15), (zd 16), (zd 17), (zd 18), (zd 19), .int 0, (zd 21), (zd 22), (zd 23), (zd 24), (zd 25), (zd 26), (zd 27), (zd 28), (zd 29), (zd 30), (zd 31), .int 0, (zd 33), (zd 34), (zd 35), (zd 36), (zd 37), (zd 38), (zd 39), (zd 40), .int 0])), (kq, .inl (cK, 32, .inl fk)), (hq, .inl (cH, 12, .inl fh))])) (va_Qi (fun (_ th : Int32) => th = 1) (fun (th : Int32) (t : State) => ∃ zd2 : Nat → Value, va_P (dC, dI) kcl [(d, .inr (9, [.int th, (zd2 1), (zd2 2), (zd2 3), (zd2 4), (zd2 5), (zd2 6), (zd2 7), (zd2 8), (zd2 9), (zd2 10), (zd2 11), (zd2 12), (zd2 13), (zd2 14), (zd2 15), (zd2 16), (zd2 17), (zd2 18), (zd2 19), (zd2 20), (zd2 21), (zd2 22), (zd2 23), (zd2 24), (zd2 25), (zd2 26), (zd2 27), (zd2 28), (zd2 29), (zd2 30), (zd2 31), (zd2 32), (zd2 33), (zd2 34), (zd2 35), (zd2 36), (zd2 37), (zd2 38), (zd2 39), (zd2 40), (zd2 41)]))] t.heap ∧ va_K (dC, dI) kcl [] t ∧ va_D (va_A [(d, .inr (9, [.int t0, .ref kq, .int 0, .ref hq, .int 0, .int 0, (zd 6), (zd 7), (zd 8), (zd 9), (zd 10), (zd 11), .int 0, (zd 13), (zd 14), (zd 15), (zd 16), (zd 17), (zd 18), (zd 19), .int 0, (zd 21), (zd 22), (zd 23), (zd 24), (zd 25), (zd 26), (zd 27), (zd 28), (zd 29), (zd 30), (zd 31), .int 0, (zd 33), (zd 34), (zd 35), (zd 36), (zd 37), (zd 38), (zd 39), (zd 40), .int 0])), (kq, .inl (cK, 32, .inl fk)), (hq, .inl (cH, 12, .inl fh))] sz) [(d, .inr (9, [.int th, (zd2 1), (zd2 2), (zd2 3), (zd2 4), (zd2 5), (zd2 6), (zd2 7), (zd2 8), (zd2 9), (zd2 10), (zd2 11), (zd2 12), (zd2 13), (zd2 14), (zd2 15), (zd2 16), (zd2 17), (zd2 18), (zd2 19), (zd2 20), (zd2 21), (zd2 22), (zd2 23), (zd2 24), (zd2 25), (zd2 26), (zd2 27), (zd2 28), (zd2 29), (zd2 30), (zd2 31), (zd2 32), (zd2 33), (zd2 34), (zd2 35), (zd2 36), (zd2 37), (zd2 38), (zd2 39), (zd2 40), (zd2 41)]))]) (va_A [(d, .inr (9, [.int t0, .ref kq, .int 0, .ref hq, .int 0, .int 0, (zd 6), (zd 7), (zd 8), (zd 9), (zd 10), (zd 11), .int 0, (zd 13), (zd 14), (zd 15), (zd 16), (zd 17), (zd 18), (zd 19), .int 0, (zd 21), (zd 22), (zd 23), (zd 24), (zd 25), (zd 26), (zd 27), (zd 28), (zd 29), (zd 30), (zd 31), .int 0, (zd 33), (zd 34), (zd 35), (zd 36), (zd 37), (zd 38), (zd 39), (zd 40), .int 0])), (kq, .inl (cK, 32, .inl fk)), (hq, .inl (cH, 12, .inl fh))] sz)) 0 0 (va_A [(d, .inr (9, [.int t0, .ref kq, .int 0, .ref hq, .int 0, .int 0, (zd 6), (zd 7), (zd 8), (zd 9), (zd 10), (zd 11), .int 0, (zd 13), (zd 14), (zd 15), (zd 16), (zd 17), (zd 18), (zd 19), .int 0, (zd 21), (zd 22), (zd 23), (zd 24), (zd 25), (zd 26), (zd 27), (zd 28), (zd 29), (zd 30), (zd 31), .int 0, (zd 33), (zd 34), (zd 35), (zd 36), (zd 37), (zd 38), (zd 39), (zd 40), .int 0])), (kq, .inl (cK, 32, .inl fk)), (hq, .inl (cH, 12, .inl fh))] sz) := by
  refine Met.ofW (cc := b_D_pair) (maxL := 3) (ret := (Option.some Jvm.ClassFile.FieldType.int)) (by decide) rfl ?_
  intro p e s m args below meth c s₁ B hml hv
  obtain ⟨rfl, hsz, hP, hK, hD0⟩ := hv
  have hx := B.exec
  have hb := B.bytes
  have hr := B.returns
  have hlocks := B.notSynchronized
  have hg : ∀ w ∈ gw, w.before _ s = true := fun w h => atoms_spec (ws := ws_D_pair) B.pre w (List.mem_cons_of_mem _ h)
  have hown : s.vm.findClass "TreeMatcherModel" = some m.cls := findClass_of_methodNamed B.named
  subst hsz
  have hD := hD0.self (sz := s.heap.size)
  have hA : ∀ q : Nat, s.heap.size ≤ q → va_A [(d, .inr (9, [.int t0, .ref kq, .int 0, .ref hq, .int 0, .int 0, (zd 6), (zd 7), (zd 8), (zd 9), (zd 10), (zd 11), .int 0, (zd 13), (zd 14), (zd 15), (zd 16), (zd 17), (zd 18), (zd 19), .int 0, (zd 21), (zd 22), (zd 23), (zd 24), (zd 25), (zd 26), (zd 27), (zd 28), (zd 29), (zd 30), (zd 31), .int 0, (zd 33), (zd 34), (zd 35), (zd 36), (zd 37), (zd 38), (zd 39), (zd 40), .int 0])), (kq, .inl (cK, 32, .inl fk)), (hq, .inl (cH, 12, .inl fh))] s.heap.size q := fun q h => Or.inr h
  generalize hAe : va_A [(d, .inr (9, [.int t0, .ref kq, .int 0, .ref hq, .int 0, .int 0, (zd 6), (zd 7), (zd 8), (zd 9), (zd 10), (zd 11), .int 0, (zd 13), (zd 14), (zd 15), (zd 16), (zd 17), (zd 18), (zd 19), .int 0, (zd 21), (zd 22), (zd 23), (zd 24), (zd 25), (zd 26), (zd 27), (zd 28), (zd 29), (zd 30), (zd 31), .int 0, (zd 33), (zd 34), (zd 35), (zd 36), (zd 37), (zd 38), (zd 39), (zd 40), .int 0])), (kq, .inl (cK, 32, .inl fk)), (hq, .inl (cH, 12, .inl fh))] s.heap.size = A at hD hA ⊢
  have hS : va_S A s.heap s.heap [] := va_S.rf
  have hl := lv_entry ([.ref d, .int n, .int k] : List Value) (n := 3) (Nat.le_of_ble_eq_true rfl)
  rw [lg_entry_eq]
  generalize (lg_sl ([.ref d, .int n, .int k] : List Value) ++ List.replicate (3 - (lg_sl ([.ref d, .int n, .int k] : List Value)).length) Slot.unset).toArray = ls at hl ⊢
  have hl : lv_has ls 3 [(0, .ref d), (1, .int n), (2, .int k)] := hl
  refine lv_aload_n hx hb d_D_pair_0 rfl (lv_at hl 0 rfl) ?_
  refine lv_iconst (v := 0) hx hb d_D_pair_1 (by decide) ?_
  refine va_put (D := (dC, dI)) (ci := 9) (v := .int 0) (ty := .int) (C := kR_D) (T := kT_D) (N := 42) hx hb hg kin_D kt_D kty_D knm_D hown hK hP hD hS 0 rfl rfl 0 (by decide) (hg _ tw_817) (fun _ h9 => h9) rfl (by decide +kernel) rfl rfl (Nat.le_of_ble_eq_true rfl) d_D_pair_2 (fun H_1 lo_2 hP hD hS => ?_)
  have hP : va_P (dC, dI) kcl [(d, .inr (9, [.int 0, .ref kq, .int 0, .ref hq, .int 0, .int 0, (zd 6), (zd 7), (zd 8), (zd 9), (zd 10), (zd 11), .int 0, (zd 13), (zd 14), (zd 15), (zd 16), (zd 17), (zd 18), (zd 19), .int 0, (zd 21), (zd 22), (zd 23), (zd 24), (zd 25), (zd 26), (zd 27), (zd 28), (zd 29), (zd 30), (zd 31), .int 0, (zd 33), (zd 34), (zd 35), (zd 36), (zd 37), (zd 38), (zd 39), (zd 40), .int 0])), (kq, .inl (cK, 32, .inl fk)), (hq, .inl (cH, 12, .inl fh))] H_1 := hP
  have hD : va_D A [(d, .inr (9, [.int 0, .ref kq, .int 0, .ref hq, .int 0, .int 0, (zd 6), (zd 7), (zd 8), (zd 9), (zd 10), (zd 11), .int 0, (zd 13), (zd 14), (zd 15), (zd 16), (zd 17), (zd 18), (zd 19), .int 0, (zd 21), (zd 22), (zd 23), (zd 24), (zd 25), (zd 26), (zd 27), (zd 28), (zd 29), (zd 30), (zd 31), .int 0, (zd 33), (zd 34), (zd 35), (zd 36), (zd 37), (zd 38), (zd 39), (zd 40), .int 0])), (kq, .inl (cK, 32, .inl fk)), (hq, .inl (cH, 12, .inl fh))] := hD
  refine lv_iload_n hx hb d_D_pair_5 rfl (lv_at hl 1 rfl) ?_
  refine lv_iconst (v := 0) hx hb d_D_pair_6 (by decide) ?_
  refine lv_aload_n hx hb d_D_pair_7 rfl (lv_at hl 0 rfl) ?_
  refine va_get (D := (dC, dI)) (ci := 9) (v := .int 0) (C := kR_D) (T := kT_D) (N := 42) hx hb hg kin_D hown hK hP 0 rfl rfl 20 (by decide) (hg _ tw_837) (fun _ h9 => h9) rfl d_D_pair_8 ?_
  refine lv_iconst (v := 1) hx hb d_D_pair_11 (by decide) ?_
  refine lv_isub hx hb d_D_pair_12 ?_
  have hPc := hP.sub (ws' := []) [] rfl
  have hKc := hK.sub (tys' := []) [] rfl
  refine va_calli (va_runS (As := [.int n, .int 0, .int (0 - 1)]) (rest := []) ⟨hx, hb, hml, hown, hg⟩ (c_D_within l dC dI H_1.size n 0 (0 - 1)) (va_cwS 3 hg (gw_giS cin_D_within tw_952 tw_953 tw_11) rfl rfl rfl (by decide +kernel) ⟨Nat.le_of_ble_eq_true rfl, Nat.le_of_ble_eq_true rfl⟩) ⟨fun a U g mk q => by obtain ⟨q0, q1, qP, qK⟩ := q; exact ⟨q0, q1, qP, va_K.moved (u := U) (U := U.calling g mk a) (Vm.Alike.refl U.vm) qK⟩, fun U hU hW => ⟨rfl, by rw [hU], by rw [hU]; exact hPc, va_K.moved hW.alike hKc⟩⟩ rfl rfl hl.1 rfl (lv_room (Nat.le_of_ble_eq_true rfl)) d_D_pair_13 ⟨Nat.le_of_ble_eq_true rfl, Nat.le_of_ble_eq_true rfl⟩) hS (fun q h1 h => (tx_pA h1 h).elim) (tx_pF hS hA) (fun r_k_3 u_k_3 t_k_3 H_4 l_k_3 ht hvm hw_k_3 hB hz1 hk1 hS => ?_)
  have hw_k_3 : (if 0 ≤ n ∧ n ≤ (0 - 1) then 1 else 0) = r_k_3 := Eq.symm hw_k_3
  subst hw_k_3
  have hP := tx_keep hP hk1
  refine lv_if_eq (tgt := 28) hx hb d_D_pair_16 (by decide) (fun c_5 => ?_) (fun c_5 => ?_)
  · refine lv_aload_n hx hb d_D_pair_28 rfl (lv_at hl 0 rfl) ?_
    refine lv_iconst (v := 1) hx hb d_D_pair_29 (by decide) ?_
    have hPc := hP.sub (ws' := [(d, .inr (9, [.int 0, .ref kq, .int 0, .ref hq, .int 0, .int 0, (zd 6), (zd 7), (zd 8), (zd 9), (zd 10), (zd 11), .int 0, (zd 13), (zd 14), (zd 15), (zd 16), (zd 17), (zd 18), (zd 19), .int 0, (zd 21), (zd 22), (zd 23), (zd 24), (zd 25), (zd 26), (zd 27), (zd 28), (zd 29), (zd 30), (zd 31), .int 0, (zd 33), (zd 34), (zd 35), (zd 36), (zd 37), (zd 38), (zd 39), (zd 40), .int 0]))]) [0] rfl
    have hKc := hK.sub (tys' := []) [] rfl
    have hDc := hD.sub (ws' := [(d, .inr (9, [.int 0, .ref kq, .int 0, .ref hq, .int 0, .int 0, (zd 6), (zd 7), (zd 8), (zd 9), (zd 10), (zd 11), .int 0, (zd 13), (zd 14), (zd 15), (zd 16), (zd 17), (zd 18), (zd 19), .int 0, (zd 21), (zd 22), (zd 23), (zd 24), (zd 25), (zd 26), (zd 27), (zd 28), (zd 29), (zd 30), (zd 31), .int 0, (zd 33), (zd 34), (zd 35), (zd 36), (zd 37), (zd 38), (zd 39), (zd 40), .int 0]))]) [0] (by decide) rfl
    have hFc := va_free (wc := [(d, .inr (9, [.int 0, .ref kq, .int 0, .ref hq, .int 0, .int 0, (zd 6), (zd 7), (zd 8), (zd 9), (zd 10), (zd 11), .int 0, (zd 13), (zd 14), (zd 15), (zd 16), (zd 17), (zd 18), (zd 19), .int 0, (zd 21), (zd 22), (zd 23), (zd 24), (zd 25), (zd 26), (zd 27), (zd 28), (zd 29), (zd 30), (zd 31), .int 0, (zd 33), (zd 34), (zd 35), (zd 36), (zd 37), (zd 38), (zd 39), (zd 40), .int 0]))]) hD hS hA [0] rfl
    refine va_calli (va_runV (As := [.int 1]) (rest := []) ⟨hx, hb, hml, hown, hg⟩ (c_D_fail l dC dI H_4.size d (fun i => if i = 41 then .int 0 else if i = 32 then .int 0 else if i = 20 then .int 0 else if i = 12 then .int 0 else if i = 5 then .int 0 else if i = 4 then .int 0 else if i = 3 then .ref hq else if i = 2 then .int 0 else if i = 1 then .ref kq else zd i) 0 1) (cwV 1 hg (gw_giV cin_D_fail tw_955 tw_957 sw_D_fail tw_11) rfl rfl rfl (by decide +kernel) ⟨Nat.le_of_ble_eq_true rfl, Nat.le_of_ble_eq_true rfl⟩) ⟨fun a U g mk q => by obtain ⟨q0, q1, qP, qK, qD⟩ := q; exact ⟨q0, q1, qP, va_K.moved (u := U) (U := U.calling g mk a) (Vm.Alike.refl U.vm) qK, qD⟩, va_recv hKc hPc (ci := 9) (q0 := 0) rfl rfl, fun U hU hW => ⟨rfl, by rw [hU], by rw [hU]; exact hPc, va_K.moved hW.alike hKc, hDc.weaken (fun _ _ _ _ => trivial)⟩⟩ rfl rfl hl.1 rfl (lv_room (Nat.le_of_ble_eq_true rfl)) d_D_pair_30 ⟨Nat.le_of_ble_eq_true rfl, Nat.le_of_ble_eq_true rfl⟩) hS (fun q _ h => hFc q h) hFc (fun r_k_6 u_k_6 t_k_6 H_7 l_k_6 ht hvm hw_k_6 hB hz1 hk1 hS => ?_)
    obtain ⟨hr_k_6, hu_k_6⟩ := hw_k_6
    subst hr_k_6
    subst hu_k_6
    obtain ⟨zd_k_6, hP1, hK1, hD1⟩ := hB
    rw [ht] at hP1
    have hK1 := va_K.moved hvm.symm hK1
    obtain ⟨hP, hD⟩ := va_join (wr := [(kq, .inl (cK, 32, .inl fk)), (hq, .inl (cH, 12, .inl fh))]) (w1 := [(d, .inr (9, [.int 1, (zd_k_6 1), (zd_k_6 2), (zd_k_6 3), (zd_k_6 4), (zd_k_6 5), (zd_k_6 6), (zd_k_6 7), (zd_k_6 8), (zd_k_6 9), (zd_k_6 10), (zd_k_6 11), (zd_k_6 12), (zd_k_6 13), (zd_k_6 14), (zd_k_6 15), (zd_k_6 16), (zd_k_6 17), (zd_k_6 18), (zd_k_6 19), (zd_k_6 20), (zd_k_6 21), (zd_k_6 22), (zd_k_6 23), (zd_k_6 24), (zd_k_6 25), (zd_k_6 26), (zd_k_6 27), (zd_k_6 28), (zd_k_6 29), (zd_k_6 30), (zd_k_6 31), (zd_k_6 32), (zd_k_6 33), (zd_k_6 34), (zd_k_6 35), (zd_k_6 36), (zd_k_6 37), (zd_k_6 38), (zd_k_6 39), (zd_k_6 40), (zd_k_6 41)]))]) hP hD [0] [1, 2] rfl rfl (by decide) (by decide) hk1 hFc hP1 hD1
    have hK := (hK.sub (tys' := [(cK, .int), (cH, .int)]) [0, 1] rfl).app hK1
    have hP : va_P (dC, dI) kcl [(kq, .inl (cK, 32, .inl fk)), (hq, .inl (cH, 12, .inl fh)), (d, .inr (9, [.int 1, (zd_k_6 1), (zd_k_6 2), (zd_k_6 3), (zd_k_6 4), (zd_k_6 5), (zd_k_6 6), (zd_k_6 7), (zd_k_6 8), (zd_k_6 9), (zd_k_6 10), (zd_k_6 11), (zd_k_6 12), (zd_k_6 13), (zd_k_6 14), (zd_k_6 15), (zd_k_6 16), (zd_k_6 17), (zd_k_6 18), (zd_k_6 19), (zd_k_6 20), (zd_k_6 21), (zd_k_6 22), (zd_k_6 23), (zd_k_6 24), (zd_k_6 25), (zd_k_6 26), (zd_k_6 27), (zd_k_6 28), (zd_k_6 29), (zd_k_6 30), (zd_k_6 31), (zd_k_6 32), (zd_k_6 33), (zd_k_6 34), (zd_k_6 35), (zd_k_6 36), (zd_k_6 37), (zd_k_6 38), (zd_k_6 39), (zd_k_6 40), (zd_k_6 41)]))] H_7 := hP
    have hD : va_D A [(kq, .inl (cK, 32, .inl fk)), (hq, .inl (cH, 12, .inl fh)), (d, .inr (9, [.int 1, (zd_k_6 1), (zd_k_6 2), (zd_k_6 3), (zd_k_6 4), (zd_k_6 5), (zd_k_6 6), (zd_k_6 7), (zd_k_6 8), (zd_k_6 9), (zd_k_6 10), (zd_k_6 11), (zd_k_6 12), (zd_k_6 13), (zd_k_6 14), (zd_k_6 15), (zd_k_6 16), (zd_k_6 17), (zd_k_6 18), (zd_k_6 19), (zd_k_6 20), (zd_k_6 21), (zd_k_6 22), (zd_k_6 23), (zd_k_6 24), (zd_k_6 25), (zd_k_6 26), (zd_k_6 27), (zd_k_6 28), (zd_k_6 29), (zd_k_6 30), (zd_k_6 31), (zd_k_6 32), (zd_k_6 33), (zd_k_6 34), (zd_k_6 35), (zd_k_6 36), (zd_k_6 37), (zd_k_6 38), (zd_k_6 39), (zd_k_6 40), (zd_k_6 41)]))] := hD
    have hK : va_K (dC, dI) kcl [(cK, .int), (cH, .int)] s := hK
    have hP9 := hP.sub (ws' := [(d, .inr (9, [.int 1, (zd_k_6 1), (zd_k_6 2), (zd_k_6 3), (zd_k_6 4), (zd_k_6 5), (zd_k_6 6), (zd_k_6 7), (zd_k_6 8), (zd_k_6 9), (zd_k_6 10), (zd_k_6 11), (zd_k_6 12), (zd_k_6 13), (zd_k_6 14), (zd_k_6 15), (zd_k_6 16), (zd_k_6 17), (zd_k_6 18), (zd_k_6 19), (zd_k_6 20), (zd_k_6 21), (zd_k_6 22), (zd_k_6 23), (zd_k_6 24), (zd_k_6 25), (zd_k_6 26), (zd_k_6 27), (zd_k_6 28), (zd_k_6 29), (zd_k_6 30), (zd_k_6 31), (zd_k_6 32), (zd_k_6 33), (zd_k_6 34), (zd_k_6 35), (zd_k_6 36), (zd_k_6 37), (zd_k_6 38), (zd_k_6 39), (zd_k_6 40), (zd_k_6 41)]))]) [2] rfl
    have hD9 := hD.sub (ws' := [(d, .inr (9, [.int 1, (zd_k_6 1), (zd_k_6 2), (zd_k_6 3), (zd_k_6 4), (zd_k_6 5), (zd_k_6 6), (zd_k_6 7), (zd_k_6 8), (zd_k_6 9), (zd_k_6 10), (zd_k_6 11), (zd_k_6 12), (zd_k_6 13), (zd_k_6 14), (zd_k_6 15), (zd_k_6 16), (zd_k_6 17), (zd_k_6 18), (zd_k_6 19), (zd_k_6 20), (zd_k_6 21), (zd_k_6 22), (zd_k_6 23), (zd_k_6 24), (zd_k_6 25), (zd_k_6 26), (zd_k_6 27), (zd_k_6 28), (zd_k_6 29), (zd_k_6 30), (zd_k_6 31), (zd_k_6 32), (zd_k_6 33), (zd_k_6 34), (zd_k_6 35), (zd_k_6 36), (zd_k_6 37), (zd_k_6 38), (zd_k_6 39), (zd_k_6 40), (zd_k_6 41)]))]) [2] (by decide) rfl
    have hK9 := hK.sub (tys' := []) [] rfl
    exact W.iret (v := 0) hx hb hr (fun t ht hW => ⟨⟨0, 1, rfl, rfl, ⟨(fun i => List.getD [Value.int (1 : Int32), (zd_k_6 1), (zd_k_6 2), (zd_k_6 3), (zd_k_6 4), (zd_k_6 5), (zd_k_6 6), (zd_k_6 7), (zd_k_6 8), (zd_k_6 9), (zd_k_6 10), (zd_k_6 11), (zd_k_6 12), (zd_k_6 13), (zd_k_6 14), (zd_k_6 15), (zd_k_6 16), (zd_k_6 17), (zd_k_6 18), (zd_k_6 19), (zd_k_6 20), (zd_k_6 21), (zd_k_6 22), (zd_k_6 23), (zd_k_6 24), (zd_k_6 25), (zd_k_6 26), (zd_k_6 27), (zd_k_6 28), (zd_k_6 29), (zd_k_6 30), (zd_k_6 31), (zd_k_6 32), (zd_k_6 33), (zd_k_6 34), (zd_k_6 35), (zd_k_6 36), (zd_k_6 37), (zd_k_6 38), (zd_k_6 39), (zd_k_6 40), (zd_k_6 41)] i Value.null), by rw [ht]; exact hP9, va_K.moved hW.alike hK9, hD9⟩⟩, hS.F ht⟩) hS.2.2 d_D_pair_33
  · exact (tx_none2 (tx_if1 c_5)).elim
set_option maxHeartbeats 4000000 in
set_option maxRecDepth 100000 in
theorem c_D_same (l : Launch) (dC : Nat → ClassId) (dI : Nat → Nat → Nat) (sz : Nat) (d kq hq : Nat) (cK cH : ClassId) (zd : Nat → Value) (fk fh : Nat → Int32) (hfk : ∀ j, j < 32 → fk j = -1) (t0 : Int32) (n k : Int32) : Met l y_D_same ws_D_same ({ frames := 1, cells := 0, slots := 0, locals := 22 }) (va_Pc [.ref d, .int n, .int k] (fun U => U.heap.size = sz ∧ va_P (dC, dI) kcl [(d, .inr (9, [.int t0, .ref kq, .int 0, .ref hq, .int 0, .int 0, (zd 6), (zd 7), (zd 8), (zd 9), (zd 10), (zd 11), .int 0, (zd 13), (zd 14), (zd 15), (zd 16), (zd 17), (zd 18), (zd 19), .int 0, (zd 21), (zd 22), (zd 23), (zd 24), (zd 25), (zd 26), (zd 27), (zd 28), (zd 29), (zd 30), (zd 31), .int 0, (zd 33), (zd 34), (zd 35), (zd 36), (zd 37), (zd 38), (zd 39), (zd 40), .int 0])), (kq, .inl (cK, 32, .inl fk)), (hq, .inl (cH, 12, .inl fh))] U.heap ∧ va_K (dC, dI) kcl [(cK, .int), (cH, .int)] U ∧ va_D (fun _ => True) [(d, .inr (9, [.int t0, .ref kq, .int 0, .ref hq, .int 0, .int 0, (zd 6), (zd 7), (zd 8), (zd 9), (zd 10), (zd 11), .int 0, (zd 13), (zd 14), (zd 15), (zd 16), (zd 17), (zd 18), (zd 19), .int 0, (zd 21), (zd 22), (zd 23), (zd 24), (zd 25), (zd 26), (zd 27), (zd 28), (zd 29), (zd 30), (zd 31), .int 0, (zd 33), (zd 34), (zd 35), (zd 36), (zd 37), (zd 38), (zd 39), (zd 40), .int 0])), (kq, .inl (cK, 32, .inl fk)), (hq, .inl (cH, 12, .inl fh))])) (va_Qi (fun (_ th : Int32) => th = 1) (fun (th : Int32) (t : State) => ∃ zd2 : Nat → Value, va_P (dC, dI) kcl [(d, .inr (9, [.int th, (zd2 1), (zd2 2), (zd2 3), (zd2 4), (zd2 5), (zd2 6), (zd2 7), (zd2 8), (zd2 9), (zd2 10), (zd2 11), (zd2 12), (zd2 13), (zd2 14), (zd2 15), (zd2 16), (zd2 17), (zd2 18), (zd2 19), (zd2 20), (zd2 21), (zd2 22), (zd2 23), (zd2 24), (zd2 25), (zd2 26), (zd2 27), (zd2 28), (zd2 29), (zd2 30), (zd2 31), (zd2 32), (zd2 33), (zd2 34), (zd2 35), (zd2 36), (zd2 37), (zd2 38), (zd2 39), (zd2 40), (zd2 41)]))] t.heap ∧ va_K (dC, dI) kcl [] t ∧ va_D (va_A [(d, .inr (9, [.int t0, .ref kq, .int 0, .ref hq, .int 0, .int 0, (zd 6), (zd 7), (zd 8), (zd 9), (zd 10), (zd 11), .int 0, (zd 13), (zd 14), (zd 15), (zd 16), (zd 17), (zd 18), (zd 19), .int 0, (zd 21), (zd 22), (zd 23), (zd 24), (zd 25), (zd 26), (zd 27), (zd 28), (zd 29), (zd 30), (zd 31), .int 0, (zd 33), (zd 34), (zd 35), (zd 36), (zd 37), (zd 38), (zd 39), (zd 40), .int 0])), (kq, .inl (cK, 32, .inl fk)), (hq, .inl (cH, 12, .inl fh))] sz) [(d, .inr (9, [.int th, (zd2 1), (zd2 2), (zd2 3), (zd2 4), (zd2 5), (zd2 6), (zd2 7), (zd2 8), (zd2 9), (zd2 10), (zd2 11), (zd2 12), (zd2 13), (zd2 14), (zd2 15), (zd2 16), (zd2 17), (zd2 18), (zd2 19), (zd2 20), (zd2 21), (zd2 22), (zd2 23), (zd2 24), (zd2 25), (zd2 26), (zd2 27), (zd2 28), (zd2 29), (zd2 30), (zd2 31), (zd2 32), (zd2 33), (zd2 34), (zd2 35), (zd2 36), (zd2 37), (zd2 38), (zd2 39), (zd2 40), (zd2 41)]))]) (va_A [(d, .inr (9, [.int t0, .ref kq, .int 0, .ref hq, .int 0, .int 0, (zd 6), (zd 7), (zd 8), (zd 9), (zd 10), (zd 11), .int 0, (zd 13), (zd 14), (zd 15), (zd 16), (zd 17), (zd 18), (zd 19), .int 0, (zd 21), (zd 22), (zd 23), (zd 24), (zd 25), (zd 26), (zd 27), (zd 28), (zd 29), (zd 30), (zd 31), .int 0, (zd 33), (zd 34), (zd 35), (zd 36), (zd 37), (zd 38), (zd 39), (zd 40), .int 0])), (kq, .inl (cK, 32, .inl fk)), (hq, .inl (cH, 12, .inl fh))] sz)) 0 0 (va_A [(d, .inr (9, [.int t0, .ref kq, .int 0, .ref hq, .int 0, .int 0, (zd 6), (zd 7), (zd 8), (zd 9), (zd 10), (zd 11), .int 0, (zd 13), (zd 14), (zd 15), (zd 16), (zd 17), (zd 18), (zd 19), .int 0, (zd 21), (zd 22), (zd 23), (zd 24), (zd 25), (zd 26), (zd 27), (zd 28), (zd 29), (zd 30), (zd 31), .int 0, (zd 33), (zd 34), (zd 35), (zd 36), (zd 37), (zd 38), (zd 39), (zd 40), .int 0])), (kq, .inl (cK, 32, .inl fk)), (hq, .inl (cH, 12, .inl fh))] sz) := by
  refine Met.ofW (cc := b_D_same) (maxL := 4) (ret := (Option.some Jvm.ClassFile.FieldType.boolean)) (by decide) rfl ?_
  intro p e s m args below meth c s₁ B hml hv
  obtain ⟨rfl, hsz, hP, hK, hD0⟩ := hv
  have hx := B.exec
  have hb := B.bytes
  have hr := B.returns
  have hlocks := B.notSynchronized
  have hg : ∀ w ∈ gw, w.before _ s = true := fun w h => atoms_spec (ws := ws_D_same) B.pre w (List.mem_cons_of_mem _ h)
  have hown : s.vm.findClass "TreeMatcherModel" = some m.cls := findClass_of_methodNamed B.named
  subst hsz
  have hD := hD0.self (sz := s.heap.size)
  have hA : ∀ q : Nat, s.heap.size ≤ q → va_A [(d, .inr (9, [.int t0, .ref kq, .int 0, .ref hq, .int 0, .int 0, (zd 6), (zd 7), (zd 8), (zd 9), (zd 10), (zd 11), .int 0, (zd 13), (zd 14), (zd 15), (zd 16), (zd 17), (zd 18), (zd 19), .int 0, (zd 21), (zd 22), (zd 23), (zd 24), (zd 25), (zd 26), (zd 27), (zd 28), (zd 29), (zd 30), (zd 31), .int 0, (zd 33), (zd 34), (zd 35), (zd 36), (zd 37), (zd 38), (zd 39), (zd 40), .int 0])), (kq, .inl (cK, 32, .inl fk)), (hq, .inl (cH, 12, .inl fh))] s.heap.size q := fun q h => Or.inr h
  generalize hAe : va_A [(d, .inr (9, [.int t0, .ref kq, .int 0, .ref hq, .int 0, .int 0, (zd 6), (zd 7), (zd 8), (zd 9), (zd 10), (zd 11), .int 0, (zd 13), (zd 14), (zd 15), (zd 16), (zd 17), (zd 18), (zd 19), .int 0, (zd 21), (zd 22), (zd 23), (zd 24), (zd 25), (zd 26), (zd 27), (zd 28), (zd 29), (zd 30), (zd 31), .int 0, (zd 33), (zd 34), (zd 35), (zd 36), (zd 37), (zd 38), (zd 39), (zd 40), .int 0])), (kq, .inl (cK, 32, .inl fk)), (hq, .inl (cH, 12, .inl fh))] s.heap.size = A at hD hA ⊢
  have hS : va_S A s.heap s.heap [] := va_S.rf
  have hl := lv_entry ([.ref d, .int n, .int k] : List Value) (n := 4) (Nat.le_of_ble_eq_true rfl)
  rw [lg_entry_eq]
  generalize (lg_sl ([.ref d, .int n, .int k] : List Value) ++ List.replicate (4 - (lg_sl ([.ref d, .int n, .int k] : List Value)).length) Slot.unset).toArray = ls at hl ⊢
  have hl : lv_has ls 4 [(0, .ref d), (1, .int n), (2, .int k)] := hl
  refine lv_aload_n hx hb d_D_same_0 rfl (lv_at hl 0 rfl) ?_
  refine lv_iconst (v := 0) hx hb d_D_same_1 (by decide) ?_
  refine va_put (D := (dC, dI)) (ci := 9) (v := .int 0) (ty := .int) (C := kR_D) (T := kT_D) (N := 42) hx hb hg kin_D kt_D kty_D knm_D hown hK hP hD hS 0 rfl rfl 0 (by decide) (hg _ tw_817) (fun _ h9 => h9) rfl (by decide +kernel) rfl rfl (Nat.le_of_ble_eq_true rfl) d_D_same_2 (fun H_1 lo_2 hP hD hS => ?_)
  have hP : va_P (dC, dI) kcl [(d, .inr (9, [.int 0, .ref kq, .int 0, .ref hq, .int 0, .int 0, (zd 6), (zd 7), (zd 8), (zd 9), (zd 10), (zd 11), .int 0, (zd 13), (zd 14), (zd 15), (zd 16), (zd 17), (zd 18), (zd 19), .int 0, (zd 21), (zd 22), (zd 23), (zd 24), (zd 25), (zd 26), (zd 27), (zd 28), (zd 29), (zd 30), (zd 31), .int 0, (zd 33), (zd 34), (zd 35), (zd 36), (zd 37), (zd 38), (zd 39), (zd 40), .int 0])), (kq, .inl (cK, 32, .inl fk)), (hq, .inl (cH, 12, .inl fh))] H_1 := hP
  have hD : va_D A [(d, .inr (9, [.int 0, .ref kq, .int 0, .ref hq, .int 0, .int 0, (zd 6), (zd 7), (zd 8), (zd 9), (zd 10), (zd 11), .int 0, (zd 13), (zd 14), (zd 15), (zd 16), (zd 17), (zd 18), (zd 19), .int 0, (zd 21), (zd 22), (zd 23), (zd 24), (zd 25), (zd 26), (zd 27), (zd 28), (zd 29), (zd 30), (zd 31), .int 0, (zd 33), (zd 34), (zd 35), (zd 36), (zd 37), (zd 38), (zd 39), (zd 40), .int 0])), (kq, .inl (cK, 32, .inl fk)), (hq, .inl (cH, 12, .inl fh))] := hD
  refine lv_iload_n hx hb d_D_same_5 rfl (lv_at hl 1 rfl) ?_
  refine lv_iconst (v := 0) hx hb d_D_same_6 (by decide) ?_
  refine lv_aload_n hx hb d_D_same_7 rfl (lv_at hl 0 rfl) ?_
  refine va_get (D := (dC, dI)) (ci := 9) (v := .int 0) (C := kR_D) (T := kT_D) (N := 42) hx hb hg kin_D hown hK hP 0 rfl rfl 12 (by decide) (hg _ tw_829) (fun _ h9 => h9) rfl d_D_same_8 ?_
  refine lv_iconst (v := 1) hx hb d_D_same_11 (by decide) ?_
  refine lv_isub hx hb d_D_same_12 ?_
  have hPc := hP.sub (ws' := []) [] rfl
  have hKc := hK.sub (tys' := []) [] rfl
  refine va_calli (va_runS (As := [.int n, .int 0, .int (0 - 1)]) (rest := []) ⟨hx, hb, hml, hown, hg⟩ (c_D_within l dC dI H_1.size n 0 (0 - 1)) (va_cwS 3 hg (gw_giS cin_D_within tw_952 tw_953 tw_11) rfl rfl rfl (by decide +kernel) ⟨Nat.le_of_ble_eq_true rfl, Nat.le_of_ble_eq_true rfl⟩) ⟨fun a U g mk q => by obtain ⟨q0, q1, qP, qK⟩ := q; exact ⟨q0, q1, qP, va_K.moved (u := U) (U := U.calling g mk a) (Vm.Alike.refl U.vm) qK⟩, fun U hU hW => ⟨rfl, by rw [hU], by rw [hU]; exact hPc, va_K.moved hW.alike hKc⟩⟩ rfl rfl hl.1 rfl (lv_room (Nat.le_of_ble_eq_true rfl)) d_D_same_13 ⟨Nat.le_of_ble_eq_true rfl, Nat.le_of_ble_eq_true rfl⟩) hS (fun q h1 h => (tx_pA h1 h).elim) (tx_pF hS hA) (fun r_k_3 u_k_3 t_k_3 H_4 l_k_3 ht hvm hw_k_3 hB hz1 hk1 hS => ?_)
  have hw_k_3 : (if 0 ≤ n ∧ n ≤ (0 - 1) then 1 else 0) = r_k_3 := Eq.symm hw_k_3
  subst hw_k_3
  have hP := tx_keep hP hk1
  refine lv_if_eq (tgt := 33) hx hb d_D_same_16 (by decide) (fun c_5 => ?_) (fun c_5 => ?_)
  · refine lv_aload_n hx hb d_D_same_33 rfl (lv_at hl 0 rfl) ?_
    refine lv_iconst (v := 1) hx hb d_D_same_34 (by decide) ?_
    have hPc := hP.sub (ws' := [(d, .inr (9, [.int 0, .ref kq, .int 0, .ref hq, .int 0, .int 0, (zd 6), (zd 7), (zd 8), (zd 9), (zd 10), (zd 11), .int 0, (zd 13), (zd 14), (zd 15), (zd 16), (zd 17), (zd 18), (zd 19), .int 0, (zd 21), (zd 22), (zd 23), (zd 24), (zd 25), (zd 26), (zd 27), (zd 28), (zd 29), (zd 30), (zd 31), .int 0, (zd 33), (zd 34), (zd 35), (zd 36), (zd 37), (zd 38), (zd 39), (zd 40), .int 0]))]) [0] rfl
    have hKc := hK.sub (tys' := []) [] rfl
    have hDc := hD.sub (ws' := [(d, .inr (9, [.int 0, .ref kq, .int 0, .ref hq, .int 0, .int 0, (zd 6), (zd 7), (zd 8), (zd 9), (zd 10), (zd 11), .int 0, (zd 13), (zd 14), (zd 15), (zd 16), (zd 17), (zd 18), (zd 19), .int 0, (zd 21), (zd 22), (zd 23), (zd 24), (zd 25), (zd 26), (zd 27), (zd 28), (zd 29), (zd 30), (zd 31), .int 0, (zd 33), (zd 34), (zd 35), (zd 36), (zd 37), (zd 38), (zd 39), (zd 40), .int 0]))]) [0] (by decide) rfl
    have hFc := va_free (wc := [(d, .inr (9, [.int 0, .ref kq, .int 0, .ref hq, .int 0, .int 0, (zd 6), (zd 7), (zd 8), (zd 9), (zd 10), (zd 11), .int 0, (zd 13), (zd 14), (zd 15), (zd 16), (zd 17), (zd 18), (zd 19), .int 0, (zd 21), (zd 22), (zd 23), (zd 24), (zd 25), (zd 26), (zd 27), (zd 28), (zd 29), (zd 30), (zd 31), .int 0, (zd 33), (zd 34), (zd 35), (zd 36), (zd 37), (zd 38), (zd 39), (zd 40), .int 0]))]) hD hS hA [0] rfl
    refine va_calli (va_runV (As := [.int 1]) (rest := []) ⟨hx, hb, hml, hown, hg⟩ (c_D_fail l dC dI H_4.size d (fun i => if i = 41 then .int 0 else if i = 32 then .int 0 else if i = 20 then .int 0 else if i = 12 then .int 0 else if i = 5 then .int 0 else if i = 4 then .int 0 else if i = 3 then .ref hq else if i = 2 then .int 0 else if i = 1 then .ref kq else zd i) 0 1) (cwV 1 hg (gw_giV cin_D_fail tw_955 tw_957 sw_D_fail tw_11) rfl rfl rfl (by decide +kernel) ⟨Nat.le_of_ble_eq_true rfl, Nat.le_of_ble_eq_true rfl⟩) ⟨fun a U g mk q => by obtain ⟨q0, q1, qP, qK, qD⟩ := q; exact ⟨q0, q1, qP, va_K.moved (u := U) (U := U.calling g mk a) (Vm.Alike.refl U.vm) qK, qD⟩, va_recv hKc hPc (ci := 9) (q0 := 0) rfl rfl, fun U hU hW => ⟨rfl, by rw [hU], by rw [hU]; exact hPc, va_K.moved hW.alike hKc, hDc.weaken (fun _ _ _ _ => trivial)⟩⟩ rfl rfl hl.1 rfl (lv_room (Nat.le_of_ble_eq_true rfl)) d_D_same_35 ⟨Nat.le_of_ble_eq_true rfl, Nat.le_of_ble_eq_true rfl⟩) hS (fun q _ h => hFc q h) hFc (fun r_k_6 u_k_6 t_k_6 H_7 l_k_6 ht hvm hw_k_6 hB hz1 hk1 hS => ?_)
    obtain ⟨hr_k_6, hu_k_6⟩ := hw_k_6
    subst hr_k_6
    subst hu_k_6
    obtain ⟨zd_k_6, hP1, hK1, hD1⟩ := hB
    rw [ht] at hP1
    have hK1 := va_K.moved hvm.symm hK1
    obtain ⟨hP, hD⟩ := va_join (wr := [(kq, .inl (cK, 32, .inl fk)), (hq, .inl (cH, 12, .inl fh))]) (w1 := [(d, .inr (9, [.int 1, (zd_k_6 1), (zd_k_6 2), (zd_k_6 3), (zd_k_6 4), (zd_k_6 5), (zd_k_6 6), (zd_k_6 7), (zd_k_6 8), (zd_k_6 9), (zd_k_6 10), (zd_k_6 11), (zd_k_6 12), (zd_k_6 13), (zd_k_6 14), (zd_k_6 15), (zd_k_6 16), (zd_k_6 17), (zd_k_6 18), (zd_k_6 19), (zd_k_6 20), (zd_k_6 21), (zd_k_6 22), (zd_k_6 23), (zd_k_6 24), (zd_k_6 25), (zd_k_6 26), (zd_k_6 27), (zd_k_6 28), (zd_k_6 29), (zd_k_6 30), (zd_k_6 31), (zd_k_6 32), (zd_k_6 33), (zd_k_6 34), (zd_k_6 35), (zd_k_6 36), (zd_k_6 37), (zd_k_6 38), (zd_k_6 39), (zd_k_6 40), (zd_k_6 41)]))]) hP hD [0] [1, 2] rfl rfl (by decide) (by decide) hk1 hFc hP1 hD1
    have hK := (hK.sub (tys' := [(cK, .int), (cH, .int)]) [0, 1] rfl).app hK1
    have hP : va_P (dC, dI) kcl [(kq, .inl (cK, 32, .inl fk)), (hq, .inl (cH, 12, .inl fh)), (d, .inr (9, [.int 1, (zd_k_6 1), (zd_k_6 2), (zd_k_6 3), (zd_k_6 4), (zd_k_6 5), (zd_k_6 6), (zd_k_6 7), (zd_k_6 8), (zd_k_6 9), (zd_k_6 10), (zd_k_6 11), (zd_k_6 12), (zd_k_6 13), (zd_k_6 14), (zd_k_6 15), (zd_k_6 16), (zd_k_6 17), (zd_k_6 18), (zd_k_6 19), (zd_k_6 20), (zd_k_6 21), (zd_k_6 22), (zd_k_6 23), (zd_k_6 24), (zd_k_6 25), (zd_k_6 26), (zd_k_6 27), (zd_k_6 28), (zd_k_6 29), (zd_k_6 30), (zd_k_6 31), (zd_k_6 32), (zd_k_6 33), (zd_k_6 34), (zd_k_6 35), (zd_k_6 36), (zd_k_6 37), (zd_k_6 38), (zd_k_6 39), (zd_k_6 40), (zd_k_6 41)]))] H_7 := hP
    have hD : va_D A [(kq, .inl (cK, 32, .inl fk)), (hq, .inl (cH, 12, .inl fh)), (d, .inr (9, [.int 1, (zd_k_6 1), (zd_k_6 2), (zd_k_6 3), (zd_k_6 4), (zd_k_6 5), (zd_k_6 6), (zd_k_6 7), (zd_k_6 8), (zd_k_6 9), (zd_k_6 10), (zd_k_6 11), (zd_k_6 12), (zd_k_6 13), (zd_k_6 14), (zd_k_6 15), (zd_k_6 16), (zd_k_6 17), (zd_k_6 18), (zd_k_6 19), (zd_k_6 20), (zd_k_6 21), (zd_k_6 22), (zd_k_6 23), (zd_k_6 24), (zd_k_6 25), (zd_k_6 26), (zd_k_6 27), (zd_k_6 28), (zd_k_6 29), (zd_k_6 30), (zd_k_6 31), (zd_k_6 32), (zd_k_6 33), (zd_k_6 34), (zd_k_6 35), (zd_k_6 36), (zd_k_6 37), (zd_k_6 38), (zd_k_6 39), (zd_k_6 40), (zd_k_6 41)]))] := hD
    have hK : va_K (dC, dI) kcl [(cK, .int), (cH, .int)] s := hK
    refine lv_if_le (tgt := 45) hx hb d_D_same_38 (by decide) (fun c_8 => ?_) (fun c_8 => ?_)
    · refine lv_iconst (v := 0) hx hb d_D_same_45 (by decide) ?_
      have hP9 := hP.sub (ws' := [(d, .inr (9, [.int 1, (zd_k_6 1), (zd_k_6 2), (zd_k_6 3), (zd_k_6 4), (zd_k_6 5), (zd_k_6 6), (zd_k_6 7), (zd_k_6 8), (zd_k_6 9), (zd_k_6 10), (zd_k_6 11), (zd_k_6 12), (zd_k_6 13), (zd_k_6 14), (zd_k_6 15), (zd_k_6 16), (zd_k_6 17), (zd_k_6 18), (zd_k_6 19), (zd_k_6 20), (zd_k_6 21), (zd_k_6 22), (zd_k_6 23), (zd_k_6 24), (zd_k_6 25), (zd_k_6 26), (zd_k_6 27), (zd_k_6 28), (zd_k_6 29), (zd_k_6 30), (zd_k_6 31), (zd_k_6 32), (zd_k_6 33), (zd_k_6 34), (zd_k_6 35), (zd_k_6 36), (zd_k_6 37), (zd_k_6 38), (zd_k_6 39), (zd_k_6 40), (zd_k_6 41)]))]) [2] rfl
      have hD9 := hD.sub (ws' := [(d, .inr (9, [.int 1, (zd_k_6 1), (zd_k_6 2), (zd_k_6 3), (zd_k_6 4), (zd_k_6 5), (zd_k_6 6), (zd_k_6 7), (zd_k_6 8), (zd_k_6 9), (zd_k_6 10), (zd_k_6 11), (zd_k_6 12), (zd_k_6 13), (zd_k_6 14), (zd_k_6 15), (zd_k_6 16), (zd_k_6 17), (zd_k_6 18), (zd_k_6 19), (zd_k_6 20), (zd_k_6 21), (zd_k_6 22), (zd_k_6 23), (zd_k_6 24), (zd_k_6 25), (zd_k_6 26), (zd_k_6 27), (zd_k_6 28), (zd_k_6 29), (zd_k_6 30), (zd_k_6 31), (zd_k_6 32), (zd_k_6 33), (zd_k_6 34), (zd_k_6 35), (zd_k_6 36), (zd_k_6 37), (zd_k_6 38), (zd_k_6 39), (zd_k_6 40), (zd_k_6 41)]))]) [2] (by decide) rfl
      have hK9 := hK.sub (tys' := []) [] rfl
      exact W.zret (v := 0) hx hb hr rfl (fun t ht hW => ⟨⟨0, 1, rfl, rfl, ⟨(fun i => List.getD [Value.int (1 : Int32), (zd_k_6 1), (zd_k_6 2), (zd_k_6 3), (zd_k_6 4), (zd_k_6 5), (zd_k_6 6), (zd_k_6 7), (zd_k_6 8), (zd_k_6 9), (zd_k_6 10), (zd_k_6 11), (zd_k_6 12), (zd_k_6 13), (zd_k_6 14), (zd_k_6 15), (zd_k_6 16), (zd_k_6 17), (zd_k_6 18), (zd_k_6 19), (zd_k_6 20), (zd_k_6 21), (zd_k_6 22), (zd_k_6 23), (zd_k_6 24), (zd_k_6 25), (zd_k_6 26), (zd_k_6 27), (zd_k_6 28), (zd_k_6 29), (zd_k_6 30), (zd_k_6 31), (zd_k_6 32), (zd_k_6 33), (zd_k_6 34), (zd_k_6 35), (zd_k_6 36), (zd_k_6 37), (zd_k_6 38), (zd_k_6 39), (zd_k_6 40), (zd_k_6 41)] i Value.null), by rw [ht]; exact hP9, va_K.moved hW.alike hK9, hD9⟩⟩, hS.F ht⟩) hS.2.2 d_D_same_46
    · exact absurd (by decide) c_8
  · exact (tx_none2 (tx_if1 c_5)).elim
set_option maxHeartbeats 4000000 in
set_option maxRecDepth 100000 in
theorem c_D_clear (l : Launch) (dC : Nat → ClassId) (dI : Nat → Nat → Nat) (sz : Nat) (d kq hq : Nat) (cK cH : ClassId) (zd : Nat → Value) (fk fh : Nat → Int32) (hfk : ∀ j, j < 32 → fk j = -1) (t0 : Int32) : Met l y_D_clear ws_D_clear ({ frames := 0, cells := 0, slots := 0, locals := 0 }) (va_Pc [.ref d] (fun U => U.heap.size = sz ∧ va_P (dC, dI) kcl [(d, .inr (9, [.int t0, .ref kq, .int 0, .ref hq, .int 0, .int 0, (zd 6), (zd 7), (zd 8), (zd 9), (zd 10), (zd 11), .int 0, (zd 13), (zd 14), (zd 15), (zd 16), (zd 17), (zd 18), (zd 19), .int 0, (zd 21), (zd 22), (zd 23), (zd 24), (zd 25), (zd 26), (zd 27), (zd 28), (zd 29), (zd 30), (zd 31), .int 0, (zd 33), (zd 34), (zd 35), (zd 36), (zd 37), (zd 38), (zd 39), (zd 40), .int 0])), (kq, .inl (cK, 32, .inl fk)), (hq, .inl (cH, 12, .inl fh))] U.heap ∧ va_K (dC, dI) kcl [(cK, .int), (cH, .int)] U ∧ va_D (fun _ => True) [(d, .inr (9, [.int t0, .ref kq, .int 0, .ref hq, .int 0, .int 0, (zd 6), (zd 7), (zd 8), (zd 9), (zd 10), (zd 11), .int 0, (zd 13), (zd 14), (zd 15), (zd 16), (zd 17), (zd 18), (zd 19), .int 0, (zd 21), (zd 22), (zd 23), (zd 24), (zd 25), (zd 26), (zd 27), (zd 28), (zd 29), (zd 30), (zd 31), .int 0, (zd 33), (zd 34), (zd 35), (zd 36), (zd 37), (zd 38), (zd 39), (zd 40), .int 0])), (kq, .inl (cK, 32, .inl fk)), (hq, .inl (cH, 12, .inl fh))])) (va_Qi (fun (r _ : Int32) => r = 0) (fun (th : Int32) (t : State) => ∃ zd2 : Nat → Value, va_P (dC, dI) kcl [(d, .inr (9, [.int th, (zd2 1), (zd2 2), (zd2 3), (zd2 4), (zd2 5), (zd2 6), (zd2 7), (zd2 8), (zd2 9), (zd2 10), (zd2 11), (zd2 12), (zd2 13), (zd2 14), (zd2 15), (zd2 16), (zd2 17), (zd2 18), (zd2 19), (zd2 20), (zd2 21), (zd2 22), (zd2 23), (zd2 24), (zd2 25), (zd2 26), (zd2 27), (zd2 28), (zd2 29), (zd2 30), (zd2 31), (zd2 32), (zd2 33), (zd2 34), (zd2 35), (zd2 36), (zd2 37), (zd2 38), (zd2 39), (zd2 40), (zd2 41)]))] t.heap ∧ va_K (dC, dI) kcl [] t ∧ va_D (va_A [(d, .inr (9, [.int t0, .ref kq, .int 0, .ref hq, .int 0, .int 0, (zd 6), (zd 7), (zd 8), (zd 9), (zd 10), (zd 11), .int 0, (zd 13), (zd 14), (zd 15), (zd 16), (zd 17), (zd 18), (zd 19), .int 0, (zd 21), (zd 22), (zd 23), (zd 24), (zd 25), (zd 26), (zd 27), (zd 28), (zd 29), (zd 30), (zd 31), .int 0, (zd 33), (zd 34), (zd 35), (zd 36), (zd 37), (zd 38), (zd 39), (zd 40), .int 0])), (kq, .inl (cK, 32, .inl fk)), (hq, .inl (cH, 12, .inl fh))] sz) [(d, .inr (9, [.int th, (zd2 1), (zd2 2), (zd2 3), (zd2 4), (zd2 5), (zd2 6), (zd2 7), (zd2 8), (zd2 9), (zd2 10), (zd2 11), (zd2 12), (zd2 13), (zd2 14), (zd2 15), (zd2 16), (zd2 17), (zd2 18), (zd2 19), (zd2 20), (zd2 21), (zd2 22), (zd2 23), (zd2 24), (zd2 25), (zd2 26), (zd2 27), (zd2 28), (zd2 29), (zd2 30), (zd2 31), (zd2 32), (zd2 33), (zd2 34), (zd2 35), (zd2 36), (zd2 37), (zd2 38), (zd2 39), (zd2 40), (zd2 41)]))]) (va_A [(d, .inr (9, [.int t0, .ref kq, .int 0, .ref hq, .int 0, .int 0, (zd 6), (zd 7), (zd 8), (zd 9), (zd 10), (zd 11), .int 0, (zd 13), (zd 14), (zd 15), (zd 16), (zd 17), (zd 18), (zd 19), .int 0, (zd 21), (zd 22), (zd 23), (zd 24), (zd 25), (zd 26), (zd 27), (zd 28), (zd 29), (zd 30), (zd 31), .int 0, (zd 33), (zd 34), (zd 35), (zd 36), (zd 37), (zd 38), (zd 39), (zd 40), .int 0])), (kq, .inl (cK, 32, .inl fk)), (hq, .inl (cH, 12, .inl fh))] sz)) 0 0 (va_A [(d, .inr (9, [.int t0, .ref kq, .int 0, .ref hq, .int 0, .int 0, (zd 6), (zd 7), (zd 8), (zd 9), (zd 10), (zd 11), .int 0, (zd 13), (zd 14), (zd 15), (zd 16), (zd 17), (zd 18), (zd 19), .int 0, (zd 21), (zd 22), (zd 23), (zd 24), (zd 25), (zd 26), (zd 27), (zd 28), (zd 29), (zd 30), (zd 31), .int 0, (zd 33), (zd 34), (zd 35), (zd 36), (zd 37), (zd 38), (zd 39), (zd 40), .int 0])), (kq, .inl (cK, 32, .inl fk)), (hq, .inl (cH, 12, .inl fh))] sz) := by
  refine Met.ofW (cc := b_D_clear) (maxL := 2) (ret := (Option.some Jvm.ClassFile.FieldType.int)) (by decide) rfl ?_
  intro p e s m args below meth c s₁ B hml hv
  obtain ⟨rfl, hsz, hP, hK, hD0⟩ := hv
  have hx := B.exec
  have hb := B.bytes
  have hr := B.returns
  have hlocks := B.notSynchronized
  have hg : ∀ w ∈ gw, w.before _ s = true := fun w h => atoms_spec (ws := ws_D_clear) B.pre w (List.mem_cons_of_mem _ h)
  have hown : s.vm.findClass "TreeMatcherModel" = some m.cls := findClass_of_methodNamed B.named
  subst hsz
  have hD := hD0.self (sz := s.heap.size)
  have hA : ∀ q : Nat, s.heap.size ≤ q → va_A [(d, .inr (9, [.int t0, .ref kq, .int 0, .ref hq, .int 0, .int 0, (zd 6), (zd 7), (zd 8), (zd 9), (zd 10), (zd 11), .int 0, (zd 13), (zd 14), (zd 15), (zd 16), (zd 17), (zd 18), (zd 19), .int 0, (zd 21), (zd 22), (zd 23), (zd 24), (zd 25), (zd 26), (zd 27), (zd 28), (zd 29), (zd 30), (zd 31), .int 0, (zd 33), (zd 34), (zd 35), (zd 36), (zd 37), (zd 38), (zd 39), (zd 40), .int 0])), (kq, .inl (cK, 32, .inl fk)), (hq, .inl (cH, 12, .inl fh))] s.heap.size q := fun q h => Or.inr h
  generalize hAe : va_A [(d, .inr (9, [.int t0, .ref kq, .int 0, .ref hq, .int 0, .int 0, (zd 6), (zd 7), (zd 8), (zd 9), (zd 10), (zd 11), .int 0, (zd 13), (zd 14), (zd 15), (zd 16), (zd 17), (zd 18), (zd 19), .int 0, (zd 21), (zd 22), (zd 23), (zd 24), (zd 25), (zd 26), (zd 27), (zd 28), (zd 29), (zd 30), (zd 31), .int 0, (zd 33), (zd 34), (zd 35), (zd 36), (zd 37), (zd 38), (zd 39), (zd 40), .int 0])), (kq, .inl (cK, 32, .inl fk)), (hq, .inl (cH, 12, .inl fh))] s.heap.size = A at hD hA ⊢
  have hS : va_S A s.heap s.heap [] := va_S.rf
  have hl := lv_entry ([.ref d] : List Value) (n := 2) (Nat.le_of_ble_eq_true rfl)
  rw [lg_entry_eq]
  generalize (lg_sl ([.ref d] : List Value) ++ List.replicate (2 - (lg_sl ([.ref d] : List Value)).length) Slot.unset).toArray = ls at hl ⊢
  have hl : lv_has ls 2 [(0, .ref d)] := hl
  refine lv_aload_n hx hb d_D_clear_0 rfl (lv_at hl 0 rfl) ?_
  refine lv_iconst (v := 0) hx hb d_D_clear_1 (by decide) ?_
  refine va_put (D := (dC, dI)) (ci := 9) (v := .int 0) (ty := .int) (C := kR_D) (T := kT_D) (N := 42) hx hb hg kin_D kt_D kty_D knm_D hown hK hP hD hS 0 rfl rfl 0 (by decide) (hg _ tw_817) (fun _ h9 => h9) rfl (by decide +kernel) rfl rfl (Nat.le_of_ble_eq_true rfl) d_D_clear_2 (fun H_1 lo_2 hP hD hS => ?_)
  have hP : va_P (dC, dI) kcl [(d, .inr (9, [.int 0, .ref kq, .int 0, .ref hq, .int 0, .int 0, (zd 6), (zd 7), (zd 8), (zd 9), (zd 10), (zd 11), .int 0, (zd 13), (zd 14), (zd 15), (zd 16), (zd 17), (zd 18), (zd 19), .int 0, (zd 21), (zd 22), (zd 23), (zd 24), (zd 25), (zd 26), (zd 27), (zd 28), (zd 29), (zd 30), (zd 31), .int 0, (zd 33), (zd 34), (zd 35), (zd 36), (zd 37), (zd 38), (zd 39), (zd 40), .int 0])), (kq, .inl (cK, 32, .inl fk)), (hq, .inl (cH, 12, .inl fh))] H_1 := hP
  have hD : va_D A [(d, .inr (9, [.int 0, .ref kq, .int 0, .ref hq, .int 0, .int 0, (zd 6), (zd 7), (zd 8), (zd 9), (zd 10), (zd 11), .int 0, (zd 13), (zd 14), (zd 15), (zd 16), (zd 17), (zd 18), (zd 19), .int 0, (zd 21), (zd 22), (zd 23), (zd 24), (zd 25), (zd 26), (zd 27), (zd 28), (zd 29), (zd 30), (zd 31), .int 0, (zd 33), (zd 34), (zd 35), (zd 36), (zd 37), (zd 38), (zd 39), (zd 40), .int 0])), (kq, .inl (cK, 32, .inl fk)), (hq, .inl (cH, 12, .inl fh))] := hD
  refine lv_aload_n hx hb d_D_clear_5 rfl (lv_at hl 0 rfl) ?_
  refine va_get (D := (dC, dI)) (ci := 9) (v := .int 0) (C := kR_D) (T := kT_D) (N := 42) hx hb hg kin_D hown hK hP 0 rfl rfl 12 (by decide) (hg _ tw_829) (fun _ h9 => h9) rfl d_D_clear_6 ?_
  refine lv_istore_n (lv' := [(1, .int 0), (0, .ref d)]) hx hb d_D_clear_9 rfl hl (by decide) rfl (fun ls hl => ?_)
  refine lv_aload_n hx hb d_D_clear_10 rfl (lv_at hl 1 rfl) ?_
  refine lv_iconst (v := 0) hx hb d_D_clear_11 (by decide) ?_
  refine va_put (D := (dC, dI)) (ci := 9) (v := .int 0) (ty := .int) (C := kR_D) (T := kT_D) (N := 42) hx hb hg kin_D kt_D kty_D knm_D hown hK hP hD hS 0 rfl rfl 12 (by decide) (hg _ tw_829) (fun _ h9 => h9) rfl (by decide +kernel) rfl rfl (Nat.le_of_ble_eq_true rfl) d_D_clear_12 (fun H_3 lo_4 hP hD hS => ?_)
  have hP : va_P (dC, dI) kcl [(d, .inr (9, [.int 0, .ref kq, .int 0, .ref hq, .int 0, .int 0, (zd 6), (zd 7), (zd 8), (zd 9), (zd 10), (zd 11), .int 0, (zd 13), (zd 14), (zd 15), (zd 16), (zd 17), (zd 18), (zd 19), .int 0, (zd 21), (zd 22), (zd 23), (zd 24), (zd 25), (zd 26), (zd 27), (zd 28), (zd 29), (zd 30), (zd 31), .int 0, (zd 33), (zd 34), (zd 35), (zd 36), (zd 37), (zd 38), (zd 39), (zd 40), .int 0])), (kq, .inl (cK, 32, .inl fk)), (hq, .inl (cH, 12, .inl fh))] H_3 := hP
  have hD : va_D A [(d, .inr (9, [.int 0, .ref kq, .int 0, .ref hq, .int 0, .int 0, (zd 6), (zd 7), (zd 8), (zd 9), (zd 10), (zd 11), .int 0, (zd 13), (zd 14), (zd 15), (zd 16), (zd 17), (zd 18), (zd 19), .int 0, (zd 21), (zd 22), (zd 23), (zd 24), (zd 25), (zd 26), (zd 27), (zd 28), (zd 29), (zd 30), (zd 31), .int 0, (zd 33), (zd 34), (zd 35), (zd 36), (zd 37), (zd 38), (zd 39), (zd 40), .int 0])), (kq, .inl (cK, 32, .inl fk)), (hq, .inl (cH, 12, .inl fh))] := hD
  refine lv_aload_n hx hb d_D_clear_15 rfl (lv_at hl 1 rfl) ?_
  refine lv_iconst (v := 0) hx hb d_D_clear_16 (by decide) ?_
  refine va_put (D := (dC, dI)) (ci := 9) (v := .int 0) (ty := .int) (C := kR_D) (T := kT_D) (N := 42) hx hb hg kin_D kt_D kty_D knm_D hown hK hP hD hS 0 rfl rfl 20 (by decide) (hg _ tw_837) (fun _ h9 => h9) rfl (by decide +kernel) rfl rfl (Nat.le_of_ble_eq_true rfl) d_D_clear_17 (fun H_5 lo_6 hP hD hS => ?_)
  have hP : va_P (dC, dI) kcl [(d, .inr (9, [.int 0, .ref kq, .int 0, .ref hq, .int 0, .int 0, (zd 6), (zd 7), (zd 8), (zd 9), (zd 10), (zd 11), .int 0, (zd 13), (zd 14), (zd 15), (zd 16), (zd 17), (zd 18), (zd 19), .int 0, (zd 21), (zd 22), (zd 23), (zd 24), (zd 25), (zd 26), (zd 27), (zd 28), (zd 29), (zd 30), (zd 31), .int 0, (zd 33), (zd 34), (zd 35), (zd 36), (zd 37), (zd 38), (zd 39), (zd 40), .int 0])), (kq, .inl (cK, 32, .inl fk)), (hq, .inl (cH, 12, .inl fh))] H_5 := hP
  have hD : va_D A [(d, .inr (9, [.int 0, .ref kq, .int 0, .ref hq, .int 0, .int 0, (zd 6), (zd 7), (zd 8), (zd 9), (zd 10), (zd 11), .int 0, (zd 13), (zd 14), (zd 15), (zd 16), (zd 17), (zd 18), (zd 19), .int 0, (zd 21), (zd 22), (zd 23), (zd 24), (zd 25), (zd 26), (zd 27), (zd 28), (zd 29), (zd 30), (zd 31), .int 0, (zd 33), (zd 34), (zd 35), (zd 36), (zd 37), (zd 38), (zd 39), (zd 40), .int 0])), (kq, .inl (cK, 32, .inl fk)), (hq, .inl (cH, 12, .inl fh))] := hD
  refine lv_iload_n hx hb d_D_clear_20 rfl (lv_at hl 0 rfl) ?_
  have hP9 := hP.sub (ws' := [(d, .inr (9, [.int 0, .ref kq, .int 0, .ref hq, .int 0, .int 0, (zd 6), (zd 7), (zd 8), (zd 9), (zd 10), (zd 11), .int 0, (zd 13), (zd 14), (zd 15), (zd 16), (zd 17), (zd 18), (zd 19), .int 0, (zd 21), (zd 22), (zd 23), (zd 24), (zd 25), (zd 26), (zd 27), (zd 28), (zd 29), (zd 30), (zd 31), .int 0, (zd 33), (zd 34), (zd 35), (zd 36), (zd 37), (zd 38), (zd 39), (zd 40), .int 0]))]) [0] rfl
  have hD9 := hD.sub (ws' := [(d, .inr (9, [.int 0, .ref kq, .int 0, .ref hq, .int 0, .int 0, (zd 6), (zd 7), (zd 8), (zd 9), (zd 10), (zd 11), .int 0, (zd 13), (zd 14), (zd 15), (zd 16), (zd 17), (zd 18), (zd 19), .int 0, (zd 21), (zd 22), (zd 23), (zd 24), (zd 25), (zd 26), (zd 27), (zd 28), (zd 29), (zd 30), (zd 31), .int 0, (zd 33), (zd 34), (zd 35), (zd 36), (zd 37), (zd 38), (zd 39), (zd 40), .int 0]))]) [0] (by decide) rfl
  have hK9 := hK.sub (tys' := []) [] rfl
  exact W.iret (v := 0) hx hb hr (fun t ht hW => ⟨⟨0, 0, rfl, rfl, ⟨(fun i => List.getD [Value.int (0 : Int32), Value.ref kq, Value.int (0 : Int32), Value.ref hq, Value.int (0 : Int32), Value.int (0 : Int32), (zd 6), (zd 7), (zd 8), (zd 9), (zd 10), (zd 11), Value.int (0 : Int32), (zd 13), (zd 14), (zd 15), (zd 16), (zd 17), (zd 18), (zd 19), Value.int (0 : Int32), (zd 21), (zd 22), (zd 23), (zd 24), (zd 25), (zd 26), (zd 27), (zd 28), (zd 29), (zd 30), (zd 31), Value.int (0 : Int32), (zd 33), (zd 34), (zd 35), (zd 36), (zd 37), (zd 38), (zd 39), (zd 40), Value.int (0 : Int32)] i Value.null), by rw [ht]; exact hP9, va_K.moved hW.alike hK9, hD9⟩⟩, hS.F ht⟩) hS.2.2 d_D_clear_21
