set_option maxRecDepth 100000 in
theorem tw_1 : (Jvm.Cond.initialized "TreeMatcher") ∈ gw := gw_of (List.mem_of_getElem? (i := 1) rfl) rfl
set_option maxRecDepth 100000 in
theorem tw_2 : (Jvm.Cond.initialized "TreeMatcher$Grammar") ∈ gw := gw_of (List.mem_of_getElem? (i := 2) rfl) rfl
set_option maxRecDepth 100000 in
theorem tw_3 : (Jvm.Cond.initialized "TreeMatcher$Groups") ∈ gw := gw_of (List.mem_of_getElem? (i := 3) rfl) rfl
set_option maxRecDepth 100000 in
theorem tw_4 : (Jvm.Cond.initialized "TreeMatcher$Parts") ∈ gw := gw_of (List.mem_of_getElem? (i := 4) rfl) rfl
set_option maxRecDepth 100000 in
theorem tw_6 : (Jvm.Cond.initialized "TreeMatcher$Forest") ∈ gw := gw_of (List.mem_of_getElem? (i := 6) rfl) rfl
set_option maxRecDepth 100000 in
theorem tw_7 : (Jvm.Cond.initialized "TreeMatcher$Labels") ∈ gw := gw_of (List.mem_of_getElem? (i := 7) rfl) rfl
set_option maxRecDepth 100000 in
theorem tw_8 : (Jvm.Cond.initialized "TreeMatcher$Vectors") ∈ gw := gw_of (List.mem_of_getElem? (i := 8) rfl) rfl
set_option maxRecDepth 100000 in
theorem tw_9 : (Jvm.Cond.initialized "TreeMatcher$Covering") ∈ gw := gw_of (List.mem_of_getElem? (i := 9) rfl) rfl
set_option maxRecDepth 100000 in
theorem tw_10 : (Jvm.Cond.initialized "TreeMatcher$Tally") ∈ gw := gw_of (List.mem_of_getElem? (i := 10) rfl) rfl
set_option maxRecDepth 100000 in
theorem tw_15 : (Jvm.Cond.initialized "java/lang/IllegalArgumentException") ∈ gw := gw_of (List.mem_of_getElem? (i := 15) rfl) rfl
set_option maxRecDepth 100000 in
theorem tw_19 : (Jvm.Cond.initialized "java/lang/IndexOutOfBoundsException") ∈ gw := gw_of (List.mem_of_getElem? (i := 19) rfl) rfl
set_option maxRecDepth 100000 in
theorem tw_26 : (Jvm.Cond.instanceMethod ({ cls := "java/lang/Object", name := "<init>", desc := "()V" } : Jvm.MethodName)) ∈ gw := gw_of (List.mem_of_getElem? (i := 26) rfl) rfl
set_option maxRecDepth 100000 in
theorem tw_27 : (Jvm.Cond.code ({ cls := "java/lang/Object", name := "<init>", desc := "()V" } : Jvm.MethodName) object_method_1_code (1 : Nat) (Option.none : Option Jvm.ClassFile.FieldType)) ∈ gw := gw_of (List.mem_of_getElem? (i := 27) rfl) rfl
set_option maxRecDepth 100000 in
theorem tw_35 : (Jvm.Cond.instantiable "TreeMatcher$Groups" (3 : Nat)) ∈ gw := gw_of (List.mem_of_getElem? (i := 35) rfl) rfl
set_option maxRecDepth 100000 in
theorem tw_37 : (Jvm.Cond.instanceMethod ({ cls := "TreeMatcher$Groups", name := "<init>", desc := "(II)V" } : Jvm.MethodName)) ∈ gw := gw_of (List.mem_of_getElem? (i := 37) rfl) rfl
set_option maxRecDepth 100000 in
theorem tw_38 : (Jvm.Cond.code ({ cls := "TreeMatcher$Groups", name := "<init>", desc := "(II)V" } : Jvm.MethodName) prog_5_method_1_code (3 : Nat) (Option.none : Option Jvm.ClassFile.FieldType)) ∈ gw := gw_of (List.mem_of_getElem? (i := 38) rfl) rfl
set_option maxRecDepth 100000 in
theorem tw_39 : (Jvm.Cond.methodLink "TreeMatcher$Groups" (1 : Nat) ({ cls := "java/lang/Object", name := "<init>", desc := "()V" } : Jvm.MethodName)) ∈ gw := gw_of (List.mem_of_getElem? (i := 39) rfl) rfl
set_option maxRecDepth 100000 in
theorem tw_40 : (Jvm.Cond.fieldLink "TreeMatcher$Groups" (7 : Nat) "TreeMatcher$Groups" "groups" "I") ∈ gw := gw_of (List.mem_of_getElem? (i := 40) rfl) rfl
set_option maxRecDepth 100000 in
theorem tw_41 : (Jvm.Cond.fieldLink "TreeMatcher$Groups" (13 : Nat) "TreeMatcher$Groups" "starts" "[I") ∈ gw := gw_of (List.mem_of_getElem? (i := 41) rfl) rfl
set_option maxRecDepth 100000 in
theorem tw_42 : (Jvm.Cond.fieldLink "TreeMatcher$Groups" (17 : Nat) "TreeMatcher$Groups" "members" "[I") ∈ gw := gw_of (List.mem_of_getElem? (i := 42) rfl) rfl
set_option maxRecDepth 100000 in
theorem tw_43 : (Jvm.Cond.laysFinal "TreeMatcher$Groups" "TreeMatcher$Groups" "groups" "I") ∈ gw := gw_of (List.mem_of_getElem? (i := 43) rfl) rfl
set_option maxRecDepth 100000 in
theorem tw_45 : (Jvm.Cond.laysFinal "TreeMatcher$Groups" "TreeMatcher$Groups" "starts" "[I") ∈ gw := gw_of (List.mem_of_getElem? (i := 45) rfl) rfl
set_option maxRecDepth 100000 in
theorem tw_47 : (Jvm.Cond.laysFinal "TreeMatcher$Groups" "TreeMatcher$Groups" "members" "[I") ∈ gw := gw_of (List.mem_of_getElem? (i := 47) rfl) rfl
set_option maxRecDepth 100000 in
theorem tw_50 : (Jvm.Cond.arrayClass Jvm.ClassFile.FieldType.int) ∈ gw := gw_of (List.mem_of_getElem? (i := 50) rfl) rfl
set_option maxRecDepth 100000 in
theorem tw_55 : (Jvm.Cond.code ({ cls := "TreeMatcher$Parts", name := "<init>", desc := "()V" } : Jvm.MethodName) prog_7_method_1_code (1 : Nat) (Option.none : Option Jvm.ClassFile.FieldType)) ∈ gw := gw_of (List.mem_of_getElem? (i := 55) rfl) rfl
set_option maxRecDepth 100000 in
theorem tw_56 : (Jvm.Cond.methodLink "TreeMatcher$Parts" (3 : Nat) ({ cls := "java/lang/Object", name := "<init>", desc := "()V" } : Jvm.MethodName)) ∈ gw := gw_of (List.mem_of_getElem? (i := 56) rfl) rfl
set_option maxRecDepth 100000 in
theorem tw_57 : (Jvm.Cond.classLink "TreeMatcher$Parts" (24 : Nat) "TreeMatcher$Groups") ∈ gw := gw_of (List.mem_of_getElem? (i := 57) rfl) rfl
set_option maxRecDepth 100000 in
theorem tw_58 : (Jvm.Cond.methodLink "TreeMatcher$Parts" (26 : Nat) ({ cls := "TreeMatcher$Groups", name := "<init>", desc := "(II)V" } : Jvm.MethodName)) ∈ gw := gw_of (List.mem_of_getElem? (i := 58) rfl) rfl
set_option maxRecDepth 100000 in
theorem tw_59 : (Jvm.Cond.fieldLink "TreeMatcher$Parts" (11 : Nat) "TreeMatcher$Parts" "lefts" "[I") ∈ gw := gw_of (List.mem_of_getElem? (i := 59) rfl) rfl
set_option maxRecDepth 100000 in
theorem tw_60 : (Jvm.Cond.fieldLink "TreeMatcher$Parts" (15 : Nat) "TreeMatcher$Parts" "rights" "[I") ∈ gw := gw_of (List.mem_of_getElem? (i := 60) rfl) rfl
set_option maxRecDepth 100000 in
theorem tw_61 : (Jvm.Cond.fieldLink "TreeMatcher$Parts" (18 : Nat) "TreeMatcher$Parts" "rules" "[I") ∈ gw := gw_of (List.mem_of_getElem? (i := 61) rfl) rfl
set_option maxRecDepth 100000 in
theorem tw_62 : (Jvm.Cond.fieldLink "TreeMatcher$Parts" (21 : Nat) "TreeMatcher$Parts" "open" "[I") ∈ gw := gw_of (List.mem_of_getElem? (i := 62) rfl) rfl
set_option maxRecDepth 100000 in
theorem tw_63 : (Jvm.Cond.fieldLink "TreeMatcher$Parts" (29 : Nat) "TreeMatcher$Parts" "byOperator" "LTreeMatcher$Groups;") ∈ gw := gw_of (List.mem_of_getElem? (i := 63) rfl) rfl
set_option maxRecDepth 100000 in
theorem tw_64 : (Jvm.Cond.fieldLink "TreeMatcher$Parts" (33 : Nat) "TreeMatcher$Parts" "size" "I") ∈ gw := gw_of (List.mem_of_getElem? (i := 64) rfl) rfl
set_option maxRecDepth 100000 in
theorem tw_65 : (Jvm.Cond.laysFinal "TreeMatcher$Parts" "TreeMatcher$Parts" "lefts" "[I") ∈ gw := gw_of (List.mem_of_getElem? (i := 65) rfl) rfl
set_option maxRecDepth 100000 in
theorem tw_67 : (Jvm.Cond.laysFinal "TreeMatcher$Parts" "TreeMatcher$Parts" "rights" "[I") ∈ gw := gw_of (List.mem_of_getElem? (i := 67) rfl) rfl
set_option maxRecDepth 100000 in
theorem tw_69 : (Jvm.Cond.laysFinal "TreeMatcher$Parts" "TreeMatcher$Parts" "rules" "[I") ∈ gw := gw_of (List.mem_of_getElem? (i := 69) rfl) rfl
set_option maxRecDepth 100000 in
theorem tw_71 : (Jvm.Cond.laysFinal "TreeMatcher$Parts" "TreeMatcher$Parts" "open" "[I") ∈ gw := gw_of (List.mem_of_getElem? (i := 71) rfl) rfl
set_option maxRecDepth 100000 in
theorem tw_73 : (Jvm.Cond.laysFinal "TreeMatcher$Parts" "TreeMatcher$Parts" "byOperator" "LTreeMatcher$Groups;") ∈ gw := gw_of (List.mem_of_getElem? (i := 73) rfl) rfl
set_option maxRecDepth 100000 in
theorem tw_75 : (Jvm.Cond.lays "TreeMatcher$Parts" "TreeMatcher$Parts" "size" "I") ∈ gw := gw_of (List.mem_of_getElem? (i := 75) rfl) rfl
set_option maxRecDepth 100000 in
theorem tw_81 : (Jvm.Cond.fieldLink "TreeMatcher$Grammar" (9 : Nat) "TreeMatcher$Grammar" "kids" "[I") ∈ gw := gw_of (List.mem_of_getElem? (i := 81) rfl) rfl
set_option maxRecDepth 100000 in
theorem tw_82 : (Jvm.Cond.fieldLink "TreeMatcher$Grammar" (15 : Nat) "TreeMatcher$Grammar" "operatorCount" "I") ∈ gw := gw_of (List.mem_of_getElem? (i := 82) rfl) rfl
set_option maxRecDepth 100000 in
theorem tw_83 : (Jvm.Cond.fieldLink "TreeMatcher$Grammar" (19 : Nat) "TreeMatcher$Grammar" "hand" "[I") ∈ gw := gw_of (List.mem_of_getElem? (i := 83) rfl) rfl
set_option maxRecDepth 100000 in
theorem tw_84 : (Jvm.Cond.fieldLink "TreeMatcher$Grammar" (22 : Nat) "TreeMatcher$Grammar" "handSize" "I") ∈ gw := gw_of (List.mem_of_getElem? (i := 84) rfl) rfl
set_option maxRecDepth 100000 in
theorem tw_92 : (Jvm.Cond.fieldLink "TreeMatcher$Grammar" (52 : Nat) "TreeMatcher$Grammar" "ruleCount" "I") ∈ gw := gw_of (List.mem_of_getElem? (i := 92) rfl) rfl
set_option maxRecDepth 100000 in
theorem tw_93 : (Jvm.Cond.fieldLink "TreeMatcher$Grammar" (55 : Nat) "TreeMatcher$Grammar" "limits" "Z") ∈ gw := gw_of (List.mem_of_getElem? (i := 93) rfl) rfl
set_option maxRecDepth 100000 in
theorem tw_94 : (Jvm.Cond.fieldLink "TreeMatcher$Grammar" (62 : Nat) "TreeMatcher$Grammar" "parts" "LTreeMatcher$Parts;") ∈ gw := gw_of (List.mem_of_getElem? (i := 94) rfl) rfl
set_option maxRecDepth 100000 in
theorem tw_95 : (Jvm.Cond.laysFinal "TreeMatcher$Grammar" "TreeMatcher$Grammar" "kids" "[I") ∈ gw := gw_of (List.mem_of_getElem? (i := 95) rfl) rfl
set_option maxRecDepth 100000 in
theorem tw_97 : (Jvm.Cond.lays "TreeMatcher$Grammar" "TreeMatcher$Grammar" "operatorCount" "I") ∈ gw := gw_of (List.mem_of_getElem? (i := 97) rfl) rfl
set_option maxRecDepth 100000 in
theorem tw_99 : (Jvm.Cond.laysFinal "TreeMatcher$Grammar" "TreeMatcher$Grammar" "hand" "[I") ∈ gw := gw_of (List.mem_of_getElem? (i := 99) rfl) rfl
set_option maxRecDepth 100000 in
theorem tw_101 : (Jvm.Cond.lays "TreeMatcher$Grammar" "TreeMatcher$Grammar" "handSize" "I") ∈ gw := gw_of (List.mem_of_getElem? (i := 101) rfl) rfl
set_option maxRecDepth 100000 in
theorem tw_103 : (Jvm.Cond.laysFinal "TreeMatcher$Grammar" "TreeMatcher$Grammar" "elements" "[I") ∈ gw := gw_of (List.mem_of_getElem? (i := 103) rfl) rfl
set_option maxRecDepth 100000 in
theorem tw_105 : (Jvm.Cond.laysFinal "TreeMatcher$Grammar" "TreeMatcher$Grammar" "lengths" "[I") ∈ gw := gw_of (List.mem_of_getElem? (i := 105) rfl) rfl
set_option maxRecDepth 100000 in
theorem tw_107 : (Jvm.Cond.laysFinal "TreeMatcher$Grammar" "TreeMatcher$Grammar" "gives" "[I") ∈ gw := gw_of (List.mem_of_getElem? (i := 107) rfl) rfl
set_option maxRecDepth 100000 in
theorem tw_109 : (Jvm.Cond.laysFinal "TreeMatcher$Grammar" "TreeMatcher$Grammar" "costs" "[I") ∈ gw := gw_of (List.mem_of_getElem? (i := 109) rfl) rfl
set_option maxRecDepth 100000 in
theorem tw_111 : (Jvm.Cond.laysFinal "TreeMatcher$Grammar" "TreeMatcher$Grammar" "lows" "[I") ∈ gw := gw_of (List.mem_of_getElem? (i := 111) rfl) rfl
set_option maxRecDepth 100000 in
theorem tw_113 : (Jvm.Cond.laysFinal "TreeMatcher$Grammar" "TreeMatcher$Grammar" "highs" "[I") ∈ gw := gw_of (List.mem_of_getElem? (i := 113) rfl) rfl
set_option maxRecDepth 100000 in
theorem tw_115 : (Jvm.Cond.laysFinal "TreeMatcher$Grammar" "TreeMatcher$Grammar" "rulesByChain" "LTreeMatcher$Groups;") ∈ gw := gw_of (List.mem_of_getElem? (i := 115) rfl) rfl
set_option maxRecDepth 100000 in
theorem tw_117 : (Jvm.Cond.lays "TreeMatcher$Grammar" "TreeMatcher$Grammar" "ruleCount" "I") ∈ gw := gw_of (List.mem_of_getElem? (i := 117) rfl) rfl
set_option maxRecDepth 100000 in
theorem tw_119 : (Jvm.Cond.lays "TreeMatcher$Grammar" "TreeMatcher$Grammar" "limits" "Z") ∈ gw := gw_of (List.mem_of_getElem? (i := 119) rfl) rfl
set_option maxRecDepth 100000 in
theorem tw_121 : (Jvm.Cond.laysFinal "TreeMatcher$Grammar" "TreeMatcher$Grammar" "parts" "LTreeMatcher$Parts;") ∈ gw := gw_of (List.mem_of_getElem? (i := 121) rfl) rfl
set_option maxRecDepth 100000 in
theorem tw_128 : (Jvm.Cond.code ({ cls := "TreeMatcher$Forest", name := "<init>", desc := "(LTreeMatcher$Grammar;)V" } : Jvm.MethodName) prog_3_method_1_code (2 : Nat) (Option.none : Option Jvm.ClassFile.FieldType)) ∈ gw := gw_of (List.mem_of_getElem? (i := 128) rfl) rfl
set_option maxRecDepth 100000 in
theorem tw_129 : (Jvm.Cond.methodLink "TreeMatcher$Forest" (3 : Nat) ({ cls := "java/lang/Object", name := "<init>", desc := "()V" } : Jvm.MethodName)) ∈ gw := gw_of (List.mem_of_getElem? (i := 129) rfl) rfl
set_option maxRecDepth 100000 in
theorem tw_130 : (Jvm.Cond.classLink "TreeMatcher$Forest" (51 : Nat) "TreeMatcher$Labels") ∈ gw := gw_of (List.mem_of_getElem? (i := 130) rfl) rfl
set_option maxRecDepth 100000 in
theorem tw_131 : (Jvm.Cond.instantiable "TreeMatcher$Labels" (3 : Nat)) ∈ gw := gw_of (List.mem_of_getElem? (i := 131) rfl) rfl
set_option maxRecDepth 100000 in
theorem tw_132 : (Jvm.Cond.methodLink "TreeMatcher$Forest" (53 : Nat) ({ cls := "TreeMatcher$Labels", name := "<init>", desc := "(LTreeMatcher$Grammar;)V" } : Jvm.MethodName)) ∈ gw := gw_of (List.mem_of_getElem? (i := 132) rfl) rfl
set_option maxRecDepth 100000 in
theorem tw_133 : (Jvm.Cond.instanceMethod ({ cls := "TreeMatcher$Labels", name := "<init>", desc := "(LTreeMatcher$Grammar;)V" } : Jvm.MethodName)) ∈ gw := gw_of (List.mem_of_getElem? (i := 133) rfl) rfl
set_option maxRecDepth 100000 in
theorem tw_134 : (Jvm.Cond.code ({ cls := "TreeMatcher$Labels", name := "<init>", desc := "(LTreeMatcher$Grammar;)V" } : Jvm.MethodName) prog_6_method_1_code (2 : Nat) (Option.none : Option Jvm.ClassFile.FieldType)) ∈ gw := gw_of (List.mem_of_getElem? (i := 134) rfl) rfl
set_option maxRecDepth 100000 in
theorem tw_135 : (Jvm.Cond.methodLink "TreeMatcher$Labels" (3 : Nat) ({ cls := "java/lang/Object", name := "<init>", desc := "()V" } : Jvm.MethodName)) ∈ gw := gw_of (List.mem_of_getElem? (i := 135) rfl) rfl
set_option maxRecDepth 100000 in
theorem tw_136 : (Jvm.Cond.fieldLink "TreeMatcher$Labels" (19 : Nat) "TreeMatcher$Labels" "grammar" "LTreeMatcher$Grammar;") ∈ gw := gw_of (List.mem_of_getElem? (i := 136) rfl) rfl
set_option maxRecDepth 100000 in
theorem tw_137 : (Jvm.Cond.fieldLink "TreeMatcher$Labels" (9 : Nat) "TreeMatcher$Labels" "costs" "[J") ∈ gw := gw_of (List.mem_of_getElem? (i := 137) rfl) rfl
set_option maxRecDepth 100000 in
theorem tw_138 : (Jvm.Cond.fieldLink "TreeMatcher$Labels" (15 : Nat) "TreeMatcher$Labels" "rules" "[I") ∈ gw := gw_of (List.mem_of_getElem? (i := 138) rfl) rfl
set_option maxRecDepth 100000 in
theorem tw_139 : (Jvm.Cond.laysFinal "TreeMatcher$Labels" "TreeMatcher$Labels" "grammar" "LTreeMatcher$Grammar;") ∈ gw := gw_of (List.mem_of_getElem? (i := 139) rfl) rfl
set_option maxRecDepth 100000 in
theorem tw_141 : (Jvm.Cond.laysFinal "TreeMatcher$Labels" "TreeMatcher$Labels" "costs" "[J") ∈ gw := gw_of (List.mem_of_getElem? (i := 141) rfl) rfl
set_option maxRecDepth 100000 in
theorem tw_143 : (Jvm.Cond.laysFinal "TreeMatcher$Labels" "TreeMatcher$Labels" "rules" "[I") ∈ gw := gw_of (List.mem_of_getElem? (i := 143) rfl) rfl
set_option maxRecDepth 100000 in
theorem tw_146 : (Jvm.Cond.arrayClass Jvm.ClassFile.FieldType.boolean) ∈ gw := gw_of (List.mem_of_getElem? (i := 146) rfl) rfl
set_option maxRecDepth 100000 in
theorem tw_147 : (Jvm.Cond.arrayClass Jvm.ClassFile.FieldType.long) ∈ gw := gw_of (List.mem_of_getElem? (i := 147) rfl) rfl
set_option maxRecDepth 100000 in
theorem tw_148 : (Jvm.Cond.classLink "TreeMatcher$Forest" (60 : Nat) "TreeMatcher$Vectors") ∈ gw := gw_of (List.mem_of_getElem? (i := 148) rfl) rfl
set_option maxRecDepth 100000 in
theorem tw_149 : (Jvm.Cond.instantiable "TreeMatcher$Vectors" (8 : Nat)) ∈ gw := gw_of (List.mem_of_getElem? (i := 149) rfl) rfl
set_option maxRecDepth 100000 in
theorem tw_150 : (Jvm.Cond.methodLink "TreeMatcher$Forest" (62 : Nat) ({ cls := "TreeMatcher$Vectors", name := "<init>", desc := "(LTreeMatcher$Grammar;I)V" } : Jvm.MethodName)) ∈ gw := gw_of (List.mem_of_getElem? (i := 150) rfl) rfl
set_option maxRecDepth 100000 in
theorem tw_151 : (Jvm.Cond.instanceMethod ({ cls := "TreeMatcher$Vectors", name := "<init>", desc := "(LTreeMatcher$Grammar;I)V" } : Jvm.MethodName)) ∈ gw := gw_of (List.mem_of_getElem? (i := 151) rfl) rfl
set_option maxRecDepth 100000 in
theorem tw_152 : (Jvm.Cond.code ({ cls := "TreeMatcher$Vectors", name := "<init>", desc := "(LTreeMatcher$Grammar;I)V" } : Jvm.MethodName) prog_9_method_1_code (3 : Nat) (Option.none : Option Jvm.ClassFile.FieldType)) ∈ gw := gw_of (List.mem_of_getElem? (i := 152) rfl) rfl
set_option maxRecDepth 100000 in
theorem tw_153 : (Jvm.Cond.methodLink "TreeMatcher$Vectors" (3 : Nat) ({ cls := "java/lang/Object", name := "<init>", desc := "()V" } : Jvm.MethodName)) ∈ gw := gw_of (List.mem_of_getElem? (i := 153) rfl) rfl
set_option maxRecDepth 100000 in
theorem tw_154 : (Jvm.Cond.methodLink "TreeMatcher$Vectors" (25 : Nat) ({ cls := "TreeMatcher$Grammar", name := "parts", desc := "()LTreeMatcher$Parts;" } : Jvm.MethodName)) ∈ gw := gw_of (List.mem_of_getElem? (i := 154) rfl) rfl
set_option maxRecDepth 100000 in
theorem tw_155 : (Jvm.Cond.instanceMethod ({ cls := "TreeMatcher$Grammar", name := "parts", desc := "()LTreeMatcher$Parts;" } : Jvm.MethodName)) ∈ gw := gw_of (List.mem_of_getElem? (i := 155) rfl) rfl
set_option maxRecDepth 100000 in
theorem tw_156 : (Jvm.Cond.selects "TreeMatcher$Grammar" ({ cls := "TreeMatcher$Grammar", name := "parts", desc := "()LTreeMatcher$Parts;" } : Jvm.MethodName) ({ cls := "TreeMatcher$Grammar", name := "parts", desc := "()LTreeMatcher$Parts;" } : Jvm.MethodName)) ∈ gw := gw_of (List.mem_of_getElem? (i := 156) rfl) rfl
set_option maxRecDepth 100000 in
theorem tw_157 : (Jvm.Cond.code ({ cls := "TreeMatcher$Grammar", name := "parts", desc := "()LTreeMatcher$Parts;" } : Jvm.MethodName) prog_4_method_19_code (1 : Nat) (Option.some (Jvm.ClassFile.FieldType.object "TreeMatcher$Parts"))) ∈ gw := gw_of (List.mem_of_getElem? (i := 157) rfl) rfl
set_option maxRecDepth 100000 in
theorem tw_158 : (Jvm.Cond.methodLink "TreeMatcher$Vectors" (34 : Nat) ({ cls := "TreeMatcher$Parts", name := "byOperator", desc := "()LTreeMatcher$Groups;" } : Jvm.MethodName)) ∈ gw := gw_of (List.mem_of_getElem? (i := 158) rfl) rfl
set_option maxRecDepth 100000 in
theorem tw_159 : (Jvm.Cond.instanceMethod ({ cls := "TreeMatcher$Parts", name := "byOperator", desc := "()LTreeMatcher$Groups;" } : Jvm.MethodName)) ∈ gw := gw_of (List.mem_of_getElem? (i := 159) rfl) rfl
set_option maxRecDepth 100000 in
theorem tw_160 : (Jvm.Cond.selects "TreeMatcher$Parts" ({ cls := "TreeMatcher$Parts", name := "byOperator", desc := "()LTreeMatcher$Groups;" } : Jvm.MethodName) ({ cls := "TreeMatcher$Parts", name := "byOperator", desc := "()LTreeMatcher$Groups;" } : Jvm.MethodName)) ∈ gw := gw_of (List.mem_of_getElem? (i := 160) rfl) rfl
set_option maxRecDepth 100000 in
theorem tw_161 : (Jvm.Cond.code ({ cls := "TreeMatcher$Parts", name := "byOperator", desc := "()LTreeMatcher$Groups;" } : Jvm.MethodName) prog_7_method_8_code (1 : Nat) (Option.some (Jvm.ClassFile.FieldType.object "TreeMatcher$Groups"))) ∈ gw := gw_of (List.mem_of_getElem? (i := 161) rfl) rfl
set_option maxRecDepth 100000 in
theorem tw_162 : (Jvm.Cond.classLink "TreeMatcher$Vectors" (41 : Nat) "TreeMatcher$Labels") ∈ gw := gw_of (List.mem_of_getElem? (i := 162) rfl) rfl
set_option maxRecDepth 100000 in
theorem tw_163 : (Jvm.Cond.methodLink "TreeMatcher$Vectors" (43 : Nat) ({ cls := "TreeMatcher$Labels", name := "<init>", desc := "(LTreeMatcher$Grammar;)V" } : Jvm.MethodName)) ∈ gw := gw_of (List.mem_of_getElem? (i := 163) rfl) rfl
set_option maxRecDepth 100000 in
theorem tw_164 : (Jvm.Cond.classLink "TreeMatcher$Vectors" (50 : Nat) "[J") ∈ gw := gw_of (List.mem_of_getElem? (i := 164) rfl) rfl
set_option maxRecDepth 100000 in
theorem tw_166 : (Jvm.Cond.fieldLink "TreeMatcher$Vectors" (21 : Nat) "TreeMatcher$Vectors" "grammar" "LTreeMatcher$Grammar;") ∈ gw := gw_of (List.mem_of_getElem? (i := 166) rfl) rfl
set_option maxRecDepth 100000 in
theorem tw_167 : (Jvm.Cond.fieldLink "TreeMatcher$Vectors" (31 : Nat) "TreeMatcher$Vectors" "parts" "LTreeMatcher$Parts;") ∈ gw := gw_of (List.mem_of_getElem? (i := 167) rfl) rfl
set_option maxRecDepth 100000 in
theorem tw_168 : (Jvm.Cond.fieldLink "TreeMatcher$Vectors" (38 : Nat) "TreeMatcher$Vectors" "byOperator" "LTreeMatcher$Groups;") ∈ gw := gw_of (List.mem_of_getElem? (i := 168) rfl) rfl
set_option maxRecDepth 100000 in
theorem tw_169 : (Jvm.Cond.fieldLink "TreeMatcher$Vectors" (46 : Nat) "TreeMatcher$Vectors" "labels" "LTreeMatcher$Labels;") ∈ gw := gw_of (List.mem_of_getElem? (i := 169) rfl) rfl
set_option maxRecDepth 100000 in
theorem tw_170 : (Jvm.Cond.fieldLink "TreeMatcher$Vectors" (51 : Nat) "TreeMatcher$Vectors" "rows" "[[J") ∈ gw := gw_of (List.mem_of_getElem? (i := 170) rfl) rfl
set_option maxRecDepth 100000 in
theorem tw_171 : (Jvm.Cond.fieldLink "TreeMatcher$Vectors" (55 : Nat) "TreeMatcher$Vectors" "roots" "[I") ∈ gw := gw_of (List.mem_of_getElem? (i := 171) rfl) rfl
set_option maxRecDepth 100000 in
theorem tw_172 : (Jvm.Cond.fieldLink "TreeMatcher$Vectors" (11 : Nat) "TreeMatcher$Vectors" "fresh" "[J") ∈ gw := gw_of (List.mem_of_getElem? (i := 172) rfl) rfl
set_option maxRecDepth 100000 in
theorem tw_173 : (Jvm.Cond.fieldLink "TreeMatcher$Vectors" (17 : Nat) "TreeMatcher$Vectors" "size" "I") ∈ gw := gw_of (List.mem_of_getElem? (i := 173) rfl) rfl
set_option maxRecDepth 100000 in
theorem tw_174 : (Jvm.Cond.laysFinal "TreeMatcher$Vectors" "TreeMatcher$Vectors" "grammar" "LTreeMatcher$Grammar;") ∈ gw := gw_of (List.mem_of_getElem? (i := 174) rfl) rfl
set_option maxRecDepth 100000 in
theorem tw_176 : (Jvm.Cond.laysFinal "TreeMatcher$Vectors" "TreeMatcher$Vectors" "parts" "LTreeMatcher$Parts;") ∈ gw := gw_of (List.mem_of_getElem? (i := 176) rfl) rfl
set_option maxRecDepth 100000 in
theorem tw_178 : (Jvm.Cond.laysFinal "TreeMatcher$Vectors" "TreeMatcher$Vectors" "byOperator" "LTreeMatcher$Groups;") ∈ gw := gw_of (List.mem_of_getElem? (i := 178) rfl) rfl
set_option maxRecDepth 100000 in
theorem tw_180 : (Jvm.Cond.laysFinal "TreeMatcher$Vectors" "TreeMatcher$Vectors" "labels" "LTreeMatcher$Labels;") ∈ gw := gw_of (List.mem_of_getElem? (i := 180) rfl) rfl
set_option maxRecDepth 100000 in
theorem tw_182 : (Jvm.Cond.laysFinal "TreeMatcher$Vectors" "TreeMatcher$Vectors" "rows" "[[J") ∈ gw := gw_of (List.mem_of_getElem? (i := 182) rfl) rfl
set_option maxRecDepth 100000 in
theorem tw_184 : (Jvm.Cond.laysFinal "TreeMatcher$Vectors" "TreeMatcher$Vectors" "roots" "[I") ∈ gw := gw_of (List.mem_of_getElem? (i := 184) rfl) rfl
set_option maxRecDepth 100000 in
theorem tw_186 : (Jvm.Cond.laysFinal "TreeMatcher$Vectors" "TreeMatcher$Vectors" "fresh" "[J") ∈ gw := gw_of (List.mem_of_getElem? (i := 186) rfl) rfl
set_option maxRecDepth 100000 in
theorem tw_188 : (Jvm.Cond.lays "TreeMatcher$Vectors" "TreeMatcher$Vectors" "size" "I") ∈ gw := gw_of (List.mem_of_getElem? (i := 188) rfl) rfl
set_option maxRecDepth 100000 in
theorem tw_191 : (Jvm.Cond.fieldLink "TreeMatcher$Forest" (47 : Nat) "TreeMatcher$Forest" "grammar" "LTreeMatcher$Grammar;") ∈ gw := gw_of (List.mem_of_getElem? (i := 191) rfl) rfl
set_option maxRecDepth 100000 in
theorem tw_192 : (Jvm.Cond.fieldLink "TreeMatcher$Forest" (9 : Nat) "TreeMatcher$Forest" "operators" "[I") ∈ gw := gw_of (List.mem_of_getElem? (i := 192) rfl) rfl
set_option maxRecDepth 100000 in
theorem tw_193 : (Jvm.Cond.fieldLink "TreeMatcher$Forest" (15 : Nat) "TreeMatcher$Forest" "values" "[I") ∈ gw := gw_of (List.mem_of_getElem? (i := 193) rfl) rfl
set_option maxRecDepth 100000 in
theorem tw_194 : (Jvm.Cond.fieldLink "TreeMatcher$Forest" (18 : Nat) "TreeMatcher$Forest" "lefts" "[I") ∈ gw := gw_of (List.mem_of_getElem? (i := 194) rfl) rfl
set_option maxRecDepth 100000 in
theorem tw_195 : (Jvm.Cond.fieldLink "TreeMatcher$Forest" (21 : Nat) "TreeMatcher$Forest" "rights" "[I") ∈ gw := gw_of (List.mem_of_getElem? (i := 195) rfl) rfl
set_option maxRecDepth 100000 in
theorem tw_196 : (Jvm.Cond.fieldLink "TreeMatcher$Forest" (24 : Nat) "TreeMatcher$Forest" "isKid" "[Z") ∈ gw := gw_of (List.mem_of_getElem? (i := 196) rfl) rfl
set_option maxRecDepth 100000 in
theorem tw_197 : (Jvm.Cond.fieldLink "TreeMatcher$Forest" (28 : Nat) "TreeMatcher$Forest" "costs" "[I") ∈ gw := gw_of (List.mem_of_getElem? (i := 197) rfl) rfl
set_option maxRecDepth 100000 in
theorem tw_198 : (Jvm.Cond.fieldLink "TreeMatcher$Forest" (31 : Nat) "TreeMatcher$Forest" "rules" "[I") ∈ gw := gw_of (List.mem_of_getElem? (i := 198) rfl) rfl
set_option maxRecDepth 100000 in
theorem tw_199 : (Jvm.Cond.fieldLink "TreeMatcher$Forest" (34 : Nat) "TreeMatcher$Forest" "vectorRows" "[I") ∈ gw := gw_of (List.mem_of_getElem? (i := 199) rfl) rfl
set_option maxRecDepth 100000 in
theorem tw_200 : (Jvm.Cond.fieldLink "TreeMatcher$Forest" (37 : Nat) "TreeMatcher$Forest" "size" "I") ∈ gw := gw_of (List.mem_of_getElem? (i := 200) rfl) rfl
set_option maxRecDepth 100000 in
theorem tw_201 : (Jvm.Cond.fieldLink "TreeMatcher$Forest" (56 : Nat) "TreeMatcher$Forest" "labels" "LTreeMatcher$Labels;") ∈ gw := gw_of (List.mem_of_getElem? (i := 201) rfl) rfl
set_option maxRecDepth 100000 in
theorem tw_202 : (Jvm.Cond.fieldLink "TreeMatcher$Forest" (65 : Nat) "TreeMatcher$Forest" "vectors" "LTreeMatcher$Vectors;") ∈ gw := gw_of (List.mem_of_getElem? (i := 202) rfl) rfl
set_option maxRecDepth 100000 in
theorem tw_203 : (Jvm.Cond.fieldLink "TreeMatcher$Forest" (41 : Nat) "TreeMatcher$Forest" "places" "[I") ∈ gw := gw_of (List.mem_of_getElem? (i := 203) rfl) rfl
set_option maxRecDepth 100000 in
theorem tw_204 : (Jvm.Cond.fieldLink "TreeMatcher$Forest" (44 : Nat) "TreeMatcher$Forest" "open" "[I") ∈ gw := gw_of (List.mem_of_getElem? (i := 204) rfl) rfl
set_option maxRecDepth 100000 in
theorem tw_205 : (Jvm.Cond.laysFinal "TreeMatcher$Forest" "TreeMatcher$Forest" "grammar" "LTreeMatcher$Grammar;") ∈ gw := gw_of (List.mem_of_getElem? (i := 205) rfl) rfl
set_option maxRecDepth 100000 in
theorem tw_207 : (Jvm.Cond.laysFinal "TreeMatcher$Forest" "TreeMatcher$Forest" "operators" "[I") ∈ gw := gw_of (List.mem_of_getElem? (i := 207) rfl) rfl
set_option maxRecDepth 100000 in
theorem tw_209 : (Jvm.Cond.laysFinal "TreeMatcher$Forest" "TreeMatcher$Forest" "values" "[I") ∈ gw := gw_of (List.mem_of_getElem? (i := 209) rfl) rfl
set_option maxRecDepth 100000 in
theorem tw_211 : (Jvm.Cond.laysFinal "TreeMatcher$Forest" "TreeMatcher$Forest" "lefts" "[I") ∈ gw := gw_of (List.mem_of_getElem? (i := 211) rfl) rfl
set_option maxRecDepth 100000 in
theorem tw_213 : (Jvm.Cond.laysFinal "TreeMatcher$Forest" "TreeMatcher$Forest" "rights" "[I") ∈ gw := gw_of (List.mem_of_getElem? (i := 213) rfl) rfl
set_option maxRecDepth 100000 in
theorem tw_215 : (Jvm.Cond.laysFinal "TreeMatcher$Forest" "TreeMatcher$Forest" "isKid" "[Z") ∈ gw := gw_of (List.mem_of_getElem? (i := 215) rfl) rfl
set_option maxRecDepth 100000 in
theorem tw_217 : (Jvm.Cond.laysFinal "TreeMatcher$Forest" "TreeMatcher$Forest" "costs" "[I") ∈ gw := gw_of (List.mem_of_getElem? (i := 217) rfl) rfl
set_option maxRecDepth 100000 in
theorem tw_219 : (Jvm.Cond.laysFinal "TreeMatcher$Forest" "TreeMatcher$Forest" "rules" "[I") ∈ gw := gw_of (List.mem_of_getElem? (i := 219) rfl) rfl
set_option maxRecDepth 100000 in
theorem tw_221 : (Jvm.Cond.laysFinal "TreeMatcher$Forest" "TreeMatcher$Forest" "vectorRows" "[I") ∈ gw := gw_of (List.mem_of_getElem? (i := 221) rfl) rfl
set_option maxRecDepth 100000 in
theorem tw_223 : (Jvm.Cond.lays "TreeMatcher$Forest" "TreeMatcher$Forest" "size" "I") ∈ gw := gw_of (List.mem_of_getElem? (i := 223) rfl) rfl
set_option maxRecDepth 100000 in
theorem tw_225 : (Jvm.Cond.laysFinal "TreeMatcher$Forest" "TreeMatcher$Forest" "labels" "LTreeMatcher$Labels;") ∈ gw := gw_of (List.mem_of_getElem? (i := 225) rfl) rfl
set_option maxRecDepth 100000 in
theorem tw_227 : (Jvm.Cond.laysFinal "TreeMatcher$Forest" "TreeMatcher$Forest" "vectors" "LTreeMatcher$Vectors;") ∈ gw := gw_of (List.mem_of_getElem? (i := 227) rfl) rfl
set_option maxRecDepth 100000 in
theorem tw_229 : (Jvm.Cond.laysFinal "TreeMatcher$Forest" "TreeMatcher$Forest" "places" "[I") ∈ gw := gw_of (List.mem_of_getElem? (i := 229) rfl) rfl
set_option maxRecDepth 100000 in
theorem tw_231 : (Jvm.Cond.laysFinal "TreeMatcher$Forest" "TreeMatcher$Forest" "open" "[I") ∈ gw := gw_of (List.mem_of_getElem? (i := 231) rfl) rfl
set_option maxRecDepth 100000 in
theorem tw_238 : (Jvm.Cond.code ({ cls := "TreeMatcher$Covering", name := "<init>", desc := "(LTreeMatcher$Grammar;LTreeMatcher$Forest;)V" } : Jvm.MethodName) prog_2_method_1_code (3 : Nat) (Option.none : Option Jvm.ClassFile.FieldType)) ∈ gw := gw_of (List.mem_of_getElem? (i := 238) rfl) rfl
set_option maxRecDepth 100000 in
theorem tw_239 : (Jvm.Cond.methodLink "TreeMatcher$Covering" (3 : Nat) ({ cls := "java/lang/Object", name := "<init>", desc := "()V" } : Jvm.MethodName)) ∈ gw := gw_of (List.mem_of_getElem? (i := 239) rfl) rfl
set_option maxRecDepth 100000 in
theorem tw_240 : (Jvm.Cond.fieldLink "TreeMatcher$Covering" (28 : Nat) "TreeMatcher$Covering" "grammar" "LTreeMatcher$Grammar;") ∈ gw := gw_of (List.mem_of_getElem? (i := 240) rfl) rfl
set_option maxRecDepth 100000 in
theorem tw_241 : (Jvm.Cond.fieldLink "TreeMatcher$Covering" (32 : Nat) "TreeMatcher$Covering" "forest" "LTreeMatcher$Forest;") ∈ gw := gw_of (List.mem_of_getElem? (i := 241) rfl) rfl
set_option maxRecDepth 100000 in
theorem tw_242 : (Jvm.Cond.fieldLink "TreeMatcher$Covering" (9 : Nat) "TreeMatcher$Covering" "labels" "[I") ∈ gw := gw_of (List.mem_of_getElem? (i := 242) rfl) rfl
set_option maxRecDepth 100000 in
theorem tw_243 : (Jvm.Cond.fieldLink "TreeMatcher$Covering" (15 : Nat) "TreeMatcher$Covering" "backwards" "[I") ∈ gw := gw_of (List.mem_of_getElem? (i := 243) rfl) rfl
set_option maxRecDepth 100000 in
theorem tw_244 : (Jvm.Cond.fieldLink "TreeMatcher$Covering" (18 : Nat) "TreeMatcher$Covering" "open" "[I") ∈ gw := gw_of (List.mem_of_getElem? (i := 244) rfl) rfl
set_option maxRecDepth 100000 in
theorem tw_245 : (Jvm.Cond.fieldLink "TreeMatcher$Covering" (21 : Nat) "TreeMatcher$Covering" "top" "I") ∈ gw := gw_of (List.mem_of_getElem? (i := 245) rfl) rfl
set_option maxRecDepth 100000 in
theorem tw_246 : (Jvm.Cond.fieldLink "TreeMatcher$Covering" (25 : Nat) "TreeMatcher$Covering" "size" "I") ∈ gw := gw_of (List.mem_of_getElem? (i := 246) rfl) rfl
set_option maxRecDepth 100000 in
theorem tw_247 : (Jvm.Cond.laysFinal "TreeMatcher$Covering" "TreeMatcher$Covering" "grammar" "LTreeMatcher$Grammar;") ∈ gw := gw_of (List.mem_of_getElem? (i := 247) rfl) rfl
set_option maxRecDepth 100000 in
theorem tw_249 : (Jvm.Cond.laysFinal "TreeMatcher$Covering" "TreeMatcher$Covering" "forest" "LTreeMatcher$Forest;") ∈ gw := gw_of (List.mem_of_getElem? (i := 249) rfl) rfl
set_option maxRecDepth 100000 in
theorem tw_251 : (Jvm.Cond.laysFinal "TreeMatcher$Covering" "TreeMatcher$Covering" "labels" "[I") ∈ gw := gw_of (List.mem_of_getElem? (i := 251) rfl) rfl
set_option maxRecDepth 100000 in
theorem tw_253 : (Jvm.Cond.laysFinal "TreeMatcher$Covering" "TreeMatcher$Covering" "backwards" "[I") ∈ gw := gw_of (List.mem_of_getElem? (i := 253) rfl) rfl
set_option maxRecDepth 100000 in
theorem tw_255 : (Jvm.Cond.laysFinal "TreeMatcher$Covering" "TreeMatcher$Covering" "open" "[I") ∈ gw := gw_of (List.mem_of_getElem? (i := 255) rfl) rfl
set_option maxRecDepth 100000 in
theorem tw_257 : (Jvm.Cond.lays "TreeMatcher$Covering" "TreeMatcher$Covering" "top" "I") ∈ gw := gw_of (List.mem_of_getElem? (i := 257) rfl) rfl
set_option maxRecDepth 100000 in
theorem tw_259 : (Jvm.Cond.lays "TreeMatcher$Covering" "TreeMatcher$Covering" "size" "I") ∈ gw := gw_of (List.mem_of_getElem? (i := 259) rfl) rfl
set_option maxRecDepth 100000 in
theorem tw_266 : (Jvm.Cond.code ({ cls := "TreeMatcher$Tally", name := "<init>", desc := "(LTreeMatcher$Grammar;)V" } : Jvm.MethodName) prog_8_method_1_code (2 : Nat) (Option.none : Option Jvm.ClassFile.FieldType)) ∈ gw := gw_of (List.mem_of_getElem? (i := 266) rfl) rfl
set_option maxRecDepth 100000 in
theorem tw_267 : (Jvm.Cond.methodLink "TreeMatcher$Tally" (3 : Nat) ({ cls := "java/lang/Object", name := "<init>", desc := "()V" } : Jvm.MethodName)) ∈ gw := gw_of (List.mem_of_getElem? (i := 267) rfl) rfl
set_option maxRecDepth 100000 in
theorem tw_268 : (Jvm.Cond.classLink "TreeMatcher$Tally" (22 : Nat) "TreeMatcher$Vectors") ∈ gw := gw_of (List.mem_of_getElem? (i := 268) rfl) rfl
set_option maxRecDepth 100000 in
theorem tw_269 : (Jvm.Cond.methodLink "TreeMatcher$Tally" (24 : Nat) ({ cls := "TreeMatcher$Vectors", name := "<init>", desc := "(LTreeMatcher$Grammar;I)V" } : Jvm.MethodName)) ∈ gw := gw_of (List.mem_of_getElem? (i := 269) rfl) rfl
set_option maxRecDepth 100000 in
theorem tw_270 : (Jvm.Cond.fieldLink "TreeMatcher$Tally" (18 : Nat) "TreeMatcher$Tally" "grammar" "LTreeMatcher$Grammar;") ∈ gw := gw_of (List.mem_of_getElem? (i := 270) rfl) rfl
set_option maxRecDepth 100000 in
theorem tw_271 : (Jvm.Cond.fieldLink "TreeMatcher$Tally" (27 : Nat) "TreeMatcher$Tally" "vectors" "LTreeMatcher$Vectors;") ∈ gw := gw_of (List.mem_of_getElem? (i := 271) rfl) rfl
set_option maxRecDepth 100000 in
theorem tw_272 : (Jvm.Cond.fieldLink "TreeMatcher$Tally" (9 : Nat) "TreeMatcher$Tally" "operatorsThen" "I") ∈ gw := gw_of (List.mem_of_getElem? (i := 272) rfl) rfl
set_option maxRecDepth 100000 in
theorem tw_273 : (Jvm.Cond.fieldLink "TreeMatcher$Tally" (15 : Nat) "TreeMatcher$Tally" "rulesThen" "I") ∈ gw := gw_of (List.mem_of_getElem? (i := 273) rfl) rfl
set_option maxRecDepth 100000 in
theorem tw_274 : (Jvm.Cond.laysFinal "TreeMatcher$Tally" "TreeMatcher$Tally" "grammar" "LTreeMatcher$Grammar;") ∈ gw := gw_of (List.mem_of_getElem? (i := 274) rfl) rfl
set_option maxRecDepth 100000 in
theorem tw_276 : (Jvm.Cond.laysFinal "TreeMatcher$Tally" "TreeMatcher$Tally" "vectors" "LTreeMatcher$Vectors;") ∈ gw := gw_of (List.mem_of_getElem? (i := 276) rfl) rfl
set_option maxRecDepth 100000 in
theorem tw_278 : (Jvm.Cond.lays "TreeMatcher$Tally" "TreeMatcher$Tally" "operatorsThen" "I") ∈ gw := gw_of (List.mem_of_getElem? (i := 278) rfl) rfl
set_option maxRecDepth 100000 in
theorem tw_280 : (Jvm.Cond.lays "TreeMatcher$Tally" "TreeMatcher$Tally" "rulesThen" "I") ∈ gw := gw_of (List.mem_of_getElem? (i := 280) rfl) rfl
set_option maxRecDepth 100000 in
theorem tw_283 : (Jvm.Cond.fieldLink "TreeMatcher" (12 : Nat) "TreeMatcher" "grammar" "LTreeMatcher$Grammar;") ∈ gw := gw_of (List.mem_of_getElem? (i := 283) rfl) rfl
set_option maxRecDepth 100000 in
theorem tw_284 : (Jvm.Cond.fieldLink "TreeMatcher" (21 : Nat) "TreeMatcher" "forest" "LTreeMatcher$Forest;") ∈ gw := gw_of (List.mem_of_getElem? (i := 284) rfl) rfl
set_option maxRecDepth 100000 in
theorem tw_285 : (Jvm.Cond.fieldLink "TreeMatcher" (30 : Nat) "TreeMatcher" "covering" "LTreeMatcher$Covering;") ∈ gw := gw_of (List.mem_of_getElem? (i := 285) rfl) rfl
set_option maxRecDepth 100000 in
theorem tw_286 : (Jvm.Cond.fieldLink "TreeMatcher" (37 : Nat) "TreeMatcher" "tally" "LTreeMatcher$Tally;") ∈ gw := gw_of (List.mem_of_getElem? (i := 286) rfl) rfl
set_option maxRecDepth 100000 in
theorem tw_287 : (Jvm.Cond.laysFinal "TreeMatcher" "TreeMatcher" "grammar" "LTreeMatcher$Grammar;") ∈ gw := gw_of (List.mem_of_getElem? (i := 287) rfl) rfl
set_option maxRecDepth 100000 in
theorem tw_289 : (Jvm.Cond.laysFinal "TreeMatcher" "TreeMatcher" "forest" "LTreeMatcher$Forest;") ∈ gw := gw_of (List.mem_of_getElem? (i := 289) rfl) rfl
set_option maxRecDepth 100000 in
theorem tw_291 : (Jvm.Cond.laysFinal "TreeMatcher" "TreeMatcher" "covering" "LTreeMatcher$Covering;") ∈ gw := gw_of (List.mem_of_getElem? (i := 291) rfl) rfl
set_option maxRecDepth 100000 in
theorem tw_293 : (Jvm.Cond.laysFinal "TreeMatcher" "TreeMatcher" "tally" "LTreeMatcher$Tally;") ∈ gw := gw_of (List.mem_of_getElem? (i := 293) rfl) rfl
set_option maxRecDepth 100000 in
theorem tw_299 : (Jvm.Cond.code ({ cls := "TreeMatcher", name := "clear", desc := "()I" } : Jvm.MethodName) prog_1_method_12_code (1 : Nat) (Option.some Jvm.ClassFile.FieldType.int)) ∈ gw := gw_of (List.mem_of_getElem? (i := 299) rfl) rfl
set_option maxRecDepth 100000 in
theorem tw_300 : (Jvm.Cond.methodLink "TreeMatcher" (155 : Nat) ({ cls := "TreeMatcher$Covering", name := "forget", desc := "()V" } : Jvm.MethodName)) ∈ gw := gw_of (List.mem_of_getElem? (i := 300) rfl) rfl
set_option maxRecDepth 100000 in
theorem tw_301 : (Jvm.Cond.instanceMethod ({ cls := "TreeMatcher$Covering", name := "forget", desc := "()V" } : Jvm.MethodName)) ∈ gw := gw_of (List.mem_of_getElem? (i := 301) rfl) rfl
set_option maxRecDepth 100000 in
theorem tw_302 : (Jvm.Cond.selects "TreeMatcher$Covering" ({ cls := "TreeMatcher$Covering", name := "forget", desc := "()V" } : Jvm.MethodName) ({ cls := "TreeMatcher$Covering", name := "forget", desc := "()V" } : Jvm.MethodName)) ∈ gw := gw_of (List.mem_of_getElem? (i := 302) rfl) rfl
set_option maxRecDepth 100000 in
theorem tw_303 : (Jvm.Cond.code ({ cls := "TreeMatcher$Covering", name := "forget", desc := "()V" } : Jvm.MethodName) prog_2_method_4_code (1 : Nat) (Option.none : Option Jvm.ClassFile.FieldType)) ∈ gw := gw_of (List.mem_of_getElem? (i := 303) rfl) rfl
set_option maxRecDepth 100000 in
theorem tw_304 : (Jvm.Cond.methodLink "TreeMatcher" (158 : Nat) ({ cls := "TreeMatcher$Forest", name := "forget", desc := "()I" } : Jvm.MethodName)) ∈ gw := gw_of (List.mem_of_getElem? (i := 304) rfl) rfl
set_option maxRecDepth 100000 in
theorem tw_305 : (Jvm.Cond.instanceMethod ({ cls := "TreeMatcher$Forest", name := "forget", desc := "()I" } : Jvm.MethodName)) ∈ gw := gw_of (List.mem_of_getElem? (i := 305) rfl) rfl
set_option maxRecDepth 100000 in
theorem tw_306 : (Jvm.Cond.selects "TreeMatcher$Forest" ({ cls := "TreeMatcher$Forest", name := "forget", desc := "()I" } : Jvm.MethodName) ({ cls := "TreeMatcher$Forest", name := "forget", desc := "()I" } : Jvm.MethodName)) ∈ gw := gw_of (List.mem_of_getElem? (i := 306) rfl) rfl
set_option maxRecDepth 100000 in
theorem tw_307 : (Jvm.Cond.code ({ cls := "TreeMatcher$Forest", name := "forget", desc := "()I" } : Jvm.MethodName) prog_3_method_14_code (2 : Nat) (Option.some Jvm.ClassFile.FieldType.int)) ∈ gw := gw_of (List.mem_of_getElem? (i := 307) rfl) rfl
set_option maxRecDepth 100000 in
theorem tw_308 : (Jvm.Cond.methodLink "TreeMatcher$Forest" (144 : Nat) ({ cls := "TreeMatcher$Vectors", name := "forget", desc := "()V" } : Jvm.MethodName)) ∈ gw := gw_of (List.mem_of_getElem? (i := 308) rfl) rfl
set_option maxRecDepth 100000 in
theorem tw_309 : (Jvm.Cond.instanceMethod ({ cls := "TreeMatcher$Vectors", name := "forget", desc := "()V" } : Jvm.MethodName)) ∈ gw := gw_of (List.mem_of_getElem? (i := 309) rfl) rfl
set_option maxRecDepth 100000 in
theorem tw_310 : (Jvm.Cond.selects "TreeMatcher$Vectors" ({ cls := "TreeMatcher$Vectors", name := "forget", desc := "()V" } : Jvm.MethodName) ({ cls := "TreeMatcher$Vectors", name := "forget", desc := "()V" } : Jvm.MethodName)) ∈ gw := gw_of (List.mem_of_getElem? (i := 310) rfl) rfl
set_option maxRecDepth 100000 in
theorem tw_311 : (Jvm.Cond.code ({ cls := "TreeMatcher$Vectors", name := "forget", desc := "()V" } : Jvm.MethodName) prog_9_method_3_code (1 : Nat) (Option.none : Option Jvm.ClassFile.FieldType)) ∈ gw := gw_of (List.mem_of_getElem? (i := 311) rfl) rfl
set_option maxRecDepth 100000 in
theorem tw_320 : (Jvm.Cond.code ({ cls := "TreeMatcher", name := "operator", desc := "(II)I" } : Jvm.MethodName) prog_1_method_2_code (3 : Nat) (Option.some Jvm.ClassFile.FieldType.int)) ∈ gw := gw_of (List.mem_of_getElem? (i := 320) rfl) rfl
set_option maxRecDepth 100000 in
theorem tw_321 : (Jvm.Cond.methodLink "TreeMatcher" (41 : Nat) ({ cls := "TreeMatcher", name := "isWithin", desc := "(II)Z" } : Jvm.MethodName)) ∈ gw := gw_of (List.mem_of_getElem? (i := 321) rfl) rfl
set_option maxRecDepth 100000 in
theorem tw_322 : (Jvm.Cond.static ({ cls := "TreeMatcher", name := "isWithin", desc := "(II)Z" } : Jvm.MethodName)) ∈ gw := gw_of (List.mem_of_getElem? (i := 322) rfl) rfl
set_option maxRecDepth 100000 in
theorem tw_323 : (Jvm.Cond.code ({ cls := "TreeMatcher", name := "isWithin", desc := "(II)Z" } : Jvm.MethodName) prog_1_method_15_code (2 : Nat) (Option.some Jvm.ClassFile.FieldType.boolean)) ∈ gw := gw_of (List.mem_of_getElem? (i := 323) rfl) rfl
set_option maxRecDepth 100000 in
theorem tw_324 : (Jvm.Cond.classLink "TreeMatcher" (45 : Nat) "java/lang/IllegalArgumentException") ∈ gw := gw_of (List.mem_of_getElem? (i := 324) rfl) rfl
set_option maxRecDepth 100000 in
theorem tw_325 : (Jvm.Cond.instantiable "java/lang/IllegalArgumentException" (6 : Nat)) ∈ gw := gw_of (List.mem_of_getElem? (i := 325) rfl) rfl
set_option maxRecDepth 100000 in
theorem tw_392 : (Jvm.Cond.methodLink "TreeMatcher" (52 : Nat) ({ cls := "TreeMatcher$Grammar", name := "hasOperator", desc := "(I)Z" } : Jvm.MethodName)) ∈ gw := gw_of (List.mem_of_getElem? (i := 392) rfl) rfl
set_option maxRecDepth 100000 in
theorem tw_393 : (Jvm.Cond.instanceMethod ({ cls := "TreeMatcher$Grammar", name := "hasOperator", desc := "(I)Z" } : Jvm.MethodName)) ∈ gw := gw_of (List.mem_of_getElem? (i := 393) rfl) rfl
set_option maxRecDepth 100000 in
theorem tw_394 : (Jvm.Cond.selects "TreeMatcher$Grammar" ({ cls := "TreeMatcher$Grammar", name := "hasOperator", desc := "(I)Z" } : Jvm.MethodName) ({ cls := "TreeMatcher$Grammar", name := "hasOperator", desc := "(I)Z" } : Jvm.MethodName)) ∈ gw := gw_of (List.mem_of_getElem? (i := 394) rfl) rfl
set_option maxRecDepth 100000 in
theorem tw_395 : (Jvm.Cond.code ({ cls := "TreeMatcher$Grammar", name := "hasOperator", desc := "(I)Z" } : Jvm.MethodName) prog_4_method_2_code (2 : Nat) (Option.some Jvm.ClassFile.FieldType.boolean)) ∈ gw := gw_of (List.mem_of_getElem? (i := 395) rfl) rfl
set_option maxRecDepth 100000 in
theorem tw_413 : (Jvm.Cond.methodLink "TreeMatcher" (61 : Nat) ({ cls := "TreeMatcher$Grammar", name := "addOperator", desc := "(II)I" } : Jvm.MethodName)) ∈ gw := gw_of (List.mem_of_getElem? (i := 413) rfl) rfl
set_option maxRecDepth 100000 in
theorem tw_414 : (Jvm.Cond.instanceMethod ({ cls := "TreeMatcher$Grammar", name := "addOperator", desc := "(II)I" } : Jvm.MethodName)) ∈ gw := gw_of (List.mem_of_getElem? (i := 414) rfl) rfl
set_option maxRecDepth 100000 in
theorem tw_415 : (Jvm.Cond.selects "TreeMatcher$Grammar" ({ cls := "TreeMatcher$Grammar", name := "addOperator", desc := "(II)I" } : Jvm.MethodName) ({ cls := "TreeMatcher$Grammar", name := "addOperator", desc := "(II)I" } : Jvm.MethodName)) ∈ gw := gw_of (List.mem_of_getElem? (i := 415) rfl) rfl
set_option maxRecDepth 100000 in
theorem tw_416 : (Jvm.Cond.code ({ cls := "TreeMatcher$Grammar", name := "addOperator", desc := "(II)I" } : Jvm.MethodName) prog_4_method_3_code (3 : Nat) (Option.some Jvm.ClassFile.FieldType.int)) ∈ gw := gw_of (List.mem_of_getElem? (i := 416) rfl) rfl
set_option maxRecDepth 100000 in
theorem tw_423 : (Jvm.Cond.code ({ cls := "TreeMatcher", name := "element", desc := "(I)I" } : Jvm.MethodName) prog_1_method_3_code (2 : Nat) (Option.some Jvm.ClassFile.FieldType.int)) ∈ gw := gw_of (List.mem_of_getElem? (i := 423) rfl) rfl
set_option maxRecDepth 100000 in
theorem tw_425 : (Jvm.Cond.methodLink "TreeMatcher" (67 : Nat) ({ cls := "TreeMatcher$Grammar", name := "handSize", desc := "()I" } : Jvm.MethodName)) ∈ gw := gw_of (List.mem_of_getElem? (i := 425) rfl) rfl
set_option maxRecDepth 100000 in
theorem tw_426 : (Jvm.Cond.instanceMethod ({ cls := "TreeMatcher$Grammar", name := "handSize", desc := "()I" } : Jvm.MethodName)) ∈ gw := gw_of (List.mem_of_getElem? (i := 426) rfl) rfl
set_option maxRecDepth 100000 in
theorem tw_427 : (Jvm.Cond.selects "TreeMatcher$Grammar" ({ cls := "TreeMatcher$Grammar", name := "handSize", desc := "()I" } : Jvm.MethodName) ({ cls := "TreeMatcher$Grammar", name := "handSize", desc := "()I" } : Jvm.MethodName)) ∈ gw := gw_of (List.mem_of_getElem? (i := 427) rfl) rfl
set_option maxRecDepth 100000 in
theorem tw_428 : (Jvm.Cond.code ({ cls := "TreeMatcher$Grammar", name := "handSize", desc := "()I" } : Jvm.MethodName) prog_4_method_7_code (1 : Nat) (Option.some Jvm.ClassFile.FieldType.int)) ∈ gw := gw_of (List.mem_of_getElem? (i := 428) rfl) rfl
set_option maxRecDepth 100000 in
theorem tw_430 : (Jvm.Cond.methodLink "TreeMatcher" (73 : Nat) ({ cls := "TreeMatcher$Grammar", name := "addElement", desc := "(I)I" } : Jvm.MethodName)) ∈ gw := gw_of (List.mem_of_getElem? (i := 430) rfl) rfl
set_option maxRecDepth 100000 in
theorem tw_431 : (Jvm.Cond.instanceMethod ({ cls := "TreeMatcher$Grammar", name := "addElement", desc := "(I)I" } : Jvm.MethodName)) ∈ gw := gw_of (List.mem_of_getElem? (i := 431) rfl) rfl
set_option maxRecDepth 100000 in
theorem tw_432 : (Jvm.Cond.selects "TreeMatcher$Grammar" ({ cls := "TreeMatcher$Grammar", name := "addElement", desc := "(I)I" } : Jvm.MethodName) ({ cls := "TreeMatcher$Grammar", name := "addElement", desc := "(I)I" } : Jvm.MethodName)) ∈ gw := gw_of (List.mem_of_getElem? (i := 432) rfl) rfl
set_option maxRecDepth 100000 in
theorem tw_433 : (Jvm.Cond.code ({ cls := "TreeMatcher$Grammar", name := "addElement", desc := "(I)I" } : Jvm.MethodName) prog_4_method_6_code (2 : Nat) (Option.some Jvm.ClassFile.FieldType.int)) ∈ gw := gw_of (List.mem_of_getElem? (i := 433) rfl) rfl
set_option maxRecDepth 100000 in
theorem tw_440 : (Jvm.Cond.code ({ cls := "TreeMatcher", name := "rule", desc := "(IIII)I" } : Jvm.MethodName) prog_1_method_4_code (6 : Nat) (Option.some Jvm.ClassFile.FieldType.int)) ∈ gw := gw_of (List.mem_of_getElem? (i := 440) rfl) rfl
set_option maxRecDepth 100000 in
theorem tw_441 : (Jvm.Cond.methodLink "TreeMatcher" (77 : Nat) ({ cls := "TreeMatcher$Grammar", name := "ruleCount", desc := "()I" } : Jvm.MethodName)) ∈ gw := gw_of (List.mem_of_getElem? (i := 441) rfl) rfl
set_option maxRecDepth 100000 in
theorem tw_442 : (Jvm.Cond.instanceMethod ({ cls := "TreeMatcher$Grammar", name := "ruleCount", desc := "()I" } : Jvm.MethodName)) ∈ gw := gw_of (List.mem_of_getElem? (i := 442) rfl) rfl
set_option maxRecDepth 100000 in
theorem tw_443 : (Jvm.Cond.selects "TreeMatcher$Grammar" ({ cls := "TreeMatcher$Grammar", name := "ruleCount", desc := "()I" } : Jvm.MethodName) ({ cls := "TreeMatcher$Grammar", name := "ruleCount", desc := "()I" } : Jvm.MethodName)) ∈ gw := gw_of (List.mem_of_getElem? (i := 443) rfl) rfl
set_option maxRecDepth 100000 in
theorem tw_444 : (Jvm.Cond.code ({ cls := "TreeMatcher$Grammar", name := "ruleCount", desc := "()I" } : Jvm.MethodName) prog_4_method_11_code (1 : Nat) (Option.some Jvm.ClassFile.FieldType.int)) ∈ gw := gw_of (List.mem_of_getElem? (i := 444) rfl) rfl
set_option maxRecDepth 100000 in
theorem tw_445 : (Jvm.Cond.methodLink "TreeMatcher" (80 : Nat) ({ cls := "TreeMatcher$Forest", name := "size", desc := "()I" } : Jvm.MethodName)) ∈ gw := gw_of (List.mem_of_getElem? (i := 445) rfl) rfl
set_option maxRecDepth 100000 in
theorem tw_446 : (Jvm.Cond.instanceMethod ({ cls := "TreeMatcher$Forest", name := "size", desc := "()I" } : Jvm.MethodName)) ∈ gw := gw_of (List.mem_of_getElem? (i := 446) rfl) rfl
set_option maxRecDepth 100000 in
theorem tw_447 : (Jvm.Cond.selects "TreeMatcher$Forest" ({ cls := "TreeMatcher$Forest", name := "size", desc := "()I" } : Jvm.MethodName) ({ cls := "TreeMatcher$Forest", name := "size", desc := "()I" } : Jvm.MethodName)) ∈ gw := gw_of (List.mem_of_getElem? (i := 447) rfl) rfl
set_option maxRecDepth 100000 in
theorem tw_448 : (Jvm.Cond.code ({ cls := "TreeMatcher$Forest", name := "size", desc := "()I" } : Jvm.MethodName) prog_3_method_2_code (1 : Nat) (Option.some Jvm.ClassFile.FieldType.int)) ∈ gw := gw_of (List.mem_of_getElem? (i := 448) rfl) rfl
set_option maxRecDepth 100000 in
theorem tw_450 : (Jvm.Cond.methodLink "TreeMatcher" (85 : Nat) ({ cls := "TreeMatcher$Grammar", name := "handIsPattern", desc := "()Z" } : Jvm.MethodName)) ∈ gw := gw_of (List.mem_of_getElem? (i := 450) rfl) rfl
set_option maxRecDepth 100000 in
theorem tw_451 : (Jvm.Cond.instanceMethod ({ cls := "TreeMatcher$Grammar", name := "handIsPattern", desc := "()Z" } : Jvm.MethodName)) ∈ gw := gw_of (List.mem_of_getElem? (i := 451) rfl) rfl
set_option maxRecDepth 100000 in
theorem tw_452 : (Jvm.Cond.selects "TreeMatcher$Grammar" ({ cls := "TreeMatcher$Grammar", name := "handIsPattern", desc := "()Z" } : Jvm.MethodName) ({ cls := "TreeMatcher$Grammar", name := "handIsPattern", desc := "()Z" } : Jvm.MethodName)) ∈ gw := gw_of (List.mem_of_getElem? (i := 452) rfl) rfl
set_option maxRecDepth 100000 in
theorem tw_453 : (Jvm.Cond.code ({ cls := "TreeMatcher$Grammar", name := "handIsPattern", desc := "()Z" } : Jvm.MethodName) prog_4_method_9_code (4 : Nat) (Option.some Jvm.ClassFile.FieldType.boolean)) ∈ gw := gw_of (List.mem_of_getElem? (i := 453) rfl) rfl
set_option maxRecDepth 100000 in
theorem tw_455 : (Jvm.Cond.methodLink "TreeMatcher" (89 : Nat) ({ cls := "TreeMatcher$Grammar", name := "dropHand", desc := "()V" } : Jvm.MethodName)) ∈ gw := gw_of (List.mem_of_getElem? (i := 455) rfl) rfl
set_option maxRecDepth 100000 in
theorem tw_456 : (Jvm.Cond.instanceMethod ({ cls := "TreeMatcher$Grammar", name := "dropHand", desc := "()V" } : Jvm.MethodName)) ∈ gw := gw_of (List.mem_of_getElem? (i := 456) rfl) rfl
set_option maxRecDepth 100000 in
theorem tw_457 : (Jvm.Cond.selects "TreeMatcher$Grammar" ({ cls := "TreeMatcher$Grammar", name := "dropHand", desc := "()V" } : Jvm.MethodName) ({ cls := "TreeMatcher$Grammar", name := "dropHand", desc := "()V" } : Jvm.MethodName)) ∈ gw := gw_of (List.mem_of_getElem? (i := 457) rfl) rfl
set_option maxRecDepth 100000 in
theorem tw_458 : (Jvm.Cond.code ({ cls := "TreeMatcher$Grammar", name := "dropHand", desc := "()V" } : Jvm.MethodName) prog_4_method_8_code (1 : Nat) (Option.none : Option Jvm.ClassFile.FieldType)) ∈ gw := gw_of (List.mem_of_getElem? (i := 458) rfl) rfl
set_option maxRecDepth 100000 in
theorem tw_490 : (Jvm.Cond.code ({ cls := "TreeMatcher", name := "node", desc := "(IIII)I" } : Jvm.MethodName) prog_1_method_5_code (5 : Nat) (Option.some Jvm.ClassFile.FieldType.int)) ∈ gw := gw_of (List.mem_of_getElem? (i := 490) rfl) rfl
set_option maxRecDepth 100000 in
theorem tw_568 : (Jvm.Cond.instanceMethod ({ cls := "TreeMatcher$Parts", name := "size", desc := "()I" } : Jvm.MethodName)) ∈ gw := gw_of (List.mem_of_getElem? (i := 568) rfl) rfl
set_option maxRecDepth 100000 in
theorem tw_569 : (Jvm.Cond.selects "TreeMatcher$Parts" ({ cls := "TreeMatcher$Parts", name := "size", desc := "()I" } : Jvm.MethodName) ({ cls := "TreeMatcher$Parts", name := "size", desc := "()I" } : Jvm.MethodName)) ∈ gw := gw_of (List.mem_of_getElem? (i := 569) rfl) rfl
set_option maxRecDepth 100000 in
theorem tw_570 : (Jvm.Cond.code ({ cls := "TreeMatcher$Parts", name := "size", desc := "()I" } : Jvm.MethodName) prog_7_method_4_code (1 : Nat) (Option.some Jvm.ClassFile.FieldType.int)) ∈ gw := gw_of (List.mem_of_getElem? (i := 570) rfl) rfl
set_option maxRecDepth 100000 in
theorem tw_660 : (Jvm.Cond.code ({ cls := "TreeMatcher", name := "cost", desc := "(II)I" } : Jvm.MethodName) prog_1_method_6_code (3 : Nat) (Option.some Jvm.ClassFile.FieldType.int)) ∈ gw := gw_of (List.mem_of_getElem? (i := 660) rfl) rfl
set_option maxRecDepth 100000 in
theorem tw_661 : (Jvm.Cond.methodLink "TreeMatcher" (109 : Nat) ({ cls := "TreeMatcher", name := "checkLabel", desc := "(II)V" } : Jvm.MethodName)) ∈ gw := gw_of (List.mem_of_getElem? (i := 661) rfl) rfl
set_option maxRecDepth 100000 in
theorem tw_663 : (Jvm.Cond.instanceMethod ({ cls := "TreeMatcher", name := "checkLabel", desc := "(II)V" } : Jvm.MethodName)) ∈ gw := gw_of (List.mem_of_getElem? (i := 663) rfl) rfl
set_option maxRecDepth 100000 in
theorem tw_664 : (Jvm.Cond.code ({ cls := "TreeMatcher", name := "checkLabel", desc := "(II)V" } : Jvm.MethodName) prog_1_method_14_code (3 : Nat) (Option.none : Option Jvm.ClassFile.FieldType)) ∈ gw := gw_of (List.mem_of_getElem? (i := 664) rfl) rfl
set_option maxRecDepth 100000 in
theorem tw_665 : (Jvm.Cond.classLink "TreeMatcher" (128 : Nat) "java/lang/IndexOutOfBoundsException") ∈ gw := gw_of (List.mem_of_getElem? (i := 665) rfl) rfl
set_option maxRecDepth 100000 in
theorem tw_666 : (Jvm.Cond.instantiable "java/lang/IndexOutOfBoundsException" (6 : Nat)) ∈ gw := gw_of (List.mem_of_getElem? (i := 666) rfl) rfl
set_option maxRecDepth 100000 in
theorem tw_692 : (Jvm.Cond.code ({ cls := "TreeMatcher", name := "ruleAt", desc := "(II)I" } : Jvm.MethodName) prog_1_method_7_code (3 : Nat) (Option.some Jvm.ClassFile.FieldType.int)) ∈ gw := gw_of (List.mem_of_getElem? (i := 692) rfl) rfl
set_option maxRecDepth 100000 in
theorem tw_703 : (Jvm.Cond.code ({ cls := "TreeMatcher", name := "cover", desc := "(II)I" } : Jvm.MethodName) prog_1_method_8_code (4 : Nat) (Option.some Jvm.ClassFile.FieldType.int)) ∈ gw := gw_of (List.mem_of_getElem? (i := 703) rfl) rfl
set_option maxRecDepth 100000 in
theorem tw_729 : (Jvm.Cond.methodLink "TreeMatcher" (127 : Nat) ({ cls := "TreeMatcher$Covering", name := "size", desc := "()I" } : Jvm.MethodName)) ∈ gw := gw_of (List.mem_of_getElem? (i := 729) rfl) rfl
set_option maxRecDepth 100000 in
theorem tw_730 : (Jvm.Cond.instanceMethod ({ cls := "TreeMatcher$Covering", name := "size", desc := "()I" } : Jvm.MethodName)) ∈ gw := gw_of (List.mem_of_getElem? (i := 730) rfl) rfl
set_option maxRecDepth 100000 in
theorem tw_731 : (Jvm.Cond.selects "TreeMatcher$Covering" ({ cls := "TreeMatcher$Covering", name := "size", desc := "()I" } : Jvm.MethodName) ({ cls := "TreeMatcher$Covering", name := "size", desc := "()I" } : Jvm.MethodName)) ∈ gw := gw_of (List.mem_of_getElem? (i := 731) rfl) rfl
set_option maxRecDepth 100000 in
theorem tw_732 : (Jvm.Cond.code ({ cls := "TreeMatcher$Covering", name := "size", desc := "()I" } : Jvm.MethodName) prog_2_method_2_code (1 : Nat) (Option.some Jvm.ClassFile.FieldType.int)) ∈ gw := gw_of (List.mem_of_getElem? (i := 732) rfl) rfl
set_option maxRecDepth 100000 in
theorem tw_739 : (Jvm.Cond.code ({ cls := "TreeMatcher", name := "pair", desc := "(II)I" } : Jvm.MethodName) prog_1_method_9_code (4 : Nat) (Option.some Jvm.ClassFile.FieldType.int)) ∈ gw := gw_of (List.mem_of_getElem? (i := 739) rfl) rfl
set_option maxRecDepth 100000 in
theorem tw_752 : (Jvm.Cond.code ({ cls := "TreeMatcher", name := "states", desc := "()I" } : Jvm.MethodName) prog_1_method_10_code (1 : Nat) (Option.some Jvm.ClassFile.FieldType.int)) ∈ gw := gw_of (List.mem_of_getElem? (i := 752) rfl) rfl
set_option maxRecDepth 100000 in
theorem tw_753 : (Jvm.Cond.methodLink "TreeMatcher" (139 : Nat) ({ cls := "TreeMatcher$Grammar", name := "hasLimits", desc := "()Z" } : Jvm.MethodName)) ∈ gw := gw_of (List.mem_of_getElem? (i := 753) rfl) rfl
set_option maxRecDepth 100000 in
theorem tw_754 : (Jvm.Cond.instanceMethod ({ cls := "TreeMatcher$Grammar", name := "hasLimits", desc := "()Z" } : Jvm.MethodName)) ∈ gw := gw_of (List.mem_of_getElem? (i := 754) rfl) rfl
set_option maxRecDepth 100000 in
theorem tw_755 : (Jvm.Cond.selects "TreeMatcher$Grammar" ({ cls := "TreeMatcher$Grammar", name := "hasLimits", desc := "()Z" } : Jvm.MethodName) ({ cls := "TreeMatcher$Grammar", name := "hasLimits", desc := "()Z" } : Jvm.MethodName)) ∈ gw := gw_of (List.mem_of_getElem? (i := 755) rfl) rfl
set_option maxRecDepth 100000 in
theorem tw_756 : (Jvm.Cond.code ({ cls := "TreeMatcher$Grammar", name := "hasLimits", desc := "()Z" } : Jvm.MethodName) prog_4_method_17_code (1 : Nat) (Option.some Jvm.ClassFile.FieldType.boolean)) ∈ gw := gw_of (List.mem_of_getElem? (i := 756) rfl) rfl
set_option maxRecDepth 100000 in
theorem tw_758 : (Jvm.Cond.methodLink "TreeMatcher" (144 : Nat) ({ cls := "TreeMatcher$Tally", name := "refresh", desc := "()V" } : Jvm.MethodName)) ∈ gw := gw_of (List.mem_of_getElem? (i := 758) rfl) rfl
set_option maxRecDepth 100000 in
theorem tw_759 : (Jvm.Cond.instanceMethod ({ cls := "TreeMatcher$Tally", name := "refresh", desc := "()V" } : Jvm.MethodName)) ∈ gw := gw_of (List.mem_of_getElem? (i := 759) rfl) rfl
set_option maxRecDepth 100000 in
theorem tw_760 : (Jvm.Cond.selects "TreeMatcher$Tally" ({ cls := "TreeMatcher$Tally", name := "refresh", desc := "()V" } : Jvm.MethodName) ({ cls := "TreeMatcher$Tally", name := "refresh", desc := "()V" } : Jvm.MethodName)) ∈ gw := gw_of (List.mem_of_getElem? (i := 760) rfl) rfl
set_option maxRecDepth 100000 in
theorem tw_761 : (Jvm.Cond.code ({ cls := "TreeMatcher$Tally", name := "refresh", desc := "()V" } : Jvm.MethodName) prog_8_method_3_code (3 : Nat) (Option.none : Option Jvm.ClassFile.FieldType)) ∈ gw := gw_of (List.mem_of_getElem? (i := 761) rfl) rfl
set_option maxRecDepth 100000 in
theorem tw_762 : (Jvm.Cond.methodLink "TreeMatcher$Tally" (35 : Nat) ({ cls := "TreeMatcher$Grammar", name := "operatorCount", desc := "()I" } : Jvm.MethodName)) ∈ gw := gw_of (List.mem_of_getElem? (i := 762) rfl) rfl
set_option maxRecDepth 100000 in
theorem tw_763 : (Jvm.Cond.instanceMethod ({ cls := "TreeMatcher$Grammar", name := "operatorCount", desc := "()I" } : Jvm.MethodName)) ∈ gw := gw_of (List.mem_of_getElem? (i := 763) rfl) rfl
set_option maxRecDepth 100000 in
theorem tw_764 : (Jvm.Cond.selects "TreeMatcher$Grammar" ({ cls := "TreeMatcher$Grammar", name := "operatorCount", desc := "()I" } : Jvm.MethodName) ({ cls := "TreeMatcher$Grammar", name := "operatorCount", desc := "()I" } : Jvm.MethodName)) ∈ gw := gw_of (List.mem_of_getElem? (i := 764) rfl) rfl
set_option maxRecDepth 100000 in
theorem tw_765 : (Jvm.Cond.code ({ cls := "TreeMatcher$Grammar", name := "operatorCount", desc := "()I" } : Jvm.MethodName) prog_4_method_4_code (1 : Nat) (Option.some Jvm.ClassFile.FieldType.int)) ∈ gw := gw_of (List.mem_of_getElem? (i := 765) rfl) rfl
set_option maxRecDepth 100000 in
theorem tw_766 : (Jvm.Cond.methodLink "TreeMatcher$Tally" (40 : Nat) ({ cls := "TreeMatcher$Grammar", name := "ruleCount", desc := "()I" } : Jvm.MethodName)) ∈ gw := gw_of (List.mem_of_getElem? (i := 766) rfl) rfl
set_option maxRecDepth 100000 in
theorem tw_770 : (Jvm.Cond.methodLink "TreeMatcher$Tally" (31 : Nat) ({ cls := "TreeMatcher$Vectors", name := "size", desc := "()I" } : Jvm.MethodName)) ∈ gw := gw_of (List.mem_of_getElem? (i := 770) rfl) rfl
set_option maxRecDepth 100000 in
theorem tw_771 : (Jvm.Cond.instanceMethod ({ cls := "TreeMatcher$Vectors", name := "size", desc := "()I" } : Jvm.MethodName)) ∈ gw := gw_of (List.mem_of_getElem? (i := 771) rfl) rfl
set_option maxRecDepth 100000 in
theorem tw_772 : (Jvm.Cond.selects "TreeMatcher$Vectors" ({ cls := "TreeMatcher$Vectors", name := "size", desc := "()I" } : Jvm.MethodName) ({ cls := "TreeMatcher$Vectors", name := "size", desc := "()I" } : Jvm.MethodName)) ∈ gw := gw_of (List.mem_of_getElem? (i := 772) rfl) rfl
set_option maxRecDepth 100000 in
theorem tw_773 : (Jvm.Cond.code ({ cls := "TreeMatcher$Vectors", name := "size", desc := "()I" } : Jvm.MethodName) prog_9_method_2_code (1 : Nat) (Option.some Jvm.ClassFile.FieldType.int)) ∈ gw := gw_of (List.mem_of_getElem? (i := 773) rfl) rfl
set_option maxRecDepth 100000 in
theorem tw_778 : (Jvm.Cond.methodLink "TreeMatcher" (147 : Nat) ({ cls := "TreeMatcher$Tally", name := "size", desc := "()I" } : Jvm.MethodName)) ∈ gw := gw_of (List.mem_of_getElem? (i := 778) rfl) rfl
set_option maxRecDepth 100000 in
theorem tw_779 : (Jvm.Cond.instanceMethod ({ cls := "TreeMatcher$Tally", name := "size", desc := "()I" } : Jvm.MethodName)) ∈ gw := gw_of (List.mem_of_getElem? (i := 779) rfl) rfl
set_option maxRecDepth 100000 in
theorem tw_780 : (Jvm.Cond.selects "TreeMatcher$Tally" ({ cls := "TreeMatcher$Tally", name := "size", desc := "()I" } : Jvm.MethodName) ({ cls := "TreeMatcher$Tally", name := "size", desc := "()I" } : Jvm.MethodName)) ∈ gw := gw_of (List.mem_of_getElem? (i := 780) rfl) rfl
set_option maxRecDepth 100000 in
theorem tw_781 : (Jvm.Cond.code ({ cls := "TreeMatcher$Tally", name := "size", desc := "()I" } : Jvm.MethodName) prog_8_method_2_code (1 : Nat) (Option.some Jvm.ClassFile.FieldType.int)) ∈ gw := gw_of (List.mem_of_getElem? (i := 781) rfl) rfl
set_option maxRecDepth 100000 in
theorem tw_789 : (Jvm.Cond.code ({ cls := "TreeMatcher", name := "same", desc := "(II)Z" } : Jvm.MethodName) prog_1_method_11_code (3 : Nat) (Option.some Jvm.ClassFile.FieldType.boolean)) ∈ gw := gw_of (List.mem_of_getElem? (i := 789) rfl) rfl
set_option maxRecDepth 100000 in
theorem tw_801 : (Jvm.Cond.code ({ cls := "TreeMatcher", name := "count", desc := "(I)I" } : Jvm.MethodName) prog_1_method_13_code (2 : Nat) (Option.some Jvm.ClassFile.FieldType.int)) ∈ gw := gw_of (List.mem_of_getElem? (i := 801) rfl) rfl
set_option maxRecDepth 100000 in
theorem tw_802 : (Jvm.Cond.methodLink "TreeMatcher" (160 : Nat) ({ cls := "TreeMatcher$Grammar", name := "operatorCount", desc := "()I" } : Jvm.MethodName)) ∈ gw := gw_of (List.mem_of_getElem? (i := 802) rfl) rfl
set_option maxRecDepth 100000 in
theorem tw_803 : (Jvm.Cond.methodLink "TreeMatcher" (163 : Nat) ({ cls := "TreeMatcher$Grammar", name := "partCount", desc := "()I" } : Jvm.MethodName)) ∈ gw := gw_of (List.mem_of_getElem? (i := 803) rfl) rfl
set_option maxRecDepth 100000 in
theorem tw_804 : (Jvm.Cond.instanceMethod ({ cls := "TreeMatcher$Grammar", name := "partCount", desc := "()I" } : Jvm.MethodName)) ∈ gw := gw_of (List.mem_of_getElem? (i := 804) rfl) rfl
set_option maxRecDepth 100000 in
theorem tw_805 : (Jvm.Cond.selects "TreeMatcher$Grammar" ({ cls := "TreeMatcher$Grammar", name := "partCount", desc := "()I" } : Jvm.MethodName) ({ cls := "TreeMatcher$Grammar", name := "partCount", desc := "()I" } : Jvm.MethodName)) ∈ gw := gw_of (List.mem_of_getElem? (i := 805) rfl) rfl
set_option maxRecDepth 100000 in
theorem tw_806 : (Jvm.Cond.code ({ cls := "TreeMatcher$Grammar", name := "partCount", desc := "()I" } : Jvm.MethodName) prog_4_method_20_code (1 : Nat) (Option.some Jvm.ClassFile.FieldType.int)) ∈ gw := gw_of (List.mem_of_getElem? (i := 806) rfl) rfl
set_option maxRecDepth 100000 in
theorem tw_807 : (Jvm.Cond.methodLink "TreeMatcher$Grammar" (100 : Nat) ({ cls := "TreeMatcher$Parts", name := "size", desc := "()I" } : Jvm.MethodName)) ∈ gw := gw_of (List.mem_of_getElem? (i := 807) rfl) rfl
set_option maxRecDepth 100000 in
theorem tw_817 : (Jvm.Cond.fieldLink "TreeMatcherModel" (115 : Nat) "TreeMatcherModel" "thrown" "I") ∈ gw := gw_of (List.mem_of_getElem? (i := 817) rfl) rfl
set_option maxRecDepth 100000 in
theorem tw_859 : (Jvm.Cond.lays "TreeMatcherModel" "TreeMatcherModel" "thrown" "I") ∈ gw := gw_of (List.mem_of_getElem? (i := 859) rfl) rfl
set_option maxRecDepth 100000 in
theorem tw_861 : (Jvm.Cond.laysFinal "TreeMatcherModel" "TreeMatcherModel" "kids" "[I") ∈ gw := gw_of (List.mem_of_getElem? (i := 861) rfl) rfl
set_option maxRecDepth 100000 in
theorem tw_863 : (Jvm.Cond.lays "TreeMatcherModel" "TreeMatcherModel" "operators" "I") ∈ gw := gw_of (List.mem_of_getElem? (i := 863) rfl) rfl
set_option maxRecDepth 100000 in
theorem tw_865 : (Jvm.Cond.laysFinal "TreeMatcherModel" "TreeMatcherModel" "hand" "[I") ∈ gw := gw_of (List.mem_of_getElem? (i := 865) rfl) rfl
set_option maxRecDepth 100000 in
theorem tw_867 : (Jvm.Cond.lays "TreeMatcherModel" "TreeMatcherModel" "handed" "I") ∈ gw := gw_of (List.mem_of_getElem? (i := 867) rfl) rfl
set_option maxRecDepth 100000 in
theorem tw_869 : (Jvm.Cond.lays "TreeMatcherModel" "TreeMatcherModel" "rules" "I") ∈ gw := gw_of (List.mem_of_getElem? (i := 869) rfl) rfl
set_option maxRecDepth 100000 in
theorem tw_871 : (Jvm.Cond.laysFinal "TreeMatcherModel" "TreeMatcherModel" "gives" "[I") ∈ gw := gw_of (List.mem_of_getElem? (i := 871) rfl) rfl
set_option maxRecDepth 100000 in
theorem tw_873 : (Jvm.Cond.laysFinal "TreeMatcherModel" "TreeMatcherModel" "costs" "[I") ∈ gw := gw_of (List.mem_of_getElem? (i := 873) rfl) rfl
set_option maxRecDepth 100000 in
theorem tw_875 : (Jvm.Cond.laysFinal "TreeMatcherModel" "TreeMatcherModel" "lows" "[I") ∈ gw := gw_of (List.mem_of_getElem? (i := 875) rfl) rfl
set_option maxRecDepth 100000 in
theorem tw_877 : (Jvm.Cond.laysFinal "TreeMatcherModel" "TreeMatcherModel" "highs" "[I") ∈ gw := gw_of (List.mem_of_getElem? (i := 877) rfl) rfl
set_option maxRecDepth 100000 in
theorem tw_879 : (Jvm.Cond.laysFinal "TreeMatcherModel" "TreeMatcherModel" "sizes" "[I") ∈ gw := gw_of (List.mem_of_getElem? (i := 879) rfl) rfl
set_option maxRecDepth 100000 in
theorem tw_881 : (Jvm.Cond.laysFinal "TreeMatcherModel" "TreeMatcherModel" "elements" "[I") ∈ gw := gw_of (List.mem_of_getElem? (i := 881) rfl) rfl
set_option maxRecDepth 100000 in
theorem tw_883 : (Jvm.Cond.lays "TreeMatcherModel" "TreeMatcherModel" "nodes" "I") ∈ gw := gw_of (List.mem_of_getElem? (i := 883) rfl) rfl
set_option maxRecDepth 100000 in
theorem tw_885 : (Jvm.Cond.laysFinal "TreeMatcherModel" "TreeMatcherModel" "operator" "[I") ∈ gw := gw_of (List.mem_of_getElem? (i := 885) rfl) rfl
set_option maxRecDepth 100000 in
theorem tw_887 : (Jvm.Cond.laysFinal "TreeMatcherModel" "TreeMatcherModel" "value" "[I") ∈ gw := gw_of (List.mem_of_getElem? (i := 887) rfl) rfl
set_option maxRecDepth 100000 in
theorem tw_889 : (Jvm.Cond.laysFinal "TreeMatcherModel" "TreeMatcherModel" "left" "[I") ∈ gw := gw_of (List.mem_of_getElem? (i := 889) rfl) rfl
set_option maxRecDepth 100000 in
theorem tw_891 : (Jvm.Cond.laysFinal "TreeMatcherModel" "TreeMatcherModel" "right" "[I") ∈ gw := gw_of (List.mem_of_getElem? (i := 891) rfl) rfl
set_option maxRecDepth 100000 in
theorem tw_893 : (Jvm.Cond.laysFinal "TreeMatcherModel" "TreeMatcherModel" "isKid" "[Z") ∈ gw := gw_of (List.mem_of_getElem? (i := 893) rfl) rfl
set_option maxRecDepth 100000 in
theorem tw_895 : (Jvm.Cond.laysFinal "TreeMatcherModel" "TreeMatcherModel" "least" "[I") ∈ gw := gw_of (List.mem_of_getElem? (i := 895) rfl) rfl
set_option maxRecDepth 100000 in
theorem tw_897 : (Jvm.Cond.laysFinal "TreeMatcherModel" "TreeMatcherModel" "ruleOf" "[I") ∈ gw := gw_of (List.mem_of_getElem? (i := 897) rfl) rfl
set_option maxRecDepth 100000 in
theorem tw_899 : (Jvm.Cond.lays "TreeMatcherModel" "TreeMatcherModel" "pairs" "I") ∈ gw := gw_of (List.mem_of_getElem? (i := 899) rfl) rfl
set_option maxRecDepth 100000 in
theorem tw_901 : (Jvm.Cond.laysFinal "TreeMatcherModel" "TreeMatcherModel" "pairNode" "[I") ∈ gw := gw_of (List.mem_of_getElem? (i := 901) rfl) rfl
set_option maxRecDepth 100000 in
theorem tw_903 : (Jvm.Cond.laysFinal "TreeMatcherModel" "TreeMatcherModel" "pairRule" "[I") ∈ gw := gw_of (List.mem_of_getElem? (i := 903) rfl) rfl
set_option maxRecDepth 100000 in
theorem tw_905 : (Jvm.Cond.laysFinal "TreeMatcherModel" "TreeMatcherModel" "stands" "[I") ∈ gw := gw_of (List.mem_of_getElem? (i := 905) rfl) rfl
set_option maxRecDepth 100000 in
theorem tw_907 : (Jvm.Cond.laysFinal "TreeMatcherModel" "TreeMatcherModel" "todo" "[I") ∈ gw := gw_of (List.mem_of_getElem? (i := 907) rfl) rfl
set_option maxRecDepth 100000 in
theorem tw_909 : (Jvm.Cond.laysFinal "TreeMatcherModel" "TreeMatcherModel" "chainOf" "[I") ∈ gw := gw_of (List.mem_of_getElem? (i := 909) rfl) rfl
set_option maxRecDepth 100000 in
theorem tw_911 : (Jvm.Cond.laysFinal "TreeMatcherModel" "TreeMatcherModel" "chainFrom" "[I") ∈ gw := gw_of (List.mem_of_getElem? (i := 911) rfl) rfl
set_option maxRecDepth 100000 in
theorem tw_913 : (Jvm.Cond.laysFinal "TreeMatcherModel" "TreeMatcherModel" "coverNode" "[I") ∈ gw := gw_of (List.mem_of_getElem? (i := 913) rfl) rfl
set_option maxRecDepth 100000 in
theorem tw_915 : (Jvm.Cond.laysFinal "TreeMatcherModel" "TreeMatcherModel" "coverOf" "[I") ∈ gw := gw_of (List.mem_of_getElem? (i := 915) rfl) rfl
set_option maxRecDepth 100000 in
theorem tw_917 : (Jvm.Cond.laysFinal "TreeMatcherModel" "TreeMatcherModel" "coverRule" "[I") ∈ gw := gw_of (List.mem_of_getElem? (i := 917) rfl) rfl
set_option maxRecDepth 100000 in
theorem tw_919 : (Jvm.Cond.laysFinal "TreeMatcherModel" "TreeMatcherModel" "newNode" "[I") ∈ gw := gw_of (List.mem_of_getElem? (i := 919) rfl) rfl
set_option maxRecDepth 100000 in
theorem tw_921 : (Jvm.Cond.laysFinal "TreeMatcherModel" "TreeMatcherModel" "newRule" "[I") ∈ gw := gw_of (List.mem_of_getElem? (i := 921) rfl) rfl
set_option maxRecDepth 100000 in
theorem tw_923 : (Jvm.Cond.lays "TreeMatcherModel" "TreeMatcherModel" "parts" "I") ∈ gw := gw_of (List.mem_of_getElem? (i := 923) rfl) rfl
set_option maxRecDepth 100000 in
theorem tw_925 : (Jvm.Cond.laysFinal "TreeMatcherModel" "TreeMatcherModel" "partOf" "[I") ∈ gw := gw_of (List.mem_of_getElem? (i := 925) rfl) rfl
set_option maxRecDepth 100000 in
theorem tw_927 : (Jvm.Cond.laysFinal "TreeMatcherModel" "TreeMatcherModel" "partRule" "[I") ∈ gw := gw_of (List.mem_of_getElem? (i := 927) rfl) rfl
set_option maxRecDepth 100000 in
theorem tw_929 : (Jvm.Cond.laysFinal "TreeMatcherModel" "TreeMatcherModel" "partFrom" "[I") ∈ gw := gw_of (List.mem_of_getElem? (i := 929) rfl) rfl
set_option maxRecDepth 100000 in
theorem tw_931 : (Jvm.Cond.laysFinal "TreeMatcherModel" "TreeMatcherModel" "partLeft" "[I") ∈ gw := gw_of (List.mem_of_getElem? (i := 931) rfl) rfl
set_option maxRecDepth 100000 in
theorem tw_933 : (Jvm.Cond.laysFinal "TreeMatcherModel" "TreeMatcherModel" "partRight" "[I") ∈ gw := gw_of (List.mem_of_getElem? (i := 933) rfl) rfl
set_option maxRecDepth 100000 in
theorem tw_935 : (Jvm.Cond.laysFinal "TreeMatcherModel" "TreeMatcherModel" "states" "[I") ∈ gw := gw_of (List.mem_of_getElem? (i := 935) rfl) rfl
set_option maxRecDepth 100000 in
theorem tw_937 : (Jvm.Cond.laysFinal "TreeMatcherModel" "TreeMatcherModel" "vectors" "[I") ∈ gw := gw_of (List.mem_of_getElem? (i := 937) rfl) rfl
set_option maxRecDepth 100000 in
theorem tw_939 : (Jvm.Cond.laysFinal "TreeMatcherModel" "TreeMatcherModel" "byRule" "[I") ∈ gw := gw_of (List.mem_of_getElem? (i := 939) rfl) rfl
set_option maxRecDepth 100000 in
theorem tw_941 : (Jvm.Cond.lays "TreeMatcherModel" "TreeMatcherModel" "stateCount" "I") ∈ gw := gw_of (List.mem_of_getElem? (i := 941) rfl) rfl
set_option maxRecDepth 100000 in
theorem tw_947 : (Jvm.Cond.code ({ cls := "TreeMatcherModel", name := "thrown", desc := "()I" } : Jvm.MethodName) prog_11_method_2_code (1 : Nat) (Option.some Jvm.ClassFile.FieldType.int)) ∈ gw := gw_of (List.mem_of_getElem? (i := 947) rfl) rfl
def kR_M : String := "TreeMatcher"
def kT_M : u_T := fun k => match k with
  | 0 => ("TreeMatcher", "grammar", "LTreeMatcher$Grammar;", true)
  | 1 => ("TreeMatcher", "forest", "LTreeMatcher$Forest;", true)
  | 2 => ("TreeMatcher", "covering", "LTreeMatcher$Covering;", true)
  | _ => ("TreeMatcher", "tally", "LTreeMatcher$Tally;", true)
def kt_M : Nat → FieldType := fun k => match k with
  | 0 => .object "TreeMatcher$Grammar"
  | 1 => .object "TreeMatcher$Forest"
  | 2 => .object "TreeMatcher$Covering"
  | _ => .object "TreeMatcher$Tally"
theorem knm_M : ∀ a, a < 4 → ∀ b, b < 4 → a ≠ b → (kT_M a).2.1 ≠ (kT_M b).2.1 := by decide +kernel
theorem kty_M : ∀ k, k < 4 → parseFieldDescriptor (kT_M k).2.2.1 = some (kt_M k) := by decide +kernel
def kR_G : String := "TreeMatcher$Grammar"
def kT_G : u_T := fun k => match k with
  | 0 => ("TreeMatcher$Grammar", "kids", "[I", true)
  | 1 => ("TreeMatcher$Grammar", "operatorCount", "I", false)
  | 2 => ("TreeMatcher$Grammar", "hand", "[I", true)
  | 3 => ("TreeMatcher$Grammar", "handSize", "I", false)
  | 4 => ("TreeMatcher$Grammar", "elements", "[I", true)
  | 5 => ("TreeMatcher$Grammar", "lengths", "[I", true)
  | 6 => ("TreeMatcher$Grammar", "gives", "[I", true)
  | 7 => ("TreeMatcher$Grammar", "costs", "[I", true)
  | 8 => ("TreeMatcher$Grammar", "lows", "[I", true)
  | 9 => ("TreeMatcher$Grammar", "highs", "[I", true)
  | 10 => ("TreeMatcher$Grammar", "rulesByChain", "LTreeMatcher$Groups;", true)
  | 11 => ("TreeMatcher$Grammar", "ruleCount", "I", false)
  | 12 => ("TreeMatcher$Grammar", "limits", "Z", false)
  | _ => ("TreeMatcher$Grammar", "parts", "LTreeMatcher$Parts;", true)
def kt_G : Nat → FieldType := fun k => match k with
  | 0 => .array .int
  | 1 => .int
  | 2 => .array .int
  | 3 => .int
  | 4 => .array .int
  | 5 => .array .int
  | 6 => .array .int
  | 7 => .array .int
  | 8 => .array .int
  | 9 => .array .int
  | 10 => .object "TreeMatcher$Groups"
  | 11 => .int
  | 12 => .boolean
  | _ => .object "TreeMatcher$Parts"
theorem knm_G : ∀ a, a < 14 → ∀ b, b < 14 → a ≠ b → (kT_G a).2.1 ≠ (kT_G b).2.1 := by decide +kernel
theorem kty_G : ∀ k, k < 14 → parseFieldDescriptor (kT_G k).2.2.1 = some (kt_G k) := by decide +kernel
def kR_F : String := "TreeMatcher$Forest"
def kT_F : u_T := fun k => match k with
  | 0 => ("TreeMatcher$Forest", "grammar", "LTreeMatcher$Grammar;", true)
  | 1 => ("TreeMatcher$Forest", "operators", "[I", true)
  | 2 => ("TreeMatcher$Forest", "values", "[I", true)
  | 3 => ("TreeMatcher$Forest", "lefts", "[I", true)
  | 4 => ("TreeMatcher$Forest", "rights", "[I", true)
  | 5 => ("TreeMatcher$Forest", "isKid", "[Z", true)
  | 6 => ("TreeMatcher$Forest", "costs", "[I", true)
  | 7 => ("TreeMatcher$Forest", "rules", "[I", true)
  | 8 => ("TreeMatcher$Forest", "vectorRows", "[I", true)
  | 9 => ("TreeMatcher$Forest", "size", "I", false)
  | 10 => ("TreeMatcher$Forest", "labels", "LTreeMatcher$Labels;", true)
  | 11 => ("TreeMatcher$Forest", "vectors", "LTreeMatcher$Vectors;", true)
  | 12 => ("TreeMatcher$Forest", "places", "[I", true)
  | _ => ("TreeMatcher$Forest", "open", "[I", true)
def kt_F : Nat → FieldType := fun k => match k with
  | 0 => .object "TreeMatcher$Grammar"
  | 1 => .array .int
  | 2 => .array .int
  | 3 => .array .int
  | 4 => .array .int
  | 5 => .array .boolean
  | 6 => .array .int
  | 7 => .array .int
  | 8 => .array .int
  | 9 => .int
  | 10 => .object "TreeMatcher$Labels"
  | 11 => .object "TreeMatcher$Vectors"
  | 12 => .array .int
  | _ => .array .int
theorem knm_F : ∀ a, a < 14 → ∀ b, b < 14 → a ≠ b → (kT_F a).2.1 ≠ (kT_F b).2.1 := by decide +kernel
theorem kty_F : ∀ k, k < 14 → parseFieldDescriptor (kT_F k).2.2.1 = some (kt_F k) := by decide +kernel
def kR_C : String := "TreeMatcher$Covering"
def kT_C : u_T := fun k => match k with
  | 0 => ("TreeMatcher$Covering", "grammar", "LTreeMatcher$Grammar;", true)
  | 1 => ("TreeMatcher$Covering", "forest", "LTreeMatcher$Forest;", true)
  | 2 => ("TreeMatcher$Covering", "labels", "[I", true)
  | 3 => ("TreeMatcher$Covering", "backwards", "[I", true)
  | 4 => ("TreeMatcher$Covering", "open", "[I", true)
  | 5 => ("TreeMatcher$Covering", "top", "I", false)
  | _ => ("TreeMatcher$Covering", "size", "I", false)
def kt_C : Nat → FieldType := fun k => match k with
  | 0 => .object "TreeMatcher$Grammar"
  | 1 => .object "TreeMatcher$Forest"
  | 2 => .array .int
  | 3 => .array .int
  | 4 => .array .int
  | 5 => .int
  | _ => .int
theorem knm_C : ∀ a, a < 7 → ∀ b, b < 7 → a ≠ b → (kT_C a).2.1 ≠ (kT_C b).2.1 := by decide +kernel
theorem kty_C : ∀ k, k < 7 → parseFieldDescriptor (kT_C k).2.2.1 = some (kt_C k) := by decide +kernel
def kR_Y : String := "TreeMatcher$Tally"
def kT_Y : u_T := fun k => match k with
  | 0 => ("TreeMatcher$Tally", "grammar", "LTreeMatcher$Grammar;", true)
  | 1 => ("TreeMatcher$Tally", "vectors", "LTreeMatcher$Vectors;", true)
  | 2 => ("TreeMatcher$Tally", "operatorsThen", "I", false)
  | _ => ("TreeMatcher$Tally", "rulesThen", "I", false)
def kt_Y : Nat → FieldType := fun k => match k with
  | 0 => .object "TreeMatcher$Grammar"
  | 1 => .object "TreeMatcher$Vectors"
  | 2 => .int
  | _ => .int
theorem knm_Y : ∀ a, a < 4 → ∀ b, b < 4 → a ≠ b → (kT_Y a).2.1 ≠ (kT_Y b).2.1 := by decide +kernel
theorem kty_Y : ∀ k, k < 4 → parseFieldDescriptor (kT_Y k).2.2.1 = some (kt_Y k) := by decide +kernel
def kR_V : String := "TreeMatcher$Vectors"
def kT_V : u_T := fun k => match k with
  | 0 => ("TreeMatcher$Vectors", "grammar", "LTreeMatcher$Grammar;", true)
  | 1 => ("TreeMatcher$Vectors", "parts", "LTreeMatcher$Parts;", true)
  | 2 => ("TreeMatcher$Vectors", "byOperator", "LTreeMatcher$Groups;", true)
  | 3 => ("TreeMatcher$Vectors", "labels", "LTreeMatcher$Labels;", true)
  | 4 => ("TreeMatcher$Vectors", "rows", "[[J", true)
  | 5 => ("TreeMatcher$Vectors", "roots", "[I", true)
  | 6 => ("TreeMatcher$Vectors", "fresh", "[J", true)
  | _ => ("TreeMatcher$Vectors", "size", "I", false)
def kt_V : Nat → FieldType := fun k => match k with
  | 0 => .object "TreeMatcher$Grammar"
  | 1 => .object "TreeMatcher$Parts"
  | 2 => .object "TreeMatcher$Groups"
  | 3 => .object "TreeMatcher$Labels"
  | 4 => .array (.array .long)
  | 5 => .array .int
  | 6 => .array .long
  | _ => .int
theorem knm_V : ∀ a, a < 8 → ∀ b, b < 8 → a ≠ b → (kT_V a).2.1 ≠ (kT_V b).2.1 := by decide +kernel
theorem kty_V : ∀ k, k < 8 → parseFieldDescriptor (kT_V k).2.2.1 = some (kt_V k) := by decide +kernel
def kR_P : String := "TreeMatcher$Parts"
def kT_P : u_T := fun k => match k with
  | 0 => ("TreeMatcher$Parts", "lefts", "[I", true)
  | 1 => ("TreeMatcher$Parts", "rights", "[I", true)
  | 2 => ("TreeMatcher$Parts", "rules", "[I", true)
  | 3 => ("TreeMatcher$Parts", "open", "[I", true)
  | 4 => ("TreeMatcher$Parts", "byOperator", "LTreeMatcher$Groups;", true)
  | _ => ("TreeMatcher$Parts", "size", "I", false)
def kt_P : Nat → FieldType := fun k => match k with
  | 0 => .array .int
  | 1 => .array .int
  | 2 => .array .int
  | 3 => .array .int
  | 4 => .object "TreeMatcher$Groups"
  | _ => .int
theorem knm_P : ∀ a, a < 6 → ∀ b, b < 6 → a ≠ b → (kT_P a).2.1 ≠ (kT_P b).2.1 := by decide +kernel
theorem kty_P : ∀ k, k < 6 → parseFieldDescriptor (kT_P k).2.2.1 = some (kt_P k) := by decide +kernel
def kR_U : String := "TreeMatcher$Groups"
def kT_U : u_T := fun k => match k with
  | 0 => ("TreeMatcher$Groups", "groups", "I", true)
  | 1 => ("TreeMatcher$Groups", "starts", "[I", true)
  | _ => ("TreeMatcher$Groups", "members", "[I", true)
def kt_U : Nat → FieldType := fun k => match k with
  | 0 => .int
  | 1 => .array .int
  | _ => .array .int
theorem knm_U : ∀ a, a < 3 → ∀ b, b < 3 → a ≠ b → (kT_U a).2.1 ≠ (kT_U b).2.1 := by decide +kernel
theorem kty_U : ∀ k, k < 3 → parseFieldDescriptor (kT_U k).2.2.1 = some (kt_U k) := by decide +kernel
def kR_L : String := "TreeMatcher$Labels"
def kT_L : u_T := fun k => match k with
  | 0 => ("TreeMatcher$Labels", "grammar", "LTreeMatcher$Grammar;", true)
  | 1 => ("TreeMatcher$Labels", "costs", "[J", true)
  | _ => ("TreeMatcher$Labels", "rules", "[I", true)
def kt_L : Nat → FieldType := fun k => match k with
  | 0 => .object "TreeMatcher$Grammar"
  | 1 => .array .long
  | _ => .array .int
theorem knm_L : ∀ a, a < 3 → ∀ b, b < 3 → a ≠ b → (kT_L a).2.1 ≠ (kT_L b).2.1 := by decide +kernel
theorem kty_L : ∀ k, k < 3 → parseFieldDescriptor (kT_L k).2.2.1 = some (kt_L k) := by decide +kernel
def kR_D : String := "TreeMatcherModel"
def kT_D : u_T := fun k => match k with
  | 0 => ("TreeMatcherModel", "thrown", "I", false)
  | 1 => ("TreeMatcherModel", "kids", "[I", true)
  | 2 => ("TreeMatcherModel", "operators", "I", false)
  | 3 => ("TreeMatcherModel", "hand", "[I", true)
  | 4 => ("TreeMatcherModel", "handed", "I", false)
  | 5 => ("TreeMatcherModel", "rules", "I", false)
  | 6 => ("TreeMatcherModel", "gives", "[I", true)
  | 7 => ("TreeMatcherModel", "costs", "[I", true)
  | 8 => ("TreeMatcherModel", "lows", "[I", true)
  | 9 => ("TreeMatcherModel", "highs", "[I", true)
  | 10 => ("TreeMatcherModel", "sizes", "[I", true)
  | 11 => ("TreeMatcherModel", "elements", "[I", true)
  | 12 => ("TreeMatcherModel", "nodes", "I", false)
  | 13 => ("TreeMatcherModel", "operator", "[I", true)
  | 14 => ("TreeMatcherModel", "value", "[I", true)
  | 15 => ("TreeMatcherModel", "left", "[I", true)
  | 16 => ("TreeMatcherModel", "right", "[I", true)
  | 17 => ("TreeMatcherModel", "isKid", "[Z", true)
  | 18 => ("TreeMatcherModel", "least", "[I", true)
  | 19 => ("TreeMatcherModel", "ruleOf", "[I", true)
  | 20 => ("TreeMatcherModel", "pairs", "I", false)
  | 21 => ("TreeMatcherModel", "pairNode", "[I", true)
  | 22 => ("TreeMatcherModel", "pairRule", "[I", true)
  | 23 => ("TreeMatcherModel", "stands", "[I", true)
  | 24 => ("TreeMatcherModel", "todo", "[I", true)
  | 25 => ("TreeMatcherModel", "chainOf", "[I", true)
  | 26 => ("TreeMatcherModel", "chainFrom", "[I", true)
  | 27 => ("TreeMatcherModel", "coverNode", "[I", true)
  | 28 => ("TreeMatcherModel", "coverOf", "[I", true)
  | 29 => ("TreeMatcherModel", "coverRule", "[I", true)
  | 30 => ("TreeMatcherModel", "newNode", "[I", true)
  | 31 => ("TreeMatcherModel", "newRule", "[I", true)
  | 32 => ("TreeMatcherModel", "parts", "I", false)
  | 33 => ("TreeMatcherModel", "partOf", "[I", true)
  | 34 => ("TreeMatcherModel", "partRule", "[I", true)
  | 35 => ("TreeMatcherModel", "partFrom", "[I", true)
  | 36 => ("TreeMatcherModel", "partLeft", "[I", true)
  | 37 => ("TreeMatcherModel", "partRight", "[I", true)
  | 38 => ("TreeMatcherModel", "states", "[I", true)
  | 39 => ("TreeMatcherModel", "vectors", "[I", true)
  | 40 => ("TreeMatcherModel", "byRule", "[I", true)
  | _ => ("TreeMatcherModel", "stateCount", "I", false)
def kt_D : Nat → FieldType := fun k => match k with
  | 0 => .int
  | 1 => .array .int
  | 2 => .int
  | 3 => .array .int
  | 4 => .int
  | 5 => .int
  | 6 => .array .int
  | 7 => .array .int
  | 8 => .array .int
  | 9 => .array .int
  | 10 => .array .int
  | 11 => .array .int
  | 12 => .int
  | 13 => .array .int
  | 14 => .array .int
  | 15 => .array .int
  | 16 => .array .int
  | 17 => .array .boolean
  | 18 => .array .int
  | 19 => .array .int
  | 20 => .int
  | 21 => .array .int
  | 22 => .array .int
  | 23 => .array .int
  | 24 => .array .int
  | 25 => .array .int
  | 26 => .array .int
  | 27 => .array .int
  | 28 => .array .int
  | 29 => .array .int
  | 30 => .array .int
  | 31 => .array .int
  | 32 => .int
  | 33 => .array .int
  | 34 => .array .int
  | 35 => .array .int
  | 36 => .array .int
  | 37 => .array .int
  | 38 => .array .int
  | 39 => .array .int
  | 40 => .array .int
  | _ => .int
theorem knm_D : ∀ a, a < 42 → ∀ b, b < 42 → a ≠ b → (kT_D a).2.1 ≠ (kT_D b).2.1 := by decide +kernel
theorem kty_D : ∀ k, k < 42 → parseFieldDescriptor (kT_D k).2.2.1 = some (kt_D k) := by decide +kernel
theorem kdf_M : ∀ j, j < 4 → defaultValue (kt_M j) = vp_V [.null, .null, .null, .null] j := by
  intro j hj
  match j, hj with
  | 0, _ => rfl
  | 1, _ => rfl
  | 2, _ => rfl
  | 3, _ => rfl
theorem kdf_G : ∀ j, j < 14 → defaultValue (kt_G j) = vp_V [.null, .int 0, .null, .int 0, .null, .null, .null, .null, .null, .null, .null, .int 0, .int 0, .null] j := by
  intro j hj
  match j, hj with
  | 0, _ => rfl
  | 1, _ => rfl
  | 2, _ => rfl
  | 3, _ => rfl
  | 4, _ => rfl
  | 5, _ => rfl
  | 6, _ => rfl
  | 7, _ => rfl
  | 8, _ => rfl
  | 9, _ => rfl
  | 10, _ => rfl
  | 11, _ => rfl
  | 12, _ => rfl
  | 13, _ => rfl
theorem kdf_F : ∀ j, j < 14 → defaultValue (kt_F j) = vp_V [.null, .null, .null, .null, .null, .null, .null, .null, .null, .int 0, .null, .null, .null, .null] j := by
  intro j hj
  match j, hj with
  | 0, _ => rfl
  | 1, _ => rfl
  | 2, _ => rfl
  | 3, _ => rfl
  | 4, _ => rfl
  | 5, _ => rfl
  | 6, _ => rfl
  | 7, _ => rfl
  | 8, _ => rfl
  | 9, _ => rfl
  | 10, _ => rfl
  | 11, _ => rfl
  | 12, _ => rfl
  | 13, _ => rfl
theorem kdf_C : ∀ j, j < 7 → defaultValue (kt_C j) = vp_V [.null, .null, .null, .null, .null, .int 0, .int 0] j := by
  intro j hj
  match j, hj with
  | 0, _ => rfl
  | 1, _ => rfl
  | 2, _ => rfl
  | 3, _ => rfl
  | 4, _ => rfl
  | 5, _ => rfl
  | 6, _ => rfl
theorem kdf_Y : ∀ j, j < 4 → defaultValue (kt_Y j) = vp_V [.null, .null, .int 0, .int 0] j := by
  intro j hj
  match j, hj with
  | 0, _ => rfl
  | 1, _ => rfl
  | 2, _ => rfl
  | 3, _ => rfl
theorem kdf_V : ∀ j, j < 8 → defaultValue (kt_V j) = vp_V [.null, .null, .null, .null, .null, .null, .null, .int 0] j := by
  intro j hj
  match j, hj with
  | 0, _ => rfl
  | 1, _ => rfl
  | 2, _ => rfl
  | 3, _ => rfl
  | 4, _ => rfl
  | 5, _ => rfl
  | 6, _ => rfl
  | 7, _ => rfl
theorem kdf_P : ∀ j, j < 6 → defaultValue (kt_P j) = vp_V [.null, .null, .null, .null, .null, .int 0] j := by
  intro j hj
  match j, hj with
  | 0, _ => rfl
  | 1, _ => rfl
  | 2, _ => rfl
  | 3, _ => rfl
  | 4, _ => rfl
  | 5, _ => rfl
theorem kdf_U : ∀ j, j < 3 → defaultValue (kt_U j) = vp_V [.int 0, .null, .null] j := by
  intro j hj
  match j, hj with
  | 0, _ => rfl
  | 1, _ => rfl
  | 2, _ => rfl
theorem kdf_L : ∀ j, j < 3 → defaultValue (kt_L j) = vp_V [.null, .null, .null] j := by
  intro j hj
  match j, hj with
  | 0, _ => rfl
  | 1, _ => rfl
  | 2, _ => rfl
theorem kdf_D : ∀ j, j < 42 → defaultValue (kt_D j) = vp_V [.int 0, .null, .int 0, .null, .int 0, .int 0, .null, .null, .null, .null, .null, .null, .int 0, .null, .null, .null, .null, .null, .null, .null, .int 0, .null, .null, .null, .null, .null, .null, .null, .null, .null, .null, .null, .int 0, .null, .null, .null, .null, .null, .null, .null, .null, .int 0] j := by
  intro j hj
  match j, hj with
  | 0, _ => rfl
  | 1, _ => rfl
  | 2, _ => rfl
  | 3, _ => rfl
  | 4, _ => rfl
  | 5, _ => rfl
  | 6, _ => rfl
  | 7, _ => rfl
  | 8, _ => rfl
  | 9, _ => rfl
  | 10, _ => rfl
  | 11, _ => rfl
  | 12, _ => rfl
  | 13, _ => rfl
  | 14, _ => rfl
  | 15, _ => rfl
  | 16, _ => rfl
  | 17, _ => rfl
  | 18, _ => rfl
  | 19, _ => rfl
  | 20, _ => rfl
  | 21, _ => rfl
  | 22, _ => rfl
  | 23, _ => rfl
  | 24, _ => rfl
  | 25, _ => rfl
  | 26, _ => rfl
  | 27, _ => rfl
  | 28, _ => rfl
  | 29, _ => rfl
  | 30, _ => rfl
  | 31, _ => rfl
  | 32, _ => rfl
  | 33, _ => rfl
  | 34, _ => rfl
  | 35, _ => rfl
  | 36, _ => rfl
  | 37, _ => rfl
  | 38, _ => rfl
  | 39, _ => rfl
  | 40, _ => rfl
  | 41, _ => rfl
  | k + 42, h => exact absurd h (by omega)
abbrev kcl : List vw_C := [(kR_M, kT_M, 4), (kR_G, kT_G, 14), (kR_F, kT_F, 14), (kR_C, kT_C, 7), (kR_Y, kT_Y, 4), (kR_V, kT_V, 8), (kR_P, kT_P, 6), (kR_U, kT_U, 3), (kR_L, kT_L, 3), (kR_D, kT_D, 42)]
theorem kin_M : ∀ w ∈ u_ws kR_M kT_M 4, w ∈ gw := by
  intro w hw
  obtain ⟨k, hk, rfl⟩ := List.mem_map.mp hw
  have hk := List.mem_range.mp hk
  match k, hk with
  | 0, _ => exact tw_287
  | 1, _ => exact tw_289
  | 2, _ => exact tw_291
  | 3, _ => exact tw_293
theorem kin_G : ∀ w ∈ u_ws kR_G kT_G 14, w ∈ gw := by
  intro w hw
  obtain ⟨k, hk, rfl⟩ := List.mem_map.mp hw
  have hk := List.mem_range.mp hk
  match k, hk with
  | 0, _ => exact tw_95
  | 1, _ => exact tw_97
  | 2, _ => exact tw_99
  | 3, _ => exact tw_101
  | 4, _ => exact tw_103
  | 5, _ => exact tw_105
  | 6, _ => exact tw_107
  | 7, _ => exact tw_109
  | 8, _ => exact tw_111
  | 9, _ => exact tw_113
  | 10, _ => exact tw_115
  | 11, _ => exact tw_117
  | 12, _ => exact tw_119
  | 13, _ => exact tw_121
theorem kin_F : ∀ w ∈ u_ws kR_F kT_F 14, w ∈ gw := by
  intro w hw
  obtain ⟨k, hk, rfl⟩ := List.mem_map.mp hw
  have hk := List.mem_range.mp hk
  match k, hk with
  | 0, _ => exact tw_205
  | 1, _ => exact tw_207
  | 2, _ => exact tw_209
  | 3, _ => exact tw_211
  | 4, _ => exact tw_213
  | 5, _ => exact tw_215
  | 6, _ => exact tw_217
  | 7, _ => exact tw_219
  | 8, _ => exact tw_221
  | 9, _ => exact tw_223
  | 10, _ => exact tw_225
  | 11, _ => exact tw_227
  | 12, _ => exact tw_229
  | 13, _ => exact tw_231
theorem kin_C : ∀ w ∈ u_ws kR_C kT_C 7, w ∈ gw := by
  intro w hw
  obtain ⟨k, hk, rfl⟩ := List.mem_map.mp hw
  have hk := List.mem_range.mp hk
  match k, hk with
  | 0, _ => exact tw_247
  | 1, _ => exact tw_249
  | 2, _ => exact tw_251
  | 3, _ => exact tw_253
  | 4, _ => exact tw_255
  | 5, _ => exact tw_257
  | 6, _ => exact tw_259
theorem kin_Y : ∀ w ∈ u_ws kR_Y kT_Y 4, w ∈ gw := by
  intro w hw
  obtain ⟨k, hk, rfl⟩ := List.mem_map.mp hw
  have hk := List.mem_range.mp hk
  match k, hk with
  | 0, _ => exact tw_274
  | 1, _ => exact tw_276
  | 2, _ => exact tw_278
  | 3, _ => exact tw_280
theorem kin_V : ∀ w ∈ u_ws kR_V kT_V 8, w ∈ gw := by
  intro w hw
  obtain ⟨k, hk, rfl⟩ := List.mem_map.mp hw
  have hk := List.mem_range.mp hk
  match k, hk with
  | 0, _ => exact tw_174
  | 1, _ => exact tw_176
  | 2, _ => exact tw_178
  | 3, _ => exact tw_180
  | 4, _ => exact tw_182
  | 5, _ => exact tw_184
  | 6, _ => exact tw_186
  | 7, _ => exact tw_188
theorem kin_P : ∀ w ∈ u_ws kR_P kT_P 6, w ∈ gw := by
  intro w hw
  obtain ⟨k, hk, rfl⟩ := List.mem_map.mp hw
  have hk := List.mem_range.mp hk
  match k, hk with
  | 0, _ => exact tw_65
  | 1, _ => exact tw_67
  | 2, _ => exact tw_69
  | 3, _ => exact tw_71
  | 4, _ => exact tw_73
  | 5, _ => exact tw_75
theorem kin_U : ∀ w ∈ u_ws kR_U kT_U 3, w ∈ gw := by
  intro w hw
  obtain ⟨k, hk, rfl⟩ := List.mem_map.mp hw
  have hk := List.mem_range.mp hk
  match k, hk with
  | 0, _ => exact tw_43
  | 1, _ => exact tw_45
  | 2, _ => exact tw_47
theorem kin_L : ∀ w ∈ u_ws kR_L kT_L 3, w ∈ gw := by
  intro w hw
  obtain ⟨k, hk, rfl⟩ := List.mem_map.mp hw
  have hk := List.mem_range.mp hk
  match k, hk with
  | 0, _ => exact tw_139
  | 1, _ => exact tw_141
  | 2, _ => exact tw_143
theorem kin_D : ∀ w ∈ u_ws kR_D kT_D 42, w ∈ gw := by
  intro w hw
  obtain ⟨k, hk, rfl⟩ := List.mem_map.mp hw
  have hk := List.mem_range.mp hk
  match k, hk with
  | 0, _ => exact tw_859
  | 1, _ => exact tw_861
  | 2, _ => exact tw_863
  | 3, _ => exact tw_865
  | 4, _ => exact tw_867
  | 5, _ => exact tw_869
  | 6, _ => exact tw_871
  | 7, _ => exact tw_873
  | 8, _ => exact tw_875
  | 9, _ => exact tw_877
  | 10, _ => exact tw_879
  | 11, _ => exact tw_881
  | 12, _ => exact tw_883
  | 13, _ => exact tw_885
  | 14, _ => exact tw_887
  | 15, _ => exact tw_889
  | 16, _ => exact tw_891
  | 17, _ => exact tw_893
  | 18, _ => exact tw_895
  | 19, _ => exact tw_897
  | 20, _ => exact tw_899
  | 21, _ => exact tw_901
  | 22, _ => exact tw_903
  | 23, _ => exact tw_905
  | 24, _ => exact tw_907
  | 25, _ => exact tw_909
  | 26, _ => exact tw_911
  | 27, _ => exact tw_913
  | 28, _ => exact tw_915
  | 29, _ => exact tw_917
  | 30, _ => exact tw_919
  | 31, _ => exact tw_921
  | 32, _ => exact tw_923
  | 33, _ => exact tw_925
  | 34, _ => exact tw_927
  | 35, _ => exact tw_929
  | 36, _ => exact tw_931
  | 37, _ => exact tw_933
  | 38, _ => exact tw_935
  | 39, _ => exact tw_937
  | 40, _ => exact tw_939
  | 41, _ => exact tw_941
  | k + 42, h => exact absurd h (by omega)
abbrev b_U_init : ByteArray := prog_5_method_1_code
def y_U_init : MethodName := ⟨"TreeMatcher$Groups", "<init>", "(II)V"⟩
def ws_U_init : List Cond := Cond.code y_U_init b_U_init 3 (Option.none : Option Jvm.ClassFile.FieldType) :: gw
theorem cin_U_init : Cond.code y_U_init b_U_init 3 (Option.none : Option Jvm.ClassFile.FieldType) ∈ gw := tw_38
abbrev b_P_init : ByteArray := prog_7_method_1_code
def y_P_init : MethodName := ⟨"TreeMatcher$Parts", "<init>", "()V"⟩
def ws_P_init : List Cond := Cond.code y_P_init b_P_init 1 (Option.none : Option Jvm.ClassFile.FieldType) :: gw
theorem cin_P_init : Cond.code y_P_init b_P_init 1 (Option.none : Option Jvm.ClassFile.FieldType) ∈ gw := tw_55
abbrev b_F_init : ByteArray := prog_3_method_1_code
def y_F_init : MethodName := ⟨"TreeMatcher$Forest", "<init>", "(LTreeMatcher$Grammar;)V"⟩
def ws_F_init : List Cond := Cond.code y_F_init b_F_init 2 (Option.none : Option Jvm.ClassFile.FieldType) :: gw
theorem cin_F_init : Cond.code y_F_init b_F_init 2 (Option.none : Option Jvm.ClassFile.FieldType) ∈ gw := tw_128
abbrev b_L_init : ByteArray := prog_6_method_1_code
def y_L_init : MethodName := ⟨"TreeMatcher$Labels", "<init>", "(LTreeMatcher$Grammar;)V"⟩
def ws_L_init : List Cond := Cond.code y_L_init b_L_init 2 (Option.none : Option Jvm.ClassFile.FieldType) :: gw
theorem cin_L_init : Cond.code y_L_init b_L_init 2 (Option.none : Option Jvm.ClassFile.FieldType) ∈ gw := tw_134
abbrev b_V_init : ByteArray := prog_9_method_1_code
def y_V_init : MethodName := ⟨"TreeMatcher$Vectors", "<init>", "(LTreeMatcher$Grammar;I)V"⟩
def ws_V_init : List Cond := Cond.code y_V_init b_V_init 3 (Option.none : Option Jvm.ClassFile.FieldType) :: gw
theorem cin_V_init : Cond.code y_V_init b_V_init 3 (Option.none : Option Jvm.ClassFile.FieldType) ∈ gw := tw_152
abbrev b_G_parts : ByteArray := prog_4_method_19_code
def y_G_parts : MethodName := ⟨"TreeMatcher$Grammar", "parts", "()LTreeMatcher$Parts;"⟩
def ws_G_parts : List Cond := Cond.code y_G_parts b_G_parts 1 (Option.some (Jvm.ClassFile.FieldType.object "TreeMatcher$Parts")) :: gw
theorem cin_G_parts : Cond.code y_G_parts b_G_parts 1 (Option.some (Jvm.ClassFile.FieldType.object "TreeMatcher$Parts")) ∈ gw := tw_157
abbrev b_P_byOperator : ByteArray := prog_7_method_8_code
def y_P_byOperator : MethodName := ⟨"TreeMatcher$Parts", "byOperator", "()LTreeMatcher$Groups;"⟩
def ws_P_byOperator : List Cond := Cond.code y_P_byOperator b_P_byOperator 1 (Option.some (Jvm.ClassFile.FieldType.object "TreeMatcher$Groups")) :: gw
theorem cin_P_byOperator : Cond.code y_P_byOperator b_P_byOperator 1 (Option.some (Jvm.ClassFile.FieldType.object "TreeMatcher$Groups")) ∈ gw := tw_161
abbrev b_C_init : ByteArray := prog_2_method_1_code
def y_C_init : MethodName := ⟨"TreeMatcher$Covering", "<init>", "(LTreeMatcher$Grammar;LTreeMatcher$Forest;)V"⟩
def ws_C_init : List Cond := Cond.code y_C_init b_C_init 3 (Option.none : Option Jvm.ClassFile.FieldType) :: gw
theorem cin_C_init : Cond.code y_C_init b_C_init 3 (Option.none : Option Jvm.ClassFile.FieldType) ∈ gw := tw_238
abbrev b_Y_init : ByteArray := prog_8_method_1_code
def y_Y_init : MethodName := ⟨"TreeMatcher$Tally", "<init>", "(LTreeMatcher$Grammar;)V"⟩
def ws_Y_init : List Cond := Cond.code y_Y_init b_Y_init 2 (Option.none : Option Jvm.ClassFile.FieldType) :: gw
theorem cin_Y_init : Cond.code y_Y_init b_Y_init 2 (Option.none : Option Jvm.ClassFile.FieldType) ∈ gw := tw_266
abbrev b_M_clear : ByteArray := prog_1_method_12_code
def y_M_clear : MethodName := ⟨"TreeMatcher", "clear", "()I"⟩
def ws_M_clear : List Cond := Cond.code y_M_clear b_M_clear 1 (Option.some Jvm.ClassFile.FieldType.int) :: gw
theorem cin_M_clear : Cond.code y_M_clear b_M_clear 1 (Option.some Jvm.ClassFile.FieldType.int) ∈ gw := tw_299
abbrev b_C_forget : ByteArray := prog_2_method_4_code
def y_C_forget : MethodName := ⟨"TreeMatcher$Covering", "forget", "()V"⟩
def ws_C_forget : List Cond := Cond.code y_C_forget b_C_forget 1 (Option.none : Option Jvm.ClassFile.FieldType) :: gw
theorem cin_C_forget : Cond.code y_C_forget b_C_forget 1 (Option.none : Option Jvm.ClassFile.FieldType) ∈ gw := tw_303
abbrev b_F_forget : ByteArray := prog_3_method_14_code
def y_F_forget : MethodName := ⟨"TreeMatcher$Forest", "forget", "()I"⟩
def ws_F_forget : List Cond := Cond.code y_F_forget b_F_forget 2 (Option.some Jvm.ClassFile.FieldType.int) :: gw
theorem cin_F_forget : Cond.code y_F_forget b_F_forget 2 (Option.some Jvm.ClassFile.FieldType.int) ∈ gw := tw_307
abbrev b_V_forget : ByteArray := prog_9_method_3_code
def y_V_forget : MethodName := ⟨"TreeMatcher$Vectors", "forget", "()V"⟩
def ws_V_forget : List Cond := Cond.code y_V_forget b_V_forget 1 (Option.none : Option Jvm.ClassFile.FieldType) :: gw
theorem cin_V_forget : Cond.code y_V_forget b_V_forget 1 (Option.none : Option Jvm.ClassFile.FieldType) ∈ gw := tw_311
abbrev b_M_operator : ByteArray := prog_1_method_2_code
def y_M_operator : MethodName := ⟨"TreeMatcher", "operator", "(II)I"⟩
def ws_M_operator : List Cond := Cond.code y_M_operator b_M_operator 3 (Option.some Jvm.ClassFile.FieldType.int) :: gw
theorem cin_M_operator : Cond.code y_M_operator b_M_operator 3 (Option.some Jvm.ClassFile.FieldType.int) ∈ gw := tw_320
abbrev b_M_isWithin : ByteArray := prog_1_method_15_code
def y_M_isWithin : MethodName := ⟨"TreeMatcher", "isWithin", "(II)Z"⟩
def ws_M_isWithin : List Cond := Cond.code y_M_isWithin b_M_isWithin 2 (Option.some Jvm.ClassFile.FieldType.boolean) :: gw
theorem cin_M_isWithin : Cond.code y_M_isWithin b_M_isWithin 2 (Option.some Jvm.ClassFile.FieldType.boolean) ∈ gw := tw_323
abbrev b_G_hasOperator : ByteArray := prog_4_method_2_code
def y_G_hasOperator : MethodName := ⟨"TreeMatcher$Grammar", "hasOperator", "(I)Z"⟩
def ws_G_hasOperator : List Cond := Cond.code y_G_hasOperator b_G_hasOperator 2 (Option.some Jvm.ClassFile.FieldType.boolean) :: gw
theorem cin_G_hasOperator : Cond.code y_G_hasOperator b_G_hasOperator 2 (Option.some Jvm.ClassFile.FieldType.boolean) ∈ gw := tw_395
abbrev b_G_addOperator : ByteArray := prog_4_method_3_code
def y_G_addOperator : MethodName := ⟨"TreeMatcher$Grammar", "addOperator", "(II)I"⟩
def ws_G_addOperator : List Cond := Cond.code y_G_addOperator b_G_addOperator 3 (Option.some Jvm.ClassFile.FieldType.int) :: gw
theorem cin_G_addOperator : Cond.code y_G_addOperator b_G_addOperator 3 (Option.some Jvm.ClassFile.FieldType.int) ∈ gw := tw_416
abbrev b_M_element : ByteArray := prog_1_method_3_code
def y_M_element : MethodName := ⟨"TreeMatcher", "element", "(I)I"⟩
def ws_M_element : List Cond := Cond.code y_M_element b_M_element 2 (Option.some Jvm.ClassFile.FieldType.int) :: gw
theorem cin_M_element : Cond.code y_M_element b_M_element 2 (Option.some Jvm.ClassFile.FieldType.int) ∈ gw := tw_423
abbrev b_G_handSize : ByteArray := prog_4_method_7_code
def y_G_handSize : MethodName := ⟨"TreeMatcher$Grammar", "handSize", "()I"⟩
def ws_G_handSize : List Cond := Cond.code y_G_handSize b_G_handSize 1 (Option.some Jvm.ClassFile.FieldType.int) :: gw
theorem cin_G_handSize : Cond.code y_G_handSize b_G_handSize 1 (Option.some Jvm.ClassFile.FieldType.int) ∈ gw := tw_428
abbrev b_G_addElement : ByteArray := prog_4_method_6_code
def y_G_addElement : MethodName := ⟨"TreeMatcher$Grammar", "addElement", "(I)I"⟩
def ws_G_addElement : List Cond := Cond.code y_G_addElement b_G_addElement 2 (Option.some Jvm.ClassFile.FieldType.int) :: gw
theorem cin_G_addElement : Cond.code y_G_addElement b_G_addElement 2 (Option.some Jvm.ClassFile.FieldType.int) ∈ gw := tw_433
abbrev b_M_rule : ByteArray := prog_1_method_4_code
def y_M_rule : MethodName := ⟨"TreeMatcher", "rule", "(IIII)I"⟩
def ws_M_rule : List Cond := Cond.code y_M_rule b_M_rule 6 (Option.some Jvm.ClassFile.FieldType.int) :: gw
theorem cin_M_rule : Cond.code y_M_rule b_M_rule 6 (Option.some Jvm.ClassFile.FieldType.int) ∈ gw := tw_440
abbrev b_G_ruleCount : ByteArray := prog_4_method_11_code
def y_G_ruleCount : MethodName := ⟨"TreeMatcher$Grammar", "ruleCount", "()I"⟩
def ws_G_ruleCount : List Cond := Cond.code y_G_ruleCount b_G_ruleCount 1 (Option.some Jvm.ClassFile.FieldType.int) :: gw
theorem cin_G_ruleCount : Cond.code y_G_ruleCount b_G_ruleCount 1 (Option.some Jvm.ClassFile.FieldType.int) ∈ gw := tw_444
abbrev b_F_size : ByteArray := prog_3_method_2_code
def y_F_size : MethodName := ⟨"TreeMatcher$Forest", "size", "()I"⟩
def ws_F_size : List Cond := Cond.code y_F_size b_F_size 1 (Option.some Jvm.ClassFile.FieldType.int) :: gw
theorem cin_F_size : Cond.code y_F_size b_F_size 1 (Option.some Jvm.ClassFile.FieldType.int) ∈ gw := tw_448
abbrev b_G_handIsPattern : ByteArray := prog_4_method_9_code
def y_G_handIsPattern : MethodName := ⟨"TreeMatcher$Grammar", "handIsPattern", "()Z"⟩
def ws_G_handIsPattern : List Cond := Cond.code y_G_handIsPattern b_G_handIsPattern 4 (Option.some Jvm.ClassFile.FieldType.boolean) :: gw
theorem cin_G_handIsPattern : Cond.code y_G_handIsPattern b_G_handIsPattern 4 (Option.some Jvm.ClassFile.FieldType.boolean) ∈ gw := tw_453
abbrev b_G_dropHand : ByteArray := prog_4_method_8_code
def y_G_dropHand : MethodName := ⟨"TreeMatcher$Grammar", "dropHand", "()V"⟩
def ws_G_dropHand : List Cond := Cond.code y_G_dropHand b_G_dropHand 1 (Option.none : Option Jvm.ClassFile.FieldType) :: gw
theorem cin_G_dropHand : Cond.code y_G_dropHand b_G_dropHand 1 (Option.none : Option Jvm.ClassFile.FieldType) ∈ gw := tw_458
abbrev b_M_node : ByteArray := prog_1_method_5_code
def y_M_node : MethodName := ⟨"TreeMatcher", "node", "(IIII)I"⟩
def ws_M_node : List Cond := Cond.code y_M_node b_M_node 5 (Option.some Jvm.ClassFile.FieldType.int) :: gw
theorem cin_M_node : Cond.code y_M_node b_M_node 5 (Option.some Jvm.ClassFile.FieldType.int) ∈ gw := tw_490
abbrev b_P_size : ByteArray := prog_7_method_4_code
def y_P_size : MethodName := ⟨"TreeMatcher$Parts", "size", "()I"⟩
def ws_P_size : List Cond := Cond.code y_P_size b_P_size 1 (Option.some Jvm.ClassFile.FieldType.int) :: gw
theorem cin_P_size : Cond.code y_P_size b_P_size 1 (Option.some Jvm.ClassFile.FieldType.int) ∈ gw := tw_570
abbrev b_M_cost : ByteArray := prog_1_method_6_code
def y_M_cost : MethodName := ⟨"TreeMatcher", "cost", "(II)I"⟩
def ws_M_cost : List Cond := Cond.code y_M_cost b_M_cost 3 (Option.some Jvm.ClassFile.FieldType.int) :: gw
theorem cin_M_cost : Cond.code y_M_cost b_M_cost 3 (Option.some Jvm.ClassFile.FieldType.int) ∈ gw := tw_660
abbrev b_M_checkLabel : ByteArray := prog_1_method_14_code
def y_M_checkLabel : MethodName := ⟨"TreeMatcher", "checkLabel", "(II)V"⟩
def ws_M_checkLabel : List Cond := Cond.code y_M_checkLabel b_M_checkLabel 3 (Option.none : Option Jvm.ClassFile.FieldType) :: gw
theorem cin_M_checkLabel : Cond.code y_M_checkLabel b_M_checkLabel 3 (Option.none : Option Jvm.ClassFile.FieldType) ∈ gw := tw_664
abbrev b_M_ruleAt : ByteArray := prog_1_method_7_code
def y_M_ruleAt : MethodName := ⟨"TreeMatcher", "ruleAt", "(II)I"⟩
def ws_M_ruleAt : List Cond := Cond.code y_M_ruleAt b_M_ruleAt 3 (Option.some Jvm.ClassFile.FieldType.int) :: gw
theorem cin_M_ruleAt : Cond.code y_M_ruleAt b_M_ruleAt 3 (Option.some Jvm.ClassFile.FieldType.int) ∈ gw := tw_692
abbrev b_M_cover : ByteArray := prog_1_method_8_code
def y_M_cover : MethodName := ⟨"TreeMatcher", "cover", "(II)I"⟩
def ws_M_cover : List Cond := Cond.code y_M_cover b_M_cover 4 (Option.some Jvm.ClassFile.FieldType.int) :: gw
theorem cin_M_cover : Cond.code y_M_cover b_M_cover 4 (Option.some Jvm.ClassFile.FieldType.int) ∈ gw := tw_703
abbrev b_C_size : ByteArray := prog_2_method_2_code
def y_C_size : MethodName := ⟨"TreeMatcher$Covering", "size", "()I"⟩
def ws_C_size : List Cond := Cond.code y_C_size b_C_size 1 (Option.some Jvm.ClassFile.FieldType.int) :: gw
theorem cin_C_size : Cond.code y_C_size b_C_size 1 (Option.some Jvm.ClassFile.FieldType.int) ∈ gw := tw_732
abbrev b_M_pair : ByteArray := prog_1_method_9_code
def y_M_pair : MethodName := ⟨"TreeMatcher", "pair", "(II)I"⟩
def ws_M_pair : List Cond := Cond.code y_M_pair b_M_pair 4 (Option.some Jvm.ClassFile.FieldType.int) :: gw
theorem cin_M_pair : Cond.code y_M_pair b_M_pair 4 (Option.some Jvm.ClassFile.FieldType.int) ∈ gw := tw_739
abbrev b_M_states : ByteArray := prog_1_method_10_code
def y_M_states : MethodName := ⟨"TreeMatcher", "states", "()I"⟩
def ws_M_states : List Cond := Cond.code y_M_states b_M_states 1 (Option.some Jvm.ClassFile.FieldType.int) :: gw
theorem cin_M_states : Cond.code y_M_states b_M_states 1 (Option.some Jvm.ClassFile.FieldType.int) ∈ gw := tw_752
abbrev b_G_hasLimits : ByteArray := prog_4_method_17_code
def y_G_hasLimits : MethodName := ⟨"TreeMatcher$Grammar", "hasLimits", "()Z"⟩
def ws_G_hasLimits : List Cond := Cond.code y_G_hasLimits b_G_hasLimits 1 (Option.some Jvm.ClassFile.FieldType.boolean) :: gw
theorem cin_G_hasLimits : Cond.code y_G_hasLimits b_G_hasLimits 1 (Option.some Jvm.ClassFile.FieldType.boolean) ∈ gw := tw_756
abbrev b_Y_refresh : ByteArray := prog_8_method_3_code
def y_Y_refresh : MethodName := ⟨"TreeMatcher$Tally", "refresh", "()V"⟩
def ws_Y_refresh : List Cond := Cond.code y_Y_refresh b_Y_refresh 3 (Option.none : Option Jvm.ClassFile.FieldType) :: gw
theorem cin_Y_refresh : Cond.code y_Y_refresh b_Y_refresh 3 (Option.none : Option Jvm.ClassFile.FieldType) ∈ gw := tw_761
abbrev b_G_operatorCount : ByteArray := prog_4_method_4_code
def y_G_operatorCount : MethodName := ⟨"TreeMatcher$Grammar", "operatorCount", "()I"⟩
def ws_G_operatorCount : List Cond := Cond.code y_G_operatorCount b_G_operatorCount 1 (Option.some Jvm.ClassFile.FieldType.int) :: gw
theorem cin_G_operatorCount : Cond.code y_G_operatorCount b_G_operatorCount 1 (Option.some Jvm.ClassFile.FieldType.int) ∈ gw := tw_765
abbrev b_V_size : ByteArray := prog_9_method_2_code
def y_V_size : MethodName := ⟨"TreeMatcher$Vectors", "size", "()I"⟩
def ws_V_size : List Cond := Cond.code y_V_size b_V_size 1 (Option.some Jvm.ClassFile.FieldType.int) :: gw
theorem cin_V_size : Cond.code y_V_size b_V_size 1 (Option.some Jvm.ClassFile.FieldType.int) ∈ gw := tw_773
abbrev b_Y_size : ByteArray := prog_8_method_2_code
def y_Y_size : MethodName := ⟨"TreeMatcher$Tally", "size", "()I"⟩
def ws_Y_size : List Cond := Cond.code y_Y_size b_Y_size 1 (Option.some Jvm.ClassFile.FieldType.int) :: gw
theorem cin_Y_size : Cond.code y_Y_size b_Y_size 1 (Option.some Jvm.ClassFile.FieldType.int) ∈ gw := tw_781
abbrev b_M_same : ByteArray := prog_1_method_11_code
def y_M_same : MethodName := ⟨"TreeMatcher", "same", "(II)Z"⟩
def ws_M_same : List Cond := Cond.code y_M_same b_M_same 3 (Option.some Jvm.ClassFile.FieldType.boolean) :: gw
theorem cin_M_same : Cond.code y_M_same b_M_same 3 (Option.some Jvm.ClassFile.FieldType.boolean) ∈ gw := tw_789
abbrev b_M_count : ByteArray := prog_1_method_13_code
def y_M_count : MethodName := ⟨"TreeMatcher", "count", "(I)I"⟩
def ws_M_count : List Cond := Cond.code y_M_count b_M_count 2 (Option.some Jvm.ClassFile.FieldType.int) :: gw
theorem cin_M_count : Cond.code y_M_count b_M_count 2 (Option.some Jvm.ClassFile.FieldType.int) ∈ gw := tw_801
abbrev b_G_partCount : ByteArray := prog_4_method_20_code
def y_G_partCount : MethodName := ⟨"TreeMatcher$Grammar", "partCount", "()I"⟩
def ws_G_partCount : List Cond := Cond.code y_G_partCount b_G_partCount 1 (Option.some Jvm.ClassFile.FieldType.int) :: gw
theorem cin_G_partCount : Cond.code y_G_partCount b_G_partCount 1 (Option.some Jvm.ClassFile.FieldType.int) ∈ gw := tw_806
abbrev b_D_thrown : ByteArray := prog_11_method_2_code
def y_D_thrown : MethodName := ⟨"TreeMatcherModel", "thrown", "()I"⟩
def ws_D_thrown : List Cond := Cond.code y_D_thrown b_D_thrown 1 (Option.some Jvm.ClassFile.FieldType.int) :: gw
theorem cin_D_thrown : Cond.code y_D_thrown b_D_thrown 1 (Option.some Jvm.ClassFile.FieldType.int) ∈ gw := tw_947
theorem sw_M_checkLabel : Cond.selects "TreeMatcher" ({ cls := "TreeMatcher", name := "checkLabel", desc := "(II)V" } : Jvm.MethodName) ({ cls := "TreeMatcher", name := "checkLabel", desc := "(II)V" } : Jvm.MethodName) ∈ gw := gw_sel (by decide +kernel) rfl
theorem d_U_init_0 : decode b_U_init 0 = .ok (.aload_n 0, 1) := by decide +kernel
theorem d_U_init_1 : decode b_U_init 1 = .ok (.invokespecial 1, 3) := by decide +kernel
theorem d_U_init_4 : decode b_U_init 4 = .ok (.aload_n 0, 1) := by decide +kernel
theorem d_U_init_5 : decode b_U_init 5 = .ok (.iload_n 1, 1) := by decide +kernel
theorem d_U_init_6 : decode b_U_init 6 = .ok (.putfield 7, 3) := by decide +kernel
theorem d_U_init_9 : decode b_U_init 9 = .ok (.aload_n 0, 1) := by decide +kernel
theorem d_U_init_10 : decode b_U_init 10 = .ok (.iload_n 1, 1) := by decide +kernel
theorem d_U_init_11 : decode b_U_init 11 = .ok (.iconst 1, 1) := by decide +kernel
theorem d_U_init_12 : decode b_U_init 12 = .ok (.iadd, 1) := by decide +kernel
theorem d_U_init_13 : decode b_U_init 13 = .ok (.newarray .int, 2) := by decide +kernel
theorem d_U_init_15 : decode b_U_init 15 = .ok (.putfield 13, 3) := by decide +kernel
theorem d_U_init_18 : decode b_U_init 18 = .ok (.aload_n 0, 1) := by decide +kernel
theorem d_U_init_19 : decode b_U_init 19 = .ok (.iload_n 2, 1) := by decide +kernel
theorem d_U_init_20 : decode b_U_init 20 = .ok (.newarray .int, 2) := by decide +kernel
theorem d_U_init_22 : decode b_U_init 22 = .ok (.putfield 17, 3) := by decide +kernel
theorem d_U_init_25 : decode b_U_init 25 = .ok (.return_, 1) := by decide +kernel
theorem d_P_init_0 : decode b_P_init 0 = .ok (.aload_n 0, 1) := by decide +kernel
theorem d_P_init_1 : decode b_P_init 1 = .ok (.invokespecial 3, 3) := by decide +kernel
theorem d_P_init_4 : decode b_P_init 4 = .ok (.aload_n 0, 1) := by decide +kernel
theorem d_P_init_5 : decode b_P_init 5 = .ok (.sipush 784, 3) := by decide +kernel
theorem d_P_init_8 : decode b_P_init 8 = .ok (.newarray .int, 2) := by decide +kernel
theorem d_P_init_10 : decode b_P_init 10 = .ok (.putfield 11, 3) := by decide +kernel
theorem d_P_init_13 : decode b_P_init 13 = .ok (.aload_n 0, 1) := by decide +kernel
theorem d_P_init_14 : decode b_P_init 14 = .ok (.sipush 784, 3) := by decide +kernel
theorem d_P_init_17 : decode b_P_init 17 = .ok (.newarray .int, 2) := by decide +kernel
theorem d_P_init_19 : decode b_P_init 19 = .ok (.putfield 15, 3) := by decide +kernel
theorem d_P_init_22 : decode b_P_init 22 = .ok (.aload_n 0, 1) := by decide +kernel
theorem d_P_init_23 : decode b_P_init 23 = .ok (.sipush 784, 3) := by decide +kernel
theorem d_P_init_26 : decode b_P_init 26 = .ok (.newarray .int, 2) := by decide +kernel
theorem d_P_init_28 : decode b_P_init 28 = .ok (.putfield 18, 3) := by decide +kernel
theorem d_P_init_31 : decode b_P_init 31 = .ok (.aload_n 0, 1) := by decide +kernel
theorem d_P_init_32 : decode b_P_init 32 = .ok (.bipush 12, 2) := by decide +kernel
theorem d_P_init_34 : decode b_P_init 34 = .ok (.newarray .int, 2) := by decide +kernel
theorem d_P_init_36 : decode b_P_init 36 = .ok (.putfield 21, 3) := by decide +kernel
theorem d_P_init_39 : decode b_P_init 39 = .ok (.aload_n 0, 1) := by decide +kernel
theorem d_P_init_40 : decode b_P_init 40 = .ok (.new 24, 3) := by decide +kernel
theorem d_P_init_43 : decode b_P_init 43 = .ok (.dup, 1) := by decide +kernel
theorem d_P_init_44 : decode b_P_init 44 = .ok (.bipush 32, 2) := by decide +kernel
theorem d_P_init_46 : decode b_P_init 46 = .ok (.sipush 768, 3) := by decide +kernel
theorem d_P_init_49 : decode b_P_init 49 = .ok (.invokespecial 26, 3) := by decide +kernel
theorem d_P_init_52 : decode b_P_init 52 = .ok (.putfield 29, 3) := by decide +kernel
theorem d_P_init_55 : decode b_P_init 55 = .ok (.aload_n 0, 1) := by decide +kernel
theorem d_P_init_56 : decode b_P_init 56 = .ok (.bipush 16, 2) := by decide +kernel
theorem d_P_init_58 : decode b_P_init 58 = .ok (.putfield 33, 3) := by decide +kernel
theorem d_P_init_61 : decode b_P_init 61 = .ok (.return_, 1) := by decide +kernel
theorem d_F_init_0 : decode b_F_init 0 = .ok (.aload_n 0, 1) := by decide +kernel
theorem d_F_init_1 : decode b_F_init 1 = .ok (.invokespecial 3, 3) := by decide +kernel
theorem d_F_init_4 : decode b_F_init 4 = .ok (.aload_n 0, 1) := by decide +kernel
theorem d_F_init_5 : decode b_F_init 5 = .ok (.sipush 200, 3) := by decide +kernel
theorem d_F_init_8 : decode b_F_init 8 = .ok (.newarray .int, 2) := by decide +kernel
theorem d_F_init_10 : decode b_F_init 10 = .ok (.putfield 9, 3) := by decide +kernel
theorem d_F_init_13 : decode b_F_init 13 = .ok (.aload_n 0, 1) := by decide +kernel
theorem d_F_init_14 : decode b_F_init 14 = .ok (.sipush 200, 3) := by decide +kernel
theorem d_F_init_17 : decode b_F_init 17 = .ok (.newarray .int, 2) := by decide +kernel
theorem d_F_init_19 : decode b_F_init 19 = .ok (.putfield 15, 3) := by decide +kernel
theorem d_F_init_22 : decode b_F_init 22 = .ok (.aload_n 0, 1) := by decide +kernel
theorem d_F_init_23 : decode b_F_init 23 = .ok (.sipush 200, 3) := by decide +kernel
theorem d_F_init_26 : decode b_F_init 26 = .ok (.newarray .int, 2) := by decide +kernel
theorem d_F_init_28 : decode b_F_init 28 = .ok (.putfield 18, 3) := by decide +kernel
theorem d_F_init_31 : decode b_F_init 31 = .ok (.aload_n 0, 1) := by decide +kernel
theorem d_F_init_32 : decode b_F_init 32 = .ok (.sipush 200, 3) := by decide +kernel
theorem d_F_init_35 : decode b_F_init 35 = .ok (.newarray .int, 2) := by decide +kernel
theorem d_F_init_37 : decode b_F_init 37 = .ok (.putfield 21, 3) := by decide +kernel
theorem d_F_init_40 : decode b_F_init 40 = .ok (.aload_n 0, 1) := by decide +kernel
theorem d_F_init_41 : decode b_F_init 41 = .ok (.sipush 200, 3) := by decide +kernel
theorem d_F_init_44 : decode b_F_init 44 = .ok (.newarray .boolean, 2) := by decide +kernel
theorem d_F_init_46 : decode b_F_init 46 = .ok (.putfield 24, 3) := by decide +kernel
theorem d_F_init_49 : decode b_F_init 49 = .ok (.aload_n 0, 1) := by decide +kernel
theorem d_F_init_50 : decode b_F_init 50 = .ok (.sipush 3200, 3) := by decide +kernel
theorem d_F_init_53 : decode b_F_init 53 = .ok (.newarray .int, 2) := by decide +kernel
theorem d_F_init_55 : decode b_F_init 55 = .ok (.putfield 28, 3) := by decide +kernel
theorem d_F_init_58 : decode b_F_init 58 = .ok (.aload_n 0, 1) := by decide +kernel
theorem d_F_init_59 : decode b_F_init 59 = .ok (.sipush 3200, 3) := by decide +kernel
theorem d_F_init_62 : decode b_F_init 62 = .ok (.newarray .int, 2) := by decide +kernel
theorem d_F_init_64 : decode b_F_init 64 = .ok (.putfield 31, 3) := by decide +kernel
theorem d_F_init_67 : decode b_F_init 67 = .ok (.aload_n 0, 1) := by decide +kernel
theorem d_F_init_68 : decode b_F_init 68 = .ok (.sipush 200, 3) := by decide +kernel
theorem d_F_init_71 : decode b_F_init 71 = .ok (.newarray .int, 2) := by decide +kernel
theorem d_F_init_73 : decode b_F_init 73 = .ok (.putfield 34, 3) := by decide +kernel
theorem d_F_init_76 : decode b_F_init 76 = .ok (.aload_n 0, 1) := by decide +kernel
theorem d_F_init_77 : decode b_F_init 77 = .ok (.iconst 0, 1) := by decide +kernel
theorem d_F_init_78 : decode b_F_init 78 = .ok (.putfield 37, 3) := by decide +kernel
theorem d_F_init_81 : decode b_F_init 81 = .ok (.aload_n 0, 1) := by decide +kernel
theorem d_F_init_82 : decode b_F_init 82 = .ok (.bipush 12, 2) := by decide +kernel
theorem d_F_init_84 : decode b_F_init 84 = .ok (.newarray .int, 2) := by decide +kernel
theorem d_F_init_86 : decode b_F_init 86 = .ok (.putfield 41, 3) := by decide +kernel
theorem d_F_init_89 : decode b_F_init 89 = .ok (.aload_n 0, 1) := by decide +kernel
theorem d_F_init_90 : decode b_F_init 90 = .ok (.bipush 13, 2) := by decide +kernel
theorem d_F_init_92 : decode b_F_init 92 = .ok (.newarray .int, 2) := by decide +kernel
theorem d_F_init_94 : decode b_F_init 94 = .ok (.putfield 44, 3) := by decide +kernel
theorem d_F_init_97 : decode b_F_init 97 = .ok (.aload_n 0, 1) := by decide +kernel
theorem d_F_init_98 : decode b_F_init 98 = .ok (.aload_n 1, 1) := by decide +kernel
theorem d_F_init_99 : decode b_F_init 99 = .ok (.putfield 47, 3) := by decide +kernel
theorem d_F_init_102 : decode b_F_init 102 = .ok (.aload_n 0, 1) := by decide +kernel
theorem d_F_init_103 : decode b_F_init 103 = .ok (.new 51, 3) := by decide +kernel
theorem d_F_init_106 : decode b_F_init 106 = .ok (.dup, 1) := by decide +kernel
theorem d_F_init_107 : decode b_F_init 107 = .ok (.aload_n 1, 1) := by decide +kernel
theorem d_F_init_108 : decode b_F_init 108 = .ok (.invokespecial 53, 3) := by decide +kernel
theorem d_F_init_111 : decode b_F_init 111 = .ok (.putfield 56, 3) := by decide +kernel
theorem d_F_init_114 : decode b_F_init 114 = .ok (.aload_n 0, 1) := by decide +kernel
theorem d_F_init_115 : decode b_F_init 115 = .ok (.new 60, 3) := by decide +kernel
theorem d_F_init_118 : decode b_F_init 118 = .ok (.dup, 1) := by decide +kernel
theorem d_F_init_119 : decode b_F_init 119 = .ok (.aload_n 1, 1) := by decide +kernel
theorem d_F_init_120 : decode b_F_init 120 = .ok (.sipush 200, 3) := by decide +kernel
theorem d_F_init_123 : decode b_F_init 123 = .ok (.invokespecial 62, 3) := by decide +kernel
theorem d_F_init_126 : decode b_F_init 126 = .ok (.putfield 65, 3) := by decide +kernel
theorem d_F_init_129 : decode b_F_init 129 = .ok (.return_, 1) := by decide +kernel
theorem d_L_init_0 : decode b_L_init 0 = .ok (.aload_n 0, 1) := by decide +kernel
theorem d_L_init_1 : decode b_L_init 1 = .ok (.invokespecial 3, 3) := by decide +kernel
theorem d_L_init_4 : decode b_L_init 4 = .ok (.aload_n 0, 1) := by decide +kernel
theorem d_L_init_5 : decode b_L_init 5 = .ok (.bipush 16, 2) := by decide +kernel
theorem d_L_init_7 : decode b_L_init 7 = .ok (.newarray .long, 2) := by decide +kernel
theorem d_L_init_9 : decode b_L_init 9 = .ok (.putfield 9, 3) := by decide +kernel
theorem d_L_init_12 : decode b_L_init 12 = .ok (.aload_n 0, 1) := by decide +kernel
theorem d_L_init_13 : decode b_L_init 13 = .ok (.bipush 16, 2) := by decide +kernel
theorem d_L_init_15 : decode b_L_init 15 = .ok (.newarray .int, 2) := by decide +kernel
theorem d_L_init_17 : decode b_L_init 17 = .ok (.putfield 15, 3) := by decide +kernel
theorem d_L_init_20 : decode b_L_init 20 = .ok (.aload_n 0, 1) := by decide +kernel
theorem d_L_init_21 : decode b_L_init 21 = .ok (.aload_n 1, 1) := by decide +kernel
theorem d_L_init_22 : decode b_L_init 22 = .ok (.putfield 19, 3) := by decide +kernel
theorem d_L_init_25 : decode b_L_init 25 = .ok (.return_, 1) := by decide +kernel
theorem d_V_init_0 : decode b_V_init 0 = .ok (.aload_n 0, 1) := by decide +kernel
theorem d_V_init_1 : decode b_V_init 1 = .ok (.invokespecial 3, 3) := by decide +kernel
theorem d_V_init_4 : decode b_V_init 4 = .ok (.aload_n 0, 1) := by decide +kernel
theorem d_V_init_5 : decode b_V_init 5 = .ok (.sipush 784, 3) := by decide +kernel
theorem d_V_init_8 : decode b_V_init 8 = .ok (.newarray .long, 2) := by decide +kernel
theorem d_V_init_10 : decode b_V_init 10 = .ok (.putfield 11, 3) := by decide +kernel
theorem d_V_init_13 : decode b_V_init 13 = .ok (.aload_n 0, 1) := by decide +kernel
theorem d_V_init_14 : decode b_V_init 14 = .ok (.iconst 0, 1) := by decide +kernel
theorem d_V_init_15 : decode b_V_init 15 = .ok (.putfield 17, 3) := by decide +kernel
theorem d_V_init_18 : decode b_V_init 18 = .ok (.aload_n 0, 1) := by decide +kernel
theorem d_V_init_19 : decode b_V_init 19 = .ok (.aload_n 1, 1) := by decide +kernel
theorem d_V_init_20 : decode b_V_init 20 = .ok (.putfield 21, 3) := by decide +kernel
theorem d_V_init_23 : decode b_V_init 23 = .ok (.aload_n 0, 1) := by decide +kernel
theorem d_V_init_24 : decode b_V_init 24 = .ok (.aload_n 1, 1) := by decide +kernel
theorem d_V_init_25 : decode b_V_init 25 = .ok (.invokevirtual 25, 3) := by decide +kernel
theorem d_V_init_28 : decode b_V_init 28 = .ok (.putfield 31, 3) := by decide +kernel
theorem d_V_init_31 : decode b_V_init 31 = .ok (.aload_n 0, 1) := by decide +kernel
theorem d_V_init_32 : decode b_V_init 32 = .ok (.aload_n 0, 1) := by decide +kernel
theorem d_V_init_33 : decode b_V_init 33 = .ok (.getfield 31, 3) := by decide +kernel
theorem d_V_init_36 : decode b_V_init 36 = .ok (.invokevirtual 34, 3) := by decide +kernel
theorem d_V_init_39 : decode b_V_init 39 = .ok (.putfield 38, 3) := by decide +kernel
theorem d_V_init_42 : decode b_V_init 42 = .ok (.aload_n 0, 1) := by decide +kernel
theorem d_V_init_43 : decode b_V_init 43 = .ok (.new 41, 3) := by decide +kernel
theorem d_V_init_46 : decode b_V_init 46 = .ok (.dup, 1) := by decide +kernel
theorem d_V_init_47 : decode b_V_init 47 = .ok (.aload_n 1, 1) := by decide +kernel
theorem d_V_init_48 : decode b_V_init 48 = .ok (.invokespecial 43, 3) := by decide +kernel
theorem d_V_init_51 : decode b_V_init 51 = .ok (.putfield 46, 3) := by decide +kernel
theorem d_V_init_54 : decode b_V_init 54 = .ok (.aload_n 0, 1) := by decide +kernel
theorem d_V_init_55 : decode b_V_init 55 = .ok (.iload_n 2, 1) := by decide +kernel
theorem d_V_init_56 : decode b_V_init 56 = .ok (.anewarray 50, 3) := by decide +kernel
theorem d_V_init_59 : decode b_V_init 59 = .ok (.putfield 51, 3) := by decide +kernel
theorem d_V_init_62 : decode b_V_init 62 = .ok (.aload_n 0, 1) := by decide +kernel
theorem d_V_init_63 : decode b_V_init 63 = .ok (.iload_n 2, 1) := by decide +kernel
theorem d_V_init_64 : decode b_V_init 64 = .ok (.newarray .int, 2) := by decide +kernel
theorem d_V_init_66 : decode b_V_init 66 = .ok (.putfield 55, 3) := by decide +kernel
theorem d_V_init_69 : decode b_V_init 69 = .ok (.return_, 1) := by decide +kernel
theorem d_G_parts_0 : decode b_G_parts 0 = .ok (.aload_n 0, 1) := by decide +kernel
theorem d_G_parts_1 : decode b_G_parts 1 = .ok (.getfield 62, 3) := by decide +kernel
theorem d_G_parts_4 : decode b_G_parts 4 = .ok (.areturn, 1) := by decide +kernel
theorem d_P_byOperator_0 : decode b_P_byOperator 0 = .ok (.aload_n 0, 1) := by decide +kernel
theorem d_P_byOperator_1 : decode b_P_byOperator 1 = .ok (.getfield 29, 3) := by decide +kernel
theorem d_P_byOperator_4 : decode b_P_byOperator 4 = .ok (.areturn, 1) := by decide +kernel
theorem d_C_init_0 : decode b_C_init 0 = .ok (.aload_n 0, 1) := by decide +kernel
theorem d_C_init_1 : decode b_C_init 1 = .ok (.invokespecial 3, 3) := by decide +kernel
theorem d_C_init_4 : decode b_C_init 4 = .ok (.aload_n 0, 1) := by decide +kernel
theorem d_C_init_5 : decode b_C_init 5 = .ok (.sipush 2000, 3) := by decide +kernel
theorem d_C_init_8 : decode b_C_init 8 = .ok (.newarray .int, 2) := by decide +kernel
theorem d_C_init_10 : decode b_C_init 10 = .ok (.putfield 9, 3) := by decide +kernel
theorem d_C_init_13 : decode b_C_init 13 = .ok (.aload_n 0, 1) := by decide +kernel
theorem d_C_init_14 : decode b_C_init 14 = .ok (.sipush 2000, 3) := by decide +kernel
theorem d_C_init_17 : decode b_C_init 17 = .ok (.newarray .int, 2) := by decide +kernel
theorem d_C_init_19 : decode b_C_init 19 = .ok (.putfield 15, 3) := by decide +kernel
theorem d_C_init_22 : decode b_C_init 22 = .ok (.aload_n 0, 1) := by decide +kernel
theorem d_C_init_23 : decode b_C_init 23 = .ok (.sipush 200, 3) := by decide +kernel
theorem d_C_init_26 : decode b_C_init 26 = .ok (.newarray .int, 2) := by decide +kernel
theorem d_C_init_28 : decode b_C_init 28 = .ok (.putfield 18, 3) := by decide +kernel
theorem d_C_init_31 : decode b_C_init 31 = .ok (.aload_n 0, 1) := by decide +kernel
theorem d_C_init_32 : decode b_C_init 32 = .ok (.iconst 0, 1) := by decide +kernel
theorem d_C_init_33 : decode b_C_init 33 = .ok (.putfield 21, 3) := by decide +kernel
theorem d_C_init_36 : decode b_C_init 36 = .ok (.aload_n 0, 1) := by decide +kernel
theorem d_C_init_37 : decode b_C_init 37 = .ok (.iconst 0, 1) := by decide +kernel
theorem d_C_init_38 : decode b_C_init 38 = .ok (.putfield 25, 3) := by decide +kernel
theorem d_C_init_41 : decode b_C_init 41 = .ok (.aload_n 0, 1) := by decide +kernel
theorem d_C_init_42 : decode b_C_init 42 = .ok (.aload_n 1, 1) := by decide +kernel
theorem d_C_init_43 : decode b_C_init 43 = .ok (.putfield 28, 3) := by decide +kernel
theorem d_C_init_46 : decode b_C_init 46 = .ok (.aload_n 0, 1) := by decide +kernel
theorem d_C_init_47 : decode b_C_init 47 = .ok (.aload_n 2, 1) := by decide +kernel
theorem d_C_init_48 : decode b_C_init 48 = .ok (.putfield 32, 3) := by decide +kernel
theorem d_C_init_51 : decode b_C_init 51 = .ok (.return_, 1) := by decide +kernel
theorem d_Y_init_0 : decode b_Y_init 0 = .ok (.aload_n 0, 1) := by decide +kernel
theorem d_Y_init_1 : decode b_Y_init 1 = .ok (.invokespecial 3, 3) := by decide +kernel
theorem d_Y_init_4 : decode b_Y_init 4 = .ok (.aload_n 0, 1) := by decide +kernel
theorem d_Y_init_5 : decode b_Y_init 5 = .ok (.iconst 0, 1) := by decide +kernel
theorem d_Y_init_6 : decode b_Y_init 6 = .ok (.putfield 9, 3) := by decide +kernel
theorem d_Y_init_9 : decode b_Y_init 9 = .ok (.aload_n 0, 1) := by decide +kernel
theorem d_Y_init_10 : decode b_Y_init 10 = .ok (.iconst 0, 1) := by decide +kernel
theorem d_Y_init_11 : decode b_Y_init 11 = .ok (.putfield 15, 3) := by decide +kernel
theorem d_Y_init_14 : decode b_Y_init 14 = .ok (.aload_n 0, 1) := by decide +kernel
theorem d_Y_init_15 : decode b_Y_init 15 = .ok (.aload_n 1, 1) := by decide +kernel
theorem d_Y_init_16 : decode b_Y_init 16 = .ok (.putfield 18, 3) := by decide +kernel
theorem d_Y_init_19 : decode b_Y_init 19 = .ok (.aload_n 0, 1) := by decide +kernel
theorem d_Y_init_20 : decode b_Y_init 20 = .ok (.new 22, 3) := by decide +kernel
theorem d_Y_init_23 : decode b_Y_init 23 = .ok (.dup, 1) := by decide +kernel
theorem d_Y_init_24 : decode b_Y_init 24 = .ok (.aload_n 1, 1) := by decide +kernel
theorem d_Y_init_25 : decode b_Y_init 25 = .ok (.bipush 61, 2) := by decide +kernel
theorem d_Y_init_27 : decode b_Y_init 27 = .ok (.invokespecial 24, 3) := by decide +kernel
theorem d_Y_init_30 : decode b_Y_init 30 = .ok (.putfield 27, 3) := by decide +kernel
theorem d_Y_init_33 : decode b_Y_init 33 = .ok (.return_, 1) := by decide +kernel
theorem d_M_clear_0 : decode b_M_clear 0 = .ok (.aload_n 0, 1) := by decide +kernel
theorem d_M_clear_1 : decode b_M_clear 1 = .ok (.getfield 30, 3) := by decide +kernel
theorem d_M_clear_4 : decode b_M_clear 4 = .ok (.invokevirtual 155, 3) := by decide +kernel
theorem d_M_clear_7 : decode b_M_clear 7 = .ok (.aload_n 0, 1) := by decide +kernel
theorem d_M_clear_8 : decode b_M_clear 8 = .ok (.getfield 21, 3) := by decide +kernel
theorem d_M_clear_11 : decode b_M_clear 11 = .ok (.invokevirtual 158, 3) := by decide +kernel
theorem d_M_clear_14 : decode b_M_clear 14 = .ok (.ireturn, 1) := by decide +kernel
theorem d_C_forget_0 : decode b_C_forget 0 = .ok (.aload_n 0, 1) := by decide +kernel
theorem d_C_forget_1 : decode b_C_forget 1 = .ok (.iconst 0, 1) := by decide +kernel
theorem d_C_forget_2 : decode b_C_forget 2 = .ok (.putfield 25, 3) := by decide +kernel
theorem d_C_forget_5 : decode b_C_forget 5 = .ok (.return_, 1) := by decide +kernel
theorem d_F_forget_0 : decode b_F_forget 0 = .ok (.aload_n 0, 1) := by decide +kernel
theorem d_F_forget_1 : decode b_F_forget 1 = .ok (.getfield 37, 3) := by decide +kernel
theorem d_F_forget_4 : decode b_F_forget 4 = .ok (.istore_n 1, 1) := by decide +kernel
theorem d_F_forget_5 : decode b_F_forget 5 = .ok (.aload_n 0, 1) := by decide +kernel
theorem d_F_forget_6 : decode b_F_forget 6 = .ok (.iconst 0, 1) := by decide +kernel
theorem d_F_forget_7 : decode b_F_forget 7 = .ok (.putfield 37, 3) := by decide +kernel
theorem d_F_forget_10 : decode b_F_forget 10 = .ok (.aload_n 0, 1) := by decide +kernel
theorem d_F_forget_11 : decode b_F_forget 11 = .ok (.getfield 65, 3) := by decide +kernel
theorem d_F_forget_14 : decode b_F_forget 14 = .ok (.invokevirtual 144, 3) := by decide +kernel
theorem d_F_forget_17 : decode b_F_forget 17 = .ok (.iload_n 1, 1) := by decide +kernel
theorem d_F_forget_18 : decode b_F_forget 18 = .ok (.ireturn, 1) := by decide +kernel
theorem d_V_forget_0 : decode b_V_forget 0 = .ok (.aload_n 0, 1) := by decide +kernel
theorem d_V_forget_1 : decode b_V_forget 1 = .ok (.iconst 0, 1) := by decide +kernel
theorem d_V_forget_2 : decode b_V_forget 2 = .ok (.putfield 17, 3) := by decide +kernel
theorem d_V_forget_5 : decode b_V_forget 5 = .ok (.return_, 1) := by decide +kernel
theorem d_M_operator_0 : decode b_M_operator 0 = .ok (.iload_n 1, 1) := by decide +kernel
theorem d_M_operator_1 : decode b_M_operator 1 = .ok (.bipush 32, 2) := by decide +kernel
theorem d_M_operator_3 : decode b_M_operator 3 = .ok (.invokestatic 41, 3) := by decide +kernel
theorem d_M_operator_6 : decode b_M_operator 6 = .ok (.ifCond .eq 11, 3) := by decide +kernel
theorem d_M_operator_9 : decode b_M_operator 9 = .ok (.iload_n 2, 1) := by decide +kernel
theorem d_M_operator_10 : decode b_M_operator 10 = .ok (.iconst 3, 1) := by decide +kernel
theorem d_M_operator_11 : decode b_M_operator 11 = .ok (.invokestatic 41, 3) := by decide +kernel
theorem d_M_operator_14 : decode b_M_operator 14 = .ok (.ifCond .ne 13, 3) := by decide +kernel
theorem d_M_operator_17 : decode b_M_operator 17 = .ok (.new 45, 3) := by decide +kernel
theorem d_M_operator_20 : decode b_M_operator 20 = .ok (.dup, 1) := by decide +kernel
theorem d_M_operator_21 : decode b_M_operator 21 = .ok (.ldc 47, 2) := by decide +kernel
theorem d_M_operator_23 : decode b_M_operator 23 = .ok (.invokespecial 49, 3) := by decide +kernel
theorem d_M_operator_26 : decode b_M_operator 26 = .ok (.athrow, 1) := by decide +kernel
theorem d_M_operator_27 : decode b_M_operator 27 = .ok (.aload_n 0, 1) := by decide +kernel
theorem d_M_operator_28 : decode b_M_operator 28 = .ok (.getfield 12, 3) := by decide +kernel
theorem d_M_operator_31 : decode b_M_operator 31 = .ok (.iload_n 1, 1) := by decide +kernel
theorem d_M_operator_32 : decode b_M_operator 32 = .ok (.invokevirtual 52, 3) := by decide +kernel
theorem d_M_operator_35 : decode b_M_operator 35 = .ok (.ifCond .eq 13, 3) := by decide +kernel
theorem d_M_operator_48 : decode b_M_operator 48 = .ok (.aload_n 0, 1) := by decide +kernel
theorem d_M_operator_49 : decode b_M_operator 49 = .ok (.getfield 12, 3) := by decide +kernel
theorem d_M_operator_52 : decode b_M_operator 52 = .ok (.iload_n 1, 1) := by decide +kernel
theorem d_M_operator_53 : decode b_M_operator 53 = .ok (.iload_n 2, 1) := by decide +kernel
theorem d_M_operator_54 : decode b_M_operator 54 = .ok (.invokevirtual 61, 3) := by decide +kernel
theorem d_M_operator_57 : decode b_M_operator 57 = .ok (.ireturn, 1) := by decide +kernel
theorem d_M_isWithin_0 : decode b_M_isWithin 0 = .ok (.iload_n 0, 1) := by decide +kernel
theorem d_M_isWithin_1 : decode b_M_isWithin 1 = .ok (.ifCond .lt 12, 3) := by decide +kernel
theorem d_M_isWithin_4 : decode b_M_isWithin 4 = .ok (.iload_n 0, 1) := by decide +kernel
theorem d_M_isWithin_5 : decode b_M_isWithin 5 = .ok (.iload_n 1, 1) := by decide +kernel
theorem d_M_isWithin_6 : decode b_M_isWithin 6 = .ok (.if_icmp .ge 7, 3) := by decide +kernel
theorem d_M_isWithin_9 : decode b_M_isWithin 9 = .ok (.iconst 1, 1) := by decide +kernel
theorem d_M_isWithin_10 : decode b_M_isWithin 10 = .ok (.goto 4, 3) := by decide +kernel
theorem d_M_isWithin_13 : decode b_M_isWithin 13 = .ok (.iconst 0, 1) := by decide +kernel
theorem d_M_isWithin_14 : decode b_M_isWithin 14 = .ok (.ireturn, 1) := by decide +kernel
theorem d_G_hasOperator_0 : decode b_G_hasOperator 0 = .ok (.iload_n 1, 1) := by decide +kernel
theorem d_G_hasOperator_1 : decode b_G_hasOperator 1 = .ok (.bipush 32, 2) := by decide +kernel
theorem d_G_hasOperator_3 : decode b_G_hasOperator 3 = .ok (.invokestatic 72, 3) := by decide +kernel
theorem d_G_hasOperator_6 : decode b_G_hasOperator 6 = .ok (.ifCond .eq 17, 3) := by decide +kernel
theorem d_G_hasOperator_9 : decode b_G_hasOperator 9 = .ok (.aload_n 0, 1) := by decide +kernel
theorem d_G_hasOperator_10 : decode b_G_hasOperator 10 = .ok (.getfield 9, 3) := by decide +kernel
theorem d_G_hasOperator_13 : decode b_G_hasOperator 13 = .ok (.iload_n 1, 1) := by decide +kernel
theorem d_G_hasOperator_14 : decode b_G_hasOperator 14 = .ok (.iaload, 1) := by decide +kernel
theorem d_G_hasOperator_15 : decode b_G_hasOperator 15 = .ok (.iconst (-1), 1) := by decide +kernel
theorem d_G_hasOperator_16 : decode b_G_hasOperator 16 = .ok (.if_icmp .eq 7, 3) := by decide +kernel
theorem d_G_hasOperator_23 : decode b_G_hasOperator 23 = .ok (.iconst 0, 1) := by decide +kernel
theorem d_G_hasOperator_24 : decode b_G_hasOperator 24 = .ok (.ireturn, 1) := by decide +kernel
theorem d_G_addOperator_0 : decode b_G_addOperator 0 = .ok (.aload_n 0, 1) := by decide +kernel
theorem d_G_addOperator_1 : decode b_G_addOperator 1 = .ok (.getfield 9, 3) := by decide +kernel
theorem d_G_addOperator_4 : decode b_G_addOperator 4 = .ok (.iload_n 1, 1) := by decide +kernel
theorem d_G_addOperator_5 : decode b_G_addOperator 5 = .ok (.iload_n 2, 1) := by decide +kernel
theorem d_G_addOperator_6 : decode b_G_addOperator 6 = .ok (.iastore, 1) := by decide +kernel
theorem d_G_addOperator_7 : decode b_G_addOperator 7 = .ok (.aload_n 0, 1) := by decide +kernel
theorem d_G_addOperator_8 : decode b_G_addOperator 8 = .ok (.dup, 1) := by decide +kernel
theorem d_G_addOperator_9 : decode b_G_addOperator 9 = .ok (.getfield 15, 3) := by decide +kernel
theorem d_G_addOperator_12 : decode b_G_addOperator 12 = .ok (.iconst 1, 1) := by decide +kernel
theorem d_G_addOperator_13 : decode b_G_addOperator 13 = .ok (.iadd, 1) := by decide +kernel
theorem d_G_addOperator_14 : decode b_G_addOperator 14 = .ok (.putfield 15, 3) := by decide +kernel
theorem d_G_addOperator_17 : decode b_G_addOperator 17 = .ok (.aload_n 0, 1) := by decide +kernel
theorem d_G_addOperator_18 : decode b_G_addOperator 18 = .ok (.getfield 15, 3) := by decide +kernel
theorem d_G_addOperator_21 : decode b_G_addOperator 21 = .ok (.ireturn, 1) := by decide +kernel
theorem d_M_element_0 : decode b_M_element 0 = .ok (.iload_n 1, 1) := by decide +kernel
theorem d_M_element_1 : decode b_M_element 1 = .ok (.bipush 48, 2) := by decide +kernel
theorem d_M_element_3 : decode b_M_element 3 = .ok (.invokestatic 41, 3) := by decide +kernel
theorem d_M_element_6 : decode b_M_element 6 = .ok (.ifCond .ne 13, 3) := by decide +kernel
theorem d_M_element_9 : decode b_M_element 9 = .ok (.new 45, 3) := by decide +kernel
theorem d_M_element_12 : decode b_M_element 12 = .ok (.dup, 1) := by decide +kernel
theorem d_M_element_13 : decode b_M_element 13 = .ok (.ldc 65, 2) := by decide +kernel
theorem d_M_element_15 : decode b_M_element 15 = .ok (.invokespecial 49, 3) := by decide +kernel
theorem d_M_element_18 : decode b_M_element 18 = .ok (.athrow, 1) := by decide +kernel
theorem d_M_element_19 : decode b_M_element 19 = .ok (.aload_n 0, 1) := by decide +kernel
theorem d_M_element_20 : decode b_M_element 20 = .ok (.getfield 12, 3) := by decide +kernel
theorem d_M_element_23 : decode b_M_element 23 = .ok (.invokevirtual 67, 3) := by decide +kernel
theorem d_M_element_26 : decode b_M_element 26 = .ok (.bipush 12, 2) := by decide +kernel
theorem d_M_element_28 : decode b_M_element 28 = .ok (.if_icmp .lt 13, 3) := by decide +kernel
theorem d_M_element_41 : decode b_M_element 41 = .ok (.aload_n 0, 1) := by decide +kernel
theorem d_M_element_42 : decode b_M_element 42 = .ok (.getfield 12, 3) := by decide +kernel
theorem d_M_element_45 : decode b_M_element 45 = .ok (.iload_n 1, 1) := by decide +kernel
theorem d_M_element_46 : decode b_M_element 46 = .ok (.invokevirtual 73, 3) := by decide +kernel
theorem d_M_element_49 : decode b_M_element 49 = .ok (.ireturn, 1) := by decide +kernel
theorem d_G_handSize_0 : decode b_G_handSize 0 = .ok (.aload_n 0, 1) := by decide +kernel
theorem d_G_handSize_1 : decode b_G_handSize 1 = .ok (.getfield 22, 3) := by decide +kernel
theorem d_G_handSize_4 : decode b_G_handSize 4 = .ok (.ireturn, 1) := by decide +kernel
theorem d_G_addElement_0 : decode b_G_addElement 0 = .ok (.aload_n 0, 1) := by decide +kernel
theorem d_G_addElement_1 : decode b_G_addElement 1 = .ok (.getfield 19, 3) := by decide +kernel
theorem d_G_addElement_4 : decode b_G_addElement 4 = .ok (.aload_n 0, 1) := by decide +kernel
theorem d_G_addElement_5 : decode b_G_addElement 5 = .ok (.getfield 22, 3) := by decide +kernel
theorem d_G_addElement_8 : decode b_G_addElement 8 = .ok (.iload_n 1, 1) := by decide +kernel
theorem d_G_addElement_9 : decode b_G_addElement 9 = .ok (.iastore, 1) := by decide +kernel
theorem d_G_addElement_10 : decode b_G_addElement 10 = .ok (.aload_n 0, 1) := by decide +kernel
theorem d_G_addElement_11 : decode b_G_addElement 11 = .ok (.dup, 1) := by decide +kernel
theorem d_G_addElement_12 : decode b_G_addElement 12 = .ok (.getfield 22, 3) := by decide +kernel
theorem d_G_addElement_15 : decode b_G_addElement 15 = .ok (.iconst 1, 1) := by decide +kernel
theorem d_G_addElement_16 : decode b_G_addElement 16 = .ok (.iadd, 1) := by decide +kernel
theorem d_G_addElement_17 : decode b_G_addElement 17 = .ok (.putfield 22, 3) := by decide +kernel
theorem d_G_addElement_20 : decode b_G_addElement 20 = .ok (.aload_n 0, 1) := by decide +kernel
theorem d_G_addElement_21 : decode b_G_addElement 21 = .ok (.getfield 22, 3) := by decide +kernel
theorem d_G_addElement_24 : decode b_G_addElement 24 = .ok (.ireturn, 1) := by decide +kernel
theorem d_M_rule_0 : decode b_M_rule 0 = .ok (.aload_n 0, 1) := by decide +kernel
theorem d_M_rule_1 : decode b_M_rule 1 = .ok (.getfield 12, 3) := by decide +kernel
theorem d_M_rule_4 : decode b_M_rule 4 = .ok (.invokevirtual 77, 3) := by decide +kernel
theorem d_M_rule_7 : decode b_M_rule 7 = .ok (.bipush 64, 2) := by decide +kernel
theorem d_M_rule_9 : decode b_M_rule 9 = .ok (.if_icmp .ge 13, 3) := by decide +kernel
theorem d_M_rule_12 : decode b_M_rule 12 = .ok (.aload_n 0, 1) := by decide +kernel
theorem d_M_rule_13 : decode b_M_rule 13 = .ok (.getfield 21, 3) := by decide +kernel
theorem d_M_rule_16 : decode b_M_rule 16 = .ok (.invokevirtual 80, 3) := by decide +kernel
theorem d_M_rule_19 : decode b_M_rule 19 = .ok (.ifCond .le 13, 3) := by decide +kernel
theorem d_M_rule_32 : decode b_M_rule 32 = .ok (.iload_n 1, 1) := by decide +kernel
theorem d_M_rule_33 : decode b_M_rule 33 = .ok (.bipush 16, 2) := by decide +kernel
theorem d_M_rule_35 : decode b_M_rule 35 = .ok (.invokestatic 41, 3) := by decide +kernel
theorem d_M_rule_38 : decode b_M_rule 38 = .ok (.ifCond .eq 32, 3) := by decide +kernel
theorem d_M_rule_41 : decode b_M_rule 41 = .ok (.iload_n 2, 1) := by decide +kernel
theorem d_M_rule_42 : decode b_M_rule 42 = .ok (.bipush 100, 2) := by decide +kernel
theorem d_M_rule_44 : decode b_M_rule 44 = .ok (.invokestatic 41, 3) := by decide +kernel
theorem d_M_rule_47 : decode b_M_rule 47 = .ok (.ifCond .eq 23, 3) := by decide +kernel
theorem d_M_rule_50 : decode b_M_rule 50 = .ok (.iload_n 3, 1) := by decide +kernel
theorem d_M_rule_51 : decode b_M_rule 51 = .ok (.iload 4, 2) := by decide +kernel
theorem d_M_rule_53 : decode b_M_rule 53 = .ok (.if_icmp .gt 17, 3) := by decide +kernel
theorem d_M_rule_56 : decode b_M_rule 56 = .ok (.aload_n 0, 1) := by decide +kernel
theorem d_M_rule_57 : decode b_M_rule 57 = .ok (.getfield 12, 3) := by decide +kernel
theorem d_M_rule_60 : decode b_M_rule 60 = .ok (.invokevirtual 85, 3) := by decide +kernel
theorem d_M_rule_63 : decode b_M_rule 63 = .ok (.ifCond .eq 7, 3) := by decide +kernel
theorem d_M_rule_70 : decode b_M_rule 70 = .ok (.iconst 0, 1) := by decide +kernel
theorem d_M_rule_71 : decode b_M_rule 71 = .ok (.istore 5, 2) := by decide +kernel
theorem d_M_rule_73 : decode b_M_rule 73 = .ok (.iload 5, 2) := by decide +kernel
theorem d_M_rule_75 : decode b_M_rule 75 = .ok (.ifCond .ne 20, 3) := by decide +kernel
theorem d_M_rule_78 : decode b_M_rule 78 = .ok (.aload_n 0, 1) := by decide +kernel
theorem d_M_rule_79 : decode b_M_rule 79 = .ok (.getfield 12, 3) := by decide +kernel
theorem d_M_rule_82 : decode b_M_rule 82 = .ok (.invokevirtual 89, 3) := by decide +kernel
theorem d_M_rule_85 : decode b_M_rule 85 = .ok (.new 45, 3) := by decide +kernel
theorem d_M_rule_88 : decode b_M_rule 88 = .ok (.dup, 1) := by decide +kernel
theorem d_M_rule_89 : decode b_M_rule 89 = .ok (.ldc 92, 2) := by decide +kernel
theorem d_M_rule_91 : decode b_M_rule 91 = .ok (.invokespecial 49, 3) := by decide +kernel
theorem d_M_rule_94 : decode b_M_rule 94 = .ok (.athrow, 1) := by decide +kernel
theorem d_G_ruleCount_0 : decode b_G_ruleCount 0 = .ok (.aload_n 0, 1) := by decide +kernel
theorem d_G_ruleCount_1 : decode b_G_ruleCount 1 = .ok (.getfield 52, 3) := by decide +kernel
theorem d_G_ruleCount_4 : decode b_G_ruleCount 4 = .ok (.ireturn, 1) := by decide +kernel
theorem d_F_size_0 : decode b_F_size 0 = .ok (.aload_n 0, 1) := by decide +kernel
theorem d_F_size_1 : decode b_F_size 1 = .ok (.getfield 37, 3) := by decide +kernel
theorem d_F_size_4 : decode b_F_size 4 = .ok (.ireturn, 1) := by decide +kernel
theorem d_G_handIsPattern_0 : decode b_G_handIsPattern 0 = .ok (.iconst 1, 1) := by decide +kernel
theorem d_G_handIsPattern_1 : decode b_G_handIsPattern 1 = .ok (.istore_n 1, 1) := by decide +kernel
theorem d_G_handIsPattern_2 : decode b_G_handIsPattern 2 = .ok (.iconst 0, 1) := by decide +kernel
theorem d_G_handIsPattern_3 : decode b_G_handIsPattern 3 = .ok (.istore_n 2, 1) := by decide +kernel
theorem d_G_handIsPattern_4 : decode b_G_handIsPattern 4 = .ok (.iload_n 2, 1) := by decide +kernel
theorem d_G_handIsPattern_5 : decode b_G_handIsPattern 5 = .ok (.aload_n 0, 1) := by decide +kernel
theorem d_G_handIsPattern_6 : decode b_G_handIsPattern 6 = .ok (.getfield 22, 3) := by decide +kernel
theorem d_G_handIsPattern_9 : decode b_G_handIsPattern 9 = .ok (.if_icmp .ge 57, 3) := by decide +kernel
theorem d_G_handIsPattern_66 : decode b_G_handIsPattern 66 = .ok (.iload_n 1, 1) := by decide +kernel
theorem d_G_handIsPattern_67 : decode b_G_handIsPattern 67 = .ok (.ifCond .ne 7, 3) := by decide +kernel
theorem d_G_handIsPattern_74 : decode b_G_handIsPattern 74 = .ok (.iconst 0, 1) := by decide +kernel
theorem d_G_handIsPattern_75 : decode b_G_handIsPattern 75 = .ok (.ireturn, 1) := by decide +kernel
theorem d_G_dropHand_0 : decode b_G_dropHand 0 = .ok (.aload_n 0, 1) := by decide +kernel
theorem d_G_dropHand_1 : decode b_G_dropHand 1 = .ok (.iconst 0, 1) := by decide +kernel
theorem d_G_dropHand_2 : decode b_G_dropHand 2 = .ok (.putfield 22, 3) := by decide +kernel
theorem d_G_dropHand_5 : decode b_G_dropHand 5 = .ok (.return_, 1) := by decide +kernel
theorem d_M_node_0 : decode b_M_node 0 = .ok (.aload_n 0, 1) := by decide +kernel
theorem d_M_node_1 : decode b_M_node 1 = .ok (.getfield 12, 3) := by decide +kernel
theorem d_M_node_4 : decode b_M_node 4 = .ok (.iload_n 1, 1) := by decide +kernel
theorem d_M_node_5 : decode b_M_node 5 = .ok (.invokevirtual 52, 3) := by decide +kernel
theorem d_M_node_8 : decode b_M_node 8 = .ok (.ifCond .eq 17, 3) := by decide +kernel
theorem d_M_node_25 : decode b_M_node 25 = .ok (.new 45, 3) := by decide +kernel
theorem d_M_node_28 : decode b_M_node 28 = .ok (.dup, 1) := by decide +kernel
theorem d_M_node_29 : decode b_M_node 29 = .ok (.ldc 102, 2) := by decide +kernel
theorem d_M_node_31 : decode b_M_node 31 = .ok (.invokespecial 49, 3) := by decide +kernel
theorem d_M_node_34 : decode b_M_node 34 = .ok (.athrow, 1) := by decide +kernel
theorem d_P_size_0 : decode b_P_size 0 = .ok (.aload_n 0, 1) := by decide +kernel
theorem d_P_size_1 : decode b_P_size 1 = .ok (.getfield 33, 3) := by decide +kernel
theorem d_P_size_4 : decode b_P_size 4 = .ok (.ireturn, 1) := by decide +kernel
theorem d_M_cost_0 : decode b_M_cost 0 = .ok (.aload_n 0, 1) := by decide +kernel
theorem d_M_cost_1 : decode b_M_cost 1 = .ok (.iload_n 1, 1) := by decide +kernel
theorem d_M_cost_2 : decode b_M_cost 2 = .ok (.iload_n 2, 1) := by decide +kernel
theorem d_M_cost_3 : decode b_M_cost 3 = .ok (.invokevirtual 109, 3) := by decide +kernel
theorem d_M_checkLabel_0 : decode b_M_checkLabel 0 = .ok (.iload_n 1, 1) := by decide +kernel
theorem d_M_checkLabel_1 : decode b_M_checkLabel 1 = .ok (.aload_n 0, 1) := by decide +kernel
theorem d_M_checkLabel_2 : decode b_M_checkLabel 2 = .ok (.getfield 21, 3) := by decide +kernel
theorem d_M_checkLabel_5 : decode b_M_checkLabel 5 = .ok (.invokevirtual 80, 3) := by decide +kernel
theorem d_M_checkLabel_8 : decode b_M_checkLabel 8 = .ok (.invokestatic 41, 3) := by decide +kernel
theorem d_M_checkLabel_11 : decode b_M_checkLabel 11 = .ok (.ifCond .eq 12, 3) := by decide +kernel
theorem d_M_checkLabel_23 : decode b_M_checkLabel 23 = .ok (.new 128, 3) := by decide +kernel
theorem d_M_checkLabel_26 : decode b_M_checkLabel 26 = .ok (.dup, 1) := by decide +kernel
theorem d_M_checkLabel_27 : decode b_M_checkLabel 27 = .ok (.ldc 168, 2) := by decide +kernel
theorem d_M_checkLabel_29 : decode b_M_checkLabel 29 = .ok (.invokespecial 132, 3) := by decide +kernel
theorem d_M_checkLabel_32 : decode b_M_checkLabel 32 = .ok (.athrow, 1) := by decide +kernel
theorem d_M_ruleAt_0 : decode b_M_ruleAt 0 = .ok (.aload_n 0, 1) := by decide +kernel
theorem d_M_ruleAt_1 : decode b_M_ruleAt 1 = .ok (.iload_n 1, 1) := by decide +kernel
theorem d_M_ruleAt_2 : decode b_M_ruleAt 2 = .ok (.iload_n 2, 1) := by decide +kernel
theorem d_M_ruleAt_3 : decode b_M_ruleAt 3 = .ok (.invokevirtual 109, 3) := by decide +kernel
theorem d_M_cover_0 : decode b_M_cover 0 = .ok (.aload_n 0, 1) := by decide +kernel
theorem d_M_cover_1 : decode b_M_cover 1 = .ok (.iload_n 1, 1) := by decide +kernel
theorem d_M_cover_2 : decode b_M_cover 2 = .ok (.iload_n 2, 1) := by decide +kernel
theorem d_M_cover_3 : decode b_M_cover 3 = .ok (.invokevirtual 109, 3) := by decide +kernel
theorem d_C_size_0 : decode b_C_size 0 = .ok (.aload_n 0, 1) := by decide +kernel
theorem d_C_size_1 : decode b_C_size 1 = .ok (.getfield 25, 3) := by decide +kernel
theorem d_C_size_4 : decode b_C_size 4 = .ok (.ireturn, 1) := by decide +kernel
theorem d_M_pair_0 : decode b_M_pair 0 = .ok (.iload_n 1, 1) := by decide +kernel
theorem d_M_pair_1 : decode b_M_pair 1 = .ok (.aload_n 0, 1) := by decide +kernel
theorem d_M_pair_2 : decode b_M_pair 2 = .ok (.getfield 30, 3) := by decide +kernel
theorem d_M_pair_5 : decode b_M_pair 5 = .ok (.invokevirtual 127, 3) := by decide +kernel
theorem d_M_pair_8 : decode b_M_pair 8 = .ok (.invokestatic 41, 3) := by decide +kernel
theorem d_M_pair_11 : decode b_M_pair 11 = .ok (.ifCond .eq 11, 3) := by decide +kernel
theorem d_M_pair_22 : decode b_M_pair 22 = .ok (.new 128, 3) := by decide +kernel
theorem d_M_pair_25 : decode b_M_pair 25 = .ok (.dup, 1) := by decide +kernel
theorem d_M_pair_26 : decode b_M_pair 26 = .ok (.ldc 130, 2) := by decide +kernel
theorem d_M_pair_28 : decode b_M_pair 28 = .ok (.invokespecial 132, 3) := by decide +kernel
theorem d_M_pair_31 : decode b_M_pair 31 = .ok (.athrow, 1) := by decide +kernel
theorem d_M_states_0 : decode b_M_states 0 = .ok (.aload_n 0, 1) := by decide +kernel
theorem d_M_states_1 : decode b_M_states 1 = .ok (.getfield 12, 3) := by decide +kernel
theorem d_M_states_4 : decode b_M_states 4 = .ok (.invokevirtual 139, 3) := by decide +kernel
theorem d_M_states_7 : decode b_M_states 7 = .ok (.ifCond .eq 13, 3) := by decide +kernel
theorem d_M_states_20 : decode b_M_states 20 = .ok (.aload_n 0, 1) := by decide +kernel
theorem d_M_states_21 : decode b_M_states 21 = .ok (.getfield 37, 3) := by decide +kernel
theorem d_M_states_24 : decode b_M_states 24 = .ok (.invokevirtual 144, 3) := by decide +kernel
theorem d_M_states_27 : decode b_M_states 27 = .ok (.aload_n 0, 1) := by decide +kernel
theorem d_M_states_28 : decode b_M_states 28 = .ok (.getfield 37, 3) := by decide +kernel
theorem d_M_states_31 : decode b_M_states 31 = .ok (.invokevirtual 147, 3) := by decide +kernel
theorem d_M_states_34 : decode b_M_states 34 = .ok (.bipush 60, 2) := by decide +kernel
theorem d_M_states_36 : decode b_M_states 36 = .ok (.if_icmp .le 13, 3) := by decide +kernel
theorem d_M_states_49 : decode b_M_states 49 = .ok (.aload_n 0, 1) := by decide +kernel
theorem d_M_states_50 : decode b_M_states 50 = .ok (.getfield 37, 3) := by decide +kernel
theorem d_M_states_53 : decode b_M_states 53 = .ok (.invokevirtual 147, 3) := by decide +kernel
theorem d_M_states_56 : decode b_M_states 56 = .ok (.ireturn, 1) := by decide +kernel
theorem d_G_hasLimits_0 : decode b_G_hasLimits 0 = .ok (.aload_n 0, 1) := by decide +kernel
theorem d_G_hasLimits_1 : decode b_G_hasLimits 1 = .ok (.getfield 55, 3) := by decide +kernel
theorem d_G_hasLimits_4 : decode b_G_hasLimits 4 = .ok (.ireturn, 1) := by decide +kernel
theorem d_Y_refresh_0 : decode b_Y_refresh 0 = .ok (.aload_n 0, 1) := by decide +kernel
theorem d_Y_refresh_1 : decode b_Y_refresh 1 = .ok (.getfield 9, 3) := by decide +kernel
theorem d_Y_refresh_4 : decode b_Y_refresh 4 = .ok (.aload_n 0, 1) := by decide +kernel
theorem d_Y_refresh_5 : decode b_Y_refresh 5 = .ok (.getfield 18, 3) := by decide +kernel
theorem d_Y_refresh_8 : decode b_Y_refresh 8 = .ok (.invokevirtual 35, 3) := by decide +kernel
theorem d_Y_refresh_11 : decode b_Y_refresh 11 = .ok (.if_icmp .ne 18, 3) := by decide +kernel
theorem d_Y_refresh_14 : decode b_Y_refresh 14 = .ok (.aload_n 0, 1) := by decide +kernel
theorem d_Y_refresh_15 : decode b_Y_refresh 15 = .ok (.getfield 15, 3) := by decide +kernel
theorem d_Y_refresh_18 : decode b_Y_refresh 18 = .ok (.aload_n 0, 1) := by decide +kernel
theorem d_Y_refresh_19 : decode b_Y_refresh 19 = .ok (.getfield 18, 3) := by decide +kernel
theorem d_Y_refresh_22 : decode b_Y_refresh 22 = .ok (.invokevirtual 40, 3) := by decide +kernel
theorem d_Y_refresh_25 : decode b_Y_refresh 25 = .ok (.if_icmp .ne 4, 3) := by decide +kernel
theorem d_Y_refresh_28 : decode b_Y_refresh 28 = .ok (.return_, 1) := by decide +kernel
theorem d_G_operatorCount_0 : decode b_G_operatorCount 0 = .ok (.aload_n 0, 1) := by decide +kernel
theorem d_G_operatorCount_1 : decode b_G_operatorCount 1 = .ok (.getfield 15, 3) := by decide +kernel
theorem d_G_operatorCount_4 : decode b_G_operatorCount 4 = .ok (.ireturn, 1) := by decide +kernel
theorem d_V_size_0 : decode b_V_size 0 = .ok (.aload_n 0, 1) := by decide +kernel
theorem d_V_size_1 : decode b_V_size 1 = .ok (.getfield 17, 3) := by decide +kernel
theorem d_V_size_4 : decode b_V_size 4 = .ok (.ireturn, 1) := by decide +kernel
theorem d_Y_size_0 : decode b_Y_size 0 = .ok (.aload_n 0, 1) := by decide +kernel
theorem d_Y_size_1 : decode b_Y_size 1 = .ok (.getfield 27, 3) := by decide +kernel
theorem d_Y_size_4 : decode b_Y_size 4 = .ok (.invokevirtual 31, 3) := by decide +kernel
theorem d_Y_size_7 : decode b_Y_size 7 = .ok (.ireturn, 1) := by decide +kernel
theorem d_M_same_0 : decode b_M_same 0 = .ok (.iload_n 1, 1) := by decide +kernel
theorem d_M_same_1 : decode b_M_same 1 = .ok (.aload_n 0, 1) := by decide +kernel
theorem d_M_same_2 : decode b_M_same 2 = .ok (.getfield 21, 3) := by decide +kernel
theorem d_M_same_5 : decode b_M_same 5 = .ok (.invokevirtual 80, 3) := by decide +kernel
theorem d_M_same_8 : decode b_M_same 8 = .ok (.invokestatic 41, 3) := by decide +kernel
theorem d_M_same_11 : decode b_M_same 11 = .ok (.ifCond .eq 17, 3) := by decide +kernel
theorem d_M_same_28 : decode b_M_same 28 = .ok (.new 128, 3) := by decide +kernel
theorem d_M_same_31 : decode b_M_same 31 = .ok (.dup, 1) := by decide +kernel
theorem d_M_same_32 : decode b_M_same 32 = .ok (.ldc 150, 2) := by decide +kernel
theorem d_M_same_34 : decode b_M_same 34 = .ok (.invokespecial 132, 3) := by decide +kernel
theorem d_M_same_37 : decode b_M_same 37 = .ok (.athrow, 1) := by decide +kernel
theorem d_M_count_0 : decode b_M_count 0 = .ok (.iload_n 1, 1) := by decide +kernel
theorem d_M_count_1 : decode b_M_count 1 = .ok (.tableswitch 87 0 5 #[39, 47, 55, 63, 71, 79], 39) := by decide +kernel
theorem d_M_count_40 : decode b_M_count 40 = .ok (.aload_n 0, 1) := by decide +kernel
theorem d_M_count_41 : decode b_M_count 41 = .ok (.getfield 12, 3) := by decide +kernel
theorem d_M_count_44 : decode b_M_count 44 = .ok (.invokevirtual 160, 3) := by decide +kernel
theorem d_M_count_47 : decode b_M_count 47 = .ok (.ireturn, 1) := by decide +kernel
theorem d_M_count_48 : decode b_M_count 48 = .ok (.aload_n 0, 1) := by decide +kernel
theorem d_M_count_49 : decode b_M_count 49 = .ok (.getfield 12, 3) := by decide +kernel
theorem d_M_count_52 : decode b_M_count 52 = .ok (.invokevirtual 77, 3) := by decide +kernel
theorem d_M_count_55 : decode b_M_count 55 = .ok (.ireturn, 1) := by decide +kernel
theorem d_M_count_56 : decode b_M_count 56 = .ok (.aload_n 0, 1) := by decide +kernel
theorem d_M_count_57 : decode b_M_count 57 = .ok (.getfield 21, 3) := by decide +kernel
theorem d_M_count_60 : decode b_M_count 60 = .ok (.invokevirtual 80, 3) := by decide +kernel
theorem d_M_count_63 : decode b_M_count 63 = .ok (.ireturn, 1) := by decide +kernel
theorem d_M_count_64 : decode b_M_count 64 = .ok (.aload_n 0, 1) := by decide +kernel
theorem d_M_count_65 : decode b_M_count 65 = .ok (.getfield 12, 3) := by decide +kernel
theorem d_M_count_68 : decode b_M_count 68 = .ok (.invokevirtual 67, 3) := by decide +kernel
theorem d_M_count_71 : decode b_M_count 71 = .ok (.ireturn, 1) := by decide +kernel
theorem d_M_count_72 : decode b_M_count 72 = .ok (.aload_n 0, 1) := by decide +kernel
theorem d_M_count_73 : decode b_M_count 73 = .ok (.getfield 12, 3) := by decide +kernel
theorem d_M_count_76 : decode b_M_count 76 = .ok (.invokevirtual 163, 3) := by decide +kernel
theorem d_M_count_79 : decode b_M_count 79 = .ok (.ireturn, 1) := by decide +kernel
theorem d_M_count_80 : decode b_M_count 80 = .ok (.aload_n 0, 1) := by decide +kernel
theorem d_M_count_81 : decode b_M_count 81 = .ok (.getfield 30, 3) := by decide +kernel
theorem d_M_count_84 : decode b_M_count 84 = .ok (.invokevirtual 127, 3) := by decide +kernel
theorem d_M_count_87 : decode b_M_count 87 = .ok (.ireturn, 1) := by decide +kernel
theorem d_M_count_88 : decode b_M_count 88 = .ok (.new 128, 3) := by decide +kernel
theorem d_M_count_91 : decode b_M_count 91 = .ok (.dup, 1) := by decide +kernel
theorem d_M_count_92 : decode b_M_count 92 = .ok (.ldc 166, 2) := by decide +kernel
theorem d_M_count_94 : decode b_M_count 94 = .ok (.invokespecial 132, 3) := by decide +kernel
theorem d_M_count_97 : decode b_M_count 97 = .ok (.athrow, 1) := by decide +kernel
theorem d_G_partCount_0 : decode b_G_partCount 0 = .ok (.aload_n 0, 1) := by decide +kernel
theorem d_G_partCount_1 : decode b_G_partCount 1 = .ok (.getfield 62, 3) := by decide +kernel
theorem d_G_partCount_4 : decode b_G_partCount 4 = .ok (.invokevirtual 100, 3) := by decide +kernel
theorem d_G_partCount_7 : decode b_G_partCount 7 = .ok (.ireturn, 1) := by decide +kernel
theorem d_D_thrown_0 : decode b_D_thrown 0 = .ok (.aload_n 0, 1) := by decide +kernel
theorem d_D_thrown_1 : decode b_D_thrown 1 = .ok (.getfield 115, 3) := by decide +kernel
theorem d_D_thrown_4 : decode b_D_thrown 4 = .ok (.ireturn, 1) := by decide +kernel
