set_option maxRecDepth 100000 in
theorem tw_7 : (Jvm.Cond.initialized "TreeMatcher$Labels") ∈ gw := gw_of (List.mem_of_getElem? (i := 7) rfl) rfl
set_option maxRecDepth 100000 in
theorem tw_128 : (Jvm.Cond.code ({ cls := "TreeMatcher$Forest", name := "<init>", desc := "(LTreeMatcher$Grammar;)V" } : Jvm.MethodName) prog_3_method_1_code (2 : Nat) (Option.none : Option Jvm.ClassFile.FieldType)) ∈ gw := gw_of (List.mem_of_getElem? (i := 128) rfl) rfl
set_option maxRecDepth 100000 in
theorem tw_129 : (Jvm.Cond.methodLink "TreeMatcher$Forest" (3 : Nat) ({ cls := "java/lang/Object", name := "<init>", desc := "()V" } : Jvm.MethodName)) ∈ gw := gw_of (List.mem_of_getElem? (i := 129) rfl) rfl
set_option maxRecDepth 100000 in
theorem tw_130 : (Jvm.Cond.classLink "TreeMatcher$Forest" (51 : Nat) "TreeMatcher$Labels") ∈ gw := gw_of (List.mem_of_getElem? (i := 130) rfl) rfl
set_option maxRecDepth 100000 in
theorem tw_131 : (Jvm.Cond.instantiable "TreeMatcher$Labels" (3 : Nat)) ∈ gw := gw_of (List.mem_of_getElem? (i := 131) rfl) rfl
set_option maxRecDepth 100000 in
theorem tw_132 : (Jvm.Cond.methodLink "TreeMatcher$Forest" (53 : Nat) ({ cls := "TreeMatcher$Labels", name := "<init>", desc := "(LTreeMatcher$Grammar;)V" } : Jvm.MethodName)) ∈ gw := gw_of (List.mem_of_getElem? (i := 132) rfl) rfl
set_option maxRecDepth 100000 in
theorem tw_133 : (Jvm.Cond.instanceMethod ({ cls := "TreeMatcher$Labels", name := "<init>", desc := "(LTreeMatcher$Grammar;)V" } : Jvm.MethodName)) ∈ gw := gw_of (List.mem_of_getElem? (i := 133) rfl) rfl
set_option maxRecDepth 100000 in
theorem tw_146 : (Jvm.Cond.arrayClass Jvm.ClassFile.FieldType.boolean) ∈ gw := gw_of (List.mem_of_getElem? (i := 146) rfl) rfl
set_option maxRecDepth 100000 in
theorem tw_148 : (Jvm.Cond.classLink "TreeMatcher$Forest" (60 : Nat) "TreeMatcher$Vectors") ∈ gw := gw_of (List.mem_of_getElem? (i := 148) rfl) rfl
set_option maxRecDepth 100000 in
theorem tw_149 : (Jvm.Cond.instantiable "TreeMatcher$Vectors" (8 : Nat)) ∈ gw := gw_of (List.mem_of_getElem? (i := 149) rfl) rfl
set_option maxRecDepth 100000 in
theorem tw_150 : (Jvm.Cond.methodLink "TreeMatcher$Forest" (62 : Nat) ({ cls := "TreeMatcher$Vectors", name := "<init>", desc := "(LTreeMatcher$Grammar;I)V" } : Jvm.MethodName)) ∈ gw := gw_of (List.mem_of_getElem? (i := 150) rfl) rfl
set_option maxRecDepth 100000 in
theorem tw_151 : (Jvm.Cond.instanceMethod ({ cls := "TreeMatcher$Vectors", name := "<init>", desc := "(LTreeMatcher$Grammar;I)V" } : Jvm.MethodName)) ∈ gw := gw_of (List.mem_of_getElem? (i := 151) rfl) rfl
set_option maxRecDepth 100000 in
theorem tw_152 : (Jvm.Cond.code ({ cls := "TreeMatcher$Vectors", name := "<init>", desc := "(LTreeMatcher$Grammar;I)V" } : Jvm.MethodName) prog_9_method_1_code (3 : Nat) (Option.none : Option Jvm.ClassFile.FieldType)) ∈ gw := gw_of (List.mem_of_getElem? (i := 152) rfl) rfl
set_option maxRecDepth 100000 in
theorem tw_153 : (Jvm.Cond.methodLink "TreeMatcher$Vectors" (3 : Nat) ({ cls := "java/lang/Object", name := "<init>", desc := "()V" } : Jvm.MethodName)) ∈ gw := gw_of (List.mem_of_getElem? (i := 153) rfl) rfl
set_option maxRecDepth 100000 in
theorem tw_154 : (Jvm.Cond.methodLink "TreeMatcher$Vectors" (25 : Nat) ({ cls := "TreeMatcher$Grammar", name := "parts", desc := "()LTreeMatcher$Parts;" } : Jvm.MethodName)) ∈ gw := gw_of (List.mem_of_getElem? (i := 154) rfl) rfl
set_option maxRecDepth 100000 in
theorem tw_155 : (Jvm.Cond.instanceMethod ({ cls := "TreeMatcher$Grammar", name := "parts", desc := "()LTreeMatcher$Parts;" } : Jvm.MethodName)) ∈ gw := gw_of (List.mem_of_getElem? (i := 155) rfl) rfl
set_option maxRecDepth 100000 in
theorem tw_156 : (Jvm.Cond.selects "TreeMatcher$Grammar" ({ cls := "TreeMatcher$Grammar", name := "parts", desc := "()LTreeMatcher$Parts;" } : Jvm.MethodName) ({ cls := "TreeMatcher$Grammar", name := "parts", desc := "()LTreeMatcher$Parts;" } : Jvm.MethodName)) ∈ gw := gw_of (List.mem_of_getElem? (i := 156) rfl) rfl
set_option maxRecDepth 100000 in
theorem tw_157 : (Jvm.Cond.code ({ cls := "TreeMatcher$Grammar", name := "parts", desc := "()LTreeMatcher$Parts;" } : Jvm.MethodName) prog_4_method_19_code (1 : Nat) (Option.some (Jvm.ClassFile.FieldType.object "TreeMatcher$Parts"))) ∈ gw := gw_of (List.mem_of_getElem? (i := 157) rfl) rfl
set_option maxRecDepth 100000 in
theorem tw_158 : (Jvm.Cond.methodLink "TreeMatcher$Vectors" (34 : Nat) ({ cls := "TreeMatcher$Parts", name := "byOperator", desc := "()LTreeMatcher$Groups;" } : Jvm.MethodName)) ∈ gw := gw_of (List.mem_of_getElem? (i := 158) rfl) rfl
set_option maxRecDepth 100000 in
theorem tw_159 : (Jvm.Cond.instanceMethod ({ cls := "TreeMatcher$Parts", name := "byOperator", desc := "()LTreeMatcher$Groups;" } : Jvm.MethodName)) ∈ gw := gw_of (List.mem_of_getElem? (i := 159) rfl) rfl
set_option maxRecDepth 100000 in
theorem tw_160 : (Jvm.Cond.selects "TreeMatcher$Parts" ({ cls := "TreeMatcher$Parts", name := "byOperator", desc := "()LTreeMatcher$Groups;" } : Jvm.MethodName) ({ cls := "TreeMatcher$Parts", name := "byOperator", desc := "()LTreeMatcher$Groups;" } : Jvm.MethodName)) ∈ gw := gw_of (List.mem_of_getElem? (i := 160) rfl) rfl
set_option maxRecDepth 100000 in
theorem tw_161 : (Jvm.Cond.code ({ cls := "TreeMatcher$Parts", name := "byOperator", desc := "()LTreeMatcher$Groups;" } : Jvm.MethodName) prog_7_method_8_code (1 : Nat) (Option.some (Jvm.ClassFile.FieldType.object "TreeMatcher$Groups"))) ∈ gw := gw_of (List.mem_of_getElem? (i := 161) rfl) rfl
set_option maxRecDepth 100000 in
theorem tw_162 : (Jvm.Cond.classLink "TreeMatcher$Vectors" (41 : Nat) "TreeMatcher$Labels") ∈ gw := gw_of (List.mem_of_getElem? (i := 162) rfl) rfl
set_option maxRecDepth 100000 in
theorem tw_163 : (Jvm.Cond.methodLink "TreeMatcher$Vectors" (43 : Nat) ({ cls := "TreeMatcher$Labels", name := "<init>", desc := "(LTreeMatcher$Grammar;)V" } : Jvm.MethodName)) ∈ gw := gw_of (List.mem_of_getElem? (i := 163) rfl) rfl
set_option maxRecDepth 100000 in
theorem tw_164 : (Jvm.Cond.classLink "TreeMatcher$Vectors" (50 : Nat) "[J") ∈ gw := gw_of (List.mem_of_getElem? (i := 164) rfl) rfl
set_option maxRecDepth 100000 in
theorem tw_166 : (Jvm.Cond.fieldLink "TreeMatcher$Vectors" (21 : Nat) "TreeMatcher$Vectors" "grammar" "LTreeMatcher$Grammar;") ∈ gw := gw_of (List.mem_of_getElem? (i := 166) rfl) rfl
set_option maxRecDepth 100000 in
theorem tw_167 : (Jvm.Cond.fieldLink "TreeMatcher$Vectors" (31 : Nat) "TreeMatcher$Vectors" "parts" "LTreeMatcher$Parts;") ∈ gw := gw_of (List.mem_of_getElem? (i := 167) rfl) rfl
set_option maxRecDepth 100000 in
theorem tw_168 : (Jvm.Cond.fieldLink "TreeMatcher$Vectors" (38 : Nat) "TreeMatcher$Vectors" "byOperator" "LTreeMatcher$Groups;") ∈ gw := gw_of (List.mem_of_getElem? (i := 168) rfl) rfl
set_option maxRecDepth 100000 in
theorem tw_169 : (Jvm.Cond.fieldLink "TreeMatcher$Vectors" (46 : Nat) "TreeMatcher$Vectors" "labels" "LTreeMatcher$Labels;") ∈ gw := gw_of (List.mem_of_getElem? (i := 169) rfl) rfl
set_option maxRecDepth 100000 in
theorem tw_170 : (Jvm.Cond.fieldLink "TreeMatcher$Vectors" (51 : Nat) "TreeMatcher$Vectors" "rows" "[[J") ∈ gw := gw_of (List.mem_of_getElem? (i := 170) rfl) rfl
set_option maxRecDepth 100000 in
theorem tw_171 : (Jvm.Cond.fieldLink "TreeMatcher$Vectors" (55 : Nat) "TreeMatcher$Vectors" "roots" "[I") ∈ gw := gw_of (List.mem_of_getElem? (i := 171) rfl) rfl
set_option maxRecDepth 100000 in
theorem tw_172 : (Jvm.Cond.fieldLink "TreeMatcher$Vectors" (11 : Nat) "TreeMatcher$Vectors" "fresh" "[J") ∈ gw := gw_of (List.mem_of_getElem? (i := 172) rfl) rfl
set_option maxRecDepth 100000 in
theorem tw_191 : (Jvm.Cond.fieldLink "TreeMatcher$Forest" (47 : Nat) "TreeMatcher$Forest" "grammar" "LTreeMatcher$Grammar;") ∈ gw := gw_of (List.mem_of_getElem? (i := 191) rfl) rfl
set_option maxRecDepth 100000 in
theorem tw_192 : (Jvm.Cond.fieldLink "TreeMatcher$Forest" (9 : Nat) "TreeMatcher$Forest" "operators" "[I") ∈ gw := gw_of (List.mem_of_getElem? (i := 192) rfl) rfl
set_option maxRecDepth 100000 in
theorem tw_193 : (Jvm.Cond.fieldLink "TreeMatcher$Forest" (15 : Nat) "TreeMatcher$Forest" "values" "[I") ∈ gw := gw_of (List.mem_of_getElem? (i := 193) rfl) rfl
set_option maxRecDepth 100000 in
theorem tw_194 : (Jvm.Cond.fieldLink "TreeMatcher$Forest" (18 : Nat) "TreeMatcher$Forest" "lefts" "[I") ∈ gw := gw_of (List.mem_of_getElem? (i := 194) rfl) rfl
set_option maxRecDepth 100000 in
theorem tw_195 : (Jvm.Cond.fieldLink "TreeMatcher$Forest" (21 : Nat) "TreeMatcher$Forest" "rights" "[I") ∈ gw := gw_of (List.mem_of_getElem? (i := 195) rfl) rfl
set_option maxRecDepth 100000 in
theorem tw_196 : (Jvm.Cond.fieldLink "TreeMatcher$Forest" (24 : Nat) "TreeMatcher$Forest" "isKid" "[Z") ∈ gw := gw_of (List.mem_of_getElem? (i := 196) rfl) rfl
set_option maxRecDepth 100000 in
theorem tw_197 : (Jvm.Cond.fieldLink "TreeMatcher$Forest" (28 : Nat) "TreeMatcher$Forest" "costs" "[I") ∈ gw := gw_of (List.mem_of_getElem? (i := 197) rfl) rfl
set_option maxRecDepth 100000 in
theorem tw_198 : (Jvm.Cond.fieldLink "TreeMatcher$Forest" (31 : Nat) "TreeMatcher$Forest" "rules" "[I") ∈ gw := gw_of (List.mem_of_getElem? (i := 198) rfl) rfl
set_option maxRecDepth 100000 in
theorem tw_199 : (Jvm.Cond.fieldLink "TreeMatcher$Forest" (34 : Nat) "TreeMatcher$Forest" "vectorRows" "[I") ∈ gw := gw_of (List.mem_of_getElem? (i := 199) rfl) rfl
set_option maxRecDepth 100000 in
theorem tw_201 : (Jvm.Cond.fieldLink "TreeMatcher$Forest" (56 : Nat) "TreeMatcher$Forest" "labels" "LTreeMatcher$Labels;") ∈ gw := gw_of (List.mem_of_getElem? (i := 201) rfl) rfl
set_option maxRecDepth 100000 in
theorem tw_203 : (Jvm.Cond.fieldLink "TreeMatcher$Forest" (41 : Nat) "TreeMatcher$Forest" "places" "[I") ∈ gw := gw_of (List.mem_of_getElem? (i := 203) rfl) rfl
set_option maxRecDepth 100000 in
theorem tw_204 : (Jvm.Cond.fieldLink "TreeMatcher$Forest" (44 : Nat) "TreeMatcher$Forest" "open" "[I") ∈ gw := gw_of (List.mem_of_getElem? (i := 204) rfl) rfl
set_option maxRecDepth 100000 in
theorem tw_238 : (Jvm.Cond.code ({ cls := "TreeMatcher$Covering", name := "<init>", desc := "(LTreeMatcher$Grammar;LTreeMatcher$Forest;)V" } : Jvm.MethodName) prog_2_method_1_code (3 : Nat) (Option.none : Option Jvm.ClassFile.FieldType)) ∈ gw := gw_of (List.mem_of_getElem? (i := 238) rfl) rfl
set_option maxRecDepth 100000 in
theorem tw_239 : (Jvm.Cond.methodLink "TreeMatcher$Covering" (3 : Nat) ({ cls := "java/lang/Object", name := "<init>", desc := "()V" } : Jvm.MethodName)) ∈ gw := gw_of (List.mem_of_getElem? (i := 239) rfl) rfl
set_option maxRecDepth 100000 in
theorem tw_240 : (Jvm.Cond.fieldLink "TreeMatcher$Covering" (28 : Nat) "TreeMatcher$Covering" "grammar" "LTreeMatcher$Grammar;") ∈ gw := gw_of (List.mem_of_getElem? (i := 240) rfl) rfl
set_option maxRecDepth 100000 in
theorem tw_241 : (Jvm.Cond.fieldLink "TreeMatcher$Covering" (32 : Nat) "TreeMatcher$Covering" "forest" "LTreeMatcher$Forest;") ∈ gw := gw_of (List.mem_of_getElem? (i := 241) rfl) rfl
set_option maxRecDepth 100000 in
theorem tw_242 : (Jvm.Cond.fieldLink "TreeMatcher$Covering" (9 : Nat) "TreeMatcher$Covering" "labels" "[I") ∈ gw := gw_of (List.mem_of_getElem? (i := 242) rfl) rfl
set_option maxRecDepth 100000 in
theorem tw_243 : (Jvm.Cond.fieldLink "TreeMatcher$Covering" (15 : Nat) "TreeMatcher$Covering" "backwards" "[I") ∈ gw := gw_of (List.mem_of_getElem? (i := 243) rfl) rfl
set_option maxRecDepth 100000 in
theorem tw_244 : (Jvm.Cond.fieldLink "TreeMatcher$Covering" (18 : Nat) "TreeMatcher$Covering" "open" "[I") ∈ gw := gw_of (List.mem_of_getElem? (i := 244) rfl) rfl
set_option maxRecDepth 100000 in
theorem tw_245 : (Jvm.Cond.fieldLink "TreeMatcher$Covering" (21 : Nat) "TreeMatcher$Covering" "top" "I") ∈ gw := gw_of (List.mem_of_getElem? (i := 245) rfl) rfl
set_option maxRecDepth 100000 in
theorem tw_266 : (Jvm.Cond.code ({ cls := "TreeMatcher$Tally", name := "<init>", desc := "(LTreeMatcher$Grammar;)V" } : Jvm.MethodName) prog_8_method_1_code (2 : Nat) (Option.none : Option Jvm.ClassFile.FieldType)) ∈ gw := gw_of (List.mem_of_getElem? (i := 266) rfl) rfl
set_option maxRecDepth 100000 in
theorem tw_267 : (Jvm.Cond.methodLink "TreeMatcher$Tally" (3 : Nat) ({ cls := "java/lang/Object", name := "<init>", desc := "()V" } : Jvm.MethodName)) ∈ gw := gw_of (List.mem_of_getElem? (i := 267) rfl) rfl
set_option maxRecDepth 100000 in
theorem tw_268 : (Jvm.Cond.classLink "TreeMatcher$Tally" (22 : Nat) "TreeMatcher$Vectors") ∈ gw := gw_of (List.mem_of_getElem? (i := 268) rfl) rfl
set_option maxRecDepth 100000 in
theorem tw_269 : (Jvm.Cond.methodLink "TreeMatcher$Tally" (24 : Nat) ({ cls := "TreeMatcher$Vectors", name := "<init>", desc := "(LTreeMatcher$Grammar;I)V" } : Jvm.MethodName)) ∈ gw := gw_of (List.mem_of_getElem? (i := 269) rfl) rfl
abbrev b_F_init : ByteArray := prog_3_method_1_code
def y_F_init : MethodName := ⟨"TreeMatcher$Forest", "<init>", "(LTreeMatcher$Grammar;)V"⟩
def ws_F_init : List Cond := Cond.code y_F_init b_F_init 2 (Option.none : Option Jvm.ClassFile.FieldType) :: gw
theorem cin_F_init : Cond.code y_F_init b_F_init 2 (Option.none : Option Jvm.ClassFile.FieldType) ∈ gw := tw_128
abbrev b_V_init : ByteArray := prog_9_method_1_code
def y_V_init : MethodName := ⟨"TreeMatcher$Vectors", "<init>", "(LTreeMatcher$Grammar;I)V"⟩
def ws_V_init : List Cond := Cond.code y_V_init b_V_init 3 (Option.none : Option Jvm.ClassFile.FieldType) :: gw
theorem cin_V_init : Cond.code y_V_init b_V_init 3 (Option.none : Option Jvm.ClassFile.FieldType) ∈ gw := tw_152
abbrev b_G_parts : ByteArray := prog_4_method_19_code
def y_G_parts : MethodName := ⟨"TreeMatcher$Grammar", "parts", "()LTreeMatcher$Parts;"⟩
def ws_G_parts : List Cond := Cond.code y_G_parts b_G_parts 1 (Option.some (Jvm.ClassFile.FieldType.object "TreeMatcher$Parts")) :: gw
theorem cin_G_parts : Cond.code y_G_parts b_G_parts 1 (Option.some (Jvm.ClassFile.FieldType.object "TreeMatcher$Parts")) ∈ gw := tw_157
abbrev b_P_byOperator : ByteArray := prog_7_method_8_code
def y_P_byOperator : MethodName := ⟨"TreeMatcher$Parts", "byOperator", "()LTreeMatcher$Groups;"⟩
def ws_P_byOperator : List Cond := Cond.code y_P_byOperator b_P_byOperator 1 (Option.some (Jvm.ClassFile.FieldType.object "TreeMatcher$Groups")) :: gw
theorem cin_P_byOperator : Cond.code y_P_byOperator b_P_byOperator 1 (Option.some (Jvm.ClassFile.FieldType.object "TreeMatcher$Groups")) ∈ gw := tw_161
abbrev b_C_init : ByteArray := prog_2_method_1_code
def y_C_init : MethodName := ⟨"TreeMatcher$Covering", "<init>", "(LTreeMatcher$Grammar;LTreeMatcher$Forest;)V"⟩
def ws_C_init : List Cond := Cond.code y_C_init b_C_init 3 (Option.none : Option Jvm.ClassFile.FieldType) :: gw
theorem cin_C_init : Cond.code y_C_init b_C_init 3 (Option.none : Option Jvm.ClassFile.FieldType) ∈ gw := tw_238
abbrev b_Y_init : ByteArray := prog_8_method_1_code
def y_Y_init : MethodName := ⟨"TreeMatcher$Tally", "<init>", "(LTreeMatcher$Grammar;)V"⟩
def ws_Y_init : List Cond := Cond.code y_Y_init b_Y_init 2 (Option.none : Option Jvm.ClassFile.FieldType) :: gw
theorem cin_Y_init : Cond.code y_Y_init b_Y_init 2 (Option.none : Option Jvm.ClassFile.FieldType) ∈ gw := tw_266
theorem d_F_init_0 : decode b_F_init 0 = .ok (.aload_n 0, 1) := by decide +kernel
theorem d_F_init_1 : decode b_F_init 1 = .ok (.invokespecial 3, 3) := by decide +kernel
theorem d_F_init_4 : decode b_F_init 4 = .ok (.aload_n 0, 1) := by decide +kernel
theorem d_F_init_5 : decode b_F_init 5 = .ok (.sipush 200, 3) := by decide +kernel
theorem d_F_init_8 : decode b_F_init 8 = .ok (.newarray .int, 2) := by decide +kernel
theorem d_F_init_10 : decode b_F_init 10 = .ok (.putfield 9, 3) := by decide +kernel
theorem d_F_init_13 : decode b_F_init 13 = .ok (.aload_n 0, 1) := by decide +kernel
theorem d_F_init_14 : decode b_F_init 14 = .ok (.sipush 200, 3) := by decide +kernel
theorem d_F_init_17 : decode b_F_init 17 = .ok (.newarray .int, 2) := by decide +kernel
theorem d_F_init_19 : decode b_F_init 19 = .ok (.putfield 15, 3) := by decide +kernel
theorem d_F_init_22 : decode b_F_init 22 = .ok (.aload_n 0, 1) := by decide +kernel
theorem d_F_init_23 : decode b_F_init 23 = .ok (.sipush 200, 3) := by decide +kernel
theorem d_F_init_26 : decode b_F_init 26 = .ok (.newarray .int, 2) := by decide +kernel
theorem d_F_init_28 : decode b_F_init 28 = .ok (.putfield 18, 3) := by decide +kernel
theorem d_F_init_31 : decode b_F_init 31 = .ok (.aload_n 0, 1) := by decide +kernel
theorem d_F_init_32 : decode b_F_init 32 = .ok (.sipush 200, 3) := by decide +kernel
theorem d_F_init_35 : decode b_F_init 35 = .ok (.newarray .int, 2) := by decide +kernel
theorem d_F_init_37 : decode b_F_init 37 = .ok (.putfield 21, 3) := by decide +kernel
theorem d_F_init_40 : decode b_F_init 40 = .ok (.aload_n 0, 1) := by decide +kernel
theorem d_F_init_41 : decode b_F_init 41 = .ok (.sipush 200, 3) := by decide +kernel
theorem d_F_init_44 : decode b_F_init 44 = .ok (.newarray .boolean, 2) := by decide +kernel
theorem d_F_init_46 : decode b_F_init 46 = .ok (.putfield 24, 3) := by decide +kernel
theorem d_F_init_49 : decode b_F_init 49 = .ok (.aload_n 0, 1) := by decide +kernel
theorem d_F_init_50 : decode b_F_init 50 = .ok (.sipush 3200, 3) := by decide +kernel
theorem d_F_init_53 : decode b_F_init 53 = .ok (.newarray .int, 2) := by decide +kernel
theorem d_F_init_55 : decode b_F_init 55 = .ok (.putfield 28, 3) := by decide +kernel
theorem d_F_init_58 : decode b_F_init 58 = .ok (.aload_n 0, 1) := by decide +kernel
theorem d_F_init_59 : decode b_F_init 59 = .ok (.sipush 3200, 3) := by decide +kernel
theorem d_F_init_62 : decode b_F_init 62 = .ok (.newarray .int, 2) := by decide +kernel
theorem d_F_init_64 : decode b_F_init 64 = .ok (.putfield 31, 3) := by decide +kernel
theorem d_F_init_67 : decode b_F_init 67 = .ok (.aload_n 0, 1) := by decide +kernel
theorem d_F_init_68 : decode b_F_init 68 = .ok (.sipush 200, 3) := by decide +kernel
theorem d_F_init_71 : decode b_F_init 71 = .ok (.newarray .int, 2) := by decide +kernel
theorem d_F_init_73 : decode b_F_init 73 = .ok (.putfield 34, 3) := by decide +kernel
theorem d_F_init_76 : decode b_F_init 76 = .ok (.aload_n 0, 1) := by decide +kernel
theorem d_F_init_77 : decode b_F_init 77 = .ok (.iconst 0, 1) := by decide +kernel
theorem d_F_init_78 : decode b_F_init 78 = .ok (.putfield 37, 3) := by decide +kernel
theorem d_F_init_81 : decode b_F_init 81 = .ok (.aload_n 0, 1) := by decide +kernel
theorem d_F_init_82 : decode b_F_init 82 = .ok (.bipush 12, 2) := by decide +kernel
theorem d_F_init_84 : decode b_F_init 84 = .ok (.newarray .int, 2) := by decide +kernel
theorem d_F_init_86 : decode b_F_init 86 = .ok (.putfield 41, 3) := by decide +kernel
theorem d_F_init_89 : decode b_F_init 89 = .ok (.aload_n 0, 1) := by decide +kernel
theorem d_F_init_90 : decode b_F_init 90 = .ok (.bipush 13, 2) := by decide +kernel
theorem d_F_init_92 : decode b_F_init 92 = .ok (.newarray .int, 2) := by decide +kernel
theorem d_F_init_94 : decode b_F_init 94 = .ok (.putfield 44, 3) := by decide +kernel
theorem d_F_init_97 : decode b_F_init 97 = .ok (.aload_n 0, 1) := by decide +kernel
theorem d_F_init_98 : decode b_F_init 98 = .ok (.aload_n 1, 1) := by decide +kernel
theorem d_F_init_99 : decode b_F_init 99 = .ok (.putfield 47, 3) := by decide +kernel
theorem d_F_init_102 : decode b_F_init 102 = .ok (.aload_n 0, 1) := by decide +kernel
theorem d_F_init_103 : decode b_F_init 103 = .ok (.new 51, 3) := by decide +kernel
theorem d_F_init_106 : decode b_F_init 106 = .ok (.dup, 1) := by decide +kernel
theorem d_F_init_107 : decode b_F_init 107 = .ok (.aload_n 1, 1) := by decide +kernel
theorem d_F_init_108 : decode b_F_init 108 = .ok (.invokespecial 53, 3) := by decide +kernel
theorem d_F_init_111 : decode b_F_init 111 = .ok (.putfield 56, 3) := by decide +kernel
theorem d_F_init_114 : decode b_F_init 114 = .ok (.aload_n 0, 1) := by decide +kernel
theorem d_F_init_115 : decode b_F_init 115 = .ok (.new 60, 3) := by decide +kernel
theorem d_F_init_118 : decode b_F_init 118 = .ok (.dup, 1) := by decide +kernel
theorem d_F_init_119 : decode b_F_init 119 = .ok (.aload_n 1, 1) := by decide +kernel
theorem d_F_init_120 : decode b_F_init 120 = .ok (.sipush 200, 3) := by decide +kernel
theorem d_F_init_123 : decode b_F_init 123 = .ok (.invokespecial 62, 3) := by decide +kernel
theorem d_F_init_126 : decode b_F_init 126 = .ok (.putfield 65, 3) := by decide +kernel
theorem d_F_init_129 : decode b_F_init 129 = .ok (.return_, 1) := by decide +kernel
theorem d_V_init_0 : decode b_V_init 0 = .ok (.aload_n 0, 1) := by decide +kernel
theorem d_V_init_1 : decode b_V_init 1 = .ok (.invokespecial 3, 3) := by decide +kernel
theorem d_V_init_4 : decode b_V_init 4 = .ok (.aload_n 0, 1) := by decide +kernel
theorem d_V_init_5 : decode b_V_init 5 = .ok (.sipush 784, 3) := by decide +kernel
theorem d_V_init_8 : decode b_V_init 8 = .ok (.newarray .long, 2) := by decide +kernel
theorem d_V_init_10 : decode b_V_init 10 = .ok (.putfield 11, 3) := by decide +kernel
theorem d_V_init_13 : decode b_V_init 13 = .ok (.aload_n 0, 1) := by decide +kernel
theorem d_V_init_14 : decode b_V_init 14 = .ok (.iconst 0, 1) := by decide +kernel
theorem d_V_init_15 : decode b_V_init 15 = .ok (.putfield 17, 3) := by decide +kernel
theorem d_V_init_18 : decode b_V_init 18 = .ok (.aload_n 0, 1) := by decide +kernel
theorem d_V_init_19 : decode b_V_init 19 = .ok (.aload_n 1, 1) := by decide +kernel
theorem d_V_init_20 : decode b_V_init 20 = .ok (.putfield 21, 3) := by decide +kernel
theorem d_V_init_23 : decode b_V_init 23 = .ok (.aload_n 0, 1) := by decide +kernel
theorem d_V_init_24 : decode b_V_init 24 = .ok (.aload_n 1, 1) := by decide +kernel
theorem d_V_init_25 : decode b_V_init 25 = .ok (.invokevirtual 25, 3) := by decide +kernel
theorem d_V_init_28 : decode b_V_init 28 = .ok (.putfield 31, 3) := by decide +kernel
theorem d_V_init_31 : decode b_V_init 31 = .ok (.aload_n 0, 1) := by decide +kernel
theorem d_V_init_32 : decode b_V_init 32 = .ok (.aload_n 0, 1) := by decide +kernel
theorem d_V_init_33 : decode b_V_init 33 = .ok (.getfield 31, 3) := by decide +kernel
theorem d_V_init_36 : decode b_V_init 36 = .ok (.invokevirtual 34, 3) := by decide +kernel
theorem d_V_init_39 : decode b_V_init 39 = .ok (.putfield 38, 3) := by decide +kernel
theorem d_V_init_42 : decode b_V_init 42 = .ok (.aload_n 0, 1) := by decide +kernel
theorem d_V_init_43 : decode b_V_init 43 = .ok (.new 41, 3) := by decide +kernel
theorem d_V_init_46 : decode b_V_init 46 = .ok (.dup, 1) := by decide +kernel
theorem d_V_init_47 : decode b_V_init 47 = .ok (.aload_n 1, 1) := by decide +kernel
theorem d_V_init_48 : decode b_V_init 48 = .ok (.invokespecial 43, 3) := by decide +kernel
theorem d_V_init_51 : decode b_V_init 51 = .ok (.putfield 46, 3) := by decide +kernel
theorem d_V_init_54 : decode b_V_init 54 = .ok (.aload_n 0, 1) := by decide +kernel
theorem d_V_init_55 : decode b_V_init 55 = .ok (.iload_n 2, 1) := by decide +kernel
theorem d_V_init_56 : decode b_V_init 56 = .ok (.anewarray 50, 3) := by decide +kernel
theorem d_V_init_59 : decode b_V_init 59 = .ok (.putfield 51, 3) := by decide +kernel
theorem d_V_init_62 : decode b_V_init 62 = .ok (.aload_n 0, 1) := by decide +kernel
theorem d_V_init_63 : decode b_V_init 63 = .ok (.iload_n 2, 1) := by decide +kernel
theorem d_V_init_64 : decode b_V_init 64 = .ok (.newarray .int, 2) := by decide +kernel
theorem d_V_init_66 : decode b_V_init 66 = .ok (.putfield 55, 3) := by decide +kernel
theorem d_V_init_69 : decode b_V_init 69 = .ok (.return_, 1) := by decide +kernel
theorem d_G_parts_0 : decode b_G_parts 0 = .ok (.aload_n 0, 1) := by decide +kernel
theorem d_G_parts_1 : decode b_G_parts 1 = .ok (.getfield 62, 3) := by decide +kernel
theorem d_G_parts_4 : decode b_G_parts 4 = .ok (.areturn, 1) := by decide +kernel
theorem d_P_byOperator_0 : decode b_P_byOperator 0 = .ok (.aload_n 0, 1) := by decide +kernel
theorem d_P_byOperator_1 : decode b_P_byOperator 1 = .ok (.getfield 29, 3) := by decide +kernel
theorem d_P_byOperator_4 : decode b_P_byOperator 4 = .ok (.areturn, 1) := by decide +kernel
theorem d_C_init_0 : decode b_C_init 0 = .ok (.aload_n 0, 1) := by decide +kernel
theorem d_C_init_1 : decode b_C_init 1 = .ok (.invokespecial 3, 3) := by decide +kernel
theorem d_C_init_4 : decode b_C_init 4 = .ok (.aload_n 0, 1) := by decide +kernel
theorem d_C_init_5 : decode b_C_init 5 = .ok (.sipush 2000, 3) := by decide +kernel
theorem d_C_init_8 : decode b_C_init 8 = .ok (.newarray .int, 2) := by decide +kernel
theorem d_C_init_10 : decode b_C_init 10 = .ok (.putfield 9, 3) := by decide +kernel
theorem d_C_init_13 : decode b_C_init 13 = .ok (.aload_n 0, 1) := by decide +kernel
theorem d_C_init_14 : decode b_C_init 14 = .ok (.sipush 2000, 3) := by decide +kernel
theorem d_C_init_17 : decode b_C_init 17 = .ok (.newarray .int, 2) := by decide +kernel
theorem d_C_init_19 : decode b_C_init 19 = .ok (.putfield 15, 3) := by decide +kernel
theorem d_C_init_22 : decode b_C_init 22 = .ok (.aload_n 0, 1) := by decide +kernel
theorem d_C_init_23 : decode b_C_init 23 = .ok (.sipush 200, 3) := by decide +kernel
theorem d_C_init_26 : decode b_C_init 26 = .ok (.newarray .int, 2) := by decide +kernel
theorem d_C_init_28 : decode b_C_init 28 = .ok (.putfield 18, 3) := by decide +kernel
theorem d_C_init_31 : decode b_C_init 31 = .ok (.aload_n 0, 1) := by decide +kernel
theorem d_C_init_32 : decode b_C_init 32 = .ok (.iconst 0, 1) := by decide +kernel
theorem d_C_init_33 : decode b_C_init 33 = .ok (.putfield 21, 3) := by decide +kernel
theorem d_C_init_36 : decode b_C_init 36 = .ok (.aload_n 0, 1) := by decide +kernel
theorem d_C_init_37 : decode b_C_init 37 = .ok (.iconst 0, 1) := by decide +kernel
theorem d_C_init_38 : decode b_C_init 38 = .ok (.putfield 25, 3) := by decide +kernel
theorem d_C_init_41 : decode b_C_init 41 = .ok (.aload_n 0, 1) := by decide +kernel
theorem d_C_init_42 : decode b_C_init 42 = .ok (.aload_n 1, 1) := by decide +kernel
theorem d_C_init_43 : decode b_C_init 43 = .ok (.putfield 28, 3) := by decide +kernel
theorem d_C_init_46 : decode b_C_init 46 = .ok (.aload_n 0, 1) := by decide +kernel
theorem d_C_init_47 : decode b_C_init 47 = .ok (.aload_n 2, 1) := by decide +kernel
theorem d_C_init_48 : decode b_C_init 48 = .ok (.putfield 32, 3) := by decide +kernel
theorem d_C_init_51 : decode b_C_init 51 = .ok (.return_, 1) := by decide +kernel
theorem d_Y_init_0 : decode b_Y_init 0 = .ok (.aload_n 0, 1) := by decide +kernel
theorem d_Y_init_1 : decode b_Y_init 1 = .ok (.invokespecial 3, 3) := by decide +kernel
theorem d_Y_init_4 : decode b_Y_init 4 = .ok (.aload_n 0, 1) := by decide +kernel
theorem d_Y_init_5 : decode b_Y_init 5 = .ok (.iconst 0, 1) := by decide +kernel
theorem d_Y_init_6 : decode b_Y_init 6 = .ok (.putfield 9, 3) := by decide +kernel
theorem d_Y_init_9 : decode b_Y_init 9 = .ok (.aload_n 0, 1) := by decide +kernel
theorem d_Y_init_10 : decode b_Y_init 10 = .ok (.iconst 0, 1) := by decide +kernel
theorem d_Y_init_11 : decode b_Y_init 11 = .ok (.putfield 15, 3) := by decide +kernel
theorem d_Y_init_14 : decode b_Y_init 14 = .ok (.aload_n 0, 1) := by decide +kernel
theorem d_Y_init_15 : decode b_Y_init 15 = .ok (.aload_n 1, 1) := by decide +kernel
theorem d_Y_init_16 : decode b_Y_init 16 = .ok (.putfield 18, 3) := by decide +kernel
theorem d_Y_init_19 : decode b_Y_init 19 = .ok (.aload_n 0, 1) := by decide +kernel
theorem d_Y_init_20 : decode b_Y_init 20 = .ok (.new 22, 3) := by decide +kernel
theorem d_Y_init_23 : decode b_Y_init 23 = .ok (.dup, 1) := by decide +kernel
theorem d_Y_init_24 : decode b_Y_init 24 = .ok (.aload_n 1, 1) := by decide +kernel
theorem d_Y_init_25 : decode b_Y_init 25 = .ok (.bipush 61, 2) := by decide +kernel
theorem d_Y_init_27 : decode b_Y_init 27 = .ok (.invokespecial 24, 3) := by decide +kernel
theorem d_Y_init_30 : decode b_Y_init 30 = .ok (.putfield 27, 3) := by decide +kernel
theorem d_Y_init_33 : decode b_Y_init 33 = .ok (.return_, 1) := by decide +kernel
set_option maxHeartbeats 4000000 in
set_option maxRecDepth 100000 in
theorem c_G_parts (l : Launch) (dC : Nat → ClassId) (dI : Nat → Nat → Nat) (sz : Nat) (a v : Nat) (za : Nat → Value) : Met l y_G_parts ws_G_parts ({ frames := 0, cells := 0, slots := 0, locals := 0 }) (va_Pc [Value.ref a] (fun U => U.heap.size = sz ∧ va_P (dC, dI) kcl [(a, .inr (1, [(za 0), (za 1), (za 2), (za 3), (za 4), (za 5), (za 6), (za 7), (za 8), (za 9), (za 10), (za 11), (za 12), Value.ref v]))] U.heap ∧ va_K (dC, dI) kcl [] U)) (va_Qr (fun (_ : Unit) => True) (fun (_ : Unit) (ra : Nat) (_ : State) => ra = v) (va_A [] sz)) 0 0 (va_A [] sz) := by
  refine Met.ofW (cc := b_G_parts) (maxL := 1) (ret := (Option.some (Jvm.ClassFile.FieldType.object "TreeMatcher$Parts"))) (by decide) rfl ?_
  intro p e s m args below meth c s₁ B hml hv
  obtain ⟨rfl, hsz, hP, hK⟩ := hv
  have hx := B.exec
  have hb := B.bytes
  have hr := B.returns
  have hlocks := B.notSynchronized
  have hg : ∀ w ∈ gw, w.before _ s = true := fun w h => atoms_spec (ws := ws_G_parts) B.pre w (List.mem_cons_of_mem _ h)
  have hown : s.vm.findClass "TreeMatcher$Grammar" = some m.cls := findClass_of_methodNamed B.named
  subst hsz
  have hA : ∀ q : Nat, s.heap.size ≤ q → va_A ([] : va_W) s.heap.size q := fun q h => Or.inr h
  generalize hAe : va_A ([] : va_W) s.heap.size = A at hA ⊢
  have hS : va_S A s.heap s.heap [] := va_S.rf
  have hl := lv_entry ([Value.ref a] : List Value) (n := 1) (Nat.le_of_ble_eq_true rfl)
  rw [lg_entry_eq]
  generalize (lg_sl ([Value.ref a] : List Value) ++ List.replicate (1 - (lg_sl ([Value.ref a] : List Value)).length) Slot.unset).toArray = ls at hl ⊢
  have hl : lv_has ls 1 [(0, Value.ref a)] := hl
  refine lv_aload_n hx hb d_G_parts_0 rfl (lv_at hl 0 rfl) ?_
  refine va_get (D := (dC, dI)) (ci := 1) (v := Value.ref v) (C := kR_G) (T := kT_G) (N := 14) hx hb hg kin_G hown hK hP 0 rfl rfl 13 (by decide) (hg _ tw_94) (fun _ h9 => h9) rfl d_G_parts_1 ?_
  exact W.aret (v := .ref v) hx hb hr (Or.inl ⟨_, rfl⟩) (Or.inr ⟨_, rfl⟩) (fun t ht hW => ⟨⟨(), v, rfl, trivial, rfl⟩, hS.F ht⟩) hS.2.2 d_G_parts_4
set_option maxHeartbeats 4000000 in
set_option maxRecDepth 100000 in
theorem c_P_byOperator (l : Launch) (dC : Nat → ClassId) (dI : Nat → Nat → Nat) (sz : Nat) (a v : Nat) (za : Nat → Value) : Met l y_P_byOperator ws_P_byOperator ({ frames := 0, cells := 0, slots := 0, locals := 0 }) (va_Pc [Value.ref a] (fun U => U.heap.size = sz ∧ va_P (dC, dI) kcl [(a, .inr (6, [(za 0), (za 1), (za 2), (za 3), Value.ref v, (za 5)]))] U.heap ∧ va_K (dC, dI) kcl [] U)) (va_Qr (fun (_ : Unit) => True) (fun (_ : Unit) (ra : Nat) (_ : State) => ra = v) (va_A [] sz)) 0 0 (va_A [] sz) := by
  refine Met.ofW (cc := b_P_byOperator) (maxL := 1) (ret := (Option.some (Jvm.ClassFile.FieldType.object "TreeMatcher$Groups"))) (by decide) rfl ?_
  intro p e s m args below meth c s₁ B hml hv
  obtain ⟨rfl, hsz, hP, hK⟩ := hv
  have hx := B.exec
  have hb := B.bytes
  have hr := B.returns
  have hlocks := B.notSynchronized
  have hg : ∀ w ∈ gw, w.before _ s = true := fun w h => atoms_spec (ws := ws_P_byOperator) B.pre w (List.mem_cons_of_mem _ h)
  have hown : s.vm.findClass "TreeMatcher$Parts" = some m.cls := findClass_of_methodNamed B.named
  subst hsz
  have hA : ∀ q : Nat, s.heap.size ≤ q → va_A ([] : va_W) s.heap.size q := fun q h => Or.inr h
  generalize hAe : va_A ([] : va_W) s.heap.size = A at hA ⊢
  have hS : va_S A s.heap s.heap [] := va_S.rf
  have hl := lv_entry ([Value.ref a] : List Value) (n := 1) (Nat.le_of_ble_eq_true rfl)
  rw [lg_entry_eq]
  generalize (lg_sl ([Value.ref a] : List Value) ++ List.replicate (1 - (lg_sl ([Value.ref a] : List Value)).length) Slot.unset).toArray = ls at hl ⊢
  have hl : lv_has ls 1 [(0, Value.ref a)] := hl
  refine lv_aload_n hx hb d_P_byOperator_0 rfl (lv_at hl 0 rfl) ?_
  refine va_get (D := (dC, dI)) (ci := 6) (v := Value.ref v) (C := kR_P) (T := kT_P) (N := 6) hx hb hg kin_P hown hK hP 0 rfl rfl 4 (by decide) (hg _ tw_63) (fun _ h9 => h9) rfl d_P_byOperator_1 ?_
  exact W.aret (v := .ref v) hx hb hr (Or.inl ⟨_, rfl⟩) (Or.inr ⟨_, rfl⟩) (fun t ht hW => ⟨⟨(), v, rfl, trivial, rfl⟩, hS.F ht⟩) hS.2.2 d_P_byOperator_4
set_option maxHeartbeats 4000000 in
set_option maxRecDepth 100000 in
theorem c_V_init_200 (l : Launch) (dC : Nat → ClassId) (dI : Nat → Nat → Nat) (sz : Nat) (v g pq bq : Nat) (zg : Nat → Value) (zpq : Nat → Value) : Met l y_V_init ws_V_init ({ frames := 2, cells := 6, slots := 1219, locals := 33 }) (va_Pc [Value.ref v, Value.ref g, Value.int 200] (fun U => U.heap.size = sz ∧ va_P (dC, dI) kcl [(v, .inr (5, [Value.null, Value.null, Value.null, Value.null, Value.null, Value.null, Value.null, Value.int 0])), (g, .inr (1, [(zg 0), (zg 1), (zg 2), (zg 3), (zg 4), (zg 5), (zg 6), (zg 7), (zg 8), (zg 9), (zg 10), (zg 11), (zg 12), Value.ref pq])), (pq, .inr (6, [(zpq 0), (zpq 1), (zpq 2), (zpq 3), Value.ref bq, Value.int 16]))] U.heap ∧ va_K (dC, dI) kcl [] U ∧ va_D (fun _ => True) [(v, .inr (5, [Value.null, Value.null, Value.null, Value.null, Value.null, Value.null, Value.null, Value.int 0])), (g, .inr (1, [(zg 0), (zg 1), (zg 2), (zg 3), (zg 4), (zg 5), (zg 6), (zg 7), (zg 8), (zg 9), (zg 10), (zg 11), (zg 12), Value.ref pq])), (pq, .inr (6, [(zpq 0), (zpq 1), (zpq 2), (zpq 3), Value.ref bq, Value.int 16]))] ∧ tx_C U)) (va_Qv (fun (_ : Unit) => True) (fun (_ : Unit) (t : State) => ∃ (zv : Nat → Value), va_P (dC, dI) kcl [(v, .inr (5, [(zv 0), (zv 1), (zv 2), (zv 3), (zv 4), (zv 5), (zv 6), Value.int 0])), (g, .inr (1, [(zg 0), (zg 1), (zg 2), (zg 3), (zg 4), (zg 5), (zg 6), (zg 7), (zg 8), (zg 9), (zg 10), (zg 11), (zg 12), Value.ref pq])), (pq, .inr (6, [(zpq 0), (zpq 1), (zpq 2), (zpq 3), Value.ref bq, Value.int 16]))] t.heap ∧ va_K (dC, dI) kcl [] t ∧ va_D (va_A [(v, .inr (5, [Value.null, Value.null, Value.null, Value.null, Value.null, Value.null, Value.null, Value.int 0])), (g, .inr (1, [(zg 0), (zg 1), (zg 2), (zg 3), (zg 4), (zg 5), (zg 6), (zg 7), (zg 8), (zg 9), (zg 10), (zg 11), (zg 12), Value.ref pq])), (pq, .inr (6, [(zpq 0), (zpq 1), (zpq 2), (zpq 3), Value.ref bq, Value.int 16]))] sz) [(v, .inr (5, [(zv 0), (zv 1), (zv 2), (zv 3), (zv 4), (zv 5), (zv 6), Value.int 0])), (g, .inr (1, [(zg 0), (zg 1), (zg 2), (zg 3), (zg 4), (zg 5), (zg 6), (zg 7), (zg 8), (zg 9), (zg 10), (zg 11), (zg 12), Value.ref pq])), (pq, .inr (6, [(zpq 0), (zpq 1), (zpq 2), (zpq 3), Value.ref bq, Value.int 16]))]) (va_A [(v, .inr (5, [Value.null, Value.null, Value.null, Value.null, Value.null, Value.null, Value.null, Value.int 0])), (g, .inr (1, [(zg 0), (zg 1), (zg 2), (zg 3), (zg 4), (zg 5), (zg 6), (zg 7), (zg 8), (zg 9), (zg 10), (zg 11), (zg 12), Value.ref pq])), (pq, .inr (6, [(zpq 0), (zpq 1), (zpq 2), (zpq 3), Value.ref bq, Value.int 16]))] sz)) 6 1219 (va_A [(v, .inr (5, [Value.null, Value.null, Value.null, Value.null, Value.null, Value.null, Value.null, Value.int 0])), (g, .inr (1, [(zg 0), (zg 1), (zg 2), (zg 3), (zg 4), (zg 5), (zg 6), (zg 7), (zg 8), (zg 9), (zg 10), (zg 11), (zg 12), Value.ref pq])), (pq, .inr (6, [(zpq 0), (zpq 1), (zpq 2), (zpq 3), Value.ref bq, Value.int 16]))] sz) := by
  refine Met.ofW (cc := b_V_init) (maxL := 3) (ret := (Option.none : Option Jvm.ClassFile.FieldType)) (by decide) rfl ?_
  intro p e s m args below meth c s₁ B hml hv
  obtain ⟨rfl, hsz, hP, hK, hD0, hG⟩ := hv
  have hx := B.exec
  have hb := B.bytes
  have hr := B.returns
  have hlocks := B.notSynchronized
  have hg : ∀ w ∈ gw, w.before _ s = true := fun w h => atoms_spec (ws := ws_V_init) B.pre w (List.mem_cons_of_mem _ h)
  have hown : s.vm.findClass "TreeMatcher$Vectors" = some m.cls := findClass_of_methodNamed B.named
  have hin : meth.name = "<init>" := (name_of_methodNamed B.named B.method).1
  subst hsz
  have hD := hD0.self (sz := s.heap.size)
  have hA : ∀ q : Nat, s.heap.size ≤ q → va_A [(v, .inr (5, [Value.null, Value.null, Value.null, Value.null, Value.null, Value.null, Value.null, Value.int 0])), (g, .inr (1, [(zg 0), (zg 1), (zg 2), (zg 3), (zg 4), (zg 5), (zg 6), (zg 7), (zg 8), (zg 9), (zg 10), (zg 11), (zg 12), Value.ref pq])), (pq, .inr (6, [(zpq 0), (zpq 1), (zpq 2), (zpq 3), Value.ref bq, Value.int 16]))] s.heap.size q := fun q h => Or.inr h
  generalize hAe : va_A [(v, .inr (5, [Value.null, Value.null, Value.null, Value.null, Value.null, Value.null, Value.null, Value.int 0])), (g, .inr (1, [(zg 0), (zg 1), (zg 2), (zg 3), (zg 4), (zg 5), (zg 6), (zg 7), (zg 8), (zg 9), (zg 10), (zg 11), (zg 12), Value.ref pq])), (pq, .inr (6, [(zpq 0), (zpq 1), (zpq 2), (zpq 3), Value.ref bq, Value.int 16]))] s.heap.size = A at hD hA ⊢
  have hN : tx_N s := hG.1
  have hS : va_S A s.heap s.heap [] := va_S.rf
  have hl := lv_entry ([Value.ref v, Value.ref g, Value.int 200] : List Value) (n := 3) (Nat.le_of_ble_eq_true rfl)
  rw [lg_entry_eq]
  generalize (lg_sl ([Value.ref v, Value.ref g, Value.int 200] : List Value) ++ List.replicate (3 - (lg_sl ([Value.ref v, Value.ref g, Value.int 200] : List Value)).length) Slot.unset).toArray = ls at hl ⊢
  have hl : lv_has ls 3 [(0, Value.ref v), (1, Value.ref g), (2, Value.int 200)] := hl
  refine lv_aload_n hx hb d_V_init_0 rfl (lv_at hl 0 rfl) ?_
  refine W.objInit hx hb hown (hg _ tw_153) (hg _ tw_26) (hg _ tw_27) rfl (by rw [hml]; exact hl.1) rfl d_V_init_1 (Nat.le_of_ble_eq_true rfl) (Nat.le_of_ble_eq_true rfl) ?_
  refine W.eq (g2 := F0 m 4 ls []) rfl ?_
  refine lv_aload_n hx hb d_V_init_4 rfl (lv_at hl 0 rfl) ?_
  refine lv_sipush (v := 784) hx hb d_V_init_5 (by decide) ?_
  refine va_newa (atype := .long) (ty := .long) (a0 := (784, .inr (.inl (fun _ => 0)))) (N' := 784) hx hb (hg _ tw_147) rfl hK hP hD hS hA (fun _ => rfl) (by decide) (by decide +kernel) (by decide) (Nat.le_of_ble_eq_true rfl) (Nat.le_of_ble_eq_true rfl) d_V_init_8 (fun q_2 cq_2 H_1 hK hP hD hS => ?_)
  have hP := hP.sub (ws' := [(v, .inr (5, [Value.null, Value.null, Value.null, Value.null, Value.null, Value.null, Value.null, Value.int 0])), (g, .inr (1, [(zg 0), (zg 1), (zg 2), (zg 3), (zg 4), (zg 5), (zg 6), (zg 7), (zg 8), (zg 9), (zg 10), (zg 11), (zg 12), Value.ref pq])), (pq, .inr (6, [(zpq 0), (zpq 1), (zpq 2), (zpq 3), Value.ref bq, Value.int 16]))]) [0, 1, 2] rfl
  have hD := hD.sub (ws' := [(v, .inr (5, [Value.null, Value.null, Value.null, Value.null, Value.null, Value.null, Value.null, Value.int 0])), (g, .inr (1, [(zg 0), (zg 1), (zg 2), (zg 3), (zg 4), (zg 5), (zg 6), (zg 7), (zg 8), (zg 9), (zg 10), (zg 11), (zg 12), Value.ref pq])), (pq, .inr (6, [(zpq 0), (zpq 1), (zpq 2), (zpq 3), Value.ref bq, Value.int 16]))]) [0, 1, 2] (by decide) rfl
  have hK := hK.sub (tys' := []) [] rfl
  refine va_putF (D := (dC, dI)) (ci := 5) (v := Value.ref q_2) (ty := .array .long) (C := kR_V) (T := kT_V) (N := 8) hx hb hg kin_V kt_V kty_V knm_V hown hK hP hD hS 0 rfl rfl 6 (by decide) (hg _ tw_172) (fun _ h9 => h9) rfl hin rfl (by decide +kernel) rfl rfl (Nat.le_of_ble_eq_true rfl) d_V_init_10 (fun H_3 lo_4 hP hD hS => ?_)
  have hP : va_P (dC, dI) kcl [(v, .inr (5, [Value.null, Value.null, Value.null, Value.null, Value.null, Value.null, Value.ref q_2, Value.int 0])), (g, .inr (1, [(zg 0), (zg 1), (zg 2), (zg 3), (zg 4), (zg 5), (zg 6), (zg 7), (zg 8), (zg 9), (zg 10), (zg 11), (zg 12), Value.ref pq])), (pq, .inr (6, [(zpq 0), (zpq 1), (zpq 2), (zpq 3), Value.ref bq, Value.int 16]))] H_3 := hP
  have hD : va_D A [(v, .inr (5, [Value.null, Value.null, Value.null, Value.null, Value.null, Value.null, Value.ref q_2, Value.int 0])), (g, .inr (1, [(zg 0), (zg 1), (zg 2), (zg 3), (zg 4), (zg 5), (zg 6), (zg 7), (zg 8), (zg 9), (zg 10), (zg 11), (zg 12), Value.ref pq])), (pq, .inr (6, [(zpq 0), (zpq 1), (zpq 2), (zpq 3), Value.ref bq, Value.int 16]))] := hD
  refine lv_aload_n hx hb d_V_init_13 rfl (lv_at hl 0 rfl) ?_
  refine lv_iconst (v := 0) hx hb d_V_init_14 (by decide) ?_
  refine va_put (D := (dC, dI)) (ci := 5) (v := Value.int 0) (ty := .int) (C := kR_V) (T := kT_V) (N := 8) hx hb hg kin_V kt_V kty_V knm_V hown hK hP hD hS 0 rfl rfl 7 (by decide) (hg _ tw_173) (fun _ h9 => h9) rfl (by decide +kernel) rfl rfl (Nat.le_of_ble_eq_true rfl) d_V_init_15 (fun H_5 lo_6 hP hD hS => ?_)
  have hP : va_P (dC, dI) kcl [(v, .inr (5, [Value.null, Value.null, Value.null, Value.null, Value.null, Value.null, Value.ref q_2, Value.int 0])), (g, .inr (1, [(zg 0), (zg 1), (zg 2), (zg 3), (zg 4), (zg 5), (zg 6), (zg 7), (zg 8), (zg 9), (zg 10), (zg 11), (zg 12), Value.ref pq])), (pq, .inr (6, [(zpq 0), (zpq 1), (zpq 2), (zpq 3), Value.ref bq, Value.int 16]))] H_5 := hP
  have hD : va_D A [(v, .inr (5, [Value.null, Value.null, Value.null, Value.null, Value.null, Value.null, Value.ref q_2, Value.int 0])), (g, .inr (1, [(zg 0), (zg 1), (zg 2), (zg 3), (zg 4), (zg 5), (zg 6), (zg 7), (zg 8), (zg 9), (zg 10), (zg 11), (zg 12), Value.ref pq])), (pq, .inr (6, [(zpq 0), (zpq 1), (zpq 2), (zpq 3), Value.ref bq, Value.int 16]))] := hD
  refine lv_aload_n hx hb d_V_init_18 rfl (lv_at hl 0 rfl) ?_
  refine lv_aload_n hx hb d_V_init_19 rfl (lv_at hl 1 rfl) ?_
  refine va_putF (D := (dC, dI)) (ci := 5) (v := Value.ref g) (ty := .object "TreeMatcher$Grammar") (C := kR_V) (T := kT_V) (N := 8) hx hb hg kin_V kt_V kty_V knm_V hown hK hP hD hS 0 rfl rfl 0 (by decide) (hg _ tw_166) (fun _ h9 => h9) rfl hin rfl (by decide +kernel) rfl rfl (Nat.le_of_ble_eq_true rfl) d_V_init_20 (fun H_7 lo_8 hP hD hS => ?_)
  have hP : va_P (dC, dI) kcl [(v, .inr (5, [Value.ref g, Value.null, Value.null, Value.null, Value.null, Value.null, Value.ref q_2, Value.int 0])), (g, .inr (1, [(zg 0), (zg 1), (zg 2), (zg 3), (zg 4), (zg 5), (zg 6), (zg 7), (zg 8), (zg 9), (zg 10), (zg 11), (zg 12), Value.ref pq])), (pq, .inr (6, [(zpq 0), (zpq 1), (zpq 2), (zpq 3), Value.ref bq, Value.int 16]))] H_7 := hP
  have hD : va_D A [(v, .inr (5, [Value.ref g, Value.null, Value.null, Value.null, Value.null, Value.null, Value.ref q_2, Value.int 0])), (g, .inr (1, [(zg 0), (zg 1), (zg 2), (zg 3), (zg 4), (zg 5), (zg 6), (zg 7), (zg 8), (zg 9), (zg 10), (zg 11), (zg 12), Value.ref pq])), (pq, .inr (6, [(zpq 0), (zpq 1), (zpq 2), (zpq 3), Value.ref bq, Value.int 16]))] := hD
  refine lv_aload_n hx hb d_V_init_23 rfl (lv_at hl 0 rfl) ?_
  refine lv_aload_n hx hb d_V_init_24 rfl (lv_at hl 1 rfl) ?_
  have hPc := hP.sub (ws' := [(g, .inr (1, [(zg 0), (zg 1), (zg 2), (zg 3), (zg 4), (zg 5), (zg 6), (zg 7), (zg 8), (zg 9), (zg 10), (zg 11), (zg 12), Value.ref pq]))]) [1] rfl
  have hKc := hK.sub (tys' := []) [] rfl
  refine va_callr (va_runV (As := []) (rest := [Value.ref v]) ⟨hx, hb, hml, hown, hg⟩ (c_G_parts l dC dI H_7.size g pq zg) (cwV 0 hg (gw_giV cin_G_parts tw_154 tw_155 tw_156 tw_2) rfl rfl rfl (by decide +kernel) ⟨Nat.le_of_ble_eq_true rfl, Nat.le_of_ble_eq_true rfl⟩) ⟨fun a U g mk q => by obtain ⟨q0, q1, qP, qK⟩ := q; exact ⟨q0, q1, qP, va_K.moved (u := U) (U := U.calling g mk a) (Vm.Alike.refl U.vm) qK⟩, va_recv hKc hPc (ci := 1) (q0 := 0) rfl rfl, fun U hU hW => ⟨rfl, by rw [hU], by rw [hU]; exact hPc, va_K.moved hW.alike hKc⟩⟩ rfl rfl hl.1 rfl (lv_room (Nat.le_of_ble_eq_true rfl)) d_V_init_25 ⟨Nat.le_of_ble_eq_true rfl, Nat.le_of_ble_eq_true rfl⟩) hS (fun q h1 h => (tx_pA h1 h).elim) (tx_pF hS hA) (fun u_k_9 a_k_9 t_k_9 H_10 l_k_9 ht hvm hw_k_9 hB hz1 hk1 hS => ?_)
  have hB : pq = a_k_9 := Eq.symm hB
  subst hB
  have hP := tx_keep hP hk1
  refine va_putF (D := (dC, dI)) (ci := 5) (v := Value.ref pq) (ty := .object "TreeMatcher$Parts") (C := kR_V) (T := kT_V) (N := 8) hx hb hg kin_V kt_V kty_V knm_V hown hK hP hD hS 0 rfl rfl 1 (by decide) (hg _ tw_167) (fun _ h9 => h9) rfl hin rfl (by decide +kernel) rfl rfl (Nat.le_of_ble_eq_true rfl) d_V_init_28 (fun H_11 lo_12 hP hD hS => ?_)
  have hP : va_P (dC, dI) kcl [(v, .inr (5, [Value.ref g, Value.ref pq, Value.null, Value.null, Value.null, Value.null, Value.ref q_2, Value.int 0])), (g, .inr (1, [(zg 0), (zg 1), (zg 2), (zg 3), (zg 4), (zg 5), (zg 6), (zg 7), (zg 8), (zg 9), (zg 10), (zg 11), (zg 12), Value.ref pq])), (pq, .inr (6, [(zpq 0), (zpq 1), (zpq 2), (zpq 3), Value.ref bq, Value.int 16]))] H_11 := hP
  have hD : va_D A [(v, .inr (5, [Value.ref g, Value.ref pq, Value.null, Value.null, Value.null, Value.null, Value.ref q_2, Value.int 0])), (g, .inr (1, [(zg 0), (zg 1), (zg 2), (zg 3), (zg 4), (zg 5), (zg 6), (zg 7), (zg 8), (zg 9), (zg 10), (zg 11), (zg 12), Value.ref pq])), (pq, .inr (6, [(zpq 0), (zpq 1), (zpq 2), (zpq 3), Value.ref bq, Value.int 16]))] := hD
  refine lv_aload_n hx hb d_V_init_31 rfl (lv_at hl 0 rfl) ?_
  refine lv_aload_n hx hb d_V_init_32 rfl (lv_at hl 0 rfl) ?_
  refine va_get (D := (dC, dI)) (ci := 5) (v := Value.ref pq) (C := kR_V) (T := kT_V) (N := 8) hx hb hg kin_V hown hK hP 0 rfl rfl 1 (by decide) (hg _ tw_167) (fun _ h9 => h9) rfl d_V_init_33 ?_
  have hPc := hP.sub (ws' := [(pq, .inr (6, [(zpq 0), (zpq 1), (zpq 2), (zpq 3), Value.ref bq, Value.int 16]))]) [2] rfl
  have hKc := hK.sub (tys' := []) [] rfl
  refine va_callr (va_runV (As := []) (rest := [Value.ref v]) ⟨hx, hb, hml, hown, hg⟩ (c_P_byOperator l dC dI H_11.size pq bq (fun i => if i = 5 then Value.int 16 else zpq i)) (cwV 0 hg (gw_giV cin_P_byOperator tw_158 tw_159 tw_160 tw_4) rfl rfl rfl (by decide +kernel) ⟨Nat.le_of_ble_eq_true rfl, Nat.le_of_ble_eq_true rfl⟩) ⟨fun a U g mk q => by obtain ⟨q0, q1, qP, qK⟩ := q; exact ⟨q0, q1, qP, va_K.moved (u := U) (U := U.calling g mk a) (Vm.Alike.refl U.vm) qK⟩, va_recv hKc hPc (ci := 6) (q0 := 0) rfl rfl, fun U hU hW => ⟨rfl, by rw [hU], by rw [hU]; exact hPc, va_K.moved hW.alike hKc⟩⟩ rfl rfl hl.1 rfl (lv_room (Nat.le_of_ble_eq_true rfl)) d_V_init_36 ⟨Nat.le_of_ble_eq_true rfl, Nat.le_of_ble_eq_true rfl⟩) hS (fun q h1 h => (tx_pA h1 h).elim) (tx_pF hS hA) (fun u_k_13 a_k_13 t_k_13 H_14 l_k_13 ht hvm hw_k_13 hB hz1 hk1 hS => ?_)
  have hB : bq = a_k_13 := Eq.symm hB
  subst hB
  have hP := tx_keep hP hk1
  refine va_putF (D := (dC, dI)) (ci := 5) (v := Value.ref bq) (ty := .object "TreeMatcher$Groups") (C := kR_V) (T := kT_V) (N := 8) hx hb hg kin_V kt_V kty_V knm_V hown hK hP hD hS 0 rfl rfl 2 (by decide) (hg _ tw_168) (fun _ h9 => h9) rfl hin rfl (by decide +kernel) rfl rfl (Nat.le_of_ble_eq_true rfl) d_V_init_39 (fun H_15 lo_16 hP hD hS => ?_)
  have hP : va_P (dC, dI) kcl [(v, .inr (5, [Value.ref g, Value.ref pq, Value.ref bq, Value.null, Value.null, Value.null, Value.ref q_2, Value.int 0])), (g, .inr (1, [(zg 0), (zg 1), (zg 2), (zg 3), (zg 4), (zg 5), (zg 6), (zg 7), (zg 8), (zg 9), (zg 10), (zg 11), (zg 12), Value.ref pq])), (pq, .inr (6, [(zpq 0), (zpq 1), (zpq 2), (zpq 3), Value.ref bq, Value.int 16]))] H_15 := hP
  have hD : va_D A [(v, .inr (5, [Value.ref g, Value.ref pq, Value.ref bq, Value.null, Value.null, Value.null, Value.ref q_2, Value.int 0])), (g, .inr (1, [(zg 0), (zg 1), (zg 2), (zg 3), (zg 4), (zg 5), (zg 6), (zg 7), (zg 8), (zg 9), (zg 10), (zg 11), (zg 12), Value.ref pq])), (pq, .inr (6, [(zpq 0), (zpq 1), (zpq 2), (zpq 3), Value.ref bq, Value.int 16]))] := hD
  refine lv_aload_n hx hb d_V_init_42 rfl (lv_at hl 0 rfl) ?_
  refine va_new (ci := 8) (fs := [Value.null, Value.null, Value.null]) (C := kR_L) (T := kT_L) (N := 3) hx hb hg kin_L kt_L kty_L hown (hg _ tw_162) (hg _ tw_131) (hg _ tw_7) hK hP hD hS hA rfl kdf_L (Nat.le_of_ble_eq_true rfl) (Nat.le_of_ble_eq_true rfl) d_V_init_43 (fun lq H_17 hP hD hS => ?_)
  have hP : va_P (dC, dI) kcl [(v, .inr (5, [Value.ref g, Value.ref pq, Value.ref bq, Value.null, Value.null, Value.null, Value.ref q_2, Value.int 0])), (g, .inr (1, [(zg 0), (zg 1), (zg 2), (zg 3), (zg 4), (zg 5), (zg 6), (zg 7), (zg 8), (zg 9), (zg 10), (zg 11), (zg 12), Value.ref pq])), (pq, .inr (6, [(zpq 0), (zpq 1), (zpq 2), (zpq 3), Value.ref bq, Value.int 16])), (lq, .inr (8, [Value.null, Value.null, Value.null]))] H_17 := hP
  have hD : va_D A [(v, .inr (5, [Value.ref g, Value.ref pq, Value.ref bq, Value.null, Value.null, Value.null, Value.ref q_2, Value.int 0])), (g, .inr (1, [(zg 0), (zg 1), (zg 2), (zg 3), (zg 4), (zg 5), (zg 6), (zg 7), (zg 8), (zg 9), (zg 10), (zg 11), (zg 12), Value.ref pq])), (pq, .inr (6, [(zpq 0), (zpq 1), (zpq 2), (zpq 3), Value.ref bq, Value.int 16])), (lq, .inr (8, [Value.null, Value.null, Value.null]))] := hD
  refine lv_dup hx hb d_V_init_46 rfl ?_
  refine lv_aload_n hx hb d_V_init_47 rfl (lv_at hl 1 rfl) ?_
  have hPc := hP.sub (ws' := [(lq, .inr (8, [Value.null, Value.null, Value.null]))]) [3] rfl
  have hKc := hK.sub (tys' := []) [] rfl
  have hDc := hD.sub (ws' := [(lq, .inr (8, [Value.null, Value.null, Value.null]))]) [3] (by decide) rfl
  have hFc := va_free (wc := [(lq, .inr (8, [Value.null, Value.null, Value.null]))]) hD hS hA [3] rfl
  refine va_callv (va_runI (As := [Value.ref g]) (rest := [Value.ref lq, Value.ref v]) ⟨hx, hb, hml, hown, hg⟩ (c_L_init l dC dI H_17.size lq g) (cwI 1 hg (gw_gi cin_L_init) rfl rfl rfl (hg _ tw_7) (hg _ tw_163) (hg _ tw_133) rfl (by decide +kernel) ⟨Nat.le_of_ble_eq_true rfl, Nat.le_of_ble_eq_true rfl⟩) ⟨fun a U g mk q => by obtain ⟨q0, q1, qP, qK, qD⟩ := q; exact ⟨q0, q1, qP, va_K.moved (u := U) (U := U.calling g mk a) (Vm.Alike.refl U.vm) qK, qD⟩, fun U hU hW => ⟨rfl, by rw [hU], by rw [hU]; exact hPc, va_K.moved hW.alike hKc, hDc.weaken (fun _ _ _ _ => trivial)⟩⟩ rfl rfl hl.1 rfl (lv_room (Nat.le_of_ble_eq_true rfl)) d_V_init_48 ⟨Nat.le_of_ble_eq_true rfl, Nat.le_of_ble_eq_true rfl⟩) hS (fun q _ h => hFc q h) hFc (fun u_k_18 t_k_18 H_19 l_k_18 ht hvm hw_k_18 hB hz1 hk1 hS => ?_)
  obtain ⟨hP, hD⟩ := tx_rest (wc := [(lq, .inr (8, [Value.null, Value.null, Value.null]))]) (wr := [(v, .inr (5, [Value.ref g, Value.ref pq, Value.ref bq, Value.null, Value.null, Value.null, Value.ref q_2, Value.int 0])), (g, .inr (1, [(zg 0), (zg 1), (zg 2), (zg 3), (zg 4), (zg 5), (zg 6), (zg 7), (zg 8), (zg 9), (zg 10), (zg 11), (zg 12), Value.ref pq])), (pq, .inr (6, [(zpq 0), (zpq 1), (zpq 2), (zpq 3), Value.ref bq, Value.int 16]))]) hP hD [3] [0, 1, 2] rfl rfl (by decide) (by decide) hk1 hFc
  have hK := hK.sub (tys' := []) [] rfl
  refine va_putF (D := (dC, dI)) (ci := 5) (v := Value.ref lq) (ty := .object "TreeMatcher$Labels") (C := kR_V) (T := kT_V) (N := 8) hx hb hg kin_V kt_V kty_V knm_V hown hK hP hD hS 0 rfl rfl 3 (by decide) (hg _ tw_169) (fun _ h9 => h9) rfl hin rfl (by decide +kernel) rfl rfl (Nat.le_of_ble_eq_true rfl) d_V_init_51 (fun H_20 lo_21 hP hD hS => ?_)
  have hP : va_P (dC, dI) kcl [(v, .inr (5, [Value.ref g, Value.ref pq, Value.ref bq, Value.ref lq, Value.null, Value.null, Value.ref q_2, Value.int 0])), (g, .inr (1, [(zg 0), (zg 1), (zg 2), (zg 3), (zg 4), (zg 5), (zg 6), (zg 7), (zg 8), (zg 9), (zg 10), (zg 11), (zg 12), Value.ref pq])), (pq, .inr (6, [(zpq 0), (zpq 1), (zpq 2), (zpq 3), Value.ref bq, Value.int 16]))] H_20 := hP
  have hD : va_D A [(v, .inr (5, [Value.ref g, Value.ref pq, Value.ref bq, Value.ref lq, Value.null, Value.null, Value.ref q_2, Value.int 0])), (g, .inr (1, [(zg 0), (zg 1), (zg 2), (zg 3), (zg 4), (zg 5), (zg 6), (zg 7), (zg 8), (zg 9), (zg 10), (zg 11), (zg 12), Value.ref pq])), (pq, .inr (6, [(zpq 0), (zpq 1), (zpq 2), (zpq 3), Value.ref bq, Value.int 16]))] := hD
  refine lv_aload_n hx hb d_V_init_54 rfl (lv_at hl 0 rfl) ?_
  refine lv_iload_n hx hb d_V_init_55 rfl (lv_at hl 2 rfl) ?_
  refine tx_newrows (N' := 200) hx hb hown (hg _ tw_164) hG.2 hP hS (by decide) (by decide +kernel) (by decide) (Nat.le_of_ble_eq_true rfl) (Nat.le_of_ble_eq_true rfl) d_V_init_56 (fun q_22 H_23 hP hS => ?_)
  refine va_putF (D := (dC, dI)) (ci := 5) (v := Value.ref q_22) (ty := .array (.array .long)) (C := kR_V) (T := kT_V) (N := 8) hx hb hg kin_V kt_V kty_V knm_V hown hK hP hD hS 0 rfl rfl 4 (by decide) (hg _ tw_170) (fun _ h9 => h9) rfl hin rfl (by decide +kernel) rfl rfl (Nat.le_of_ble_eq_true rfl) d_V_init_59 (fun H_24 lo_25 hP hD hS => ?_)
  have hP : va_P (dC, dI) kcl [(v, .inr (5, [Value.ref g, Value.ref pq, Value.ref bq, Value.ref lq, Value.ref q_22, Value.null, Value.ref q_2, Value.int 0])), (g, .inr (1, [(zg 0), (zg 1), (zg 2), (zg 3), (zg 4), (zg 5), (zg 6), (zg 7), (zg 8), (zg 9), (zg 10), (zg 11), (zg 12), Value.ref pq])), (pq, .inr (6, [(zpq 0), (zpq 1), (zpq 2), (zpq 3), Value.ref bq, Value.int 16]))] H_24 := hP
  have hD : va_D A [(v, .inr (5, [Value.ref g, Value.ref pq, Value.ref bq, Value.ref lq, Value.ref q_22, Value.null, Value.ref q_2, Value.int 0])), (g, .inr (1, [(zg 0), (zg 1), (zg 2), (zg 3), (zg 4), (zg 5), (zg 6), (zg 7), (zg 8), (zg 9), (zg 10), (zg 11), (zg 12), Value.ref pq])), (pq, .inr (6, [(zpq 0), (zpq 1), (zpq 2), (zpq 3), Value.ref bq, Value.int 16]))] := hD
  refine lv_aload_n hx hb d_V_init_62 rfl (lv_at hl 0 rfl) ?_
  refine lv_iload_n hx hb d_V_init_63 rfl (lv_at hl 2 rfl) ?_
  refine va_newa (atype := .int) (ty := .int) (a0 := (200, .inl (fun _ => 0))) (N' := 200) hx hb (hg _ tw_50) rfl hK hP hD hS hA (fun _ => rfl) (by decide) (by decide +kernel) (by decide) (Nat.le_of_ble_eq_true rfl) (Nat.le_of_ble_eq_true rfl) d_V_init_64 (fun q_27 cq_27 H_26 hK hP hD hS => ?_)
  have hP := hP.sub (ws' := [(v, .inr (5, [Value.ref g, Value.ref pq, Value.ref bq, Value.ref lq, Value.ref q_22, Value.null, Value.ref q_2, Value.int 0])), (g, .inr (1, [(zg 0), (zg 1), (zg 2), (zg 3), (zg 4), (zg 5), (zg 6), (zg 7), (zg 8), (zg 9), (zg 10), (zg 11), (zg 12), Value.ref pq])), (pq, .inr (6, [(zpq 0), (zpq 1), (zpq 2), (zpq 3), Value.ref bq, Value.int 16]))]) [0, 1, 2] rfl
  have hD := hD.sub (ws' := [(v, .inr (5, [Value.ref g, Value.ref pq, Value.ref bq, Value.ref lq, Value.ref q_22, Value.null, Value.ref q_2, Value.int 0])), (g, .inr (1, [(zg 0), (zg 1), (zg 2), (zg 3), (zg 4), (zg 5), (zg 6), (zg 7), (zg 8), (zg 9), (zg 10), (zg 11), (zg 12), Value.ref pq])), (pq, .inr (6, [(zpq 0), (zpq 1), (zpq 2), (zpq 3), Value.ref bq, Value.int 16]))]) [0, 1, 2] (by decide) rfl
  have hK := hK.sub (tys' := []) [] rfl
  refine va_putF (D := (dC, dI)) (ci := 5) (v := Value.ref q_27) (ty := .array .int) (C := kR_V) (T := kT_V) (N := 8) hx hb hg kin_V kt_V kty_V knm_V hown hK hP hD hS 0 rfl rfl 5 (by decide) (hg _ tw_171) (fun _ h9 => h9) rfl hin rfl (by decide +kernel) rfl rfl (Nat.le_of_ble_eq_true rfl) d_V_init_66 (fun H_28 lo_29 hP hD hS => ?_)
  have hP : va_P (dC, dI) kcl [(v, .inr (5, [Value.ref g, Value.ref pq, Value.ref bq, Value.ref lq, Value.ref q_22, Value.ref q_27, Value.ref q_2, Value.int 0])), (g, .inr (1, [(zg 0), (zg 1), (zg 2), (zg 3), (zg 4), (zg 5), (zg 6), (zg 7), (zg 8), (zg 9), (zg 10), (zg 11), (zg 12), Value.ref pq])), (pq, .inr (6, [(zpq 0), (zpq 1), (zpq 2), (zpq 3), Value.ref bq, Value.int 16]))] H_28 := hP
  have hD : va_D A [(v, .inr (5, [Value.ref g, Value.ref pq, Value.ref bq, Value.ref lq, Value.ref q_22, Value.ref q_27, Value.ref q_2, Value.int 0])), (g, .inr (1, [(zg 0), (zg 1), (zg 2), (zg 3), (zg 4), (zg 5), (zg 6), (zg 7), (zg 8), (zg 9), (zg 10), (zg 11), (zg 12), Value.ref pq])), (pq, .inr (6, [(zpq 0), (zpq 1), (zpq 2), (zpq 3), Value.ref bq, Value.int 16]))] := hD
  have hP9 := hP.sub (ws' := [(v, .inr (5, [Value.ref g, Value.ref pq, Value.ref bq, Value.ref lq, Value.ref q_22, Value.ref q_27, Value.ref q_2, Value.int 0])), (g, .inr (1, [(zg 0), (zg 1), (zg 2), (zg 3), (zg 4), (zg 5), (zg 6), (zg 7), (zg 8), (zg 9), (zg 10), (zg 11), (zg 12), Value.ref pq])), (pq, .inr (6, [(zpq 0), (zpq 1), (zpq 2), (zpq 3), Value.ref bq, Value.int 16]))]) [0, 1, 2] rfl
  have hD9 := hD.sub (ws' := [(v, .inr (5, [Value.ref g, Value.ref pq, Value.ref bq, Value.ref lq, Value.ref q_22, Value.ref q_27, Value.ref q_2, Value.int 0])), (g, .inr (1, [(zg 0), (zg 1), (zg 2), (zg 3), (zg 4), (zg 5), (zg 6), (zg 7), (zg 8), (zg 9), (zg 10), (zg 11), (zg 12), Value.ref pq])), (pq, .inr (6, [(zpq 0), (zpq 1), (zpq 2), (zpq 3), Value.ref bq, Value.int 16]))]) [0, 1, 2] (by decide) rfl
  have hK9 := hK.sub (tys' := []) [] rfl
  exact W.vret hx hb hr (fun t ht hW => ⟨⟨(), rfl, trivial, ⟨(fun i => List.getD [Value.ref g, Value.ref pq, Value.ref bq, Value.ref lq, Value.ref q_22, Value.ref q_27, Value.ref q_2, Value.int (0 : Int32)] i Value.null), by rw [ht]; exact hP9, va_K.moved hW.alike hK9, hD9⟩⟩, hS.F ht⟩) hS.2.2 d_V_init_69
set_option maxHeartbeats 4000000 in
set_option maxRecDepth 100000 in
theorem c_V_init_61 (l : Launch) (dC : Nat → ClassId) (dI : Nat → Nat → Nat) (sz : Nat) (v g pq bq : Nat) (zg : Nat → Value) (zpq : Nat → Value) : Met l y_V_init ws_V_init ({ frames := 2, cells := 6, slots := 941, locals := 33 }) (va_Pc [Value.ref v, Value.ref g, Value.int 61] (fun U => U.heap.size = sz ∧ va_P (dC, dI) kcl [(v, .inr (5, [Value.null, Value.null, Value.null, Value.null, Value.null, Value.null, Value.null, Value.int 0])), (g, .inr (1, [(zg 0), (zg 1), (zg 2), (zg 3), (zg 4), (zg 5), (zg 6), (zg 7), (zg 8), (zg 9), (zg 10), (zg 11), (zg 12), Value.ref pq])), (pq, .inr (6, [(zpq 0), (zpq 1), (zpq 2), (zpq 3), Value.ref bq, Value.int 16]))] U.heap ∧ va_K (dC, dI) kcl [] U ∧ va_D (fun _ => True) [(v, .inr (5, [Value.null, Value.null, Value.null, Value.null, Value.null, Value.null, Value.null, Value.int 0])), (g, .inr (1, [(zg 0), (zg 1), (zg 2), (zg 3), (zg 4), (zg 5), (zg 6), (zg 7), (zg 8), (zg 9), (zg 10), (zg 11), (zg 12), Value.ref pq])), (pq, .inr (6, [(zpq 0), (zpq 1), (zpq 2), (zpq 3), Value.ref bq, Value.int 16]))] ∧ tx_C U)) (va_Qv (fun (_ : Unit) => True) (fun (_ : Unit) (t : State) => ∃ (zv : Nat → Value), va_P (dC, dI) kcl [(v, .inr (5, [(zv 0), (zv 1), (zv 2), (zv 3), (zv 4), (zv 5), (zv 6), Value.int 0])), (g, .inr (1, [(zg 0), (zg 1), (zg 2), (zg 3), (zg 4), (zg 5), (zg 6), (zg 7), (zg 8), (zg 9), (zg 10), (zg 11), (zg 12), Value.ref pq])), (pq, .inr (6, [(zpq 0), (zpq 1), (zpq 2), (zpq 3), Value.ref bq, Value.int 16]))] t.heap ∧ va_K (dC, dI) kcl [] t ∧ va_D (va_A [(v, .inr (5, [Value.null, Value.null, Value.null, Value.null, Value.null, Value.null, Value.null, Value.int 0])), (g, .inr (1, [(zg 0), (zg 1), (zg 2), (zg 3), (zg 4), (zg 5), (zg 6), (zg 7), (zg 8), (zg 9), (zg 10), (zg 11), (zg 12), Value.ref pq])), (pq, .inr (6, [(zpq 0), (zpq 1), (zpq 2), (zpq 3), Value.ref bq, Value.int 16]))] sz) [(v, .inr (5, [(zv 0), (zv 1), (zv 2), (zv 3), (zv 4), (zv 5), (zv 6), Value.int 0])), (g, .inr (1, [(zg 0), (zg 1), (zg 2), (zg 3), (zg 4), (zg 5), (zg 6), (zg 7), (zg 8), (zg 9), (zg 10), (zg 11), (zg 12), Value.ref pq])), (pq, .inr (6, [(zpq 0), (zpq 1), (zpq 2), (zpq 3), Value.ref bq, Value.int 16]))]) (va_A [(v, .inr (5, [Value.null, Value.null, Value.null, Value.null, Value.null, Value.null, Value.null, Value.int 0])), (g, .inr (1, [(zg 0), (zg 1), (zg 2), (zg 3), (zg 4), (zg 5), (zg 6), (zg 7), (zg 8), (zg 9), (zg 10), (zg 11), (zg 12), Value.ref pq])), (pq, .inr (6, [(zpq 0), (zpq 1), (zpq 2), (zpq 3), Value.ref bq, Value.int 16]))] sz)) 6 941 (va_A [(v, .inr (5, [Value.null, Value.null, Value.null, Value.null, Value.null, Value.null, Value.null, Value.int 0])), (g, .inr (1, [(zg 0), (zg 1), (zg 2), (zg 3), (zg 4), (zg 5), (zg 6), (zg 7), (zg 8), (zg 9), (zg 10), (zg 11), (zg 12), Value.ref pq])), (pq, .inr (6, [(zpq 0), (zpq 1), (zpq 2), (zpq 3), Value.ref bq, Value.int 16]))] sz) := by
  refine Met.ofW (cc := b_V_init) (maxL := 3) (ret := (Option.none : Option Jvm.ClassFile.FieldType)) (by decide) rfl ?_
  intro p e s m args below meth c s₁ B hml hv
  obtain ⟨rfl, hsz, hP, hK, hD0, hG⟩ := hv
  have hx := B.exec
  have hb := B.bytes
  have hr := B.returns
  have hlocks := B.notSynchronized
  have hg : ∀ w ∈ gw, w.before _ s = true := fun w h => atoms_spec (ws := ws_V_init) B.pre w (List.mem_cons_of_mem _ h)
  have hown : s.vm.findClass "TreeMatcher$Vectors" = some m.cls := findClass_of_methodNamed B.named
  have hin : meth.name = "<init>" := (name_of_methodNamed B.named B.method).1
  subst hsz
  have hD := hD0.self (sz := s.heap.size)
  have hA : ∀ q : Nat, s.heap.size ≤ q → va_A [(v, .inr (5, [Value.null, Value.null, Value.null, Value.null, Value.null, Value.null, Value.null, Value.int 0])), (g, .inr (1, [(zg 0), (zg 1), (zg 2), (zg 3), (zg 4), (zg 5), (zg 6), (zg 7), (zg 8), (zg 9), (zg 10), (zg 11), (zg 12), Value.ref pq])), (pq, .inr (6, [(zpq 0), (zpq 1), (zpq 2), (zpq 3), Value.ref bq, Value.int 16]))] s.heap.size q := fun q h => Or.inr h
  generalize hAe : va_A [(v, .inr (5, [Value.null, Value.null, Value.null, Value.null, Value.null, Value.null, Value.null, Value.int 0])), (g, .inr (1, [(zg 0), (zg 1), (zg 2), (zg 3), (zg 4), (zg 5), (zg 6), (zg 7), (zg 8), (zg 9), (zg 10), (zg 11), (zg 12), Value.ref pq])), (pq, .inr (6, [(zpq 0), (zpq 1), (zpq 2), (zpq 3), Value.ref bq, Value.int 16]))] s.heap.size = A at hD hA ⊢
  have hN : tx_N s := hG.1
  have hS : va_S A s.heap s.heap [] := va_S.rf
  have hl := lv_entry ([Value.ref v, Value.ref g, Value.int 61] : List Value) (n := 3) (Nat.le_of_ble_eq_true rfl)
  rw [lg_entry_eq]
  generalize (lg_sl ([Value.ref v, Value.ref g, Value.int 61] : List Value) ++ List.replicate (3 - (lg_sl ([Value.ref v, Value.ref g, Value.int 61] : List Value)).length) Slot.unset).toArray = ls at hl ⊢
  have hl : lv_has ls 3 [(0, Value.ref v), (1, Value.ref g), (2, Value.int 61)] := hl
  refine lv_aload_n hx hb d_V_init_0 rfl (lv_at hl 0 rfl) ?_
  refine W.objInit hx hb hown (hg _ tw_153) (hg _ tw_26) (hg _ tw_27) rfl (by rw [hml]; exact hl.1) rfl d_V_init_1 (Nat.le_of_ble_eq_true rfl) (Nat.le_of_ble_eq_true rfl) ?_
  refine W.eq (g2 := F0 m 4 ls []) rfl ?_
  refine lv_aload_n hx hb d_V_init_4 rfl (lv_at hl 0 rfl) ?_
  refine lv_sipush (v := 784) hx hb d_V_init_5 (by decide) ?_
  refine va_newa (atype := .long) (ty := .long) (a0 := (784, .inr (.inl (fun _ => 0)))) (N' := 784) hx hb (hg _ tw_147) rfl hK hP hD hS hA (fun _ => rfl) (by decide) (by decide +kernel) (by decide) (Nat.le_of_ble_eq_true rfl) (Nat.le_of_ble_eq_true rfl) d_V_init_8 (fun q_2 cq_2 H_1 hK hP hD hS => ?_)
  have hP := hP.sub (ws' := [(v, .inr (5, [Value.null, Value.null, Value.null, Value.null, Value.null, Value.null, Value.null, Value.int 0])), (g, .inr (1, [(zg 0), (zg 1), (zg 2), (zg 3), (zg 4), (zg 5), (zg 6), (zg 7), (zg 8), (zg 9), (zg 10), (zg 11), (zg 12), Value.ref pq])), (pq, .inr (6, [(zpq 0), (zpq 1), (zpq 2), (zpq 3), Value.ref bq, Value.int 16]))]) [0, 1, 2] rfl
  have hD := hD.sub (ws' := [(v, .inr (5, [Value.null, Value.null, Value.null, Value.null, Value.null, Value.null, Value.null, Value.int 0])), (g, .inr (1, [(zg 0), (zg 1), (zg 2), (zg 3), (zg 4), (zg 5), (zg 6), (zg 7), (zg 8), (zg 9), (zg 10), (zg 11), (zg 12), Value.ref pq])), (pq, .inr (6, [(zpq 0), (zpq 1), (zpq 2), (zpq 3), Value.ref bq, Value.int 16]))]) [0, 1, 2] (by decide) rfl
  have hK := hK.sub (tys' := []) [] rfl
  refine va_putF (D := (dC, dI)) (ci := 5) (v := Value.ref q_2) (ty := .array .long) (C := kR_V) (T := kT_V) (N := 8) hx hb hg kin_V kt_V kty_V knm_V hown hK hP hD hS 0 rfl rfl 6 (by decide) (hg _ tw_172) (fun _ h9 => h9) rfl hin rfl (by decide +kernel) rfl rfl (Nat.le_of_ble_eq_true rfl) d_V_init_10 (fun H_3 lo_4 hP hD hS => ?_)
  have hP : va_P (dC, dI) kcl [(v, .inr (5, [Value.null, Value.null, Value.null, Value.null, Value.null, Value.null, Value.ref q_2, Value.int 0])), (g, .inr (1, [(zg 0), (zg 1), (zg 2), (zg 3), (zg 4), (zg 5), (zg 6), (zg 7), (zg 8), (zg 9), (zg 10), (zg 11), (zg 12), Value.ref pq])), (pq, .inr (6, [(zpq 0), (zpq 1), (zpq 2), (zpq 3), Value.ref bq, Value.int 16]))] H_3 := hP
  have hD : va_D A [(v, .inr (5, [Value.null, Value.null, Value.null, Value.null, Value.null, Value.null, Value.ref q_2, Value.int 0])), (g, .inr (1, [(zg 0), (zg 1), (zg 2), (zg 3), (zg 4), (zg 5), (zg 6), (zg 7), (zg 8), (zg 9), (zg 10), (zg 11), (zg 12), Value.ref pq])), (pq, .inr (6, [(zpq 0), (zpq 1), (zpq 2), (zpq 3), Value.ref bq, Value.int 16]))] := hD
  refine lv_aload_n hx hb d_V_init_13 rfl (lv_at hl 0 rfl) ?_
  refine lv_iconst (v := 0) hx hb d_V_init_14 (by decide) ?_
  refine va_put (D := (dC, dI)) (ci := 5) (v := Value.int 0) (ty := .int) (C := kR_V) (T := kT_V) (N := 8) hx hb hg kin_V kt_V kty_V knm_V hown hK hP hD hS 0 rfl rfl 7 (by decide) (hg _ tw_173) (fun _ h9 => h9) rfl (by decide +kernel) rfl rfl (Nat.le_of_ble_eq_true rfl) d_V_init_15 (fun H_5 lo_6 hP hD hS => ?_)
  have hP : va_P (dC, dI) kcl [(v, .inr (5, [Value.null, Value.null, Value.null, Value.null, Value.null, Value.null, Value.ref q_2, Value.int 0])), (g, .inr (1, [(zg 0), (zg 1), (zg 2), (zg 3), (zg 4), (zg 5), (zg 6), (zg 7), (zg 8), (zg 9), (zg 10), (zg 11), (zg 12), Value.ref pq])), (pq, .inr (6, [(zpq 0), (zpq 1), (zpq 2), (zpq 3), Value.ref bq, Value.int 16]))] H_5 := hP
  have hD : va_D A [(v, .inr (5, [Value.null, Value.null, Value.null, Value.null, Value.null, Value.null, Value.ref q_2, Value.int 0])), (g, .inr (1, [(zg 0), (zg 1), (zg 2), (zg 3), (zg 4), (zg 5), (zg 6), (zg 7), (zg 8), (zg 9), (zg 10), (zg 11), (zg 12), Value.ref pq])), (pq, .inr (6, [(zpq 0), (zpq 1), (zpq 2), (zpq 3), Value.ref bq, Value.int 16]))] := hD
  refine lv_aload_n hx hb d_V_init_18 rfl (lv_at hl 0 rfl) ?_
  refine lv_aload_n hx hb d_V_init_19 rfl (lv_at hl 1 rfl) ?_
  refine va_putF (D := (dC, dI)) (ci := 5) (v := Value.ref g) (ty := .object "TreeMatcher$Grammar") (C := kR_V) (T := kT_V) (N := 8) hx hb hg kin_V kt_V kty_V knm_V hown hK hP hD hS 0 rfl rfl 0 (by decide) (hg _ tw_166) (fun _ h9 => h9) rfl hin rfl (by decide +kernel) rfl rfl (Nat.le_of_ble_eq_true rfl) d_V_init_20 (fun H_7 lo_8 hP hD hS => ?_)
  have hP : va_P (dC, dI) kcl [(v, .inr (5, [Value.ref g, Value.null, Value.null, Value.null, Value.null, Value.null, Value.ref q_2, Value.int 0])), (g, .inr (1, [(zg 0), (zg 1), (zg 2), (zg 3), (zg 4), (zg 5), (zg 6), (zg 7), (zg 8), (zg 9), (zg 10), (zg 11), (zg 12), Value.ref pq])), (pq, .inr (6, [(zpq 0), (zpq 1), (zpq 2), (zpq 3), Value.ref bq, Value.int 16]))] H_7 := hP
  have hD : va_D A [(v, .inr (5, [Value.ref g, Value.null, Value.null, Value.null, Value.null, Value.null, Value.ref q_2, Value.int 0])), (g, .inr (1, [(zg 0), (zg 1), (zg 2), (zg 3), (zg 4), (zg 5), (zg 6), (zg 7), (zg 8), (zg 9), (zg 10), (zg 11), (zg 12), Value.ref pq])), (pq, .inr (6, [(zpq 0), (zpq 1), (zpq 2), (zpq 3), Value.ref bq, Value.int 16]))] := hD
  refine lv_aload_n hx hb d_V_init_23 rfl (lv_at hl 0 rfl) ?_
  refine lv_aload_n hx hb d_V_init_24 rfl (lv_at hl 1 rfl) ?_
  have hPc := hP.sub (ws' := [(g, .inr (1, [(zg 0), (zg 1), (zg 2), (zg 3), (zg 4), (zg 5), (zg 6), (zg 7), (zg 8), (zg 9), (zg 10), (zg 11), (zg 12), Value.ref pq]))]) [1] rfl
  have hKc := hK.sub (tys' := []) [] rfl
  refine va_callr (va_runV (As := []) (rest := [Value.ref v]) ⟨hx, hb, hml, hown, hg⟩ (c_G_parts l dC dI H_7.size g pq zg) (cwV 0 hg (gw_giV cin_G_parts tw_154 tw_155 tw_156 tw_2) rfl rfl rfl (by decide +kernel) ⟨Nat.le_of_ble_eq_true rfl, Nat.le_of_ble_eq_true rfl⟩) ⟨fun a U g mk q => by obtain ⟨q0, q1, qP, qK⟩ := q; exact ⟨q0, q1, qP, va_K.moved (u := U) (U := U.calling g mk a) (Vm.Alike.refl U.vm) qK⟩, va_recv hKc hPc (ci := 1) (q0 := 0) rfl rfl, fun U hU hW => ⟨rfl, by rw [hU], by rw [hU]; exact hPc, va_K.moved hW.alike hKc⟩⟩ rfl rfl hl.1 rfl (lv_room (Nat.le_of_ble_eq_true rfl)) d_V_init_25 ⟨Nat.le_of_ble_eq_true rfl, Nat.le_of_ble_eq_true rfl⟩) hS (fun q h1 h => (tx_pA h1 h).elim) (tx_pF hS hA) (fun u_k_9 a_k_9 t_k_9 H_10 l_k_9 ht hvm hw_k_9 hB hz1 hk1 hS => ?_)
  have hB : pq = a_k_9 := Eq.symm hB
  subst hB
  have hP := tx_keep hP hk1
  refine va_putF (D := (dC, dI)) (ci := 5) (v := Value.ref pq) (ty := .object "TreeMatcher$Parts") (C := kR_V) (T := kT_V) (N := 8) hx hb hg kin_V kt_V kty_V knm_V hown hK hP hD hS 0 rfl rfl 1 (by decide) (hg _ tw_167) (fun _ h9 => h9) rfl hin rfl (by decide +kernel) rfl rfl (Nat.le_of_ble_eq_true rfl) d_V_init_28 (fun H_11 lo_12 hP hD hS => ?_)
  have hP : va_P (dC, dI) kcl [(v, .inr (5, [Value.ref g, Value.ref pq, Value.null, Value.null, Value.null, Value.null, Value.ref q_2, Value.int 0])), (g, .inr (1, [(zg 0), (zg 1), (zg 2), (zg 3), (zg 4), (zg 5), (zg 6), (zg 7), (zg 8), (zg 9), (zg 10), (zg 11), (zg 12), Value.ref pq])), (pq, .inr (6, [(zpq 0), (zpq 1), (zpq 2), (zpq 3), Value.ref bq, Value.int 16]))] H_11 := hP
  have hD : va_D A [(v, .inr (5, [Value.ref g, Value.ref pq, Value.null, Value.null, Value.null, Value.null, Value.ref q_2, Value.int 0])), (g, .inr (1, [(zg 0), (zg 1), (zg 2), (zg 3), (zg 4), (zg 5), (zg 6), (zg 7), (zg 8), (zg 9), (zg 10), (zg 11), (zg 12), Value.ref pq])), (pq, .inr (6, [(zpq 0), (zpq 1), (zpq 2), (zpq 3), Value.ref bq, Value.int 16]))] := hD
  refine lv_aload_n hx hb d_V_init_31 rfl (lv_at hl 0 rfl) ?_
  refine lv_aload_n hx hb d_V_init_32 rfl (lv_at hl 0 rfl) ?_
  refine va_get (D := (dC, dI)) (ci := 5) (v := Value.ref pq) (C := kR_V) (T := kT_V) (N := 8) hx hb hg kin_V hown hK hP 0 rfl rfl 1 (by decide) (hg _ tw_167) (fun _ h9 => h9) rfl d_V_init_33 ?_
  have hPc := hP.sub (ws' := [(pq, .inr (6, [(zpq 0), (zpq 1), (zpq 2), (zpq 3), Value.ref bq, Value.int 16]))]) [2] rfl
  have hKc := hK.sub (tys' := []) [] rfl
  refine va_callr (va_runV (As := []) (rest := [Value.ref v]) ⟨hx, hb, hml, hown, hg⟩ (c_P_byOperator l dC dI H_11.size pq bq (fun i => if i = 5 then Value.int 16 else zpq i)) (cwV 0 hg (gw_giV cin_P_byOperator tw_158 tw_159 tw_160 tw_4) rfl rfl rfl (by decide +kernel) ⟨Nat.le_of_ble_eq_true rfl, Nat.le_of_ble_eq_true rfl⟩) ⟨fun a U g mk q => by obtain ⟨q0, q1, qP, qK⟩ := q; exact ⟨q0, q1, qP, va_K.moved (u := U) (U := U.calling g mk a) (Vm.Alike.refl U.vm) qK⟩, va_recv hKc hPc (ci := 6) (q0 := 0) rfl rfl, fun U hU hW => ⟨rfl, by rw [hU], by rw [hU]; exact hPc, va_K.moved hW.alike hKc⟩⟩ rfl rfl hl.1 rfl (lv_room (Nat.le_of_ble_eq_true rfl)) d_V_init_36 ⟨Nat.le_of_ble_eq_true rfl, Nat.le_of_ble_eq_true rfl⟩) hS (fun q h1 h => (tx_pA h1 h).elim) (tx_pF hS hA) (fun u_k_13 a_k_13 t_k_13 H_14 l_k_13 ht hvm hw_k_13 hB hz1 hk1 hS => ?_)
  have hB : bq = a_k_13 := Eq.symm hB
  subst hB
  have hP := tx_keep hP hk1
  refine va_putF (D := (dC, dI)) (ci := 5) (v := Value.ref bq) (ty := .object "TreeMatcher$Groups") (C := kR_V) (T := kT_V) (N := 8) hx hb hg kin_V kt_V kty_V knm_V hown hK hP hD hS 0 rfl rfl 2 (by decide) (hg _ tw_168) (fun _ h9 => h9) rfl hin rfl (by decide +kernel) rfl rfl (Nat.le_of_ble_eq_true rfl) d_V_init_39 (fun H_15 lo_16 hP hD hS => ?_)
  have hP : va_P (dC, dI) kcl [(v, .inr (5, [Value.ref g, Value.ref pq, Value.ref bq, Value.null, Value.null, Value.null, Value.ref q_2, Value.int 0])), (g, .inr (1, [(zg 0), (zg 1), (zg 2), (zg 3), (zg 4), (zg 5), (zg 6), (zg 7), (zg 8), (zg 9), (zg 10), (zg 11), (zg 12), Value.ref pq])), (pq, .inr (6, [(zpq 0), (zpq 1), (zpq 2), (zpq 3), Value.ref bq, Value.int 16]))] H_15 := hP
  have hD : va_D A [(v, .inr (5, [Value.ref g, Value.ref pq, Value.ref bq, Value.null, Value.null, Value.null, Value.ref q_2, Value.int 0])), (g, .inr (1, [(zg 0), (zg 1), (zg 2), (zg 3), (zg 4), (zg 5), (zg 6), (zg 7), (zg 8), (zg 9), (zg 10), (zg 11), (zg 12), Value.ref pq])), (pq, .inr (6, [(zpq 0), (zpq 1), (zpq 2), (zpq 3), Value.ref bq, Value.int 16]))] := hD
  refine lv_aload_n hx hb d_V_init_42 rfl (lv_at hl 0 rfl) ?_
  refine va_new (ci := 8) (fs := [Value.null, Value.null, Value.null]) (C := kR_L) (T := kT_L) (N := 3) hx hb hg kin_L kt_L kty_L hown (hg _ tw_162) (hg _ tw_131) (hg _ tw_7) hK hP hD hS hA rfl kdf_L (Nat.le_of_ble_eq_true rfl) (Nat.le_of_ble_eq_true rfl) d_V_init_43 (fun lq H_17 hP hD hS => ?_)
  have hP : va_P (dC, dI) kcl [(v, .inr (5, [Value.ref g, Value.ref pq, Value.ref bq, Value.null, Value.null, Value.null, Value.ref q_2, Value.int 0])), (g, .inr (1, [(zg 0), (zg 1), (zg 2), (zg 3), (zg 4), (zg 5), (zg 6), (zg 7), (zg 8), (zg 9), (zg 10), (zg 11), (zg 12), Value.ref pq])), (pq, .inr (6, [(zpq 0), (zpq 1), (zpq 2), (zpq 3), Value.ref bq, Value.int 16])), (lq, .inr (8, [Value.null, Value.null, Value.null]))] H_17 := hP
  have hD : va_D A [(v, .inr (5, [Value.ref g, Value.ref pq, Value.ref bq, Value.null, Value.null, Value.null, Value.ref q_2, Value.int 0])), (g, .inr (1, [(zg 0), (zg 1), (zg 2), (zg 3), (zg 4), (zg 5), (zg 6), (zg 7), (zg 8), (zg 9), (zg 10), (zg 11), (zg 12), Value.ref pq])), (pq, .inr (6, [(zpq 0), (zpq 1), (zpq 2), (zpq 3), Value.ref bq, Value.int 16])), (lq, .inr (8, [Value.null, Value.null, Value.null]))] := hD
  refine lv_dup hx hb d_V_init_46 rfl ?_
  refine lv_aload_n hx hb d_V_init_47 rfl (lv_at hl 1 rfl) ?_
  have hPc := hP.sub (ws' := [(lq, .inr (8, [Value.null, Value.null, Value.null]))]) [3] rfl
  have hKc := hK.sub (tys' := []) [] rfl
  have hDc := hD.sub (ws' := [(lq, .inr (8, [Value.null, Value.null, Value.null]))]) [3] (by decide) rfl
  have hFc := va_free (wc := [(lq, .inr (8, [Value.null, Value.null, Value.null]))]) hD hS hA [3] rfl
  refine va_callv (va_runI (As := [Value.ref g]) (rest := [Value.ref lq, Value.ref v]) ⟨hx, hb, hml, hown, hg⟩ (c_L_init l dC dI H_17.size lq g) (cwI 1 hg (gw_gi cin_L_init) rfl rfl rfl (hg _ tw_7) (hg _ tw_163) (hg _ tw_133) rfl (by decide +kernel) ⟨Nat.le_of_ble_eq_true rfl, Nat.le_of_ble_eq_true rfl⟩) ⟨fun a U g mk q => by obtain ⟨q0, q1, qP, qK, qD⟩ := q; exact ⟨q0, q1, qP, va_K.moved (u := U) (U := U.calling g mk a) (Vm.Alike.refl U.vm) qK, qD⟩, fun U hU hW => ⟨rfl, by rw [hU], by rw [hU]; exact hPc, va_K.moved hW.alike hKc, hDc.weaken (fun _ _ _ _ => trivial)⟩⟩ rfl rfl hl.1 rfl (lv_room (Nat.le_of_ble_eq_true rfl)) d_V_init_48 ⟨Nat.le_of_ble_eq_true rfl, Nat.le_of_ble_eq_true rfl⟩) hS (fun q _ h => hFc q h) hFc (fun u_k_18 t_k_18 H_19 l_k_18 ht hvm hw_k_18 hB hz1 hk1 hS => ?_)
  obtain ⟨hP, hD⟩ := tx_rest (wc := [(lq, .inr (8, [Value.null, Value.null, Value.null]))]) (wr := [(v, .inr (5, [Value.ref g, Value.ref pq, Value.ref bq, Value.null, Value.null, Value.null, Value.ref q_2, Value.int 0])), (g, .inr (1, [(zg 0), (zg 1), (zg 2), (zg 3), (zg 4), (zg 5), (zg 6), (zg 7), (zg 8), (zg 9), (zg 10), (zg 11), (zg 12), Value.ref pq])), (pq, .inr (6, [(zpq 0), (zpq 1), (zpq 2), (zpq 3), Value.ref bq, Value.int 16]))]) hP hD [3] [0, 1, 2] rfl rfl (by decide) (by decide) hk1 hFc
  have hK := hK.sub (tys' := []) [] rfl
  refine va_putF (D := (dC, dI)) (ci := 5) (v := Value.ref lq) (ty := .object "TreeMatcher$Labels") (C := kR_V) (T := kT_V) (N := 8) hx hb hg kin_V kt_V kty_V knm_V hown hK hP hD hS 0 rfl rfl 3 (by decide) (hg _ tw_169) (fun _ h9 => h9) rfl hin rfl (by decide +kernel) rfl rfl (Nat.le_of_ble_eq_true rfl) d_V_init_51 (fun H_20 lo_21 hP hD hS => ?_)
  have hP : va_P (dC, dI) kcl [(v, .inr (5, [Value.ref g, Value.ref pq, Value.ref bq, Value.ref lq, Value.null, Value.null, Value.ref q_2, Value.int 0])), (g, .inr (1, [(zg 0), (zg 1), (zg 2), (zg 3), (zg 4), (zg 5), (zg 6), (zg 7), (zg 8), (zg 9), (zg 10), (zg 11), (zg 12), Value.ref pq])), (pq, .inr (6, [(zpq 0), (zpq 1), (zpq 2), (zpq 3), Value.ref bq, Value.int 16]))] H_20 := hP
  have hD : va_D A [(v, .inr (5, [Value.ref g, Value.ref pq, Value.ref bq, Value.ref lq, Value.null, Value.null, Value.ref q_2, Value.int 0])), (g, .inr (1, [(zg 0), (zg 1), (zg 2), (zg 3), (zg 4), (zg 5), (zg 6), (zg 7), (zg 8), (zg 9), (zg 10), (zg 11), (zg 12), Value.ref pq])), (pq, .inr (6, [(zpq 0), (zpq 1), (zpq 2), (zpq 3), Value.ref bq, Value.int 16]))] := hD
  refine lv_aload_n hx hb d_V_init_54 rfl (lv_at hl 0 rfl) ?_
  refine lv_iload_n hx hb d_V_init_55 rfl (lv_at hl 2 rfl) ?_
  refine tx_newrows (N' := 61) hx hb hown (hg _ tw_164) hG.2 hP hS (by decide) (by decide +kernel) (by decide) (Nat.le_of_ble_eq_true rfl) (Nat.le_of_ble_eq_true rfl) d_V_init_56 (fun q_22 H_23 hP hS => ?_)
  refine va_putF (D := (dC, dI)) (ci := 5) (v := Value.ref q_22) (ty := .array (.array .long)) (C := kR_V) (T := kT_V) (N := 8) hx hb hg kin_V kt_V kty_V knm_V hown hK hP hD hS 0 rfl rfl 4 (by decide) (hg _ tw_170) (fun _ h9 => h9) rfl hin rfl (by decide +kernel) rfl rfl (Nat.le_of_ble_eq_true rfl) d_V_init_59 (fun H_24 lo_25 hP hD hS => ?_)
  have hP : va_P (dC, dI) kcl [(v, .inr (5, [Value.ref g, Value.ref pq, Value.ref bq, Value.ref lq, Value.ref q_22, Value.null, Value.ref q_2, Value.int 0])), (g, .inr (1, [(zg 0), (zg 1), (zg 2), (zg 3), (zg 4), (zg 5), (zg 6), (zg 7), (zg 8), (zg 9), (zg 10), (zg 11), (zg 12), Value.ref pq])), (pq, .inr (6, [(zpq 0), (zpq 1), (zpq 2), (zpq 3), Value.ref bq, Value.int 16]))] H_24 := hP
  have hD : va_D A [(v, .inr (5, [Value.ref g, Value.ref pq, Value.ref bq, Value.ref lq, Value.ref q_22, Value.null, Value.ref q_2, Value.int 0])), (g, .inr (1, [(zg 0), (zg 1), (zg 2), (zg 3), (zg 4), (zg 5), (zg 6), (zg 7), (zg 8), (zg 9), (zg 10), (zg 11), (zg 12), Value.ref pq])), (pq, .inr (6, [(zpq 0), (zpq 1), (zpq 2), (zpq 3), Value.ref bq, Value.int 16]))] := hD
  refine lv_aload_n hx hb d_V_init_62 rfl (lv_at hl 0 rfl) ?_
  refine lv_iload_n hx hb d_V_init_63 rfl (lv_at hl 2 rfl) ?_
  refine va_newa (atype := .int) (ty := .int) (a0 := (61, .inl (fun _ => 0))) (N' := 61) hx hb (hg _ tw_50) rfl hK hP hD hS hA (fun _ => rfl) (by decide) (by decide +kernel) (by decide) (Nat.le_of_ble_eq_true rfl) (Nat.le_of_ble_eq_true rfl) d_V_init_64 (fun q_27 cq_27 H_26 hK hP hD hS => ?_)
  have hP := hP.sub (ws' := [(v, .inr (5, [Value.ref g, Value.ref pq, Value.ref bq, Value.ref lq, Value.ref q_22, Value.null, Value.ref q_2, Value.int 0])), (g, .inr (1, [(zg 0), (zg 1), (zg 2), (zg 3), (zg 4), (zg 5), (zg 6), (zg 7), (zg 8), (zg 9), (zg 10), (zg 11), (zg 12), Value.ref pq])), (pq, .inr (6, [(zpq 0), (zpq 1), (zpq 2), (zpq 3), Value.ref bq, Value.int 16]))]) [0, 1, 2] rfl
  have hD := hD.sub (ws' := [(v, .inr (5, [Value.ref g, Value.ref pq, Value.ref bq, Value.ref lq, Value.ref q_22, Value.null, Value.ref q_2, Value.int 0])), (g, .inr (1, [(zg 0), (zg 1), (zg 2), (zg 3), (zg 4), (zg 5), (zg 6), (zg 7), (zg 8), (zg 9), (zg 10), (zg 11), (zg 12), Value.ref pq])), (pq, .inr (6, [(zpq 0), (zpq 1), (zpq 2), (zpq 3), Value.ref bq, Value.int 16]))]) [0, 1, 2] (by decide) rfl
  have hK := hK.sub (tys' := []) [] rfl
  refine va_putF (D := (dC, dI)) (ci := 5) (v := Value.ref q_27) (ty := .array .int) (C := kR_V) (T := kT_V) (N := 8) hx hb hg kin_V kt_V kty_V knm_V hown hK hP hD hS 0 rfl rfl 5 (by decide) (hg _ tw_171) (fun _ h9 => h9) rfl hin rfl (by decide +kernel) rfl rfl (Nat.le_of_ble_eq_true rfl) d_V_init_66 (fun H_28 lo_29 hP hD hS => ?_)
  have hP : va_P (dC, dI) kcl [(v, .inr (5, [Value.ref g, Value.ref pq, Value.ref bq, Value.ref lq, Value.ref q_22, Value.ref q_27, Value.ref q_2, Value.int 0])), (g, .inr (1, [(zg 0), (zg 1), (zg 2), (zg 3), (zg 4), (zg 5), (zg 6), (zg 7), (zg 8), (zg 9), (zg 10), (zg 11), (zg 12), Value.ref pq])), (pq, .inr (6, [(zpq 0), (zpq 1), (zpq 2), (zpq 3), Value.ref bq, Value.int 16]))] H_28 := hP
  have hD : va_D A [(v, .inr (5, [Value.ref g, Value.ref pq, Value.ref bq, Value.ref lq, Value.ref q_22, Value.ref q_27, Value.ref q_2, Value.int 0])), (g, .inr (1, [(zg 0), (zg 1), (zg 2), (zg 3), (zg 4), (zg 5), (zg 6), (zg 7), (zg 8), (zg 9), (zg 10), (zg 11), (zg 12), Value.ref pq])), (pq, .inr (6, [(zpq 0), (zpq 1), (zpq 2), (zpq 3), Value.ref bq, Value.int 16]))] := hD
  have hP9 := hP.sub (ws' := [(v, .inr (5, [Value.ref g, Value.ref pq, Value.ref bq, Value.ref lq, Value.ref q_22, Value.ref q_27, Value.ref q_2, Value.int 0])), (g, .inr (1, [(zg 0), (zg 1), (zg 2), (zg 3), (zg 4), (zg 5), (zg 6), (zg 7), (zg 8), (zg 9), (zg 10), (zg 11), (zg 12), Value.ref pq])), (pq, .inr (6, [(zpq 0), (zpq 1), (zpq 2), (zpq 3), Value.ref bq, Value.int 16]))]) [0, 1, 2] rfl
  have hD9 := hD.sub (ws' := [(v, .inr (5, [Value.ref g, Value.ref pq, Value.ref bq, Value.ref lq, Value.ref q_22, Value.ref q_27, Value.ref q_2, Value.int 0])), (g, .inr (1, [(zg 0), (zg 1), (zg 2), (zg 3), (zg 4), (zg 5), (zg 6), (zg 7), (zg 8), (zg 9), (zg 10), (zg 11), (zg 12), Value.ref pq])), (pq, .inr (6, [(zpq 0), (zpq 1), (zpq 2), (zpq 3), Value.ref bq, Value.int 16]))]) [0, 1, 2] (by decide) rfl
  have hK9 := hK.sub (tys' := []) [] rfl
  exact W.vret hx hb hr (fun t ht hW => ⟨⟨(), rfl, trivial, ⟨(fun i => List.getD [Value.ref g, Value.ref pq, Value.ref bq, Value.ref lq, Value.ref q_22, Value.ref q_27, Value.ref q_2, Value.int (0 : Int32)] i Value.null), by rw [ht]; exact hP9, va_K.moved hW.alike hK9, hD9⟩⟩, hS.F ht⟩) hS.2.2 d_V_init_69
set_option maxHeartbeats 4000000 in
set_option maxRecDepth 100000 in
theorem c_C_init (l : Launch) (dC : Nat → ClassId) (dI : Nat → Nat → Nat) (sz : Nat) (cq g f : Nat) : Met l y_C_init ws_C_init ({ frames := 1, cells := 3, slots := 4200, locals := 12 }) (va_Pc [Value.ref cq, Value.ref g, Value.ref f] (fun U => U.heap.size = sz ∧ va_P (dC, dI) kcl [(cq, .inr (3, [Value.null, Value.null, Value.null, Value.null, Value.null, Value.int 0, Value.int 0]))] U.heap ∧ va_K (dC, dI) kcl [] U ∧ va_D (fun _ => True) [(cq, .inr (3, [Value.null, Value.null, Value.null, Value.null, Value.null, Value.int 0, Value.int 0]))])) (va_Qv (fun (_ : Unit) => True) (fun (_ : Unit) (t : State) => ∃ (zcq : Nat → Value), va_P (dC, dI) kcl [(cq, .inr (3, [(zcq 0), (zcq 1), (zcq 2), (zcq 3), (zcq 4), (zcq 5), Value.int 0]))] t.heap ∧ va_K (dC, dI) kcl [] t ∧ va_D (va_A [(cq, .inr (3, [Value.null, Value.null, Value.null, Value.null, Value.null, Value.int 0, Value.int 0]))] sz) [(cq, .inr (3, [(zcq 0), (zcq 1), (zcq 2), (zcq 3), (zcq 4), (zcq 5), Value.int 0]))]) (va_A [(cq, .inr (3, [Value.null, Value.null, Value.null, Value.null, Value.null, Value.int 0, Value.int 0]))] sz)) 3 4200 (va_A [(cq, .inr (3, [Value.null, Value.null, Value.null, Value.null, Value.null, Value.int 0, Value.int 0]))] sz) := by
  refine Met.ofW (cc := b_C_init) (maxL := 3) (ret := (Option.none : Option Jvm.ClassFile.FieldType)) (by decide) rfl ?_
  intro p e s m args below meth c s₁ B hml hv
  obtain ⟨rfl, hsz, hP, hK, hD0⟩ := hv
  have hx := B.exec
  have hb := B.bytes
  have hr := B.returns
  have hlocks := B.notSynchronized
  have hg : ∀ w ∈ gw, w.before _ s = true := fun w h => atoms_spec (ws := ws_C_init) B.pre w (List.mem_cons_of_mem _ h)
  have hown : s.vm.findClass "TreeMatcher$Covering" = some m.cls := findClass_of_methodNamed B.named
  have hin : meth.name = "<init>" := (name_of_methodNamed B.named B.method).1
  subst hsz
  have hD := hD0.self (sz := s.heap.size)
  have hA : ∀ q : Nat, s.heap.size ≤ q → va_A [(cq, .inr (3, [Value.null, Value.null, Value.null, Value.null, Value.null, Value.int 0, Value.int 0]))] s.heap.size q := fun q h => Or.inr h
  generalize hAe : va_A [(cq, .inr (3, [Value.null, Value.null, Value.null, Value.null, Value.null, Value.int 0, Value.int 0]))] s.heap.size = A at hD hA ⊢
  have hS : va_S A s.heap s.heap [] := va_S.rf
  have hl := lv_entry ([Value.ref cq, Value.ref g, Value.ref f] : List Value) (n := 3) (Nat.le_of_ble_eq_true rfl)
  rw [lg_entry_eq]
  generalize (lg_sl ([Value.ref cq, Value.ref g, Value.ref f] : List Value) ++ List.replicate (3 - (lg_sl ([Value.ref cq, Value.ref g, Value.ref f] : List Value)).length) Slot.unset).toArray = ls at hl ⊢
  have hl : lv_has ls 3 [(0, Value.ref cq), (1, Value.ref g), (2, Value.ref f)] := hl
  refine lv_aload_n hx hb d_C_init_0 rfl (lv_at hl 0 rfl) ?_
  refine W.objInit hx hb hown (hg _ tw_239) (hg _ tw_26) (hg _ tw_27) rfl (by rw [hml]; exact hl.1) rfl d_C_init_1 (Nat.le_of_ble_eq_true rfl) (Nat.le_of_ble_eq_true rfl) ?_
  refine W.eq (g2 := F0 m 4 ls []) rfl ?_
  refine lv_aload_n hx hb d_C_init_4 rfl (lv_at hl 0 rfl) ?_
  refine lv_sipush (v := 2000) hx hb d_C_init_5 (by decide) ?_
  refine va_newa (atype := .int) (ty := .int) (a0 := (2000, .inl (fun _ => 0))) (N' := 2000) hx hb (hg _ tw_50) rfl hK hP hD hS hA (fun _ => rfl) (by decide) (by decide +kernel) (by decide) (Nat.le_of_ble_eq_true rfl) (Nat.le_of_ble_eq_true rfl) d_C_init_8 (fun q_2 cq_2 H_1 hK hP hD hS => ?_)
  have hP := hP.sub (ws' := [(cq, .inr (3, [Value.null, Value.null, Value.null, Value.null, Value.null, Value.int 0, Value.int 0]))]) [0] rfl
  have hD := hD.sub (ws' := [(cq, .inr (3, [Value.null, Value.null, Value.null, Value.null, Value.null, Value.int 0, Value.int 0]))]) [0] (by decide) rfl
  have hK := hK.sub (tys' := []) [] rfl
  refine va_putF (D := (dC, dI)) (ci := 3) (v := Value.ref q_2) (ty := .array .int) (C := kR_C) (T := kT_C) (N := 7) hx hb hg kin_C kt_C kty_C knm_C hown hK hP hD hS 0 rfl rfl 2 (by decide) (hg _ tw_242) (fun _ h9 => h9) rfl hin rfl (by decide +kernel) rfl rfl (Nat.le_of_ble_eq_true rfl) d_C_init_10 (fun H_3 lo_4 hP hD hS => ?_)
  have hP : va_P (dC, dI) kcl [(cq, .inr (3, [Value.null, Value.null, Value.ref q_2, Value.null, Value.null, Value.int 0, Value.int 0]))] H_3 := hP
  have hD : va_D A [(cq, .inr (3, [Value.null, Value.null, Value.ref q_2, Value.null, Value.null, Value.int 0, Value.int 0]))] := hD
  refine lv_aload_n hx hb d_C_init_13 rfl (lv_at hl 0 rfl) ?_
  refine lv_sipush (v := 2000) hx hb d_C_init_14 (by decide) ?_
  refine va_newa (atype := .int) (ty := .int) (a0 := (2000, .inl (fun _ => 0))) (N' := 2000) hx hb (hg _ tw_50) rfl hK hP hD hS hA (fun _ => rfl) (by decide) (by decide +kernel) (by decide) (Nat.le_of_ble_eq_true rfl) (Nat.le_of_ble_eq_true rfl) d_C_init_17 (fun q_6 cq_6 H_5 hK hP hD hS => ?_)
  have hP := hP.sub (ws' := [(cq, .inr (3, [Value.null, Value.null, Value.ref q_2, Value.null, Value.null, Value.int 0, Value.int 0]))]) [0] rfl
  have hD := hD.sub (ws' := [(cq, .inr (3, [Value.null, Value.null, Value.ref q_2, Value.null, Value.null, Value.int 0, Value.int 0]))]) [0] (by decide) rfl
  have hK := hK.sub (tys' := []) [] rfl
  refine va_putF (D := (dC, dI)) (ci := 3) (v := Value.ref q_6) (ty := .array .int) (C := kR_C) (T := kT_C) (N := 7) hx hb hg kin_C kt_C kty_C knm_C hown hK hP hD hS 0 rfl rfl 3 (by decide) (hg _ tw_243) (fun _ h9 => h9) rfl hin rfl (by decide +kernel) rfl rfl (Nat.le_of_ble_eq_true rfl) d_C_init_19 (fun H_7 lo_8 hP hD hS => ?_)
  have hP : va_P (dC, dI) kcl [(cq, .inr (3, [Value.null, Value.null, Value.ref q_2, Value.ref q_6, Value.null, Value.int 0, Value.int 0]))] H_7 := hP
  have hD : va_D A [(cq, .inr (3, [Value.null, Value.null, Value.ref q_2, Value.ref q_6, Value.null, Value.int 0, Value.int 0]))] := hD
  refine lv_aload_n hx hb d_C_init_22 rfl (lv_at hl 0 rfl) ?_
  refine lv_sipush (v := 200) hx hb d_C_init_23 (by decide) ?_
  refine va_newa (atype := .int) (ty := .int) (a0 := (200, .inl (fun _ => 0))) (N' := 200) hx hb (hg _ tw_50) rfl hK hP hD hS hA (fun _ => rfl) (by decide) (by decide +kernel) (by decide) (Nat.le_of_ble_eq_true rfl) (Nat.le_of_ble_eq_true rfl) d_C_init_26 (fun q_10 cq_10 H_9 hK hP hD hS => ?_)
  have hP := hP.sub (ws' := [(cq, .inr (3, [Value.null, Value.null, Value.ref q_2, Value.ref q_6, Value.null, Value.int 0, Value.int 0]))]) [0] rfl
  have hD := hD.sub (ws' := [(cq, .inr (3, [Value.null, Value.null, Value.ref q_2, Value.ref q_6, Value.null, Value.int 0, Value.int 0]))]) [0] (by decide) rfl
  have hK := hK.sub (tys' := []) [] rfl
  refine va_putF (D := (dC, dI)) (ci := 3) (v := Value.ref q_10) (ty := .array .int) (C := kR_C) (T := kT_C) (N := 7) hx hb hg kin_C kt_C kty_C knm_C hown hK hP hD hS 0 rfl rfl 4 (by decide) (hg _ tw_244) (fun _ h9 => h9) rfl hin rfl (by decide +kernel) rfl rfl (Nat.le_of_ble_eq_true rfl) d_C_init_28 (fun H_11 lo_12 hP hD hS => ?_)
  have hP : va_P (dC, dI) kcl [(cq, .inr (3, [Value.null, Value.null, Value.ref q_2, Value.ref q_6, Value.ref q_10, Value.int 0, Value.int 0]))] H_11 := hP
  have hD : va_D A [(cq, .inr (3, [Value.null, Value.null, Value.ref q_2, Value.ref q_6, Value.ref q_10, Value.int 0, Value.int 0]))] := hD
  refine lv_aload_n hx hb d_C_init_31 rfl (lv_at hl 0 rfl) ?_
  refine lv_iconst (v := 0) hx hb d_C_init_32 (by decide) ?_
  refine va_put (D := (dC, dI)) (ci := 3) (v := Value.int 0) (ty := .int) (C := kR_C) (T := kT_C) (N := 7) hx hb hg kin_C kt_C kty_C knm_C hown hK hP hD hS 0 rfl rfl 5 (by decide) (hg _ tw_245) (fun _ h9 => h9) rfl (by decide +kernel) rfl rfl (Nat.le_of_ble_eq_true rfl) d_C_init_33 (fun H_13 lo_14 hP hD hS => ?_)
  have hP : va_P (dC, dI) kcl [(cq, .inr (3, [Value.null, Value.null, Value.ref q_2, Value.ref q_6, Value.ref q_10, Value.int 0, Value.int 0]))] H_13 := hP
  have hD : va_D A [(cq, .inr (3, [Value.null, Value.null, Value.ref q_2, Value.ref q_6, Value.ref q_10, Value.int 0, Value.int 0]))] := hD
  refine lv_aload_n hx hb d_C_init_36 rfl (lv_at hl 0 rfl) ?_
  refine lv_iconst (v := 0) hx hb d_C_init_37 (by decide) ?_
  refine va_put (D := (dC, dI)) (ci := 3) (v := Value.int 0) (ty := .int) (C := kR_C) (T := kT_C) (N := 7) hx hb hg kin_C kt_C kty_C knm_C hown hK hP hD hS 0 rfl rfl 6 (by decide) (hg _ tw_246) (fun _ h9 => h9) rfl (by decide +kernel) rfl rfl (Nat.le_of_ble_eq_true rfl) d_C_init_38 (fun H_15 lo_16 hP hD hS => ?_)
  have hP : va_P (dC, dI) kcl [(cq, .inr (3, [Value.null, Value.null, Value.ref q_2, Value.ref q_6, Value.ref q_10, Value.int 0, Value.int 0]))] H_15 := hP
  have hD : va_D A [(cq, .inr (3, [Value.null, Value.null, Value.ref q_2, Value.ref q_6, Value.ref q_10, Value.int 0, Value.int 0]))] := hD
  refine lv_aload_n hx hb d_C_init_41 rfl (lv_at hl 0 rfl) ?_
  refine lv_aload_n hx hb d_C_init_42 rfl (lv_at hl 1 rfl) ?_
  refine va_putF (D := (dC, dI)) (ci := 3) (v := Value.ref g) (ty := .object "TreeMatcher$Grammar") (C := kR_C) (T := kT_C) (N := 7) hx hb hg kin_C kt_C kty_C knm_C hown hK hP hD hS 0 rfl rfl 0 (by decide) (hg _ tw_240) (fun _ h9 => h9) rfl hin rfl (by decide +kernel) rfl rfl (Nat.le_of_ble_eq_true rfl) d_C_init_43 (fun H_17 lo_18 hP hD hS => ?_)
  have hP : va_P (dC, dI) kcl [(cq, .inr (3, [Value.ref g, Value.null, Value.ref q_2, Value.ref q_6, Value.ref q_10, Value.int 0, Value.int 0]))] H_17 := hP
  have hD : va_D A [(cq, .inr (3, [Value.ref g, Value.null, Value.ref q_2, Value.ref q_6, Value.ref q_10, Value.int 0, Value.int 0]))] := hD
  refine lv_aload_n hx hb d_C_init_46 rfl (lv_at hl 0 rfl) ?_
  refine lv_aload_n hx hb d_C_init_47 rfl (lv_at hl 2 rfl) ?_
  refine va_putF (D := (dC, dI)) (ci := 3) (v := Value.ref f) (ty := .object "TreeMatcher$Forest") (C := kR_C) (T := kT_C) (N := 7) hx hb hg kin_C kt_C kty_C knm_C hown hK hP hD hS 0 rfl rfl 1 (by decide) (hg _ tw_241) (fun _ h9 => h9) rfl hin rfl (by decide +kernel) rfl rfl (Nat.le_of_ble_eq_true rfl) d_C_init_48 (fun H_19 lo_20 hP hD hS => ?_)
  have hP : va_P (dC, dI) kcl [(cq, .inr (3, [Value.ref g, Value.ref f, Value.ref q_2, Value.ref q_6, Value.ref q_10, Value.int 0, Value.int 0]))] H_19 := hP
  have hD : va_D A [(cq, .inr (3, [Value.ref g, Value.ref f, Value.ref q_2, Value.ref q_6, Value.ref q_10, Value.int 0, Value.int 0]))] := hD
  have hP9 := hP.sub (ws' := [(cq, .inr (3, [Value.ref g, Value.ref f, Value.ref q_2, Value.ref q_6, Value.ref q_10, Value.int 0, Value.int 0]))]) [0] rfl
  have hD9 := hD.sub (ws' := [(cq, .inr (3, [Value.ref g, Value.ref f, Value.ref q_2, Value.ref q_6, Value.ref q_10, Value.int 0, Value.int 0]))]) [0] (by decide) rfl
  have hK9 := hK.sub (tys' := []) [] rfl
  exact W.vret hx hb hr (fun t ht hW => ⟨⟨(), rfl, trivial, ⟨(fun i => List.getD [Value.ref g, Value.ref f, Value.ref q_2, Value.ref q_6, Value.ref q_10, Value.int (0 : Int32), Value.int (0 : Int32)] i Value.null), by rw [ht]; exact hP9, va_K.moved hW.alike hK9, hD9⟩⟩, hS.F ht⟩) hS.2.2 d_C_init_51
set_option maxHeartbeats 4000000 in
set_option maxRecDepth 100000 in
theorem c_Y_init (l : Launch) (dC : Nat → ClassId) (dI : Nat → Nat → Nat) (sz : Nat) (y g pq bq : Nat) (zg : Nat → Value) (zpq : Nat → Value) : Met l y_Y_init ws_Y_init ({ frames := 3, cells := 7, slots := 949, locals := 55 }) (va_Pc [Value.ref y, Value.ref g] (fun U => U.heap.size = sz ∧ va_P (dC, dI) kcl [(y, .inr (4, [Value.null, Value.null, Value.int 0, Value.int 0])), (g, .inr (1, [(zg 0), (zg 1), (zg 2), (zg 3), (zg 4), (zg 5), (zg 6), (zg 7), (zg 8), (zg 9), (zg 10), (zg 11), (zg 12), Value.ref pq])), (pq, .inr (6, [(zpq 0), (zpq 1), (zpq 2), (zpq 3), Value.ref bq, Value.int 16]))] U.heap ∧ va_K (dC, dI) kcl [] U ∧ va_D (fun _ => True) [(y, .inr (4, [Value.null, Value.null, Value.int 0, Value.int 0])), (g, .inr (1, [(zg 0), (zg 1), (zg 2), (zg 3), (zg 4), (zg 5), (zg 6), (zg 7), (zg 8), (zg 9), (zg 10), (zg 11), (zg 12), Value.ref pq])), (pq, .inr (6, [(zpq 0), (zpq 1), (zpq 2), (zpq 3), Value.ref bq, Value.int 16]))] ∧ tx_C U)) (va_Qv (fun (_ : Unit) => True) (fun (_ : Unit) (t : State) => ∃ (v : Nat) (zv : Nat → Value), va_P (dC, dI) kcl [(y, .inr (4, [Value.ref g, Value.ref v, Value.int 0, Value.int 0])), (v, .inr (5, [(zv 0), (zv 1), (zv 2), (zv 3), (zv 4), (zv 5), (zv 6), Value.int 0])), (g, .inr (1, [(zg 0), (zg 1), (zg 2), (zg 3), (zg 4), (zg 5), (zg 6), (zg 7), (zg 8), (zg 9), (zg 10), (zg 11), (zg 12), Value.ref pq])), (pq, .inr (6, [(zpq 0), (zpq 1), (zpq 2), (zpq 3), Value.ref bq, Value.int 16]))] t.heap ∧ va_K (dC, dI) kcl [] t ∧ va_D (va_A [(y, .inr (4, [Value.null, Value.null, Value.int 0, Value.int 0])), (g, .inr (1, [(zg 0), (zg 1), (zg 2), (zg 3), (zg 4), (zg 5), (zg 6), (zg 7), (zg 8), (zg 9), (zg 10), (zg 11), (zg 12), Value.ref pq])), (pq, .inr (6, [(zpq 0), (zpq 1), (zpq 2), (zpq 3), Value.ref bq, Value.int 16]))] sz) [(y, .inr (4, [Value.ref g, Value.ref v, Value.int 0, Value.int 0])), (v, .inr (5, [(zv 0), (zv 1), (zv 2), (zv 3), (zv 4), (zv 5), (zv 6), Value.int 0])), (g, .inr (1, [(zg 0), (zg 1), (zg 2), (zg 3), (zg 4), (zg 5), (zg 6), (zg 7), (zg 8), (zg 9), (zg 10), (zg 11), (zg 12), Value.ref pq])), (pq, .inr (6, [(zpq 0), (zpq 1), (zpq 2), (zpq 3), Value.ref bq, Value.int 16]))]) (va_A [(y, .inr (4, [Value.null, Value.null, Value.int 0, Value.int 0])), (g, .inr (1, [(zg 0), (zg 1), (zg 2), (zg 3), (zg 4), (zg 5), (zg 6), (zg 7), (zg 8), (zg 9), (zg 10), (zg 11), (zg 12), Value.ref pq])), (pq, .inr (6, [(zpq 0), (zpq 1), (zpq 2), (zpq 3), Value.ref bq, Value.int 16]))] sz)) 7 949 (va_A [(y, .inr (4, [Value.null, Value.null, Value.int 0, Value.int 0])), (g, .inr (1, [(zg 0), (zg 1), (zg 2), (zg 3), (zg 4), (zg 5), (zg 6), (zg 7), (zg 8), (zg 9), (zg 10), (zg 11), (zg 12), Value.ref pq])), (pq, .inr (6, [(zpq 0), (zpq 1), (zpq 2), (zpq 3), Value.ref bq, Value.int 16]))] sz) := by
  refine Met.ofW (cc := b_Y_init) (maxL := 2) (ret := (Option.none : Option Jvm.ClassFile.FieldType)) (by decide) rfl ?_
  intro p e s m args below meth c s₁ B hml hv
  obtain ⟨rfl, hsz, hP, hK, hD0, hG⟩ := hv
  have hx := B.exec
  have hb := B.bytes
  have hr := B.returns
  have hlocks := B.notSynchronized
  have hg : ∀ w ∈ gw, w.before _ s = true := fun w h => atoms_spec (ws := ws_Y_init) B.pre w (List.mem_cons_of_mem _ h)
  have hown : s.vm.findClass "TreeMatcher$Tally" = some m.cls := findClass_of_methodNamed B.named
  have hin : meth.name = "<init>" := (name_of_methodNamed B.named B.method).1
  subst hsz
  have hD := hD0.self (sz := s.heap.size)
  have hA : ∀ q : Nat, s.heap.size ≤ q → va_A [(y, .inr (4, [Value.null, Value.null, Value.int 0, Value.int 0])), (g, .inr (1, [(zg 0), (zg 1), (zg 2), (zg 3), (zg 4), (zg 5), (zg 6), (zg 7), (zg 8), (zg 9), (zg 10), (zg 11), (zg 12), Value.ref pq])), (pq, .inr (6, [(zpq 0), (zpq 1), (zpq 2), (zpq 3), Value.ref bq, Value.int 16]))] s.heap.size q := fun q h => Or.inr h
  generalize hAe : va_A [(y, .inr (4, [Value.null, Value.null, Value.int 0, Value.int 0])), (g, .inr (1, [(zg 0), (zg 1), (zg 2), (zg 3), (zg 4), (zg 5), (zg 6), (zg 7), (zg 8), (zg 9), (zg 10), (zg 11), (zg 12), Value.ref pq])), (pq, .inr (6, [(zpq 0), (zpq 1), (zpq 2), (zpq 3), Value.ref bq, Value.int 16]))] s.heap.size = A at hD hA ⊢
  have hN : tx_N s := hG.1
  have hS : va_S A s.heap s.heap [] := va_S.rf
  have hl := lv_entry ([Value.ref y, Value.ref g] : List Value) (n := 2) (Nat.le_of_ble_eq_true rfl)
  rw [lg_entry_eq]
  generalize (lg_sl ([Value.ref y, Value.ref g] : List Value) ++ List.replicate (2 - (lg_sl ([Value.ref y, Value.ref g] : List Value)).length) Slot.unset).toArray = ls at hl ⊢
  have hl : lv_has ls 2 [(0, Value.ref y), (1, Value.ref g)] := hl
  refine lv_aload_n hx hb d_Y_init_0 rfl (lv_at hl 0 rfl) ?_
  refine W.objInit hx hb hown (hg _ tw_267) (hg _ tw_26) (hg _ tw_27) rfl (by rw [hml]; exact hl.1) rfl d_Y_init_1 (Nat.le_of_ble_eq_true rfl) (Nat.le_of_ble_eq_true rfl) ?_
  refine W.eq (g2 := F0 m 4 ls []) rfl ?_
  refine lv_aload_n hx hb d_Y_init_4 rfl (lv_at hl 0 rfl) ?_
  refine lv_iconst (v := 0) hx hb d_Y_init_5 (by decide) ?_
  refine va_put (D := (dC, dI)) (ci := 4) (v := Value.int 0) (ty := .int) (C := kR_Y) (T := kT_Y) (N := 4) hx hb hg kin_Y kt_Y kty_Y knm_Y hown hK hP hD hS 0 rfl rfl 2 (by decide) (hg _ tw_272) (fun _ h9 => h9) rfl (by decide +kernel) rfl rfl (Nat.le_of_ble_eq_true rfl) d_Y_init_6 (fun H_1 lo_2 hP hD hS => ?_)
  have hP : va_P (dC, dI) kcl [(y, .inr (4, [Value.null, Value.null, Value.int 0, Value.int 0])), (g, .inr (1, [(zg 0), (zg 1), (zg 2), (zg 3), (zg 4), (zg 5), (zg 6), (zg 7), (zg 8), (zg 9), (zg 10), (zg 11), (zg 12), Value.ref pq])), (pq, .inr (6, [(zpq 0), (zpq 1), (zpq 2), (zpq 3), Value.ref bq, Value.int 16]))] H_1 := hP
  have hD : va_D A [(y, .inr (4, [Value.null, Value.null, Value.int 0, Value.int 0])), (g, .inr (1, [(zg 0), (zg 1), (zg 2), (zg 3), (zg 4), (zg 5), (zg 6), (zg 7), (zg 8), (zg 9), (zg 10), (zg 11), (zg 12), Value.ref pq])), (pq, .inr (6, [(zpq 0), (zpq 1), (zpq 2), (zpq 3), Value.ref bq, Value.int 16]))] := hD
  refine lv_aload_n hx hb d_Y_init_9 rfl (lv_at hl 0 rfl) ?_
  refine lv_iconst (v := 0) hx hb d_Y_init_10 (by decide) ?_
  refine va_put (D := (dC, dI)) (ci := 4) (v := Value.int 0) (ty := .int) (C := kR_Y) (T := kT_Y) (N := 4) hx hb hg kin_Y kt_Y kty_Y knm_Y hown hK hP hD hS 0 rfl rfl 3 (by decide) (hg _ tw_273) (fun _ h9 => h9) rfl (by decide +kernel) rfl rfl (Nat.le_of_ble_eq_true rfl) d_Y_init_11 (fun H_3 lo_4 hP hD hS => ?_)
  have hP : va_P (dC, dI) kcl [(y, .inr (4, [Value.null, Value.null, Value.int 0, Value.int 0])), (g, .inr (1, [(zg 0), (zg 1), (zg 2), (zg 3), (zg 4), (zg 5), (zg 6), (zg 7), (zg 8), (zg 9), (zg 10), (zg 11), (zg 12), Value.ref pq])), (pq, .inr (6, [(zpq 0), (zpq 1), (zpq 2), (zpq 3), Value.ref bq, Value.int 16]))] H_3 := hP
  have hD : va_D A [(y, .inr (4, [Value.null, Value.null, Value.int 0, Value.int 0])), (g, .inr (1, [(zg 0), (zg 1), (zg 2), (zg 3), (zg 4), (zg 5), (zg 6), (zg 7), (zg 8), (zg 9), (zg 10), (zg 11), (zg 12), Value.ref pq])), (pq, .inr (6, [(zpq 0), (zpq 1), (zpq 2), (zpq 3), Value.ref bq, Value.int 16]))] := hD
  refine lv_aload_n hx hb d_Y_init_14 rfl (lv_at hl 0 rfl) ?_
  refine lv_aload_n hx hb d_Y_init_15 rfl (lv_at hl 1 rfl) ?_
  refine va_putF (D := (dC, dI)) (ci := 4) (v := Value.ref g) (ty := .object "TreeMatcher$Grammar") (C := kR_Y) (T := kT_Y) (N := 4) hx hb hg kin_Y kt_Y kty_Y knm_Y hown hK hP hD hS 0 rfl rfl 0 (by decide) (hg _ tw_270) (fun _ h9 => h9) rfl hin rfl (by decide +kernel) rfl rfl (Nat.le_of_ble_eq_true rfl) d_Y_init_16 (fun H_5 lo_6 hP hD hS => ?_)
  have hP : va_P (dC, dI) kcl [(y, .inr (4, [Value.ref g, Value.null, Value.int 0, Value.int 0])), (g, .inr (1, [(zg 0), (zg 1), (zg 2), (zg 3), (zg 4), (zg 5), (zg 6), (zg 7), (zg 8), (zg 9), (zg 10), (zg 11), (zg 12), Value.ref pq])), (pq, .inr (6, [(zpq 0), (zpq 1), (zpq 2), (zpq 3), Value.ref bq, Value.int 16]))] H_5 := hP
  have hD : va_D A [(y, .inr (4, [Value.ref g, Value.null, Value.int 0, Value.int 0])), (g, .inr (1, [(zg 0), (zg 1), (zg 2), (zg 3), (zg 4), (zg 5), (zg 6), (zg 7), (zg 8), (zg 9), (zg 10), (zg 11), (zg 12), Value.ref pq])), (pq, .inr (6, [(zpq 0), (zpq 1), (zpq 2), (zpq 3), Value.ref bq, Value.int 16]))] := hD
  refine lv_aload_n hx hb d_Y_init_19 rfl (lv_at hl 0 rfl) ?_
  refine va_new (ci := 5) (fs := [Value.null, Value.null, Value.null, Value.null, Value.null, Value.null, Value.null, Value.int 0]) (C := kR_V) (T := kT_V) (N := 8) hx hb hg kin_V kt_V kty_V hown (hg _ tw_268) (hg _ tw_149) (hg _ tw_8) hK hP hD hS hA rfl kdf_V (Nat.le_of_ble_eq_true rfl) (Nat.le_of_ble_eq_true rfl) d_Y_init_20 (fun v H_7 hP hD hS => ?_)
  have hP : va_P (dC, dI) kcl [(y, .inr (4, [Value.ref g, Value.null, Value.int 0, Value.int 0])), (g, .inr (1, [(zg 0), (zg 1), (zg 2), (zg 3), (zg 4), (zg 5), (zg 6), (zg 7), (zg 8), (zg 9), (zg 10), (zg 11), (zg 12), Value.ref pq])), (pq, .inr (6, [(zpq 0), (zpq 1), (zpq 2), (zpq 3), Value.ref bq, Value.int 16])), (v, .inr (5, [Value.null, Value.null, Value.null, Value.null, Value.null, Value.null, Value.null, Value.int 0]))] H_7 := hP
  have hD : va_D A [(y, .inr (4, [Value.ref g, Value.null, Value.int 0, Value.int 0])), (g, .inr (1, [(zg 0), (zg 1), (zg 2), (zg 3), (zg 4), (zg 5), (zg 6), (zg 7), (zg 8), (zg 9), (zg 10), (zg 11), (zg 12), Value.ref pq])), (pq, .inr (6, [(zpq 0), (zpq 1), (zpq 2), (zpq 3), Value.ref bq, Value.int 16])), (v, .inr (5, [Value.null, Value.null, Value.null, Value.null, Value.null, Value.null, Value.null, Value.int 0]))] := hD
  refine lv_dup hx hb d_Y_init_23 rfl ?_
  refine lv_aload_n hx hb d_Y_init_24 rfl (lv_at hl 1 rfl) ?_
  refine lv_bipush (v := 61) hx hb d_Y_init_25 (by decide) ?_
  have hPc := hP.sub (ws' := [(v, .inr (5, [Value.null, Value.null, Value.null, Value.null, Value.null, Value.null, Value.null, Value.int 0])), (g, .inr (1, [(zg 0), (zg 1), (zg 2), (zg 3), (zg 4), (zg 5), (zg 6), (zg 7), (zg 8), (zg 9), (zg 10), (zg 11), (zg 12), Value.ref pq])), (pq, .inr (6, [(zpq 0), (zpq 1), (zpq 2), (zpq 3), Value.ref bq, Value.int 16]))]) [3, 1, 2] rfl
  have hKc := hK.sub (tys' := []) [] rfl
  have hDc := hD.sub (ws' := [(v, .inr (5, [Value.null, Value.null, Value.null, Value.null, Value.null, Value.null, Value.null, Value.int 0])), (g, .inr (1, [(zg 0), (zg 1), (zg 2), (zg 3), (zg 4), (zg 5), (zg 6), (zg 7), (zg 8), (zg 9), (zg 10), (zg 11), (zg 12), Value.ref pq])), (pq, .inr (6, [(zpq 0), (zpq 1), (zpq 2), (zpq 3), Value.ref bq, Value.int 16]))]) [3, 1, 2] (by decide) rfl
  have hFc := va_free (wc := [(v, .inr (5, [Value.null, Value.null, Value.null, Value.null, Value.null, Value.null, Value.null, Value.int 0])), (g, .inr (1, [(zg 0), (zg 1), (zg 2), (zg 3), (zg 4), (zg 5), (zg 6), (zg 7), (zg 8), (zg 9), (zg 10), (zg 11), (zg 12), Value.ref pq])), (pq, .inr (6, [(zpq 0), (zpq 1), (zpq 2), (zpq 3), Value.ref bq, Value.int 16]))]) hD hS hA [3, 1, 2] rfl
  refine va_callv (va_runI (As := [Value.ref g, Value.int 61]) (rest := [Value.ref v, Value.ref y]) ⟨hx, hb, hml, hown, hg⟩ (c_V_init_61 l dC dI H_7.size v g pq bq zg zpq) (cwI 2 hg (gw_gi cin_V_init) rfl rfl rfl (hg _ tw_8) (hg _ tw_269) (hg _ tw_151) rfl (by decide +kernel) ⟨Nat.le_of_ble_eq_true rfl, Nat.le_of_ble_eq_true rfl⟩) ⟨fun a U g mk q => by obtain ⟨q0, q1, qP, qK, qD, qG⟩ := q; exact ⟨q0, q1, qP, va_K.moved (u := U) (U := U.calling g mk a) (Vm.Alike.refl U.vm) qK, qD, tx_C.same (U := U.calling g mk a) rfl qG⟩, fun U hU hW => ⟨rfl, by rw [hU], by rw [hU]; exact hPc, va_K.moved hW.alike hKc, hDc.weaken (fun _ _ _ _ => trivial), hG.warm hW⟩⟩ rfl rfl hl.1 rfl (lv_room (Nat.le_of_ble_eq_true rfl)) d_Y_init_27 ⟨Nat.le_of_ble_eq_true rfl, Nat.le_of_ble_eq_true rfl⟩) hS (fun q _ h => hFc q h) hFc (fun u_k_8 t_k_8 H_9 l_k_8 ht hvm hw_k_8 hB hz1 hk1 hS => ?_)
  obtain ⟨zv, hP1, hK1, hD1⟩ := hB
  rw [ht] at hP1
  have hK1 := va_K.moved hvm.symm hK1
  obtain ⟨hP, hD⟩ := va_join (wr := [(y, .inr (4, [Value.ref g, Value.null, Value.int 0, Value.int 0]))]) (w1 := [(v, .inr (5, [(zv 0), (zv 1), (zv 2), (zv 3), (zv 4), (zv 5), (zv 6), Value.int 0])), (g, .inr (1, [(zg 0), (zg 1), (zg 2), (zg 3), (zg 4), (zg 5), (zg 6), (zg 7), (zg 8), (zg 9), (zg 10), (zg 11), (zg 12), Value.ref pq])), (pq, .inr (6, [(zpq 0), (zpq 1), (zpq 2), (zpq 3), Value.ref bq, Value.int 16]))]) hP hD [3, 1, 2] [0] rfl rfl (by decide) (by decide) hk1 hFc hP1 hD1
  have hK := (hK.sub (tys' := []) [] rfl).app hK1
  have hP : va_P (dC, dI) kcl [(y, .inr (4, [Value.ref g, Value.null, Value.int 0, Value.int 0])), (v, .inr (5, [(zv 0), (zv 1), (zv 2), (zv 3), (zv 4), (zv 5), (zv 6), Value.int 0])), (g, .inr (1, [(zg 0), (zg 1), (zg 2), (zg 3), (zg 4), (zg 5), (zg 6), (zg 7), (zg 8), (zg 9), (zg 10), (zg 11), (zg 12), Value.ref pq])), (pq, .inr (6, [(zpq 0), (zpq 1), (zpq 2), (zpq 3), Value.ref bq, Value.int 16]))] H_9 := hP
  have hD : va_D A [(y, .inr (4, [Value.ref g, Value.null, Value.int 0, Value.int 0])), (v, .inr (5, [(zv 0), (zv 1), (zv 2), (zv 3), (zv 4), (zv 5), (zv 6), Value.int 0])), (g, .inr (1, [(zg 0), (zg 1), (zg 2), (zg 3), (zg 4), (zg 5), (zg 6), (zg 7), (zg 8), (zg 9), (zg 10), (zg 11), (zg 12), Value.ref pq])), (pq, .inr (6, [(zpq 0), (zpq 1), (zpq 2), (zpq 3), Value.ref bq, Value.int 16]))] := hD
  have hK : va_K (dC, dI) kcl [] s := hK
  refine va_putF (D := (dC, dI)) (ci := 4) (v := Value.ref v) (ty := .object "TreeMatcher$Vectors") (C := kR_Y) (T := kT_Y) (N := 4) hx hb hg kin_Y kt_Y kty_Y knm_Y hown hK hP hD hS 0 rfl rfl 1 (by decide) (hg _ tw_271) (fun _ h9 => h9) rfl hin rfl (by decide +kernel) rfl rfl (Nat.le_of_ble_eq_true rfl) d_Y_init_30 (fun H_10 lo_11 hP hD hS => ?_)
  have hP : va_P (dC, dI) kcl [(y, .inr (4, [Value.ref g, Value.ref v, Value.int 0, Value.int 0])), (v, .inr (5, [(zv 0), (zv 1), (zv 2), (zv 3), (zv 4), (zv 5), (zv 6), Value.int 0])), (g, .inr (1, [(zg 0), (zg 1), (zg 2), (zg 3), (zg 4), (zg 5), (zg 6), (zg 7), (zg 8), (zg 9), (zg 10), (zg 11), (zg 12), Value.ref pq])), (pq, .inr (6, [(zpq 0), (zpq 1), (zpq 2), (zpq 3), Value.ref bq, Value.int 16]))] H_10 := hP
  have hD : va_D A [(y, .inr (4, [Value.ref g, Value.ref v, Value.int 0, Value.int 0])), (v, .inr (5, [(zv 0), (zv 1), (zv 2), (zv 3), (zv 4), (zv 5), (zv 6), Value.int 0])), (g, .inr (1, [(zg 0), (zg 1), (zg 2), (zg 3), (zg 4), (zg 5), (zg 6), (zg 7), (zg 8), (zg 9), (zg 10), (zg 11), (zg 12), Value.ref pq])), (pq, .inr (6, [(zpq 0), (zpq 1), (zpq 2), (zpq 3), Value.ref bq, Value.int 16]))] := hD
  have hP9 := hP.sub (ws' := [(y, .inr (4, [Value.ref g, Value.ref v, Value.int 0, Value.int 0])), (v, .inr (5, [(zv 0), (zv 1), (zv 2), (zv 3), (zv 4), (zv 5), (zv 6), Value.int 0])), (g, .inr (1, [(zg 0), (zg 1), (zg 2), (zg 3), (zg 4), (zg 5), (zg 6), (zg 7), (zg 8), (zg 9), (zg 10), (zg 11), (zg 12), Value.ref pq])), (pq, .inr (6, [(zpq 0), (zpq 1), (zpq 2), (zpq 3), Value.ref bq, Value.int 16]))]) [0, 1, 2, 3] rfl
  have hD9 := hD.sub (ws' := [(y, .inr (4, [Value.ref g, Value.ref v, Value.int 0, Value.int 0])), (v, .inr (5, [(zv 0), (zv 1), (zv 2), (zv 3), (zv 4), (zv 5), (zv 6), Value.int 0])), (g, .inr (1, [(zg 0), (zg 1), (zg 2), (zg 3), (zg 4), (zg 5), (zg 6), (zg 7), (zg 8), (zg 9), (zg 10), (zg 11), (zg 12), Value.ref pq])), (pq, .inr (6, [(zpq 0), (zpq 1), (zpq 2), (zpq 3), Value.ref bq, Value.int 16]))]) [0, 1, 2, 3] (by decide) rfl
  have hK9 := hK.sub (tys' := []) [] rfl
  exact W.vret hx hb hr (fun t ht hW => ⟨⟨(), rfl, trivial, ⟨v, zv, by rw [ht]; exact hP9, va_K.moved hW.alike hK9, hD9⟩⟩, hS.F ht⟩) hS.2.2 d_Y_init_33
set_option maxHeartbeats 4000000 in
set_option maxRecDepth 100000 in
theorem c_F_init (l : Launch) (dC : Nat → ClassId) (dI : Nat → Nat → Nat) (sz : Nat) (f g pq bq : Nat) (zg : Nat → Value) (zpq : Nat → Value) : Met l y_F_init ws_F_init ({ frames := 3, cells := 20, slots := 8887, locals := 55 }) (va_Pc [Value.ref f, Value.ref g] (fun U => U.heap.size = sz ∧ va_P (dC, dI) kcl [(f, .inr (2, [Value.null, Value.null, Value.null, Value.null, Value.null, Value.null, Value.null, Value.null, Value.null, Value.int 0, Value.null, Value.null, Value.null, Value.null])), (g, .inr (1, [(zg 0), (zg 1), (zg 2), (zg 3), (zg 4), (zg 5), (zg 6), (zg 7), (zg 8), (zg 9), (zg 10), (zg 11), (zg 12), Value.ref pq])), (pq, .inr (6, [(zpq 0), (zpq 1), (zpq 2), (zpq 3), Value.ref bq, Value.int 16]))] U.heap ∧ va_K (dC, dI) kcl [] U ∧ va_D (fun _ => True) [(f, .inr (2, [Value.null, Value.null, Value.null, Value.null, Value.null, Value.null, Value.null, Value.null, Value.null, Value.int 0, Value.null, Value.null, Value.null, Value.null])), (g, .inr (1, [(zg 0), (zg 1), (zg 2), (zg 3), (zg 4), (zg 5), (zg 6), (zg 7), (zg 8), (zg 9), (zg 10), (zg 11), (zg 12), Value.ref pq])), (pq, .inr (6, [(zpq 0), (zpq 1), (zpq 2), (zpq 3), Value.ref bq, Value.int 16]))] ∧ tx_C U)) (va_Qv (fun (_ : Unit) => True) (fun (_ : Unit) (t : State) => ∃ (v : Nat) (zf zv : Nat → Value), va_P (dC, dI) kcl [(f, .inr (2, [(zf 0), (zf 1), (zf 2), (zf 3), (zf 4), (zf 5), (zf 6), (zf 7), (zf 8), Value.int 0, (zf 10), Value.ref v, (zf 12), (zf 13)])), (v, .inr (5, [(zv 0), (zv 1), (zv 2), (zv 3), (zv 4), (zv 5), (zv 6), Value.int 0])), (g, .inr (1, [(zg 0), (zg 1), (zg 2), (zg 3), (zg 4), (zg 5), (zg 6), (zg 7), (zg 8), (zg 9), (zg 10), (zg 11), (zg 12), Value.ref pq])), (pq, .inr (6, [(zpq 0), (zpq 1), (zpq 2), (zpq 3), Value.ref bq, Value.int 16]))] t.heap ∧ va_K (dC, dI) kcl [] t ∧ va_D (va_A [(f, .inr (2, [Value.null, Value.null, Value.null, Value.null, Value.null, Value.null, Value.null, Value.null, Value.null, Value.int 0, Value.null, Value.null, Value.null, Value.null])), (g, .inr (1, [(zg 0), (zg 1), (zg 2), (zg 3), (zg 4), (zg 5), (zg 6), (zg 7), (zg 8), (zg 9), (zg 10), (zg 11), (zg 12), Value.ref pq])), (pq, .inr (6, [(zpq 0), (zpq 1), (zpq 2), (zpq 3), Value.ref bq, Value.int 16]))] sz) [(f, .inr (2, [(zf 0), (zf 1), (zf 2), (zf 3), (zf 4), (zf 5), (zf 6), (zf 7), (zf 8), Value.int 0, (zf 10), Value.ref v, (zf 12), (zf 13)])), (v, .inr (5, [(zv 0), (zv 1), (zv 2), (zv 3), (zv 4), (zv 5), (zv 6), Value.int 0])), (g, .inr (1, [(zg 0), (zg 1), (zg 2), (zg 3), (zg 4), (zg 5), (zg 6), (zg 7), (zg 8), (zg 9), (zg 10), (zg 11), (zg 12), Value.ref pq])), (pq, .inr (6, [(zpq 0), (zpq 1), (zpq 2), (zpq 3), Value.ref bq, Value.int 16]))]) (va_A [(f, .inr (2, [Value.null, Value.null, Value.null, Value.null, Value.null, Value.null, Value.null, Value.null, Value.null, Value.int 0, Value.null, Value.null, Value.null, Value.null])), (g, .inr (1, [(zg 0), (zg 1), (zg 2), (zg 3), (zg 4), (zg 5), (zg 6), (zg 7), (zg 8), (zg 9), (zg 10), (zg 11), (zg 12), Value.ref pq])), (pq, .inr (6, [(zpq 0), (zpq 1), (zpq 2), (zpq 3), Value.ref bq, Value.int 16]))] sz)) 20 8887 (va_A [(f, .inr (2, [Value.null, Value.null, Value.null, Value.null, Value.null, Value.null, Value.null, Value.null, Value.null, Value.int 0, Value.null, Value.null, Value.null, Value.null])), (g, .inr (1, [(zg 0), (zg 1), (zg 2), (zg 3), (zg 4), (zg 5), (zg 6), (zg 7), (zg 8), (zg 9), (zg 10), (zg 11), (zg 12), Value.ref pq])), (pq, .inr (6, [(zpq 0), (zpq 1), (zpq 2), (zpq 3), Value.ref bq, Value.int 16]))] sz) := by
  refine Met.ofW (cc := b_F_init) (maxL := 2) (ret := (Option.none : Option Jvm.ClassFile.FieldType)) (by decide) rfl ?_
  intro p e s m args below meth c s₁ B hml hv
  obtain ⟨rfl, hsz, hP, hK, hD0, hG⟩ := hv
  have hx := B.exec
  have hb := B.bytes
  have hr := B.returns
  have hlocks := B.notSynchronized
  have hg : ∀ w ∈ gw, w.before _ s = true := fun w h => atoms_spec (ws := ws_F_init) B.pre w (List.mem_cons_of_mem _ h)
  have hown : s.vm.findClass "TreeMatcher$Forest" = some m.cls := findClass_of_methodNamed B.named
  have hin : meth.name = "<init>" := (name_of_methodNamed B.named B.method).1
  subst hsz
  have hD := hD0.self (sz := s.heap.size)
  have hA : ∀ q : Nat, s.heap.size ≤ q → va_A [(f, .inr (2, [Value.null, Value.null, Value.null, Value.null, Value.null, Value.null, Value.null, Value.null, Value.null, Value.int 0, Value.null, Value.null, Value.null, Value.null])), (g, .inr (1, [(zg 0), (zg 1), (zg 2), (zg 3), (zg 4), (zg 5), (zg 6), (zg 7), (zg 8), (zg 9), (zg 10), (zg 11), (zg 12), Value.ref pq])), (pq, .inr (6, [(zpq 0), (zpq 1), (zpq 2), (zpq 3), Value.ref bq, Value.int 16]))] s.heap.size q := fun q h => Or.inr h
  generalize hAe : va_A [(f, .inr (2, [Value.null, Value.null, Value.null, Value.null, Value.null, Value.null, Value.null, Value.null, Value.null, Value.int 0, Value.null, Value.null, Value.null, Value.null])), (g, .inr (1, [(zg 0), (zg 1), (zg 2), (zg 3), (zg 4), (zg 5), (zg 6), (zg 7), (zg 8), (zg 9), (zg 10), (zg 11), (zg 12), Value.ref pq])), (pq, .inr (6, [(zpq 0), (zpq 1), (zpq 2), (zpq 3), Value.ref bq, Value.int 16]))] s.heap.size = A at hD hA ⊢
  have hN : tx_N s := hG.1
  have hS : va_S A s.heap s.heap [] := va_S.rf
  have hl := lv_entry ([Value.ref f, Value.ref g] : List Value) (n := 2) (Nat.le_of_ble_eq_true rfl)
  rw [lg_entry_eq]
  generalize (lg_sl ([Value.ref f, Value.ref g] : List Value) ++ List.replicate (2 - (lg_sl ([Value.ref f, Value.ref g] : List Value)).length) Slot.unset).toArray = ls at hl ⊢
  have hl : lv_has ls 2 [(0, Value.ref f), (1, Value.ref g)] := hl
  refine lv_aload_n hx hb d_F_init_0 rfl (lv_at hl 0 rfl) ?_
  refine W.objInit hx hb hown (hg _ tw_129) (hg _ tw_26) (hg _ tw_27) rfl (by rw [hml]; exact hl.1) rfl d_F_init_1 (Nat.le_of_ble_eq_true rfl) (Nat.le_of_ble_eq_true rfl) ?_
  refine W.eq (g2 := F0 m 4 ls []) rfl ?_
  refine lv_aload_n hx hb d_F_init_4 rfl (lv_at hl 0 rfl) ?_
  refine lv_sipush (v := 200) hx hb d_F_init_5 (by decide) ?_
  refine va_newa (atype := .int) (ty := .int) (a0 := (200, .inl (fun _ => 0))) (N' := 200) hx hb (hg _ tw_50) rfl hK hP hD hS hA (fun _ => rfl) (by decide) (by decide +kernel) (by decide) (Nat.le_of_ble_eq_true rfl) (Nat.le_of_ble_eq_true rfl) d_F_init_8 (fun q_2 cq_2 H_1 hK hP hD hS => ?_)
  have hP := hP.sub (ws' := [(f, .inr (2, [Value.null, Value.null, Value.null, Value.null, Value.null, Value.null, Value.null, Value.null, Value.null, Value.int 0, Value.null, Value.null, Value.null, Value.null])), (g, .inr (1, [(zg 0), (zg 1), (zg 2), (zg 3), (zg 4), (zg 5), (zg 6), (zg 7), (zg 8), (zg 9), (zg 10), (zg 11), (zg 12), Value.ref pq])), (pq, .inr (6, [(zpq 0), (zpq 1), (zpq 2), (zpq 3), Value.ref bq, Value.int 16]))]) [0, 1, 2] rfl
  have hD := hD.sub (ws' := [(f, .inr (2, [Value.null, Value.null, Value.null, Value.null, Value.null, Value.null, Value.null, Value.null, Value.null, Value.int 0, Value.null, Value.null, Value.null, Value.null])), (g, .inr (1, [(zg 0), (zg 1), (zg 2), (zg 3), (zg 4), (zg 5), (zg 6), (zg 7), (zg 8), (zg 9), (zg 10), (zg 11), (zg 12), Value.ref pq])), (pq, .inr (6, [(zpq 0), (zpq 1), (zpq 2), (zpq 3), Value.ref bq, Value.int 16]))]) [0, 1, 2] (by decide) rfl
  have hK := hK.sub (tys' := []) [] rfl
  refine va_putF (D := (dC, dI)) (ci := 2) (v := Value.ref q_2) (ty := .array .int) (C := kR_F) (T := kT_F) (N := 14) hx hb hg kin_F kt_F kty_F knm_F hown hK hP hD hS 0 rfl rfl 1 (by decide) (hg _ tw_192) (fun _ h9 => h9) rfl hin rfl (by decide +kernel) rfl rfl (Nat.le_of_ble_eq_true rfl) d_F_init_10 (fun H_3 lo_4 hP hD hS => ?_)
  have hP : va_P (dC, dI) kcl [(f, .inr (2, [Value.null, Value.ref q_2, Value.null, Value.null, Value.null, Value.null, Value.null, Value.null, Value.null, Value.int 0, Value.null, Value.null, Value.null, Value.null])), (g, .inr (1, [(zg 0), (zg 1), (zg 2), (zg 3), (zg 4), (zg 5), (zg 6), (zg 7), (zg 8), (zg 9), (zg 10), (zg 11), (zg 12), Value.ref pq])), (pq, .inr (6, [(zpq 0), (zpq 1), (zpq 2), (zpq 3), Value.ref bq, Value.int 16]))] H_3 := hP
  have hD : va_D A [(f, .inr (2, [Value.null, Value.ref q_2, Value.null, Value.null, Value.null, Value.null, Value.null, Value.null, Value.null, Value.int 0, Value.null, Value.null, Value.null, Value.null])), (g, .inr (1, [(zg 0), (zg 1), (zg 2), (zg 3), (zg 4), (zg 5), (zg 6), (zg 7), (zg 8), (zg 9), (zg 10), (zg 11), (zg 12), Value.ref pq])), (pq, .inr (6, [(zpq 0), (zpq 1), (zpq 2), (zpq 3), Value.ref bq, Value.int 16]))] := hD
  refine lv_aload_n hx hb d_F_init_13 rfl (lv_at hl 0 rfl) ?_
  refine lv_sipush (v := 200) hx hb d_F_init_14 (by decide) ?_
  refine va_newa (atype := .int) (ty := .int) (a0 := (200, .inl (fun _ => 0))) (N' := 200) hx hb (hg _ tw_50) rfl hK hP hD hS hA (fun _ => rfl) (by decide) (by decide +kernel) (by decide) (Nat.le_of_ble_eq_true rfl) (Nat.le_of_ble_eq_true rfl) d_F_init_17 (fun q_6 cq_6 H_5 hK hP hD hS => ?_)
  have hP := hP.sub (ws' := [(f, .inr (2, [Value.null, Value.ref q_2, Value.null, Value.null, Value.null, Value.null, Value.null, Value.null, Value.null, Value.int 0, Value.null, Value.null, Value.null, Value.null])), (g, .inr (1, [(zg 0), (zg 1), (zg 2), (zg 3), (zg 4), (zg 5), (zg 6), (zg 7), (zg 8), (zg 9), (zg 10), (zg 11), (zg 12), Value.ref pq])), (pq, .inr (6, [(zpq 0), (zpq 1), (zpq 2), (zpq 3), Value.ref bq, Value.int 16]))]) [0, 1, 2] rfl
  have hD := hD.sub (ws' := [(f, .inr (2, [Value.null, Value.ref q_2, Value.null, Value.null, Value.null, Value.null, Value.null, Value.null, Value.null, Value.int 0, Value.null, Value.null, Value.null, Value.null])), (g, .inr (1, [(zg 0), (zg 1), (zg 2), (zg 3), (zg 4), (zg 5), (zg 6), (zg 7), (zg 8), (zg 9), (zg 10), (zg 11), (zg 12), Value.ref pq])), (pq, .inr (6, [(zpq 0), (zpq 1), (zpq 2), (zpq 3), Value.ref bq, Value.int 16]))]) [0, 1, 2] (by decide) rfl
  have hK := hK.sub (tys' := []) [] rfl
  refine va_putF (D := (dC, dI)) (ci := 2) (v := Value.ref q_6) (ty := .array .int) (C := kR_F) (T := kT_F) (N := 14) hx hb hg kin_F kt_F kty_F knm_F hown hK hP hD hS 0 rfl rfl 2 (by decide) (hg _ tw_193) (fun _ h9 => h9) rfl hin rfl (by decide +kernel) rfl rfl (Nat.le_of_ble_eq_true rfl) d_F_init_19 (fun H_7 lo_8 hP hD hS => ?_)
  have hP : va_P (dC, dI) kcl [(f, .inr (2, [Value.null, Value.ref q_2, Value.ref q_6, Value.null, Value.null, Value.null, Value.null, Value.null, Value.null, Value.int 0, Value.null, Value.null, Value.null, Value.null])), (g, .inr (1, [(zg 0), (zg 1), (zg 2), (zg 3), (zg 4), (zg 5), (zg 6), (zg 7), (zg 8), (zg 9), (zg 10), (zg 11), (zg 12), Value.ref pq])), (pq, .inr (6, [(zpq 0), (zpq 1), (zpq 2), (zpq 3), Value.ref bq, Value.int 16]))] H_7 := hP
  have hD : va_D A [(f, .inr (2, [Value.null, Value.ref q_2, Value.ref q_6, Value.null, Value.null, Value.null, Value.null, Value.null, Value.null, Value.int 0, Value.null, Value.null, Value.null, Value.null])), (g, .inr (1, [(zg 0), (zg 1), (zg 2), (zg 3), (zg 4), (zg 5), (zg 6), (zg 7), (zg 8), (zg 9), (zg 10), (zg 11), (zg 12), Value.ref pq])), (pq, .inr (6, [(zpq 0), (zpq 1), (zpq 2), (zpq 3), Value.ref bq, Value.int 16]))] := hD
  refine lv_aload_n hx hb d_F_init_22 rfl (lv_at hl 0 rfl) ?_
  refine lv_sipush (v := 200) hx hb d_F_init_23 (by decide) ?_
  refine va_newa (atype := .int) (ty := .int) (a0 := (200, .inl (fun _ => 0))) (N' := 200) hx hb (hg _ tw_50) rfl hK hP hD hS hA (fun _ => rfl) (by decide) (by decide +kernel) (by decide) (Nat.le_of_ble_eq_true rfl) (Nat.le_of_ble_eq_true rfl) d_F_init_26 (fun q_10 cq_10 H_9 hK hP hD hS => ?_)
  have hP := hP.sub (ws' := [(f, .inr (2, [Value.null, Value.ref q_2, Value.ref q_6, Value.null, Value.null, Value.null, Value.null, Value.null, Value.null, Value.int 0, Value.null, Value.null, Value.null, Value.null])), (g, .inr (1, [(zg 0), (zg 1), (zg 2), (zg 3), (zg 4), (zg 5), (zg 6), (zg 7), (zg 8), (zg 9), (zg 10), (zg 11), (zg 12), Value.ref pq])), (pq, .inr (6, [(zpq 0), (zpq 1), (zpq 2), (zpq 3), Value.ref bq, Value.int 16]))]) [0, 1, 2] rfl
  have hD := hD.sub (ws' := [(f, .inr (2, [Value.null, Value.ref q_2, Value.ref q_6, Value.null, Value.null, Value.null, Value.null, Value.null, Value.null, Value.int 0, Value.null, Value.null, Value.null, Value.null])), (g, .inr (1, [(zg 0), (zg 1), (zg 2), (zg 3), (zg 4), (zg 5), (zg 6), (zg 7), (zg 8), (zg 9), (zg 10), (zg 11), (zg 12), Value.ref pq])), (pq, .inr (6, [(zpq 0), (zpq 1), (zpq 2), (zpq 3), Value.ref bq, Value.int 16]))]) [0, 1, 2] (by decide) rfl
  have hK := hK.sub (tys' := []) [] rfl
  refine va_putF (D := (dC, dI)) (ci := 2) (v := Value.ref q_10) (ty := .array .int) (C := kR_F) (T := kT_F) (N := 14) hx hb hg kin_F kt_F kty_F knm_F hown hK hP hD hS 0 rfl rfl 3 (by decide) (hg _ tw_194) (fun _ h9 => h9) rfl hin rfl (by decide +kernel) rfl rfl (Nat.le_of_ble_eq_true rfl) d_F_init_28 (fun H_11 lo_12 hP hD hS => ?_)
  have hP : va_P (dC, dI) kcl [(f, .inr (2, [Value.null, Value.ref q_2, Value.ref q_6, Value.ref q_10, Value.null, Value.null, Value.null, Value.null, Value.null, Value.int 0, Value.null, Value.null, Value.null, Value.null])), (g, .inr (1, [(zg 0), (zg 1), (zg 2), (zg 3), (zg 4), (zg 5), (zg 6), (zg 7), (zg 8), (zg 9), (zg 10), (zg 11), (zg 12), Value.ref pq])), (pq, .inr (6, [(zpq 0), (zpq 1), (zpq 2), (zpq 3), Value.ref bq, Value.int 16]))] H_11 := hP
  have hD : va_D A [(f, .inr (2, [Value.null, Value.ref q_2, Value.ref q_6, Value.ref q_10, Value.null, Value.null, Value.null, Value.null, Value.null, Value.int 0, Value.null, Value.null, Value.null, Value.null])), (g, .inr (1, [(zg 0), (zg 1), (zg 2), (zg 3), (zg 4), (zg 5), (zg 6), (zg 7), (zg 8), (zg 9), (zg 10), (zg 11), (zg 12), Value.ref pq])), (pq, .inr (6, [(zpq 0), (zpq 1), (zpq 2), (zpq 3), Value.ref bq, Value.int 16]))] := hD
  refine lv_aload_n hx hb d_F_init_31 rfl (lv_at hl 0 rfl) ?_
  refine lv_sipush (v := 200) hx hb d_F_init_32 (by decide) ?_
  refine va_newa (atype := .int) (ty := .int) (a0 := (200, .inl (fun _ => 0))) (N' := 200) hx hb (hg _ tw_50) rfl hK hP hD hS hA (fun _ => rfl) (by decide) (by decide +kernel) (by decide) (Nat.le_of_ble_eq_true rfl) (Nat.le_of_ble_eq_true rfl) d_F_init_35 (fun q_14 cq_14 H_13 hK hP hD hS => ?_)
  have hP := hP.sub (ws' := [(f, .inr (2, [Value.null, Value.ref q_2, Value.ref q_6, Value.ref q_10, Value.null, Value.null, Value.null, Value.null, Value.null, Value.int 0, Value.null, Value.null, Value.null, Value.null])), (g, .inr (1, [(zg 0), (zg 1), (zg 2), (zg 3), (zg 4), (zg 5), (zg 6), (zg 7), (zg 8), (zg 9), (zg 10), (zg 11), (zg 12), Value.ref pq])), (pq, .inr (6, [(zpq 0), (zpq 1), (zpq 2), (zpq 3), Value.ref bq, Value.int 16]))]) [0, 1, 2] rfl
  have hD := hD.sub (ws' := [(f, .inr (2, [Value.null, Value.ref q_2, Value.ref q_6, Value.ref q_10, Value.null, Value.null, Value.null, Value.null, Value.null, Value.int 0, Value.null, Value.null, Value.null, Value.null])), (g, .inr (1, [(zg 0), (zg 1), (zg 2), (zg 3), (zg 4), (zg 5), (zg 6), (zg 7), (zg 8), (zg 9), (zg 10), (zg 11), (zg 12), Value.ref pq])), (pq, .inr (6, [(zpq 0), (zpq 1), (zpq 2), (zpq 3), Value.ref bq, Value.int 16]))]) [0, 1, 2] (by decide) rfl
  have hK := hK.sub (tys' := []) [] rfl
  refine va_putF (D := (dC, dI)) (ci := 2) (v := Value.ref q_14) (ty := .array .int) (C := kR_F) (T := kT_F) (N := 14) hx hb hg kin_F kt_F kty_F knm_F hown hK hP hD hS 0 rfl rfl 4 (by decide) (hg _ tw_195) (fun _ h9 => h9) rfl hin rfl (by decide +kernel) rfl rfl (Nat.le_of_ble_eq_true rfl) d_F_init_37 (fun H_15 lo_16 hP hD hS => ?_)
  have hP : va_P (dC, dI) kcl [(f, .inr (2, [Value.null, Value.ref q_2, Value.ref q_6, Value.ref q_10, Value.ref q_14, Value.null, Value.null, Value.null, Value.null, Value.int 0, Value.null, Value.null, Value.null, Value.null])), (g, .inr (1, [(zg 0), (zg 1), (zg 2), (zg 3), (zg 4), (zg 5), (zg 6), (zg 7), (zg 8), (zg 9), (zg 10), (zg 11), (zg 12), Value.ref pq])), (pq, .inr (6, [(zpq 0), (zpq 1), (zpq 2), (zpq 3), Value.ref bq, Value.int 16]))] H_15 := hP
  have hD : va_D A [(f, .inr (2, [Value.null, Value.ref q_2, Value.ref q_6, Value.ref q_10, Value.ref q_14, Value.null, Value.null, Value.null, Value.null, Value.int 0, Value.null, Value.null, Value.null, Value.null])), (g, .inr (1, [(zg 0), (zg 1), (zg 2), (zg 3), (zg 4), (zg 5), (zg 6), (zg 7), (zg 8), (zg 9), (zg 10), (zg 11), (zg 12), Value.ref pq])), (pq, .inr (6, [(zpq 0), (zpq 1), (zpq 2), (zpq 3), Value.ref bq, Value.int 16]))] := hD
  refine lv_aload_n hx hb d_F_init_40 rfl (lv_at hl 0 rfl) ?_
  refine lv_sipush (v := 200) hx hb d_F_init_41 (by decide) ?_
  refine va_newa (atype := .boolean) (ty := .boolean) (a0 := (200, .inl (fun _ => 0))) (N' := 200) hx hb (hg _ tw_146) rfl hK hP hD hS hA (fun _ => rfl) (by decide) (by decide +kernel) (by decide) (Nat.le_of_ble_eq_true rfl) (Nat.le_of_ble_eq_true rfl) d_F_init_44 (fun q_18 cq_18 H_17 hK hP hD hS => ?_)
  have hP := hP.sub (ws' := [(f, .inr (2, [Value.null, Value.ref q_2, Value.ref q_6, Value.ref q_10, Value.ref q_14, Value.null, Value.null, Value.null, Value.null, Value.int 0, Value.null, Value.null, Value.null, Value.null])), (g, .inr (1, [(zg 0), (zg 1), (zg 2), (zg 3), (zg 4), (zg 5), (zg 6), (zg 7), (zg 8), (zg 9), (zg 10), (zg 11), (zg 12), Value.ref pq])), (pq, .inr (6, [(zpq 0), (zpq 1), (zpq 2), (zpq 3), Value.ref bq, Value.int 16]))]) [0, 1, 2] rfl
  have hD := hD.sub (ws' := [(f, .inr (2, [Value.null, Value.ref q_2, Value.ref q_6, Value.ref q_10, Value.ref q_14, Value.null, Value.null, Value.null, Value.null, Value.int 0, Value.null, Value.null, Value.null, Value.null])), (g, .inr (1, [(zg 0), (zg 1), (zg 2), (zg 3), (zg 4), (zg 5), (zg 6), (zg 7), (zg 8), (zg 9), (zg 10), (zg 11), (zg 12), Value.ref pq])), (pq, .inr (6, [(zpq 0), (zpq 1), (zpq 2), (zpq 3), Value.ref bq, Value.int 16]))]) [0, 1, 2] (by decide) rfl
  have hK := hK.sub (tys' := []) [] rfl
  refine va_putF (D := (dC, dI)) (ci := 2) (v := Value.ref q_18) (ty := .array .boolean) (C := kR_F) (T := kT_F) (N := 14) hx hb hg kin_F kt_F kty_F knm_F hown hK hP hD hS 0 rfl rfl 5 (by decide) (hg _ tw_196) (fun _ h9 => h9) rfl hin rfl (by decide +kernel) rfl rfl (Nat.le_of_ble_eq_true rfl) d_F_init_46 (fun H_19 lo_20 hP hD hS => ?_)
  have hP : va_P (dC, dI) kcl [(f, .inr (2, [Value.null, Value.ref q_2, Value.ref q_6, Value.ref q_10, Value.ref q_14, Value.ref q_18, Value.null, Value.null, Value.null, Value.int 0, Value.null, Value.null, Value.null, Value.null])), (g, .inr (1, [(zg 0), (zg 1), (zg 2), (zg 3), (zg 4), (zg 5), (zg 6), (zg 7), (zg 8), (zg 9), (zg 10), (zg 11), (zg 12), Value.ref pq])), (pq, .inr (6, [(zpq 0), (zpq 1), (zpq 2), (zpq 3), Value.ref bq, Value.int 16]))] H_19 := hP
  have hD : va_D A [(f, .inr (2, [Value.null, Value.ref q_2, Value.ref q_6, Value.ref q_10, Value.ref q_14, Value.ref q_18, Value.null, Value.null, Value.null, Value.int 0, Value.null, Value.null, Value.null, Value.null])), (g, .inr (1, [(zg 0), (zg 1), (zg 2), (zg 3), (zg 4), (zg 5), (zg 6), (zg 7), (zg 8), (zg 9), (zg 10), (zg 11), (zg 12), Value.ref pq])), (pq, .inr (6, [(zpq 0), (zpq 1), (zpq 2), (zpq 3), Value.ref bq, Value.int 16]))] := hD
  refine lv_aload_n hx hb d_F_init_49 rfl (lv_at hl 0 rfl) ?_
  refine lv_sipush (v := 3200) hx hb d_F_init_50 (by decide) ?_
  refine va_newa (atype := .int) (ty := .int) (a0 := (3200, .inl (fun _ => 0))) (N' := 3200) hx hb (hg _ tw_50) rfl hK hP hD hS hA (fun _ => rfl) (by decide) (by decide +kernel) (by decide) (Nat.le_of_ble_eq_true rfl) (Nat.le_of_ble_eq_true rfl) d_F_init_53 (fun q_22 cq_22 H_21 hK hP hD hS => ?_)
  have hP := hP.sub (ws' := [(f, .inr (2, [Value.null, Value.ref q_2, Value.ref q_6, Value.ref q_10, Value.ref q_14, Value.ref q_18, Value.null, Value.null, Value.null, Value.int 0, Value.null, Value.null, Value.null, Value.null])), (g, .inr (1, [(zg 0), (zg 1), (zg 2), (zg 3), (zg 4), (zg 5), (zg 6), (zg 7), (zg 8), (zg 9), (zg 10), (zg 11), (zg 12), Value.ref pq])), (pq, .inr (6, [(zpq 0), (zpq 1), (zpq 2), (zpq 3), Value.ref bq, Value.int 16]))]) [0, 1, 2] rfl
  have hD := hD.sub (ws' := [(f, .inr (2, [Value.null, Value.ref q_2, Value.ref q_6, Value.ref q_10, Value.ref q_14, Value.ref q_18, Value.null, Value.null, Value.null, Value.int 0, Value.null, Value.null, Value.null, Value.null])), (g, .inr (1, [(zg 0), (zg 1), (zg 2), (zg 3), (zg 4), (zg 5), (zg 6), (zg 7), (zg 8), (zg 9), (zg 10), (zg 11), (zg 12), Value.ref pq])), (pq, .inr (6, [(zpq 0), (zpq 1), (zpq 2), (zpq 3), Value.ref bq, Value.int 16]))]) [0, 1, 2] (by decide) rfl
  have hK := hK.sub (tys' := []) [] rfl
  refine va_putF (D := (dC, dI)) (ci := 2) (v := Value.ref q_22) (ty := .array .int) (C := kR_F) (T := kT_F) (N := 14) hx hb hg kin_F kt_F kty_F knm_F hown hK hP hD hS 0 rfl rfl 6 (by decide) (hg _ tw_197) (fun _ h9 => h9) rfl hin rfl (by decide +kernel) rfl rfl (Nat.le_of_ble_eq_true rfl) d_F_init_55 (fun H_23 lo_24 hP hD hS => ?_)
  have hP : va_P (dC, dI) kcl [(f, .inr (2, [Value.null, Value.ref q_2, Value.ref q_6, Value.ref q_10, Value.ref q_14, Value.ref q_18, Value.ref q_22, Value.null, Value.null, Value.int 0, Value.null, Value.null, Value.null, Value.null])), (g, .inr (1, [(zg 0), (zg 1), (zg 2), (zg 3), (zg 4), (zg 5), (zg 6), (zg 7), (zg 8), (zg 9), (zg 10), (zg 11), (zg 12), Value.ref pq])), (pq, .inr (6, [(zpq 0), (zpq 1), (zpq 2), (zpq 3), Value.ref bq, Value.int 16]))] H_23 := hP
  have hD : va_D A [(f, .inr (2, [Value.null, Value.ref q_2, Value.ref q_6, Value.ref q_10, Value.ref q_14, Value.ref q_18, Value.ref q_22, Value.null, Value.null, Value.int 0, Value.null, Value.null, Value.null, Value.null])), (g, .inr (1, [(zg 0), (zg 1), (zg 2), (zg 3), (zg 4), (zg 5), (zg 6), (zg 7), (zg 8), (zg 9), (zg 10), (zg 11), (zg 12), Value.ref pq])), (pq, .inr (6, [(zpq 0), (zpq 1), (zpq 2), (zpq 3), Value.ref bq, Value.int 16]))] := hD
  refine lv_aload_n hx hb d_F_init_58 rfl (lv_at hl 0 rfl) ?_
  refine lv_sipush (v := 3200) hx hb d_F_init_59 (by decide) ?_
  refine va_newa (atype := .int) (ty := .int) (a0 := (3200, .inl (fun _ => 0))) (N' := 3200) hx hb (hg _ tw_50) rfl hK hP hD hS hA (fun _ => rfl) (by decide) (by decide +kernel) (by decide) (Nat.le_of_ble_eq_true rfl) (Nat.le_of_ble_eq_true rfl) d_F_init_62 (fun q_26 cq_26 H_25 hK hP hD hS => ?_)
  have hP := hP.sub (ws' := [(f, .inr (2, [Value.null, Value.ref q_2, Value.ref q_6, Value.ref q_10, Value.ref q_14, Value.ref q_18, Value.ref q_22, Value.null, Value.null, Value.int 0, Value.null, Value.null, Value.null, Value.null])), (g, .inr (1, [(zg 0), (zg 1), (zg 2), (zg 3), (zg 4), (zg 5), (zg 6), (zg 7), (zg 8), (zg 9), (zg 10), (zg 11), (zg 12), Value.ref pq])), (pq, .inr (6, [(zpq 0), (zpq 1), (zpq 2), (zpq 3), Value.ref bq, Value.int 16]))]) [0, 1, 2] rfl
  have hD := hD.sub (ws' := [(f, .inr (2, [Value.null, Value.ref q_2, Value.ref q_6, Value.ref q_10, Value.ref q_14, Value.ref q_18, Value.ref q_22, Value.null, Value.null, Value.int 0, Value.null, Value.null, Value.null, Value.null])), (g, .inr (1, [(zg 0), (zg 1), (zg 2), (zg 3), (zg 4), (zg 5), (zg 6), (zg 7), (zg 8), (zg 9), (zg 10), (zg 11), (zg 12), Value.ref pq])), (pq, .inr (6, [(zpq 0), (zpq 1), (zpq 2), (zpq 3), Value.ref bq, Value.int 16]))]) [0, 1, 2] (by decide) rfl
  have hK := hK.sub (tys' := []) [] rfl
  refine va_putF (D := (dC, dI)) (ci := 2) (v := Value.ref q_26) (ty := .array .int) (C := kR_F) (T := kT_F) (N := 14) hx hb hg kin_F kt_F kty_F knm_F hown hK hP hD hS 0 rfl rfl 7 (by decide) (hg _ tw_198) (fun _ h9 => h9) rfl hin rfl (by decide +kernel) rfl rfl (Nat.le_of_ble_eq_true rfl) d_F_init_64 (fun H_27 lo_28 hP hD hS => ?_)
  have hP : va_P (dC, dI) kcl [(f, .inr (2, [Value.null, Value.ref q_2, Value.ref q_6, Value.ref q_10, Value.ref q_14, Value.ref q_18, Value.ref q_22, Value.ref q_26, Value.null, Value.int 0, Value.null, Value.null, Value.null, Value.null])), (g, .inr (1, [(zg 0), (zg 1), (zg 2), (zg 3), (zg 4), (zg 5), (zg 6), (zg 7), (zg 8), (zg 9), (zg 10), (zg 11), (zg 12), Value.ref pq])), (pq, .inr (6, [(zpq 0), (zpq 1), (zpq 2), (zpq 3), Value.ref bq, Value.int 16]))] H_27 := hP
  have hD : va_D A [(f, .inr (2, [Value.null, Value.ref q_2, Value.ref q_6, Value.ref q_10, Value.ref q_14, Value.ref q_18, Value.ref q_22, Value.ref q_26, Value.null, Value.int 0, Value.null, Value.null, Value.null, Value.null])), (g, .inr (1, [(zg 0), (zg 1), (zg 2), (zg 3), (zg 4), (zg 5), (zg 6), (zg 7), (zg 8), (zg 9), (zg 10), (zg 11), (zg 12), Value.ref pq])), (pq, .inr (6, [(zpq 0), (zpq 1), (zpq 2), (zpq 3), Value.ref bq, Value.int 16]))] := hD
  refine lv_aload_n hx hb d_F_init_67 rfl (lv_at hl 0 rfl) ?_
  refine lv_sipush (v := 200) hx hb d_F_init_68 (by decide) ?_
  refine va_newa (atype := .int) (ty := .int) (a0 := (200, .inl (fun _ => 0))) (N' := 200) hx hb (hg _ tw_50) rfl hK hP hD hS hA (fun _ => rfl) (by decide) (by decide +kernel) (by decide) (Nat.le_of_ble_eq_true rfl) (Nat.le_of_ble_eq_true rfl) d_F_init_71 (fun q_30 cq_30 H_29 hK hP hD hS => ?_)
  have hP := hP.sub (ws' := [(f, .inr (2, [Value.null, Value.ref q_2, Value.ref q_6, Value.ref q_10, Value.ref q_14, Value.ref q_18, Value.ref q_22, Value.ref q_26, Value.null, Value.int 0, Value.null, Value.null, Value.null, Value.null])), (g, .inr (1, [(zg 0), (zg 1), (zg 2), (zg 3), (zg 4), (zg 5), (zg 6), (zg 7), (zg 8), (zg 9), (zg 10), (zg 11), (zg 12), Value.ref pq])), (pq, .inr (6, [(zpq 0), (zpq 1), (zpq 2), (zpq 3), Value.ref bq, Value.int 16]))]) [0, 1, 2] rfl
  have hD := hD.sub (ws' := [(f, .inr (2, [Value.null, Value.ref q_2, Value.ref q_6, Value.ref q_10, Value.ref q_14, Value.ref q_18, Value.ref q_22, Value.ref q_26, Value.null, Value.int 0, Value.null, Value.null, Value.null, Value.null])), (g, .inr (1, [(zg 0), (zg 1), (zg 2), (zg 3), (zg 4), (zg 5), (zg 6), (zg 7), (zg 8), (zg 9), (zg 10), (zg 11), (zg 12), Value.ref pq])), (pq, .inr (6, [(zpq 0), (zpq 1), (zpq 2), (zpq 3), Value.ref bq, Value.int 16]))]) [0, 1, 2] (by decide) rfl
  have hK := hK.sub (tys' := []) [] rfl
  refine va_putF (D := (dC, dI)) (ci := 2) (v := Value.ref q_30) (ty := .array .int) (C := kR_F) (T := kT_F) (N := 14) hx hb hg kin_F kt_F kty_F knm_F hown hK hP hD hS 0 rfl rfl 8 (by decide) (hg _ tw_199) (fun _ h9 => h9) rfl hin rfl (by decide +kernel) rfl rfl (Nat.le_of_ble_eq_true rfl) d_F_init_73 (fun H_31 lo_32 hP hD hS => ?_)
  have hP : va_P (dC, dI) kcl [(f, .inr (2, [Value.null, Value.ref q_2, Value.ref q_6, Value.ref q_10, Value.ref q_14, Value.ref q_18, Value.ref q_22, Value.ref q_26, Value.ref q_30, Value.int 0, Value.null, Value.null, Value.null, Value.null])), (g, .inr (1, [(zg 0), (zg 1), (zg 2), (zg 3), (zg 4), (zg 5), (zg 6), (zg 7), (zg 8), (zg 9), (zg 10), (zg 11), (zg 12), Value.ref pq])), (pq, .inr (6, [(zpq 0), (zpq 1), (zpq 2), (zpq 3), Value.ref bq, Value.int 16]))] H_31 := hP
  have hD : va_D A [(f, .inr (2, [Value.null, Value.ref q_2, Value.ref q_6, Value.ref q_10, Value.ref q_14, Value.ref q_18, Value.ref q_22, Value.ref q_26, Value.ref q_30, Value.int 0, Value.null, Value.null, Value.null, Value.null])), (g, .inr (1, [(zg 0), (zg 1), (zg 2), (zg 3), (zg 4), (zg 5), (zg 6), (zg 7), (zg 8), (zg 9), (zg 10), (zg 11), (zg 12), Value.ref pq])), (pq, .inr (6, [(zpq 0), (zpq 1), (zpq 2), (zpq 3), Value.ref bq, Value.int 16]))] := hD
  refine lv_aload_n hx hb d_F_init_76 rfl (lv_at hl 0 rfl) ?_
  refine lv_iconst (v := 0) hx hb d_F_init_77 (by decide) ?_
  refine va_put (D := (dC, dI)) (ci := 2) (v := Value.int 0) (ty := .int) (C := kR_F) (T := kT_F) (N := 14) hx hb hg kin_F kt_F kty_F knm_F hown hK hP hD hS 0 rfl rfl 9 (by decide) (hg _ tw_200) (fun _ h9 => h9) rfl (by decide +kernel) rfl rfl (Nat.le_of_ble_eq_true rfl) d_F_init_78 (fun H_33 lo_34 hP hD hS => ?_)
  have hP : va_P (dC, dI) kcl [(f, .inr (2, [Value.null, Value.ref q_2, Value.ref q_6, Value.ref q_10, Value.ref q_14, Value.ref q_18, Value.ref q_22, Value.ref q_26, Value.ref q_30, Value.int 0, Value.null, Value.null, Value.null, Value.null])), (g, .inr (1, [(zg 0), (zg 1), (zg 2), (zg 3), (zg 4), (zg 5), (zg 6), (zg 7), (zg 8), (zg 9), (zg 10), (zg 11), (zg 12), Value.ref pq])), (pq, .inr (6, [(zpq 0), (zpq 1), (zpq 2), (zpq 3), Value.ref bq, Value.int 16]))] H_33 := hP
  have hD : va_D A [(f, .inr (2, [Value.null, Value.ref q_2, Value.ref q_6, Value.ref q_10, Value.ref q_14, Value.ref q_18, Value.ref q_22, Value.ref q_26, Value.ref q_30, Value.int 0, Value.null, Value.null, Value.null, Value.null])), (g, .inr (1, [(zg 0), (zg 1), (zg 2), (zg 3), (zg 4), (zg 5), (zg 6), (zg 7), (zg 8), (zg 9), (zg 10), (zg 11), (zg 12), Value.ref pq])), (pq, .inr (6, [(zpq 0), (zpq 1), (zpq 2), (zpq 3), Value.ref bq, Value.int 16]))] := hD
  refine lv_aload_n hx hb d_F_init_81 rfl (lv_at hl 0 rfl) ?_
  refine lv_bipush (v := 12) hx hb d_F_init_82 (by decide) ?_
  refine va_newa (atype := .int) (ty := .int) (a0 := (12, .inl (fun _ => 0))) (N' := 12) hx hb (hg _ tw_50) rfl hK hP hD hS hA (fun _ => rfl) (by decide) (by decide +kernel) (by decide) (Nat.le_of_ble_eq_true rfl) (Nat.le_of_ble_eq_true rfl) d_F_init_84 (fun q_36 cq_36 H_35 hK hP hD hS => ?_)
  have hP := hP.sub (ws' := [(f, .inr (2, [Value.null, Value.ref q_2, Value.ref q_6, Value.ref q_10, Value.ref q_14, Value.ref q_18, Value.ref q_22, Value.ref q_26, Value.ref q_30, Value.int 0, Value.null, Value.null, Value.null, Value.null])), (g, .inr (1, [(zg 0), (zg 1), (zg 2), (zg 3), (zg 4), (zg 5), (zg 6), (zg 7), (zg 8), (zg 9), (zg 10), (zg 11), (zg 12), Value.ref pq])), (pq, .inr (6, [(zpq 0), (zpq 1), (zpq 2), (zpq 3), Value.ref bq, Value.int 16]))]) [0, 1, 2] rfl
  have hD := hD.sub (ws' := [(f, .inr (2, [Value.null, Value.ref q_2, Value.ref q_6, Value.ref q_10, Value.ref q_14, Value.ref q_18, Value.ref q_22, Value.ref q_26, Value.ref q_30, Value.int 0, Value.null, Value.null, Value.null, Value.null])), (g, .inr (1, [(zg 0), (zg 1), (zg 2), (zg 3), (zg 4), (zg 5), (zg 6), (zg 7), (zg 8), (zg 9), (zg 10), (zg 11), (zg 12), Value.ref pq])), (pq, .inr (6, [(zpq 0), (zpq 1), (zpq 2), (zpq 3), Value.ref bq, Value.int 16]))]) [0, 1, 2] (by decide) rfl
  have hK := hK.sub (tys' := []) [] rfl
  refine va_putF (D := (dC, dI)) (ci := 2) (v := Value.ref q_36) (ty := .array .int) (C := kR_F) (T := kT_F) (N := 14) hx hb hg kin_F kt_F kty_F knm_F hown hK hP hD hS 0 rfl rfl 12 (by decide) (hg _ tw_203) (fun _ h9 => h9) rfl hin rfl (by decide +kernel) rfl rfl (Nat.le_of_ble_eq_true rfl) d_F_init_86 (fun H_37 lo_38 hP hD hS => ?_)
  have hP : va_P (dC, dI) kcl [(f, .inr (2, [Value.null, Value.ref q_2, Value.ref q_6, Value.ref q_10, Value.ref q_14, Value.ref q_18, Value.ref q_22, Value.ref q_26, Value.ref q_30, Value.int 0, Value.null, Value.null, Value.ref q_36, Value.null])), (g, .inr (1, [(zg 0), (zg 1), (zg 2), (zg 3), (zg 4), (zg 5), (zg 6), (zg 7), (zg 8), (zg 9), (zg 10), (zg 11), (zg 12), Value.ref pq])), (pq, .inr (6, [(zpq 0), (zpq 1), (zpq 2), (zpq 3), Value.ref bq, Value.int 16]))] H_37 := hP
  have hD : va_D A [(f, .inr (2, [Value.null, Value.ref q_2, Value.ref q_6, Value.ref q_10, Value.ref q_14, Value.ref q_18, Value.ref q_22, Value.ref q_26, Value.ref q_30, Value.int 0, Value.null, Value.null, Value.ref q_36, Value.null])), (g, .inr (1, [(zg 0), (zg 1), (zg 2), (zg 3), (zg 4), (zg 5), (zg 6), (zg 7), (zg 8), (zg 9), (zg 10), (zg 11), (zg 12), Value.ref pq])), (pq, .inr (6, [(zpq 0), (zpq 1), (zpq 2), (zpq 3), Value.ref bq, Value.int 16]))] := hD
  refine lv_aload_n hx hb d_F_init_89 rfl (lv_at hl 0 rfl) ?_
  refine lv_bipush (v := 13) hx hb d_F_init_90 (by decide) ?_
  refine va_newa (atype := .int) (ty := .int) (a0 := (13, .inl (fun _ => 0))) (N' := 13) hx hb (hg _ tw_50) rfl hK hP hD hS hA (fun _ => rfl) (by decide) (by decide +kernel) (by decide) (Nat.le_of_ble_eq_true rfl) (Nat.le_of_ble_eq_true rfl) d_F_init_92 (fun q_40 cq_40 H_39 hK hP hD hS => ?_)
  have hP := hP.sub (ws' := [(f, .inr (2, [Value.null, Value.ref q_2, Value.ref q_6, Value.ref q_10, Value.ref q_14, Value.ref q_18, Value.ref q_22, Value.ref q_26, Value.ref q_30, Value.int 0, Value.null, Value.null, Value.ref q_36, Value.null])), (g, .inr (1, [(zg 0), (zg 1), (zg 2), (zg 3), (zg 4), (zg 5), (zg 6), (zg 7), (zg 8), (zg 9), (zg 10), (zg 11), (zg 12), Value.ref pq])), (pq, .inr (6, [(zpq 0), (zpq 1), (zpq 2), (zpq 3), Value.ref bq, Value.int 16]))]) [0, 1, 2] rfl
  have hD := hD.sub (ws' := [(f, .inr (2, [Value.null, Value.ref q_2, Value.ref q_6, Value.ref q_10, Value.ref q_14, Value.ref q_18, Value.ref q_22, Value.ref q_26, Value.ref q_30, Value.int 0, Value.null, Value.null, Value.ref q_36, Value.null])), (g, .inr (1, [(zg 0), (zg 1), (zg 2), (zg 3), (zg 4), (zg 5), (zg 6), (zg 7), (zg 8), (zg 9), (zg 10), (zg 11), (zg 12), Value.ref pq])), (pq, .inr (6, [(zpq 0), (zpq 1), (zpq 2), (zpq 3), Value.ref bq, Value.int 16]))]) [0, 1, 2] (by decide) rfl
  have hK := hK.sub (tys' := []) [] rfl
  refine va_putF (D := (dC, dI)) (ci := 2) (v := Value.ref q_40) (ty := .array .int) (C := kR_F) (T := kT_F) (N := 14) hx hb hg kin_F kt_F kty_F knm_F hown hK hP hD hS 0 rfl rfl 13 (by decide) (hg _ tw_204) (fun _ h9 => h9) rfl hin rfl (by decide +kernel) rfl rfl (Nat.le_of_ble_eq_true rfl) d_F_init_94 (fun H_41 lo_42 hP hD hS => ?_)
  have hP : va_P (dC, dI) kcl [(f, .inr (2, [Value.null, Value.ref q_2, Value.ref q_6, Value.ref q_10, Value.ref q_14, Value.ref q_18, Value.ref q_22, Value.ref q_26, Value.ref q_30, Value.int 0, Value.null, Value.null, Value.ref q_36, Value.ref q_40])), (g, .inr (1, [(zg 0), (zg 1), (zg 2), (zg 3), (zg 4), (zg 5), (zg 6), (zg 7), (zg 8), (zg 9), (zg 10), (zg 11), (zg 12), Value.ref pq])), (pq, .inr (6, [(zpq 0), (zpq 1), (zpq 2), (zpq 3), Value.ref bq, Value.int 16]))] H_41 := hP
  have hD : va_D A [(f, .inr (2, [Value.null, Value.ref q_2, Value.ref q_6, Value.ref q_10, Value.ref q_14, Value.ref q_18, Value.ref q_22, Value.ref q_26, Value.ref q_30, Value.int 0, Value.null, Value.null, Value.ref q_36, Value.ref q_40])), (g, .inr (1, [(zg 0), (zg 1), (zg 2), (zg 3), (zg 4), (zg 5), (zg 6), (zg 7), (zg 8), (zg 9), (zg 10), (zg 11), (zg 12), Value.ref pq])), (pq, .inr (6, [(zpq 0), (zpq 1), (zpq 2), (zpq 3), Value.ref bq, Value.int 16]))] := hD
  refine lv_aload_n hx hb d_F_init_97 rfl (lv_at hl 0 rfl) ?_
  refine lv_aload_n hx hb d_F_init_98 rfl (lv_at hl 1 rfl) ?_
  refine va_putF (D := (dC, dI)) (ci := 2) (v := Value.ref g) (ty := .object "TreeMatcher$Grammar") (C := kR_F) (T := kT_F) (N := 14) hx hb hg kin_F kt_F kty_F knm_F hown hK hP hD hS 0 rfl rfl 0 (by decide) (hg _ tw_191) (fun _ h9 => h9) rfl hin rfl (by decide +kernel) rfl rfl (Nat.le_of_ble_eq_true rfl) d_F_init_99 (fun H_43 lo_44 hP hD hS => ?_)
  have hP : va_P (dC, dI) kcl [(f, .inr (2, [Value.ref g, Value.ref q_2, Value.ref q_6, Value.ref q_10, Value.ref q_14, Value.ref q_18, Value.ref q_22, Value.ref q_26, Value.ref q_30, Value.int 0, Value.null, Value.null, Value.ref q_36, Value.ref q_40])), (g, .inr (1, [(zg 0), (zg 1), (zg 2), (zg 3), (zg 4), (zg 5), (zg 6), (zg 7), (zg 8), (zg 9), (zg 10), (zg 11), (zg 12), Value.ref pq])), (pq, .inr (6, [(zpq 0), (zpq 1), (zpq 2), (zpq 3), Value.ref bq, Value.int 16]))] H_43 := hP
  have hD : va_D A [(f, .inr (2, [Value.ref g, Value.ref q_2, Value.ref q_6, Value.ref q_10, Value.ref q_14, Value.ref q_18, Value.ref q_22, Value.ref q_26, Value.ref q_30, Value.int 0, Value.null, Value.null, Value.ref q_36, Value.ref q_40])), (g, .inr (1, [(zg 0), (zg 1), (zg 2), (zg 3), (zg 4), (zg 5), (zg 6), (zg 7), (zg 8), (zg 9), (zg 10), (zg 11), (zg 12), Value.ref pq])), (pq, .inr (6, [(zpq 0), (zpq 1), (zpq 2), (zpq 3), Value.ref bq, Value.int 16]))] := hD
  refine lv_aload_n hx hb d_F_init_102 rfl (lv_at hl 0 rfl) ?_
  refine va_new (ci := 8) (fs := [Value.null, Value.null, Value.null]) (C := kR_L) (T := kT_L) (N := 3) hx hb hg kin_L kt_L kty_L hown (hg _ tw_130) (hg _ tw_131) (hg _ tw_7) hK hP hD hS hA rfl kdf_L (Nat.le_of_ble_eq_true rfl) (Nat.le_of_ble_eq_true rfl) d_F_init_103 (fun lq H_45 hP hD hS => ?_)
  have hP : va_P (dC, dI) kcl [(f, .inr (2, [Value.ref g, Value.ref q_2, Value.ref q_6, Value.ref q_10, Value.ref q_14, Value.ref q_18, Value.ref q_22, Value.ref q_26, Value.ref q_30, Value.int 0, Value.null, Value.null, Value.ref q_36, Value.ref q_40])), (g, .inr (1, [(zg 0), (zg 1), (zg 2), (zg 3), (zg 4), (zg 5), (zg 6), (zg 7), (zg 8), (zg 9), (zg 10), (zg 11), (zg 12), Value.ref pq])), (pq, .inr (6, [(zpq 0), (zpq 1), (zpq 2), (zpq 3), Value.ref bq, Value.int 16])), (lq, .inr (8, [Value.null, Value.null, Value.null]))] H_45 := hP
  have hD : va_D A [(f, .inr (2, [Value.ref g, Value.ref q_2, Value.ref q_6, Value.ref q_10, Value.ref q_14, Value.ref q_18, Value.ref q_22, Value.ref q_26, Value.ref q_30, Value.int 0, Value.null, Value.null, Value.ref q_36, Value.ref q_40])), (g, .inr (1, [(zg 0), (zg 1), (zg 2), (zg 3), (zg 4), (zg 5), (zg 6), (zg 7), (zg 8), (zg 9), (zg 10), (zg 11), (zg 12), Value.ref pq])), (pq, .inr (6, [(zpq 0), (zpq 1), (zpq 2), (zpq 3), Value.ref bq, Value.int 16])), (lq, .inr (8, [Value.null, Value.null, Value.null]))] := hD
  refine lv_dup hx hb d_F_init_106 rfl ?_
  refine lv_aload_n hx hb d_F_init_107 rfl (lv_at hl 1 rfl) ?_
  have hPc := hP.sub (ws' := [(lq, .inr (8, [Value.null, Value.null, Value.null]))]) [3] rfl
  have hKc := hK.sub (tys' := []) [] rfl
  have hDc := hD.sub (ws' := [(lq, .inr (8, [Value.null, Value.null, Value.null]))]) [3] (by decide) rfl
  have hFc := va_free (wc := [(lq, .inr (8, [Value.null, Value.null, Value.null]))]) hD hS hA [3] rfl
  refine va_callv (va_runI (As := [Value.ref g]) (rest := [Value.ref lq, Value.ref f]) ⟨hx, hb, hml, hown, hg⟩ (c_L_init l dC dI H_45.size lq g) (cwI 1 hg (gw_gi cin_L_init) rfl rfl rfl (hg _ tw_7) (hg _ tw_132) (hg _ tw_133) rfl (by decide +kernel) ⟨Nat.le_of_ble_eq_true rfl, Nat.le_of_ble_eq_true rfl⟩) ⟨fun a U g mk q => by obtain ⟨q0, q1, qP, qK, qD⟩ := q; exact ⟨q0, q1, qP, va_K.moved (u := U) (U := U.calling g mk a) (Vm.Alike.refl U.vm) qK, qD⟩, fun U hU hW => ⟨rfl, by rw [hU], by rw [hU]; exact hPc, va_K.moved hW.alike hKc, hDc.weaken (fun _ _ _ _ => trivial)⟩⟩ rfl rfl hl.1 rfl (lv_room (Nat.le_of_ble_eq_true rfl)) d_F_init_108 ⟨Nat.le_of_ble_eq_true rfl, Nat.le_of_ble_eq_true rfl⟩) hS (fun q _ h => hFc q h) hFc (fun u_k_46 t_k_46 H_47 l_k_46 ht hvm hw_k_46 hB hz1 hk1 hS => ?_)
  obtain ⟨hP, hD⟩ := tx_rest (wc := [(lq, .inr (8, [Value.null, Value.null, Value.null]))]) (wr := [(f, .inr (2, [Value.ref g, Value.ref q_2, Value.ref q_6, Value.ref q_10, Value.ref q_14, Value.ref q_18, Value.ref q_22, Value.ref q_26, Value.ref q_30, Value.int 0, Value.null, Value.null, Value.ref q_36, Value.ref q_40])), (g, .inr (1, [(zg 0), (zg 1), (zg 2), (zg 3), (zg 4), (zg 5), (zg 6), (zg 7), (zg 8), (zg 9), (zg 10), (zg 11), (zg 12), Value.ref pq])), (pq, .inr (6, [(zpq 0), (zpq 1), (zpq 2), (zpq 3), Value.ref bq, Value.int 16]))]) hP hD [3] [0, 1, 2] rfl rfl (by decide) (by decide) hk1 hFc
  have hK := hK.sub (tys' := []) [] rfl
  refine va_putF (D := (dC, dI)) (ci := 2) (v := Value.ref lq) (ty := .object "TreeMatcher$Labels") (C := kR_F) (T := kT_F) (N := 14) hx hb hg kin_F kt_F kty_F knm_F hown hK hP hD hS 0 rfl rfl 10 (by decide) (hg _ tw_201) (fun _ h9 => h9) rfl hin rfl (by decide +kernel) rfl rfl (Nat.le_of_ble_eq_true rfl) d_F_init_111 (fun H_48 lo_49 hP hD hS => ?_)
  have hP : va_P (dC, dI) kcl [(f, .inr (2, [Value.ref g, Value.ref q_2, Value.ref q_6, Value.ref q_10, Value.ref q_14, Value.ref q_18, Value.ref q_22, Value.ref q_26, Value.ref q_30, Value.int 0, Value.ref lq, Value.null, Value.ref q_36, Value.ref q_40])), (g, .inr (1, [(zg 0), (zg 1), (zg 2), (zg 3), (zg 4), (zg 5), (zg 6), (zg 7), (zg 8), (zg 9), (zg 10), (zg 11), (zg 12), Value.ref pq])), (pq, .inr (6, [(zpq 0), (zpq 1), (zpq 2), (zpq 3), Value.ref bq, Value.int 16]))] H_48 := hP
  have hD : va_D A [(f, .inr (2, [Value.ref g, Value.ref q_2, Value.ref q_6, Value.ref q_10, Value.ref q_14, Value.ref q_18, Value.ref q_22, Value.ref q_26, Value.ref q_30, Value.int 0, Value.ref lq, Value.null, Value.ref q_36, Value.ref q_40])), (g, .inr (1, [(zg 0), (zg 1), (zg 2), (zg 3), (zg 4), (zg 5), (zg 6), (zg 7), (zg 8), (zg 9), (zg 10), (zg 11), (zg 12), Value.ref pq])), (pq, .inr (6, [(zpq 0), (zpq 1), (zpq 2), (zpq 3), Value.ref bq, Value.int 16]))] := hD
  refine lv_aload_n hx hb d_F_init_114 rfl (lv_at hl 0 rfl) ?_
  refine va_new (ci := 5) (fs := [Value.null, Value.null, Value.null, Value.null, Value.null, Value.null, Value.null, Value.int 0]) (C := kR_V) (T := kT_V) (N := 8) hx hb hg kin_V kt_V kty_V hown (hg _ tw_148) (hg _ tw_149) (hg _ tw_8) hK hP hD hS hA rfl kdf_V (Nat.le_of_ble_eq_true rfl) (Nat.le_of_ble_eq_true rfl) d_F_init_115 (fun v H_50 hP hD hS => ?_)
  have hP : va_P (dC, dI) kcl [(f, .inr (2, [Value.ref g, Value.ref q_2, Value.ref q_6, Value.ref q_10, Value.ref q_14, Value.ref q_18, Value.ref q_22, Value.ref q_26, Value.ref q_30, Value.int 0, Value.ref lq, Value.null, Value.ref q_36, Value.ref q_40])), (g, .inr (1, [(zg 0), (zg 1), (zg 2), (zg 3), (zg 4), (zg 5), (zg 6), (zg 7), (zg 8), (zg 9), (zg 10), (zg 11), (zg 12), Value.ref pq])), (pq, .inr (6, [(zpq 0), (zpq 1), (zpq 2), (zpq 3), Value.ref bq, Value.int 16])), (v, .inr (5, [Value.null, Value.null, Value.null, Value.null, Value.null, Value.null, Value.null, Value.int 0]))] H_50 := hP
  have hD : va_D A [(f, .inr (2, [Value.ref g, Value.ref q_2, Value.ref q_6, Value.ref q_10, Value.ref q_14, Value.ref q_18, Value.ref q_22, Value.ref q_26, Value.ref q_30, Value.int 0, Value.ref lq, Value.null, Value.ref q_36, Value.ref q_40])), (g, .inr (1, [(zg 0), (zg 1), (zg 2), (zg 3), (zg 4), (zg 5), (zg 6), (zg 7), (zg 8), (zg 9), (zg 10), (zg 11), (zg 12), Value.ref pq])), (pq, .inr (6, [(zpq 0), (zpq 1), (zpq 2), (zpq 3), Value.ref bq, Value.int 16])), (v, .inr (5, [Value.null, Value.null, Value.null, Value.null, Value.null, Value.null, Value.null, Value.int 0]))] := hD
  refine lv_dup hx hb d_F_init_118 rfl ?_
  refine lv_aload_n hx hb d_F_init_119 rfl (lv_at hl 1 rfl) ?_
  refine lv_sipush (v := 200) hx hb d_F_init_120 (by decide) ?_
  have hPc := hP.sub (ws' := [(v, .inr (5, [Value.null, Value.null, Value.null, Value.null, Value.null, Value.null, Value.null, Value.int 0])), (g, .inr (1, [(zg 0), (zg 1), (zg 2), (zg 3), (zg 4), (zg 5), (zg 6), (zg 7), (zg 8), (zg 9), (zg 10), (zg 11), (zg 12), Value.ref pq])), (pq, .inr (6, [(zpq 0), (zpq 1), (zpq 2), (zpq 3), Value.ref bq, Value.int 16]))]) [3, 1, 2] rfl
  have hKc := hK.sub (tys' := []) [] rfl
  have hDc := hD.sub (ws' := [(v, .inr (5, [Value.null, Value.null, Value.null, Value.null, Value.null, Value.null, Value.null, Value.int 0])), (g, .inr (1, [(zg 0), (zg 1), (zg 2), (zg 3), (zg 4), (zg 5), (zg 6), (zg 7), (zg 8), (zg 9), (zg 10), (zg 11), (zg 12), Value.ref pq])), (pq, .inr (6, [(zpq 0), (zpq 1), (zpq 2), (zpq 3), Value.ref bq, Value.int 16]))]) [3, 1, 2] (by decide) rfl
  have hFc := va_free (wc := [(v, .inr (5, [Value.null, Value.null, Value.null, Value.null, Value.null, Value.null, Value.null, Value.int 0])), (g, .inr (1, [(zg 0), (zg 1), (zg 2), (zg 3), (zg 4), (zg 5), (zg 6), (zg 7), (zg 8), (zg 9), (zg 10), (zg 11), (zg 12), Value.ref pq])), (pq, .inr (6, [(zpq 0), (zpq 1), (zpq 2), (zpq 3), Value.ref bq, Value.int 16]))]) hD hS hA [3, 1, 2] rfl
  refine va_callv (va_runI (As := [Value.ref g, Value.int 200]) (rest := [Value.ref v, Value.ref f]) ⟨hx, hb, hml, hown, hg⟩ (c_V_init_200 l dC dI H_50.size v g pq bq zg zpq) (cwI 2 hg (gw_gi cin_V_init) rfl rfl rfl (hg _ tw_8) (hg _ tw_150) (hg _ tw_151) rfl (by decide +kernel) ⟨Nat.le_of_ble_eq_true rfl, Nat.le_of_ble_eq_true rfl⟩) ⟨fun a U g mk q => by obtain ⟨q0, q1, qP, qK, qD, qG⟩ := q; exact ⟨q0, q1, qP, va_K.moved (u := U) (U := U.calling g mk a) (Vm.Alike.refl U.vm) qK, qD, tx_C.same (U := U.calling g mk a) rfl qG⟩, fun U hU hW => ⟨rfl, by rw [hU], by rw [hU]; exact hPc, va_K.moved hW.alike hKc, hDc.weaken (fun _ _ _ _ => trivial), hG.warm hW⟩⟩ rfl rfl hl.1 rfl (lv_room (Nat.le_of_ble_eq_true rfl)) d_F_init_123 ⟨Nat.le_of_ble_eq_true rfl, Nat.le_of_ble_eq_true rfl⟩) hS (fun q _ h => hFc q h) hFc (fun u_k_51 t_k_51 H_52 l_k_51 ht hvm hw_k_51 hB hz1 hk1 hS => ?_)
  obtain ⟨zv, hP1, hK1, hD1⟩ := hB
  rw [ht] at hP1
  have hK1 := va_K.moved hvm.symm hK1
  obtain ⟨hP, hD⟩ := va_join (wr := [(f, .inr (2, [Value.ref g, Value.ref q_2, Value.ref q_6, Value.ref q_10, Value.ref q_14, Value.ref q_18, Value.ref q_22, Value.ref q_26, Value.ref q_30, Value.int 0, Value.ref lq, Value.null, Value.ref q_36, Value.ref q_40]))]) (w1 := [(v, .inr (5, [(zv 0), (zv 1), (zv 2), (zv 3), (zv 4), (zv 5), (zv 6), Value.int 0])), (g, .inr (1, [(zg 0), (zg 1), (zg 2), (zg 3), (zg 4), (zg 5), (zg 6), (zg 7), (zg 8), (zg 9), (zg 10), (zg 11), (zg 12), Value.ref pq])), (pq, .inr (6, [(zpq 0), (zpq 1), (zpq 2), (zpq 3), Value.ref bq, Value.int 16]))]) hP hD [3, 1, 2] [0] rfl rfl (by decide) (by decide) hk1 hFc hP1 hD1
  have hK := (hK.sub (tys' := []) [] rfl).app hK1
  have hP : va_P (dC, dI) kcl [(f, .inr (2, [Value.ref g, Value.ref q_2, Value.ref q_6, Value.ref q_10, Value.ref q_14, Value.ref q_18, Value.ref q_22, Value.ref q_26, Value.ref q_30, Value.int 0, Value.ref lq, Value.null, Value.ref q_36, Value.ref q_40])), (v, .inr (5, [(zv 0), (zv 1), (zv 2), (zv 3), (zv 4), (zv 5), (zv 6), Value.int 0])), (g, .inr (1, [(zg 0), (zg 1), (zg 2), (zg 3), (zg 4), (zg 5), (zg 6), (zg 7), (zg 8), (zg 9), (zg 10), (zg 11), (zg 12), Value.ref pq])), (pq, .inr (6, [(zpq 0), (zpq 1), (zpq 2), (zpq 3), Value.ref bq, Value.int 16]))] H_52 := hP
  have hD : va_D A [(f, .inr (2, [Value.ref g, Value.ref q_2, Value.ref q_6, Value.ref q_10, Value.ref q_14, Value.ref q_18, Value.ref q_22, Value.ref q_26, Value.ref q_30, Value.int 0, Value.ref lq, Value.null, Value.ref q_36, Value.ref q_40])), (v, .inr (5, [(zv 0), (zv 1), (zv 2), (zv 3), (zv 4), (zv 5), (zv 6), Value.int 0])), (g, .inr (1, [(zg 0), (zg 1), (zg 2), (zg 3), (zg 4), (zg 5), (zg 6), (zg 7), (zg 8), (zg 9), (zg 10), (zg 11), (zg 12), Value.ref pq])), (pq, .inr (6, [(zpq 0), (zpq 1), (zpq 2), (zpq 3), Value.ref bq, Value.int 16]))] := hD
  have hK : va_K (dC, dI) kcl [] s := hK
  refine va_putF (D := (dC, dI)) (ci := 2) (v := Value.ref v) (ty := .object "TreeMatcher$Vectors") (C := kR_F) (T := kT_F) (N := 14) hx hb hg kin_F kt_F kty_F knm_F hown hK hP hD hS 0 rfl rfl 11 (by decide) (hg _ tw_202) (fun _ h9 => h9) rfl hin rfl (by decide +kernel) rfl rfl (Nat.le_of_ble_eq_true rfl) d_F_init_126 (fun H_53 lo_54 hP hD hS => ?_)
  have hP : va_P (dC, dI) kcl [(f, .inr (2, [Value.ref g, Value.ref q_2, Value.ref q_6, Value.ref q_10, Value.ref q_14, Value.ref q_18, Value.ref q_22, Value.ref q_26, Value.ref q_30, Value.int 0, Value.ref lq, Value.ref v, Value.ref q_36, Value.ref q_40])), (v, .inr (5, [(zv 0), (zv 1), (zv 2), (zv 3), (zv 4), (zv 5), (zv 6), Value.int 0])), (g, .inr (1, [(zg 0), (zg 1), (zg 2), (zg 3), (zg 4), (zg 5), (zg 6), (zg 7), (zg 8), (zg 9), (zg 10), (zg 11), (zg 12), Value.ref pq])), (pq, .inr (6, [(zpq 0), (zpq 1), (zpq 2), (zpq 3), Value.ref bq, Value.int 16]))] H_53 := hP
  have hD : va_D A [(f, .inr (2, [Value.ref g, Value.ref q_2, Value.ref q_6, Value.ref q_10, Value.ref q_14, Value.ref q_18, Value.ref q_22, Value.ref q_26, Value.ref q_30, Value.int 0, Value.ref lq, Value.ref v, Value.ref q_36, Value.ref q_40])), (v, .inr (5, [(zv 0), (zv 1), (zv 2), (zv 3), (zv 4), (zv 5), (zv 6), Value.int 0])), (g, .inr (1, [(zg 0), (zg 1), (zg 2), (zg 3), (zg 4), (zg 5), (zg 6), (zg 7), (zg 8), (zg 9), (zg 10), (zg 11), (zg 12), Value.ref pq])), (pq, .inr (6, [(zpq 0), (zpq 1), (zpq 2), (zpq 3), Value.ref bq, Value.int 16]))] := hD
  have hP9 := hP.sub (ws' := [(f, .inr (2, [Value.ref g, Value.ref q_2, Value.ref q_6, Value.ref q_10, Value.ref q_14, Value.ref q_18, Value.ref q_22, Value.ref q_26, Value.ref q_30, Value.int 0, Value.ref lq, Value.ref v, Value.ref q_36, Value.ref q_40])), (v, .inr (5, [(zv 0), (zv 1), (zv 2), (zv 3), (zv 4), (zv 5), (zv 6), Value.int 0])), (g, .inr (1, [(zg 0), (zg 1), (zg 2), (zg 3), (zg 4), (zg 5), (zg 6), (zg 7), (zg 8), (zg 9), (zg 10), (zg 11), (zg 12), Value.ref pq])), (pq, .inr (6, [(zpq 0), (zpq 1), (zpq 2), (zpq 3), Value.ref bq, Value.int 16]))]) [0, 1, 2, 3] rfl
  have hD9 := hD.sub (ws' := [(f, .inr (2, [Value.ref g, Value.ref q_2, Value.ref q_6, Value.ref q_10, Value.ref q_14, Value.ref q_18, Value.ref q_22, Value.ref q_26, Value.ref q_30, Value.int 0, Value.ref lq, Value.ref v, Value.ref q_36, Value.ref q_40])), (v, .inr (5, [(zv 0), (zv 1), (zv 2), (zv 3), (zv 4), (zv 5), (zv 6), Value.int 0])), (g, .inr (1, [(zg 0), (zg 1), (zg 2), (zg 3), (zg 4), (zg 5), (zg 6), (zg 7), (zg 8), (zg 9), (zg 10), (zg 11), (zg 12), Value.ref pq])), (pq, .inr (6, [(zpq 0), (zpq 1), (zpq 2), (zpq 3), Value.ref bq, Value.int 16]))]) [0, 1, 2, 3] (by decide) rfl
  have hK9 := hK.sub (tys' := []) [] rfl
  exact W.vret hx hb hr (fun t ht hW => ⟨⟨(), rfl, trivial, ⟨v, (fun i => List.getD [Value.ref g, Value.ref q_2, Value.ref q_6, Value.ref q_10, Value.ref q_14, Value.ref q_18, Value.ref q_22, Value.ref q_26, Value.ref q_30, Value.int (0 : Int32), Value.ref lq, Value.ref v, Value.ref q_36, Value.ref q_40] i Value.null), zv, by rw [ht]; exact hP9, va_K.moved hW.alike hK9, hD9⟩⟩, hS.F ht⟩) hS.2.2 d_F_init_129
