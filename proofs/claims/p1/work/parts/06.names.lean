set_option maxRecDepth 100000 in
theorem tw_43 : (Jvm.Cond.laysFinal "TreeMatcher$Groups" "TreeMatcher$Groups" "groups" "I") ∈ gw := gw_of (List.mem_of_getElem? (i := 43) rfl) rfl
set_option maxRecDepth 100000 in
theorem tw_45 : (Jvm.Cond.laysFinal "TreeMatcher$Groups" "TreeMatcher$Groups" "starts" "[I") ∈ gw := gw_of (List.mem_of_getElem? (i := 45) rfl) rfl
set_option maxRecDepth 100000 in
theorem tw_47 : (Jvm.Cond.laysFinal "TreeMatcher$Groups" "TreeMatcher$Groups" "members" "[I") ∈ gw := gw_of (List.mem_of_getElem? (i := 47) rfl) rfl
set_option maxRecDepth 100000 in
theorem tw_64 : (Jvm.Cond.fieldLink "TreeMatcher$Parts" (33 : Nat) "TreeMatcher$Parts" "size" "I") ∈ gw := gw_of (List.mem_of_getElem? (i := 64) rfl) rfl
set_option maxRecDepth 100000 in
theorem tw_65 : (Jvm.Cond.laysFinal "TreeMatcher$Parts" "TreeMatcher$Parts" "lefts" "[I") ∈ gw := gw_of (List.mem_of_getElem? (i := 65) rfl) rfl
set_option maxRecDepth 100000 in
theorem tw_67 : (Jvm.Cond.laysFinal "TreeMatcher$Parts" "TreeMatcher$Parts" "rights" "[I") ∈ gw := gw_of (List.mem_of_getElem? (i := 67) rfl) rfl
set_option maxRecDepth 100000 in
theorem tw_69 : (Jvm.Cond.laysFinal "TreeMatcher$Parts" "TreeMatcher$Parts" "rules" "[I") ∈ gw := gw_of (List.mem_of_getElem? (i := 69) rfl) rfl
set_option maxRecDepth 100000 in
theorem tw_71 : (Jvm.Cond.laysFinal "TreeMatcher$Parts" "TreeMatcher$Parts" "open" "[I") ∈ gw := gw_of (List.mem_of_getElem? (i := 71) rfl) rfl
set_option maxRecDepth 100000 in
theorem tw_73 : (Jvm.Cond.laysFinal "TreeMatcher$Parts" "TreeMatcher$Parts" "byOperator" "LTreeMatcher$Groups;") ∈ gw := gw_of (List.mem_of_getElem? (i := 73) rfl) rfl
set_option maxRecDepth 100000 in
theorem tw_75 : (Jvm.Cond.lays "TreeMatcher$Parts" "TreeMatcher$Parts" "size" "I") ∈ gw := gw_of (List.mem_of_getElem? (i := 75) rfl) rfl
set_option maxRecDepth 100000 in
theorem tw_82 : (Jvm.Cond.fieldLink "TreeMatcher$Grammar" (15 : Nat) "TreeMatcher$Grammar" "operatorCount" "I") ∈ gw := gw_of (List.mem_of_getElem? (i := 82) rfl) rfl
set_option maxRecDepth 100000 in
theorem tw_84 : (Jvm.Cond.fieldLink "TreeMatcher$Grammar" (22 : Nat) "TreeMatcher$Grammar" "handSize" "I") ∈ gw := gw_of (List.mem_of_getElem? (i := 84) rfl) rfl
set_option maxRecDepth 100000 in
theorem tw_92 : (Jvm.Cond.fieldLink "TreeMatcher$Grammar" (52 : Nat) "TreeMatcher$Grammar" "ruleCount" "I") ∈ gw := gw_of (List.mem_of_getElem? (i := 92) rfl) rfl
set_option maxRecDepth 100000 in
theorem tw_93 : (Jvm.Cond.fieldLink "TreeMatcher$Grammar" (55 : Nat) "TreeMatcher$Grammar" "limits" "Z") ∈ gw := gw_of (List.mem_of_getElem? (i := 93) rfl) rfl
set_option maxRecDepth 100000 in
theorem tw_95 : (Jvm.Cond.laysFinal "TreeMatcher$Grammar" "TreeMatcher$Grammar" "kids" "[I") ∈ gw := gw_of (List.mem_of_getElem? (i := 95) rfl) rfl
set_option maxRecDepth 100000 in
theorem tw_97 : (Jvm.Cond.lays "TreeMatcher$Grammar" "TreeMatcher$Grammar" "operatorCount" "I") ∈ gw := gw_of (List.mem_of_getElem? (i := 97) rfl) rfl
set_option maxRecDepth 100000 in
theorem tw_99 : (Jvm.Cond.laysFinal "TreeMatcher$Grammar" "TreeMatcher$Grammar" "hand" "[I") ∈ gw := gw_of (List.mem_of_getElem? (i := 99) rfl) rfl
set_option maxRecDepth 100000 in
theorem tw_101 : (Jvm.Cond.lays "TreeMatcher$Grammar" "TreeMatcher$Grammar" "handSize" "I") ∈ gw := gw_of (List.mem_of_getElem? (i := 101) rfl) rfl
set_option maxRecDepth 100000 in
theorem tw_103 : (Jvm.Cond.laysFinal "TreeMatcher$Grammar" "TreeMatcher$Grammar" "elements" "[I") ∈ gw := gw_of (List.mem_of_getElem? (i := 103) rfl) rfl
set_option maxRecDepth 100000 in
theorem tw_105 : (Jvm.Cond.laysFinal "TreeMatcher$Grammar" "TreeMatcher$Grammar" "lengths" "[I") ∈ gw := gw_of (List.mem_of_getElem? (i := 105) rfl) rfl
set_option maxRecDepth 100000 in
theorem tw_107 : (Jvm.Cond.laysFinal "TreeMatcher$Grammar" "TreeMatcher$Grammar" "gives" "[I") ∈ gw := gw_of (List.mem_of_getElem? (i := 107) rfl) rfl
set_option maxRecDepth 100000 in
theorem tw_109 : (Jvm.Cond.laysFinal "TreeMatcher$Grammar" "TreeMatcher$Grammar" "costs" "[I") ∈ gw := gw_of (List.mem_of_getElem? (i := 109) rfl) rfl
set_option maxRecDepth 100000 in
theorem tw_111 : (Jvm.Cond.laysFinal "TreeMatcher$Grammar" "TreeMatcher$Grammar" "lows" "[I") ∈ gw := gw_of (List.mem_of_getElem? (i := 111) rfl) rfl
set_option maxRecDepth 100000 in
theorem tw_113 : (Jvm.Cond.laysFinal "TreeMatcher$Grammar" "TreeMatcher$Grammar" "highs" "[I") ∈ gw := gw_of (List.mem_of_getElem? (i := 113) rfl) rfl
set_option maxRecDepth 100000 in
theorem tw_115 : (Jvm.Cond.laysFinal "TreeMatcher$Grammar" "TreeMatcher$Grammar" "rulesByChain" "LTreeMatcher$Groups;") ∈ gw := gw_of (List.mem_of_getElem? (i := 115) rfl) rfl
set_option maxRecDepth 100000 in
theorem tw_117 : (Jvm.Cond.lays "TreeMatcher$Grammar" "TreeMatcher$Grammar" "ruleCount" "I") ∈ gw := gw_of (List.mem_of_getElem? (i := 117) rfl) rfl
set_option maxRecDepth 100000 in
theorem tw_119 : (Jvm.Cond.lays "TreeMatcher$Grammar" "TreeMatcher$Grammar" "limits" "Z") ∈ gw := gw_of (List.mem_of_getElem? (i := 119) rfl) rfl
set_option maxRecDepth 100000 in
theorem tw_121 : (Jvm.Cond.laysFinal "TreeMatcher$Grammar" "TreeMatcher$Grammar" "parts" "LTreeMatcher$Parts;") ∈ gw := gw_of (List.mem_of_getElem? (i := 121) rfl) rfl
set_option maxRecDepth 100000 in
theorem tw_139 : (Jvm.Cond.laysFinal "TreeMatcher$Labels" "TreeMatcher$Labels" "grammar" "LTreeMatcher$Grammar;") ∈ gw := gw_of (List.mem_of_getElem? (i := 139) rfl) rfl
set_option maxRecDepth 100000 in
theorem tw_141 : (Jvm.Cond.laysFinal "TreeMatcher$Labels" "TreeMatcher$Labels" "costs" "[J") ∈ gw := gw_of (List.mem_of_getElem? (i := 141) rfl) rfl
set_option maxRecDepth 100000 in
theorem tw_143 : (Jvm.Cond.laysFinal "TreeMatcher$Labels" "TreeMatcher$Labels" "rules" "[I") ∈ gw := gw_of (List.mem_of_getElem? (i := 143) rfl) rfl
set_option maxRecDepth 100000 in
theorem tw_173 : (Jvm.Cond.fieldLink "TreeMatcher$Vectors" (17 : Nat) "TreeMatcher$Vectors" "size" "I") ∈ gw := gw_of (List.mem_of_getElem? (i := 173) rfl) rfl
set_option maxRecDepth 100000 in
theorem tw_174 : (Jvm.Cond.laysFinal "TreeMatcher$Vectors" "TreeMatcher$Vectors" "grammar" "LTreeMatcher$Grammar;") ∈ gw := gw_of (List.mem_of_getElem? (i := 174) rfl) rfl
set_option maxRecDepth 100000 in
theorem tw_176 : (Jvm.Cond.laysFinal "TreeMatcher$Vectors" "TreeMatcher$Vectors" "parts" "LTreeMatcher$Parts;") ∈ gw := gw_of (List.mem_of_getElem? (i := 176) rfl) rfl
set_option maxRecDepth 100000 in
theorem tw_178 : (Jvm.Cond.laysFinal "TreeMatcher$Vectors" "TreeMatcher$Vectors" "byOperator" "LTreeMatcher$Groups;") ∈ gw := gw_of (List.mem_of_getElem? (i := 178) rfl) rfl
set_option maxRecDepth 100000 in
theorem tw_180 : (Jvm.Cond.laysFinal "TreeMatcher$Vectors" "TreeMatcher$Vectors" "labels" "LTreeMatcher$Labels;") ∈ gw := gw_of (List.mem_of_getElem? (i := 180) rfl) rfl
set_option maxRecDepth 100000 in
theorem tw_182 : (Jvm.Cond.laysFinal "TreeMatcher$Vectors" "TreeMatcher$Vectors" "rows" "[[J") ∈ gw := gw_of (List.mem_of_getElem? (i := 182) rfl) rfl
set_option maxRecDepth 100000 in
theorem tw_184 : (Jvm.Cond.laysFinal "TreeMatcher$Vectors" "TreeMatcher$Vectors" "roots" "[I") ∈ gw := gw_of (List.mem_of_getElem? (i := 184) rfl) rfl
set_option maxRecDepth 100000 in
theorem tw_186 : (Jvm.Cond.laysFinal "TreeMatcher$Vectors" "TreeMatcher$Vectors" "fresh" "[J") ∈ gw := gw_of (List.mem_of_getElem? (i := 186) rfl) rfl
set_option maxRecDepth 100000 in
theorem tw_188 : (Jvm.Cond.lays "TreeMatcher$Vectors" "TreeMatcher$Vectors" "size" "I") ∈ gw := gw_of (List.mem_of_getElem? (i := 188) rfl) rfl
set_option maxRecDepth 100000 in
theorem tw_200 : (Jvm.Cond.fieldLink "TreeMatcher$Forest" (37 : Nat) "TreeMatcher$Forest" "size" "I") ∈ gw := gw_of (List.mem_of_getElem? (i := 200) rfl) rfl
set_option maxRecDepth 100000 in
theorem tw_205 : (Jvm.Cond.laysFinal "TreeMatcher$Forest" "TreeMatcher$Forest" "grammar" "LTreeMatcher$Grammar;") ∈ gw := gw_of (List.mem_of_getElem? (i := 205) rfl) rfl
set_option maxRecDepth 100000 in
theorem tw_207 : (Jvm.Cond.laysFinal "TreeMatcher$Forest" "TreeMatcher$Forest" "operators" "[I") ∈ gw := gw_of (List.mem_of_getElem? (i := 207) rfl) rfl
set_option maxRecDepth 100000 in
theorem tw_209 : (Jvm.Cond.laysFinal "TreeMatcher$Forest" "TreeMatcher$Forest" "values" "[I") ∈ gw := gw_of (List.mem_of_getElem? (i := 209) rfl) rfl
set_option maxRecDepth 100000 in
theorem tw_211 : (Jvm.Cond.laysFinal "TreeMatcher$Forest" "TreeMatcher$Forest" "lefts" "[I") ∈ gw := gw_of (List.mem_of_getElem? (i := 211) rfl) rfl
set_option maxRecDepth 100000 in
theorem tw_213 : (Jvm.Cond.laysFinal "TreeMatcher$Forest" "TreeMatcher$Forest" "rights" "[I") ∈ gw := gw_of (List.mem_of_getElem? (i := 213) rfl) rfl
set_option maxRecDepth 100000 in
theorem tw_215 : (Jvm.Cond.laysFinal "TreeMatcher$Forest" "TreeMatcher$Forest" "isKid" "[Z") ∈ gw := gw_of (List.mem_of_getElem? (i := 215) rfl) rfl
set_option maxRecDepth 100000 in
theorem tw_217 : (Jvm.Cond.laysFinal "TreeMatcher$Forest" "TreeMatcher$Forest" "costs" "[I") ∈ gw := gw_of (List.mem_of_getElem? (i := 217) rfl) rfl
set_option maxRecDepth 100000 in
theorem tw_219 : (Jvm.Cond.laysFinal "TreeMatcher$Forest" "TreeMatcher$Forest" "rules" "[I") ∈ gw := gw_of (List.mem_of_getElem? (i := 219) rfl) rfl
set_option maxRecDepth 100000 in
theorem tw_221 : (Jvm.Cond.laysFinal "TreeMatcher$Forest" "TreeMatcher$Forest" "vectorRows" "[I") ∈ gw := gw_of (List.mem_of_getElem? (i := 221) rfl) rfl
set_option maxRecDepth 100000 in
theorem tw_223 : (Jvm.Cond.lays "TreeMatcher$Forest" "TreeMatcher$Forest" "size" "I") ∈ gw := gw_of (List.mem_of_getElem? (i := 223) rfl) rfl
set_option maxRecDepth 100000 in
theorem tw_225 : (Jvm.Cond.laysFinal "TreeMatcher$Forest" "TreeMatcher$Forest" "labels" "LTreeMatcher$Labels;") ∈ gw := gw_of (List.mem_of_getElem? (i := 225) rfl) rfl
set_option maxRecDepth 100000 in
theorem tw_227 : (Jvm.Cond.laysFinal "TreeMatcher$Forest" "TreeMatcher$Forest" "vectors" "LTreeMatcher$Vectors;") ∈ gw := gw_of (List.mem_of_getElem? (i := 227) rfl) rfl
set_option maxRecDepth 100000 in
theorem tw_229 : (Jvm.Cond.laysFinal "TreeMatcher$Forest" "TreeMatcher$Forest" "places" "[I") ∈ gw := gw_of (List.mem_of_getElem? (i := 229) rfl) rfl
set_option maxRecDepth 100000 in
theorem tw_231 : (Jvm.Cond.laysFinal "TreeMatcher$Forest" "TreeMatcher$Forest" "open" "[I") ∈ gw := gw_of (List.mem_of_getElem? (i := 231) rfl) rfl
set_option maxRecDepth 100000 in
theorem tw_246 : (Jvm.Cond.fieldLink "TreeMatcher$Covering" (25 : Nat) "TreeMatcher$Covering" "size" "I") ∈ gw := gw_of (List.mem_of_getElem? (i := 246) rfl) rfl
set_option maxRecDepth 100000 in
theorem tw_247 : (Jvm.Cond.laysFinal "TreeMatcher$Covering" "TreeMatcher$Covering" "grammar" "LTreeMatcher$Grammar;") ∈ gw := gw_of (List.mem_of_getElem? (i := 247) rfl) rfl
set_option maxRecDepth 100000 in
theorem tw_249 : (Jvm.Cond.laysFinal "TreeMatcher$Covering" "TreeMatcher$Covering" "forest" "LTreeMatcher$Forest;") ∈ gw := gw_of (List.mem_of_getElem? (i := 249) rfl) rfl
set_option maxRecDepth 100000 in
theorem tw_251 : (Jvm.Cond.laysFinal "TreeMatcher$Covering" "TreeMatcher$Covering" "labels" "[I") ∈ gw := gw_of (List.mem_of_getElem? (i := 251) rfl) rfl
set_option maxRecDepth 100000 in
theorem tw_253 : (Jvm.Cond.laysFinal "TreeMatcher$Covering" "TreeMatcher$Covering" "backwards" "[I") ∈ gw := gw_of (List.mem_of_getElem? (i := 253) rfl) rfl
set_option maxRecDepth 100000 in
theorem tw_255 : (Jvm.Cond.laysFinal "TreeMatcher$Covering" "TreeMatcher$Covering" "open" "[I") ∈ gw := gw_of (List.mem_of_getElem? (i := 255) rfl) rfl
set_option maxRecDepth 100000 in
theorem tw_257 : (Jvm.Cond.lays "TreeMatcher$Covering" "TreeMatcher$Covering" "top" "I") ∈ gw := gw_of (List.mem_of_getElem? (i := 257) rfl) rfl
set_option maxRecDepth 100000 in
theorem tw_259 : (Jvm.Cond.lays "TreeMatcher$Covering" "TreeMatcher$Covering" "size" "I") ∈ gw := gw_of (List.mem_of_getElem? (i := 259) rfl) rfl
set_option maxRecDepth 100000 in
theorem tw_274 : (Jvm.Cond.laysFinal "TreeMatcher$Tally" "TreeMatcher$Tally" "grammar" "LTreeMatcher$Grammar;") ∈ gw := gw_of (List.mem_of_getElem? (i := 274) rfl) rfl
set_option maxRecDepth 100000 in
theorem tw_276 : (Jvm.Cond.laysFinal "TreeMatcher$Tally" "TreeMatcher$Tally" "vectors" "LTreeMatcher$Vectors;") ∈ gw := gw_of (List.mem_of_getElem? (i := 276) rfl) rfl
set_option maxRecDepth 100000 in
theorem tw_278 : (Jvm.Cond.lays "TreeMatcher$Tally" "TreeMatcher$Tally" "operatorsThen" "I") ∈ gw := gw_of (List.mem_of_getElem? (i := 278) rfl) rfl
set_option maxRecDepth 100000 in
theorem tw_280 : (Jvm.Cond.lays "TreeMatcher$Tally" "TreeMatcher$Tally" "rulesThen" "I") ∈ gw := gw_of (List.mem_of_getElem? (i := 280) rfl) rfl
set_option maxRecDepth 100000 in
theorem tw_287 : (Jvm.Cond.laysFinal "TreeMatcher" "TreeMatcher" "grammar" "LTreeMatcher$Grammar;") ∈ gw := gw_of (List.mem_of_getElem? (i := 287) rfl) rfl
set_option maxRecDepth 100000 in
theorem tw_289 : (Jvm.Cond.laysFinal "TreeMatcher" "TreeMatcher" "forest" "LTreeMatcher$Forest;") ∈ gw := gw_of (List.mem_of_getElem? (i := 289) rfl) rfl
set_option maxRecDepth 100000 in
theorem tw_291 : (Jvm.Cond.laysFinal "TreeMatcher" "TreeMatcher" "covering" "LTreeMatcher$Covering;") ∈ gw := gw_of (List.mem_of_getElem? (i := 291) rfl) rfl
set_option maxRecDepth 100000 in
theorem tw_293 : (Jvm.Cond.laysFinal "TreeMatcher" "TreeMatcher" "tally" "LTreeMatcher$Tally;") ∈ gw := gw_of (List.mem_of_getElem? (i := 293) rfl) rfl
set_option maxRecDepth 100000 in
theorem tw_323 : (Jvm.Cond.code ({ cls := "TreeMatcher", name := "isWithin", desc := "(II)Z" } : Jvm.MethodName) prog_1_method_15_code (2 : Nat) (Option.some Jvm.ClassFile.FieldType.boolean)) ∈ gw := gw_of (List.mem_of_getElem? (i := 323) rfl) rfl
set_option maxRecDepth 100000 in
theorem tw_428 : (Jvm.Cond.code ({ cls := "TreeMatcher$Grammar", name := "handSize", desc := "()I" } : Jvm.MethodName) prog_4_method_7_code (1 : Nat) (Option.some Jvm.ClassFile.FieldType.int)) ∈ gw := gw_of (List.mem_of_getElem? (i := 428) rfl) rfl
set_option maxRecDepth 100000 in
theorem tw_444 : (Jvm.Cond.code ({ cls := "TreeMatcher$Grammar", name := "ruleCount", desc := "()I" } : Jvm.MethodName) prog_4_method_11_code (1 : Nat) (Option.some Jvm.ClassFile.FieldType.int)) ∈ gw := gw_of (List.mem_of_getElem? (i := 444) rfl) rfl
set_option maxRecDepth 100000 in
theorem tw_448 : (Jvm.Cond.code ({ cls := "TreeMatcher$Forest", name := "size", desc := "()I" } : Jvm.MethodName) prog_3_method_2_code (1 : Nat) (Option.some Jvm.ClassFile.FieldType.int)) ∈ gw := gw_of (List.mem_of_getElem? (i := 448) rfl) rfl
set_option maxRecDepth 100000 in
theorem tw_570 : (Jvm.Cond.code ({ cls := "TreeMatcher$Parts", name := "size", desc := "()I" } : Jvm.MethodName) prog_7_method_4_code (1 : Nat) (Option.some Jvm.ClassFile.FieldType.int)) ∈ gw := gw_of (List.mem_of_getElem? (i := 570) rfl) rfl
set_option maxRecDepth 100000 in
theorem tw_732 : (Jvm.Cond.code ({ cls := "TreeMatcher$Covering", name := "size", desc := "()I" } : Jvm.MethodName) prog_2_method_2_code (1 : Nat) (Option.some Jvm.ClassFile.FieldType.int)) ∈ gw := gw_of (List.mem_of_getElem? (i := 732) rfl) rfl
set_option maxRecDepth 100000 in
theorem tw_756 : (Jvm.Cond.code ({ cls := "TreeMatcher$Grammar", name := "hasLimits", desc := "()Z" } : Jvm.MethodName) prog_4_method_17_code (1 : Nat) (Option.some Jvm.ClassFile.FieldType.boolean)) ∈ gw := gw_of (List.mem_of_getElem? (i := 756) rfl) rfl
set_option maxRecDepth 100000 in
theorem tw_765 : (Jvm.Cond.code ({ cls := "TreeMatcher$Grammar", name := "operatorCount", desc := "()I" } : Jvm.MethodName) prog_4_method_4_code (1 : Nat) (Option.some Jvm.ClassFile.FieldType.int)) ∈ gw := gw_of (List.mem_of_getElem? (i := 765) rfl) rfl
set_option maxRecDepth 100000 in
theorem tw_773 : (Jvm.Cond.code ({ cls := "TreeMatcher$Vectors", name := "size", desc := "()I" } : Jvm.MethodName) prog_9_method_2_code (1 : Nat) (Option.some Jvm.ClassFile.FieldType.int)) ∈ gw := gw_of (List.mem_of_getElem? (i := 773) rfl) rfl
set_option maxRecDepth 100000 in
theorem tw_817 : (Jvm.Cond.fieldLink "TreeMatcherModel" (115 : Nat) "TreeMatcherModel" "thrown" "I") ∈ gw := gw_of (List.mem_of_getElem? (i := 817) rfl) rfl
set_option maxRecDepth 100000 in
theorem tw_859 : (Jvm.Cond.lays "TreeMatcherModel" "TreeMatcherModel" "thrown" "I") ∈ gw := gw_of (List.mem_of_getElem? (i := 859) rfl) rfl
set_option maxRecDepth 100000 in
theorem tw_861 : (Jvm.Cond.laysFinal "TreeMatcherModel" "TreeMatcherModel" "kids" "[I") ∈ gw := gw_of (List.mem_of_getElem? (i := 861) rfl) rfl
set_option maxRecDepth 100000 in
theorem tw_863 : (Jvm.Cond.lays "TreeMatcherModel" "TreeMatcherModel" "operators" "I") ∈ gw := gw_of (List.mem_of_getElem? (i := 863) rfl) rfl
set_option maxRecDepth 100000 in
theorem tw_865 : (Jvm.Cond.laysFinal "TreeMatcherModel" "TreeMatcherModel" "hand" "[I") ∈ gw := gw_of (List.mem_of_getElem? (i := 865) rfl) rfl
set_option maxRecDepth 100000 in
theorem tw_867 : (Jvm.Cond.lays "TreeMatcherModel" "TreeMatcherModel" "handed" "I") ∈ gw := gw_of (List.mem_of_getElem? (i := 867) rfl) rfl
set_option maxRecDepth 100000 in
theorem tw_869 : (Jvm.Cond.lays "TreeMatcherModel" "TreeMatcherModel" "rules" "I") ∈ gw := gw_of (List.mem_of_getElem? (i := 869) rfl) rfl
set_option maxRecDepth 100000 in
theorem tw_871 : (Jvm.Cond.laysFinal "TreeMatcherModel" "TreeMatcherModel" "gives" "[I") ∈ gw := gw_of (List.mem_of_getElem? (i := 871) rfl) rfl
set_option maxRecDepth 100000 in
theorem tw_873 : (Jvm.Cond.laysFinal "TreeMatcherModel" "TreeMatcherModel" "costs" "[I") ∈ gw := gw_of (List.mem_of_getElem? (i := 873) rfl) rfl
set_option maxRecDepth 100000 in
theorem tw_875 : (Jvm.Cond.laysFinal "TreeMatcherModel" "TreeMatcherModel" "lows" "[I") ∈ gw := gw_of (List.mem_of_getElem? (i := 875) rfl) rfl
set_option maxRecDepth 100000 in
theorem tw_877 : (Jvm.Cond.laysFinal "TreeMatcherModel" "TreeMatcherModel" "highs" "[I") ∈ gw := gw_of (List.mem_of_getElem? (i := 877) rfl) rfl
set_option maxRecDepth 100000 in
theorem tw_879 : (Jvm.Cond.laysFinal "TreeMatcherModel" "TreeMatcherModel" "sizes" "[I") ∈ gw := gw_of (List.mem_of_getElem? (i := 879) rfl) rfl
set_option maxRecDepth 100000 in
theorem tw_881 : (Jvm.Cond.laysFinal "TreeMatcherModel" "TreeMatcherModel" "elements" "[I") ∈ gw := gw_of (List.mem_of_getElem? (i := 881) rfl) rfl
set_option maxRecDepth 100000 in
theorem tw_883 : (Jvm.Cond.lays "TreeMatcherModel" "TreeMatcherModel" "nodes" "I") ∈ gw := gw_of (List.mem_of_getElem? (i := 883) rfl) rfl
set_option maxRecDepth 100000 in
theorem tw_885 : (Jvm.Cond.laysFinal "TreeMatcherModel" "TreeMatcherModel" "operator" "[I") ∈ gw := gw_of (List.mem_of_getElem? (i := 885) rfl) rfl
set_option maxRecDepth 100000 in
theorem tw_887 : (Jvm.Cond.laysFinal "TreeMatcherModel" "TreeMatcherModel" "value" "[I") ∈ gw := gw_of (List.mem_of_getElem? (i := 887) rfl) rfl
set_option maxRecDepth 100000 in
theorem tw_889 : (Jvm.Cond.laysFinal "TreeMatcherModel" "TreeMatcherModel" "left" "[I") ∈ gw := gw_of (List.mem_of_getElem? (i := 889) rfl) rfl
set_option maxRecDepth 100000 in
theorem tw_891 : (Jvm.Cond.laysFinal "TreeMatcherModel" "TreeMatcherModel" "right" "[I") ∈ gw := gw_of (List.mem_of_getElem? (i := 891) rfl) rfl
set_option maxRecDepth 100000 in
theorem tw_893 : (Jvm.Cond.laysFinal "TreeMatcherModel" "TreeMatcherModel" "isKid" "[Z") ∈ gw := gw_of (List.mem_of_getElem? (i := 893) rfl) rfl
set_option maxRecDepth 100000 in
theorem tw_895 : (Jvm.Cond.laysFinal "TreeMatcherModel" "TreeMatcherModel" "least" "[I") ∈ gw := gw_of (List.mem_of_getElem? (i := 895) rfl) rfl
set_option maxRecDepth 100000 in
theorem tw_897 : (Jvm.Cond.laysFinal "TreeMatcherModel" "TreeMatcherModel" "ruleOf" "[I") ∈ gw := gw_of (List.mem_of_getElem? (i := 897) rfl) rfl
set_option maxRecDepth 100000 in
theorem tw_899 : (Jvm.Cond.lays "TreeMatcherModel" "TreeMatcherModel" "pairs" "I") ∈ gw := gw_of (List.mem_of_getElem? (i := 899) rfl) rfl
set_option maxRecDepth 100000 in
theorem tw_901 : (Jvm.Cond.laysFinal "TreeMatcherModel" "TreeMatcherModel" "pairNode" "[I") ∈ gw := gw_of (List.mem_of_getElem? (i := 901) rfl) rfl
set_option maxRecDepth 100000 in
theorem tw_903 : (Jvm.Cond.laysFinal "TreeMatcherModel" "TreeMatcherModel" "pairRule" "[I") ∈ gw := gw_of (List.mem_of_getElem? (i := 903) rfl) rfl
set_option maxRecDepth 100000 in
theorem tw_905 : (Jvm.Cond.laysFinal "TreeMatcherModel" "TreeMatcherModel" "stands" "[I") ∈ gw := gw_of (List.mem_of_getElem? (i := 905) rfl) rfl
set_option maxRecDepth 100000 in
theorem tw_907 : (Jvm.Cond.laysFinal "TreeMatcherModel" "TreeMatcherModel" "todo" "[I") ∈ gw := gw_of (List.mem_of_getElem? (i := 907) rfl) rfl
set_option maxRecDepth 100000 in
theorem tw_909 : (Jvm.Cond.laysFinal "TreeMatcherModel" "TreeMatcherModel" "chainOf" "[I") ∈ gw := gw_of (List.mem_of_getElem? (i := 909) rfl) rfl
set_option maxRecDepth 100000 in
theorem tw_911 : (Jvm.Cond.laysFinal "TreeMatcherModel" "TreeMatcherModel" "chainFrom" "[I") ∈ gw := gw_of (List.mem_of_getElem? (i := 911) rfl) rfl
set_option maxRecDepth 100000 in
theorem tw_913 : (Jvm.Cond.laysFinal "TreeMatcherModel" "TreeMatcherModel" "coverNode" "[I") ∈ gw := gw_of (List.mem_of_getElem? (i := 913) rfl) rfl
set_option maxRecDepth 100000 in
theorem tw_915 : (Jvm.Cond.laysFinal "TreeMatcherModel" "TreeMatcherModel" "coverOf" "[I") ∈ gw := gw_of (List.mem_of_getElem? (i := 915) rfl) rfl
set_option maxRecDepth 100000 in
theorem tw_917 : (Jvm.Cond.laysFinal "TreeMatcherModel" "TreeMatcherModel" "coverRule" "[I") ∈ gw := gw_of (List.mem_of_getElem? (i := 917) rfl) rfl
set_option maxRecDepth 100000 in
theorem tw_919 : (Jvm.Cond.laysFinal "TreeMatcherModel" "TreeMatcherModel" "newNode" "[I") ∈ gw := gw_of (List.mem_of_getElem? (i := 919) rfl) rfl
set_option maxRecDepth 100000 in
theorem tw_921 : (Jvm.Cond.laysFinal "TreeMatcherModel" "TreeMatcherModel" "newRule" "[I") ∈ gw := gw_of (List.mem_of_getElem? (i := 921) rfl) rfl
set_option maxRecDepth 100000 in
theorem tw_923 : (Jvm.Cond.lays "TreeMatcherModel" "TreeMatcherModel" "parts" "I") ∈ gw := gw_of (List.mem_of_getElem? (i := 923) rfl) rfl
set_option maxRecDepth 100000 in
theorem tw_925 : (Jvm.Cond.laysFinal "TreeMatcherModel" "TreeMatcherModel" "partOf" "[I") ∈ gw := gw_of (List.mem_of_getElem? (i := 925) rfl) rfl
set_option maxRecDepth 100000 in
theorem tw_927 : (Jvm.Cond.laysFinal "TreeMatcherModel" "TreeMatcherModel" "partRule" "[I") ∈ gw := gw_of (List.mem_of_getElem? (i := 927) rfl) rfl
set_option maxRecDepth 100000 in
theorem tw_929 : (Jvm.Cond.laysFinal "TreeMatcherModel" "TreeMatcherModel" "partFrom" "[I") ∈ gw := gw_of (List.mem_of_getElem? (i := 929) rfl) rfl
set_option maxRecDepth 100000 in
theorem tw_931 : (Jvm.Cond.laysFinal "TreeMatcherModel" "TreeMatcherModel" "partLeft" "[I") ∈ gw := gw_of (List.mem_of_getElem? (i := 931) rfl) rfl
set_option maxRecDepth 100000 in
theorem tw_933 : (Jvm.Cond.laysFinal "TreeMatcherModel" "TreeMatcherModel" "partRight" "[I") ∈ gw := gw_of (List.mem_of_getElem? (i := 933) rfl) rfl
set_option maxRecDepth 100000 in
theorem tw_935 : (Jvm.Cond.laysFinal "TreeMatcherModel" "TreeMatcherModel" "states" "[I") ∈ gw := gw_of (List.mem_of_getElem? (i := 935) rfl) rfl
set_option maxRecDepth 100000 in
theorem tw_937 : (Jvm.Cond.laysFinal "TreeMatcherModel" "TreeMatcherModel" "vectors" "[I") ∈ gw := gw_of (List.mem_of_getElem? (i := 937) rfl) rfl
set_option maxRecDepth 100000 in
theorem tw_939 : (Jvm.Cond.laysFinal "TreeMatcherModel" "TreeMatcherModel" "byRule" "[I") ∈ gw := gw_of (List.mem_of_getElem? (i := 939) rfl) rfl
set_option maxRecDepth 100000 in
theorem tw_941 : (Jvm.Cond.lays "TreeMatcherModel" "TreeMatcherModel" "stateCount" "I") ∈ gw := gw_of (List.mem_of_getElem? (i := 941) rfl) rfl
set_option maxRecDepth 100000 in
theorem tw_947 : (Jvm.Cond.code ({ cls := "TreeMatcherModel", name := "thrown", desc := "()I" } : Jvm.MethodName) prog_11_method_2_code (1 : Nat) (Option.some Jvm.ClassFile.FieldType.int)) ∈ gw := gw_of (List.mem_of_getElem? (i := 947) rfl) rfl
def kR_M : String := "TreeMatcher"
def kT_M : u_T := fun k => match k with
  | 0 => ("TreeMatcher", "grammar", "LTreeMatcher$Grammar;", true)
  | 1 => ("TreeMatcher", "forest", "LTreeMatcher$Forest;", true)
  | 2 => ("TreeMatcher", "covering", "LTreeMatcher$Covering;", true)
  | _ => ("TreeMatcher", "tally", "LTreeMatcher$Tally;", true)
def kt_M : Nat → FieldType := fun k => match k with
  | 0 => .object "TreeMatcher$Grammar"
  | 1 => .object "TreeMatcher$Forest"
  | 2 => .object "TreeMatcher$Covering"
  | _ => .object "TreeMatcher$Tally"
theorem knm_M : ∀ a, a < 4 → ∀ b, b < 4 → a ≠ b → (kT_M a).2.1 ≠ (kT_M b).2.1 := by decide +kernel
theorem kty_M : ∀ k, k < 4 → parseFieldDescriptor (kT_M k).2.2.1 = some (kt_M k) := by decide +kernel
theorem kdf_M : ∀ j, j < 4 → defaultValue (kt_M j) = vp_V [.null, .null, .null, .null] j := by
  intro j hj
  match j, hj with
  | 0, _ => rfl
  | 1, _ => rfl
  | 2, _ => rfl
  | 3, _ => rfl
def kR_G : String := "TreeMatcher$Grammar"
def kT_G : u_T := fun k => match k with
  | 0 => ("TreeMatcher$Grammar", "kids", "[I", true)
  | 1 => ("TreeMatcher$Grammar", "operatorCount", "I", false)
  | 2 => ("TreeMatcher$Grammar", "hand", "[I", true)
  | 3 => ("TreeMatcher$Grammar", "handSize", "I", false)
  | 4 => ("TreeMatcher$Grammar", "elements", "[I", true)
  | 5 => ("TreeMatcher$Grammar", "lengths", "[I", true)
  | 6 => ("TreeMatcher$Grammar", "gives", "[I", true)
  | 7 => ("TreeMatcher$Grammar", "costs", "[I", true)
  | 8 => ("TreeMatcher$Grammar", "lows", "[I", true)
  | 9 => ("TreeMatcher$Grammar", "highs", "[I", true)
  | 10 => ("TreeMatcher$Grammar", "rulesByChain", "LTreeMatcher$Groups;", true)
  | 11 => ("TreeMatcher$Grammar", "ruleCount", "I", false)
  | 12 => ("TreeMatcher$Grammar", "limits", "Z", false)
  | _ => ("TreeMatcher$Grammar", "parts", "LTreeMatcher$Parts;", true)
def kt_G : Nat → FieldType := fun k => match k with
  | 0 => .array .int
  | 1 => .int
  | 2 => .array .int
  | 3 => .int
  | 4 => .array .int
  | 5 => .array .int
  | 6 => .array .int
  | 7 => .array .int
  | 8 => .array .int
  | 9 => .array .int
  | 10 => .object "TreeMatcher$Groups"
  | 11 => .int
  | 12 => .boolean
  | _ => .object "TreeMatcher$Parts"
theorem knm_G : ∀ a, a < 14 → ∀ b, b < 14 → a ≠ b → (kT_G a).2.1 ≠ (kT_G b).2.1 := by decide +kernel
theorem kty_G : ∀ k, k < 14 → parseFieldDescriptor (kT_G k).2.2.1 = some (kt_G k) := by decide +kernel
theorem kdf_G : ∀ j, j < 14 → defaultValue (kt_G j) = vp_V [.null, .int 0, .null, .int 0, .null, .null, .null, .null, .null, .null, .null, .int 0, .int 0, .null] j := by
  intro j hj
  match j, hj with
  | 0, _ => rfl
  | 1, _ => rfl
  | 2, _ => rfl
  | 3, _ => rfl
  | 4, _ => rfl
  | 5, _ => rfl
  | 6, _ => rfl
  | 7, _ => rfl
  | 8, _ => rfl
  | 9, _ => rfl
  | 10, _ => rfl
  | 11, _ => rfl
  | 12, _ => rfl
  | 13, _ => rfl
def kR_F : String := "TreeMatcher$Forest"
def kT_F : u_T := fun k => match k with
  | 0 => ("TreeMatcher$Forest", "grammar", "LTreeMatcher$Grammar;", true)
  | 1 => ("TreeMatcher$Forest", "operators", "[I", true)
  | 2 => ("TreeMatcher$Forest", "values", "[I", true)
  | 3 => ("TreeMatcher$Forest", "lefts", "[I", true)
  | 4 => ("TreeMatcher$Forest", "rights", "[I", true)
  | 5 => ("TreeMatcher$Forest", "isKid", "[Z", true)
  | 6 => ("TreeMatcher$Forest", "costs", "[I", true)
  | 7 => ("TreeMatcher$Forest", "rules", "[I", true)
  | 8 => ("TreeMatcher$Forest", "vectorRows", "[I", true)
  | 9 => ("TreeMatcher$Forest", "size", "I", false)
  | 10 => ("TreeMatcher$Forest", "labels", "LTreeMatcher$Labels;", true)
  | 11 => ("TreeMatcher$Forest", "vectors", "LTreeMatcher$Vectors;", true)
  | 12 => ("TreeMatcher$Forest", "places", "[I", true)
  | _ => ("TreeMatcher$Forest", "open", "[I", true)
def kt_F : Nat → FieldType := fun k => match k with
  | 0 => .object "TreeMatcher$Grammar"
  | 1 => .array .int
  | 2 => .array .int
  | 3 => .array .int
  | 4 => .array .int
  | 5 => .array .boolean
  | 6 => .array .int
  | 7 => .array .int
  | 8 => .array .int
  | 9 => .int
  | 10 => .object "TreeMatcher$Labels"
  | 11 => .object "TreeMatcher$Vectors"
  | 12 => .array .int
  | _ => .array .int
theorem knm_F : ∀ a, a < 14 → ∀ b, b < 14 → a ≠ b → (kT_F a).2.1 ≠ (kT_F b).2.1 := by decide +kernel
theorem kty_F : ∀ k, k < 14 → parseFieldDescriptor (kT_F k).2.2.1 = some (kt_F k) := by decide +kernel
theorem kdf_F : ∀ j, j < 14 → defaultValue (kt_F j) = vp_V [.null, .null, .null, .null, .null, .null, .null, .null, .null, .int 0, .null, .null, .null, .null] j := by
  intro j hj
  match j, hj with
  | 0, _ => rfl
  | 1, _ => rfl
  | 2, _ => rfl
  | 3, _ => rfl
  | 4, _ => rfl
  | 5, _ => rfl
  | 6, _ => rfl
  | 7, _ => rfl
  | 8, _ => rfl
  | 9, _ => rfl
  | 10, _ => rfl
  | 11, _ => rfl
  | 12, _ => rfl
  | 13, _ => rfl
def kR_C : String := "TreeMatcher$Covering"
def kT_C : u_T := fun k => match k with
  | 0 => ("TreeMatcher$Covering", "grammar", "LTreeMatcher$Grammar;", true)
  | 1 => ("TreeMatcher$Covering", "forest", "LTreeMatcher$Forest;", true)
  | 2 => ("TreeMatcher$Covering", "labels", "[I", true)
  | 3 => ("TreeMatcher$Covering", "backwards", "[I", true)
  | 4 => ("TreeMatcher$Covering", "open", "[I", true)
  | 5 => ("TreeMatcher$Covering", "top", "I", false)
  | _ => ("TreeMatcher$Covering", "size", "I", false)
def kt_C : Nat → FieldType := fun k => match k with
  | 0 => .object "TreeMatcher$Grammar"
  | 1 => .object "TreeMatcher$Forest"
  | 2 => .array .int
  | 3 => .array .int
  | 4 => .array .int
  | 5 => .int
  | _ => .int
theorem knm_C : ∀ a, a < 7 → ∀ b, b < 7 → a ≠ b → (kT_C a).2.1 ≠ (kT_C b).2.1 := by decide +kernel
theorem kty_C : ∀ k, k < 7 → parseFieldDescriptor (kT_C k).2.2.1 = some (kt_C k) := by decide +kernel
theorem kdf_C : ∀ j, j < 7 → defaultValue (kt_C j) = vp_V [.null, .null, .null, .null, .null, .int 0, .int 0] j := by
  intro j hj
  match j, hj with
  | 0, _ => rfl
  | 1, _ => rfl
  | 2, _ => rfl
  | 3, _ => rfl
  | 4, _ => rfl
  | 5, _ => rfl
  | 6, _ => rfl
def kR_Y : String := "TreeMatcher$Tally"
def kT_Y : u_T := fun k => match k with
  | 0 => ("TreeMatcher$Tally", "grammar", "LTreeMatcher$Grammar;", true)
  | 1 => ("TreeMatcher$Tally", "vectors", "LTreeMatcher$Vectors;", true)
  | 2 => ("TreeMatcher$Tally", "operatorsThen", "I", false)
  | _ => ("TreeMatcher$Tally", "rulesThen", "I", false)
def kt_Y : Nat → FieldType := fun k => match k with
  | 0 => .object "TreeMatcher$Grammar"
  | 1 => .object "TreeMatcher$Vectors"
  | 2 => .int
  | _ => .int
theorem knm_Y : ∀ a, a < 4 → ∀ b, b < 4 → a ≠ b → (kT_Y a).2.1 ≠ (kT_Y b).2.1 := by decide +kernel
theorem kty_Y : ∀ k, k < 4 → parseFieldDescriptor (kT_Y k).2.2.1 = some (kt_Y k) := by decide +kernel
theorem kdf_Y : ∀ j, j < 4 → defaultValue (kt_Y j) = vp_V [.null, .null, .int 0, .int 0] j := by
  intro j hj
  match j, hj with
  | 0, _ => rfl
  | 1, _ => rfl
  | 2, _ => rfl
  | 3, _ => rfl
def kR_V : String := "TreeMatcher$Vectors"
def kT_V : u_T := fun k => match k with
  | 0 => ("TreeMatcher$Vectors", "grammar", "LTreeMatcher$Grammar;", true)
  | 1 => ("TreeMatcher$Vectors", "parts", "LTreeMatcher$Parts;", true)
  | 2 => ("TreeMatcher$Vectors", "byOperator", "LTreeMatcher$Groups;", true)
  | 3 => ("TreeMatcher$Vectors", "labels", "LTreeMatcher$Labels;", true)
  | 4 => ("TreeMatcher$Vectors", "rows", "[[J", true)
  | 5 => ("TreeMatcher$Vectors", "roots", "[I", true)
  | 6 => ("TreeMatcher$Vectors", "fresh", "[J", true)
  | _ => ("TreeMatcher$Vectors", "size", "I", false)
def kt_V : Nat → FieldType := fun k => match k with
  | 0 => .object "TreeMatcher$Grammar"
  | 1 => .object "TreeMatcher$Parts"
  | 2 => .object "TreeMatcher$Groups"
  | 3 => .object "TreeMatcher$Labels"
  | 4 => .array (.array .long)
  | 5 => .array .int
  | 6 => .array .long
  | _ => .int
theorem knm_V : ∀ a, a < 8 → ∀ b, b < 8 → a ≠ b → (kT_V a).2.1 ≠ (kT_V b).2.1 := by decide +kernel
theorem kty_V : ∀ k, k < 8 → parseFieldDescriptor (kT_V k).2.2.1 = some (kt_V k) := by decide +kernel
theorem kdf_V : ∀ j, j < 8 → defaultValue (kt_V j) = vp_V [.null, .null, .null, .null, .null, .null, .null, .int 0] j := by
  intro j hj
  match j, hj with
  | 0, _ => rfl
  | 1, _ => rfl
  | 2, _ => rfl
  | 3, _ => rfl
  | 4, _ => rfl
  | 5, _ => rfl
  | 6, _ => rfl
  | 7, _ => rfl
def kR_P : String := "TreeMatcher$Parts"
def kT_P : u_T := fun k => match k with
  | 0 => ("TreeMatcher$Parts", "lefts", "[I", true)
  | 1 => ("TreeMatcher$Parts", "rights", "[I", true)
  | 2 => ("TreeMatcher$Parts", "rules", "[I", true)
  | 3 => ("TreeMatcher$Parts", "open", "[I", true)
  | 4 => ("TreeMatcher$Parts", "byOperator", "LTreeMatcher$Groups;", true)
  | _ => ("TreeMatcher$Parts", "size", "I", false)
def kt_P : Nat → FieldType := fun k => match k with
  | 0 => .array .int
  | 1 => .array .int
  | 2 => .array .int
  | 3 => .array .int
  | 4 => .object "TreeMatcher$Groups"
  | _ => .int
theorem knm_P : ∀ a, a < 6 → ∀ b, b < 6 → a ≠ b → (kT_P a).2.1 ≠ (kT_P b).2.1 := by decide +kernel
theorem kty_P : ∀ k, k < 6 → parseFieldDescriptor (kT_P k).2.2.1 = some (kt_P k) := by decide +kernel
theorem kdf_P : ∀ j, j < 6 → defaultValue (kt_P j) = vp_V [.null, .null, .null, .null, .null, .int 0] j := by
  intro j hj
  match j, hj with
  | 0, _ => rfl
  | 1, _ => rfl
  | 2, _ => rfl
  | 3, _ => rfl
  | 4, _ => rfl
  | 5, _ => rfl
def kR_U : String := "TreeMatcher$Groups"
def kT_U : u_T := fun k => match k with
  | 0 => ("TreeMatcher$Groups", "groups", "I", true)
  | 1 => ("TreeMatcher$Groups", "starts", "[I", true)
  | _ => ("TreeMatcher$Groups", "members", "[I", true)
def kt_U : Nat → FieldType := fun k => match k with
  | 0 => .int
  | 1 => .array .int
  | _ => .array .int
theorem knm_U : ∀ a, a < 3 → ∀ b, b < 3 → a ≠ b → (kT_U a).2.1 ≠ (kT_U b).2.1 := by decide +kernel
theorem kty_U : ∀ k, k < 3 → parseFieldDescriptor (kT_U k).2.2.1 = some (kt_U k) := by decide +kernel
theorem kdf_U : ∀ j, j < 3 → defaultValue (kt_U j) = vp_V [.int 0, .null, .null] j := by
  intro j hj
  match j, hj with
  | 0, _ => rfl
  | 1, _ => rfl
  | 2, _ => rfl
def kR_L : String := "TreeMatcher$Labels"
def kT_L : u_T := fun k => match k with
  | 0 => ("TreeMatcher$Labels", "grammar", "LTreeMatcher$Grammar;", true)
  | 1 => ("TreeMatcher$Labels", "costs", "[J", true)
  | _ => ("TreeMatcher$Labels", "rules", "[I", true)
def kt_L : Nat → FieldType := fun k => match k with
  | 0 => .object "TreeMatcher$Grammar"
  | 1 => .array .long
  | _ => .array .int
theorem knm_L : ∀ a, a < 3 → ∀ b, b < 3 → a ≠ b → (kT_L a).2.1 ≠ (kT_L b).2.1 := by decide +kernel
theorem kty_L : ∀ k, k < 3 → parseFieldDescriptor (kT_L k).2.2.1 = some (kt_L k) := by decide +kernel
theorem kdf_L : ∀ j, j < 3 → defaultValue (kt_L j) = vp_V [.null, .null, .null] j := by
  intro j hj
  match j, hj with
  | 0, _ => rfl
  | 1, _ => rfl
  | 2, _ => rfl
def kR_D : String := "TreeMatcherModel"
def kT_D : u_T := fun k => match k with
  | 0 => ("TreeMatcherModel", "thrown", "I", false)
  | 1 => ("TreeMatcherModel", "kids", "[I", true)
  | 2 => ("TreeMatcherModel", "operators", "I", false)
  | 3 => ("TreeMatcherModel", "hand", "[I", true)
  | 4 => ("TreeMatcherModel", "handed", "I", false)
  | 5 => ("TreeMatcherModel", "rules", "I", false)
  | 6 => ("TreeMatcherModel", "gives", "[I", true)
  | 7 => ("TreeMatcherModel", "costs", "[I", true)
  | 8 => ("TreeMatcherModel", "lows", "[I", true)
  | 9 => ("TreeMatcherModel", "highs", "[I", true)
  | 10 => ("TreeMatcherModel", "sizes", "[I", true)
  | 11 => ("TreeMatcherModel", "elements", "[I", true)
  | 12 => ("TreeMatcherModel", "nodes", "I", false)
  | 13 => ("TreeMatcherModel", "operator", "[I", true)
  | 14 => ("TreeMatcherModel", "value", "[I", true)
  | 15 => ("TreeMatcherModel", "left", "[I", true)
  | 16 => ("TreeMatcherModel", "right", "[I", true)
  | 17 => ("TreeMatcherModel", "isKid", "[Z", true)
  | 18 => ("TreeMatcherModel", "least", "[I", true)
  | 19 => ("TreeMatcherModel", "ruleOf", "[I", true)
  | 20 => ("TreeMatcherModel", "pairs", "I", false)
  | 21 => ("TreeMatcherModel", "pairNode", "[I", true)
  | 22 => ("TreeMatcherModel", "pairRule", "[I", true)
  | 23 => ("TreeMatcherModel", "stands", "[I", true)
  | 24 => ("TreeMatcherModel", "todo", "[I", true)
  | 25 => ("TreeMatcherModel", "chainOf", "[I", true)
  | 26 => ("TreeMatcherModel", "chainFrom", "[I", true)
  | 27 => ("TreeMatcherModel", "coverNode", "[I", true)
  | 28 => ("TreeMatcherModel", "coverOf", "[I", true)
  | 29 => ("TreeMatcherModel", "coverRule", "[I", true)
  | 30 => ("TreeMatcherModel", "newNode", "[I", true)
  | 31 => ("TreeMatcherModel", "newRule", "[I", true)
  | 32 => ("TreeMatcherModel", "parts", "I", false)
  | 33 => ("TreeMatcherModel", "partOf", "[I", true)
  | 34 => ("TreeMatcherModel", "partRule", "[I", true)
  | 35 => ("TreeMatcherModel", "partFrom", "[I", true)
  | 36 => ("TreeMatcherModel", "partLeft", "[I", true)
  | 37 => ("TreeMatcherModel", "partRight", "[I", true)
  | 38 => ("TreeMatcherModel", "states", "[I", true)
  | 39 => ("TreeMatcherModel", "vectors", "[I", true)
  | 40 => ("TreeMatcherModel", "byRule", "[I", true)
  | _ => ("TreeMatcherModel", "stateCount", "I", false)
def kt_D : Nat → FieldType := fun k => match k with
  | 0 => .int
  | 1 => .array .int
  | 2 => .int
  | 3 => .array .int
  | 4 => .int
  | 5 => .int
  | 6 => .array .int
  | 7 => .array .int
  | 8 => .array .int
  | 9 => .array .int
  | 10 => .array .int
  | 11 => .array .int
  | 12 => .int
  | 13 => .array .int
  | 14 => .array .int
  | 15 => .array .int
  | 16 => .array .int
  | 17 => .array .boolean
  | 18 => .array .int
  | 19 => .array .int
  | 20 => .int
  | 21 => .array .int
  | 22 => .array .int
  | 23 => .array .int
  | 24 => .array .int
  | 25 => .array .int
  | 26 => .array .int
  | 27 => .array .int
  | 28 => .array .int
  | 29 => .array .int
  | 30 => .array .int
  | 31 => .array .int
  | 32 => .int
  | 33 => .array .int
  | 34 => .array .int
  | 35 => .array .int
  | 36 => .array .int
  | 37 => .array .int
  | 38 => .array .int
  | 39 => .array .int
  | 40 => .array .int
  | _ => .int
theorem knm_D : ∀ a, a < 42 → ∀ b, b < 42 → a ≠ b → (kT_D a).2.1 ≠ (kT_D b).2.1 := by decide +kernel
theorem kty_D : ∀ k, k < 42 → parseFieldDescriptor (kT_D k).2.2.1 = some (kt_D k) := by decide +kernel
theorem kdf_D : ∀ j, j < 42 → defaultValue (kt_D j) = vp_V [.int 0, .null, .int 0, .null, .int 0, .int 0, .null, .null, .null, .null, .null, .null, .int 0, .null, .null, .null, .null, .null, .null, .null, .int 0, .null, .null, .null, .null, .null, .null, .null, .null, .null, .null, .null, .int 0, .null, .null, .null, .null, .null, .null, .null, .null, .int 0] j := by
  intro j hj
  match j, hj with
  | 0, _ => rfl
  | 1, _ => rfl
  | 2, _ => rfl
  | 3, _ => rfl
  | 4, _ => rfl
  | 5, _ => rfl
  | 6, _ => rfl
  | 7, _ => rfl
  | 8, _ => rfl
  | 9, _ => rfl
  | 10, _ => rfl
  | 11, _ => rfl
  | 12, _ => rfl
  | 13, _ => rfl
  | 14, _ => rfl
  | 15, _ => rfl
  | 16, _ => rfl
  | 17, _ => rfl
  | 18, _ => rfl
  | 19, _ => rfl
  | 20, _ => rfl
  | 21, _ => rfl
  | 22, _ => rfl
  | 23, _ => rfl
  | 24, _ => rfl
  | 25, _ => rfl
  | 26, _ => rfl
  | 27, _ => rfl
  | 28, _ => rfl
  | 29, _ => rfl
  | 30, _ => rfl
  | 31, _ => rfl
  | 32, _ => rfl
  | 33, _ => rfl
  | 34, _ => rfl
  | 35, _ => rfl
  | 36, _ => rfl
  | 37, _ => rfl
  | 38, _ => rfl
  | 39, _ => rfl
  | 40, _ => rfl
  | 41, _ => rfl
  | k + 42, h => exact absurd h (by omega)
abbrev kcl : List vw_C := [(kR_M, kT_M, 4), (kR_G, kT_G, 14), (kR_F, kT_F, 14), (kR_C, kT_C, 7), (kR_Y, kT_Y, 4), (kR_V, kT_V, 8), (kR_P, kT_P, 6), (kR_U, kT_U, 3), (kR_L, kT_L, 3), (kR_D, kT_D, 42)]
theorem kin_M : ∀ w ∈ u_ws kR_M kT_M 4, w ∈ gw := by
  intro w hw
  obtain ⟨k, hk, rfl⟩ := List.mem_map.mp hw
  have hk := List.mem_range.mp hk
  match k, hk with
  | 0, _ => exact tw_287
  | 1, _ => exact tw_289
  | 2, _ => exact tw_291
  | 3, _ => exact tw_293
theorem kin_G : ∀ w ∈ u_ws kR_G kT_G 14, w ∈ gw := by
  intro w hw
  obtain ⟨k, hk, rfl⟩ := List.mem_map.mp hw
  have hk := List.mem_range.mp hk
  match k, hk with
  | 0, _ => exact tw_95
  | 1, _ => exact tw_97
  | 2, _ => exact tw_99
  | 3, _ => exact tw_101
  | 4, _ => exact tw_103
  | 5, _ => exact tw_105
  | 6, _ => exact tw_107
  | 7, _ => exact tw_109
  | 8, _ => exact tw_111
  | 9, _ => exact tw_113
  | 10, _ => exact tw_115
  | 11, _ => exact tw_117
  | 12, _ => exact tw_119
  | 13, _ => exact tw_121
theorem kin_F : ∀ w ∈ u_ws kR_F kT_F 14, w ∈ gw := by
  intro w hw
  obtain ⟨k, hk, rfl⟩ := List.mem_map.mp hw
  have hk := List.mem_range.mp hk
  match k, hk with
  | 0, _ => exact tw_205
  | 1, _ => exact tw_207
  | 2, _ => exact tw_209
  | 3, _ => exact tw_211
  | 4, _ => exact tw_213
  | 5, _ => exact tw_215
  | 6, _ => exact tw_217
  | 7, _ => exact tw_219
  | 8, _ => exact tw_221
  | 9, _ => exact tw_223
  | 10, _ => exact tw_225
  | 11, _ => exact tw_227
  | 12, _ => exact tw_229
  | 13, _ => exact tw_231
theorem kin_C : ∀ w ∈ u_ws kR_C kT_C 7, w ∈ gw := by
  intro w hw
  obtain ⟨k, hk, rfl⟩ := List.mem_map.mp hw
  have hk := List.mem_range.mp hk
  match k, hk with
  | 0, _ => exact tw_247
  | 1, _ => exact tw_249
  | 2, _ => exact tw_251
  | 3, _ => exact tw_253
  | 4, _ => exact tw_255
  | 5, _ => exact tw_257
  | 6, _ => exact tw_259
theorem kin_Y : ∀ w ∈ u_ws kR_Y kT_Y 4, w ∈ gw := by
  intro w hw
  obtain ⟨k, hk, rfl⟩ := List.mem_map.mp hw
  have hk := List.mem_range.mp hk
  match k, hk with
  | 0, _ => exact tw_274
  | 1, _ => exact tw_276
  | 2, _ => exact tw_278
  | 3, _ => exact tw_280
theorem kin_V : ∀ w ∈ u_ws kR_V kT_V 8, w ∈ gw := by
  intro w hw
  obtain ⟨k, hk, rfl⟩ := List.mem_map.mp hw
  have hk := List.mem_range.mp hk
  match k, hk with
  | 0, _ => exact tw_174
  | 1, _ => exact tw_176
  | 2, _ => exact tw_178
  | 3, _ => exact tw_180
  | 4, _ => exact tw_182
  | 5, _ => exact tw_184
  | 6, _ => exact tw_186
  | 7, _ => exact tw_188
theorem kin_P : ∀ w ∈ u_ws kR_P kT_P 6, w ∈ gw := by
  intro w hw
  obtain ⟨k, hk, rfl⟩ := List.mem_map.mp hw
  have hk := List.mem_range.mp hk
  match k, hk with
  | 0, _ => exact tw_65
  | 1, _ => exact tw_67
  | 2, _ => exact tw_69
  | 3, _ => exact tw_71
  | 4, _ => exact tw_73
  | 5, _ => exact tw_75
theorem kin_U : ∀ w ∈ u_ws kR_U kT_U 3, w ∈ gw := by
  intro w hw
  obtain ⟨k, hk, rfl⟩ := List.mem_map.mp hw
  have hk := List.mem_range.mp hk
  match k, hk with
  | 0, _ => exact tw_43
  | 1, _ => exact tw_45
  | 2, _ => exact tw_47
theorem kin_L : ∀ w ∈ u_ws kR_L kT_L 3, w ∈ gw := by
  intro w hw
  obtain ⟨k, hk, rfl⟩ := List.mem_map.mp hw
  have hk := List.mem_range.mp hk
  match k, hk with
  | 0, _ => exact tw_139
  | 1, _ => exact tw_141
  | 2, _ => exact tw_143
theorem kin_D : ∀ w ∈ u_ws kR_D kT_D 42, w ∈ gw := by
  intro w hw
  obtain ⟨k, hk, rfl⟩ := List.mem_map.mp hw
  have hk := List.mem_range.mp hk
  match k, hk with
  | 0, _ => exact tw_859
  | 1, _ => exact tw_861
  | 2, _ => exact tw_863
  | 3, _ => exact tw_865
  | 4, _ => exact tw_867
  | 5, _ => exact tw_869
  | 6, _ => exact tw_871
  | 7, _ => exact tw_873
  | 8, _ => exact tw_875
  | 9, _ => exact tw_877
  | 10, _ => exact tw_879
  | 11, _ => exact tw_881
  | 12, _ => exact tw_883
  | 13, _ => exact tw_885
  | 14, _ => exact tw_887
  | 15, _ => exact tw_889
  | 16, _ => exact tw_891
  | 17, _ => exact tw_893
  | 18, _ => exact tw_895
  | 19, _ => exact tw_897
  | 20, _ => exact tw_899
  | 21, _ => exact tw_901
  | 22, _ => exact tw_903
  | 23, _ => exact tw_905
  | 24, _ => exact tw_907
  | 25, _ => exact tw_909
  | 26, _ => exact tw_911
  | 27, _ => exact tw_913
  | 28, _ => exact tw_915
  | 29, _ => exact tw_917
  | 30, _ => exact tw_919
  | 31, _ => exact tw_921
  | 32, _ => exact tw_923
  | 33, _ => exact tw_925
  | 34, _ => exact tw_927
  | 35, _ => exact tw_929
  | 36, _ => exact tw_931
  | 37, _ => exact tw_933
  | 38, _ => exact tw_935
  | 39, _ => exact tw_937
  | 40, _ => exact tw_939
  | 41, _ => exact tw_941
  | k + 42, h => exact absurd h (by omega)
abbrev b_M_isWithin : ByteArray := prog_1_method_15_code
def y_M_isWithin : MethodName := ⟨"TreeMatcher", "isWithin", "(II)Z"⟩
def ws_M_isWithin : List Cond := Cond.code y_M_isWithin b_M_isWithin 2 (Option.some Jvm.ClassFile.FieldType.boolean) :: gw
theorem cin_M_isWithin : Cond.code y_M_isWithin b_M_isWithin 2 (Option.some Jvm.ClassFile.FieldType.boolean) ∈ gw := tw_323
abbrev b_G_handSize : ByteArray := prog_4_method_7_code
def y_G_handSize : MethodName := ⟨"TreeMatcher$Grammar", "handSize", "()I"⟩
def ws_G_handSize : List Cond := Cond.code y_G_handSize b_G_handSize 1 (Option.some Jvm.ClassFile.FieldType.int) :: gw
theorem cin_G_handSize : Cond.code y_G_handSize b_G_handSize 1 (Option.some Jvm.ClassFile.FieldType.int) ∈ gw := tw_428
abbrev b_G_ruleCount : ByteArray := prog_4_method_11_code
def y_G_ruleCount : MethodName := ⟨"TreeMatcher$Grammar", "ruleCount", "()I"⟩
def ws_G_ruleCount : List Cond := Cond.code y_G_ruleCount b_G_ruleCount 1 (Option.some Jvm.ClassFile.FieldType.int) :: gw
theorem cin_G_ruleCount : Cond.code y_G_ruleCount b_G_ruleCount 1 (Option.some Jvm.ClassFile.FieldType.int) ∈ gw := tw_444
abbrev b_F_size : ByteArray := prog_3_method_2_code
def y_F_size : MethodName := ⟨"TreeMatcher$Forest", "size", "()I"⟩
def ws_F_size : List Cond := Cond.code y_F_size b_F_size 1 (Option.some Jvm.ClassFile.FieldType.int) :: gw
theorem cin_F_size : Cond.code y_F_size b_F_size 1 (Option.some Jvm.ClassFile.FieldType.int) ∈ gw := tw_448
abbrev b_P_size : ByteArray := prog_7_method_4_code
def y_P_size : MethodName := ⟨"TreeMatcher$Parts", "size", "()I"⟩
def ws_P_size : List Cond := Cond.code y_P_size b_P_size 1 (Option.some Jvm.ClassFile.FieldType.int) :: gw
theorem cin_P_size : Cond.code y_P_size b_P_size 1 (Option.some Jvm.ClassFile.FieldType.int) ∈ gw := tw_570
abbrev b_C_size : ByteArray := prog_2_method_2_code
def y_C_size : MethodName := ⟨"TreeMatcher$Covering", "size", "()I"⟩
def ws_C_size : List Cond := Cond.code y_C_size b_C_size 1 (Option.some Jvm.ClassFile.FieldType.int) :: gw
theorem cin_C_size : Cond.code y_C_size b_C_size 1 (Option.some Jvm.ClassFile.FieldType.int) ∈ gw := tw_732
abbrev b_G_hasLimits : ByteArray := prog_4_method_17_code
def y_G_hasLimits : MethodName := ⟨"TreeMatcher$Grammar", "hasLimits", "()Z"⟩
def ws_G_hasLimits : List Cond := Cond.code y_G_hasLimits b_G_hasLimits 1 (Option.some Jvm.ClassFile.FieldType.boolean) :: gw
theorem cin_G_hasLimits : Cond.code y_G_hasLimits b_G_hasLimits 1 (Option.some Jvm.ClassFile.FieldType.boolean) ∈ gw := tw_756
abbrev b_G_operatorCount : ByteArray := prog_4_method_4_code
def y_G_operatorCount : MethodName := ⟨"TreeMatcher$Grammar", "operatorCount", "()I"⟩
def ws_G_operatorCount : List Cond := Cond.code y_G_operatorCount b_G_operatorCount 1 (Option.some Jvm.ClassFile.FieldType.int) :: gw
theorem cin_G_operatorCount : Cond.code y_G_operatorCount b_G_operatorCount 1 (Option.some Jvm.ClassFile.FieldType.int) ∈ gw := tw_765
abbrev b_V_size : ByteArray := prog_9_method_2_code
def y_V_size : MethodName := ⟨"TreeMatcher$Vectors", "size", "()I"⟩
def ws_V_size : List Cond := Cond.code y_V_size b_V_size 1 (Option.some Jvm.ClassFile.FieldType.int) :: gw
theorem cin_V_size : Cond.code y_V_size b_V_size 1 (Option.some Jvm.ClassFile.FieldType.int) ∈ gw := tw_773
abbrev b_D_thrown : ByteArray := prog_11_method_2_code
def y_D_thrown : MethodName := ⟨"TreeMatcherModel", "thrown", "()I"⟩
def ws_D_thrown : List Cond := Cond.code y_D_thrown b_D_thrown 1 (Option.some Jvm.ClassFile.FieldType.int) :: gw
theorem cin_D_thrown : Cond.code y_D_thrown b_D_thrown 1 (Option.some Jvm.ClassFile.FieldType.int) ∈ gw := tw_947
theorem d_M_isWithin_0 : decode b_M_isWithin 0 = .ok (.iload_n 0, 1) := by decide +kernel
theorem d_M_isWithin_1 : decode b_M_isWithin 1 = .ok (.ifCond .lt 12, 3) := by decide +kernel
theorem d_M_isWithin_4 : decode b_M_isWithin 4 = .ok (.iload_n 0, 1) := by decide +kernel
theorem d_M_isWithin_5 : decode b_M_isWithin 5 = .ok (.iload_n 1, 1) := by decide +kernel
theorem d_M_isWithin_6 : decode b_M_isWithin 6 = .ok (.if_icmp .ge 7, 3) := by decide +kernel
theorem d_M_isWithin_9 : decode b_M_isWithin 9 = .ok (.iconst 1, 1) := by decide +kernel
theorem d_M_isWithin_10 : decode b_M_isWithin 10 = .ok (.goto 4, 3) := by decide +kernel
theorem d_M_isWithin_13 : decode b_M_isWithin 13 = .ok (.iconst 0, 1) := by decide +kernel
theorem d_M_isWithin_14 : decode b_M_isWithin 14 = .ok (.ireturn, 1) := by decide +kernel
theorem d_G_handSize_0 : decode b_G_handSize 0 = .ok (.aload_n 0, 1) := by decide +kernel
theorem d_G_handSize_1 : decode b_G_handSize 1 = .ok (.getfield 22, 3) := by decide +kernel
theorem d_G_handSize_4 : decode b_G_handSize 4 = .ok (.ireturn, 1) := by decide +kernel
theorem d_G_ruleCount_0 : decode b_G_ruleCount 0 = .ok (.aload_n 0, 1) := by decide +kernel
theorem d_G_ruleCount_1 : decode b_G_ruleCount 1 = .ok (.getfield 52, 3) := by decide +kernel
theorem d_G_ruleCount_4 : decode b_G_ruleCount 4 = .ok (.ireturn, 1) := by decide +kernel
theorem d_F_size_0 : decode b_F_size 0 = .ok (.aload_n 0, 1) := by decide +kernel
theorem d_F_size_1 : decode b_F_size 1 = .ok (.getfield 37, 3) := by decide +kernel
theorem d_F_size_4 : decode b_F_size 4 = .ok (.ireturn, 1) := by decide +kernel
theorem d_P_size_0 : decode b_P_size 0 = .ok (.aload_n 0, 1) := by decide +kernel
theorem d_P_size_1 : decode b_P_size 1 = .ok (.getfield 33, 3) := by decide +kernel
theorem d_P_size_4 : decode b_P_size 4 = .ok (.ireturn, 1) := by decide +kernel
theorem d_C_size_0 : decode b_C_size 0 = .ok (.aload_n 0, 1) := by decide +kernel
theorem d_C_size_1 : decode b_C_size 1 = .ok (.getfield 25, 3) := by decide +kernel
theorem d_C_size_4 : decode b_C_size 4 = .ok (.ireturn, 1) := by decide +kernel
theorem d_G_hasLimits_0 : decode b_G_hasLimits 0 = .ok (.aload_n 0, 1) := by decide +kernel
theorem d_G_hasLimits_1 : decode b_G_hasLimits 1 = .ok (.getfield 55, 3) := by decide +kernel
theorem d_G_hasLimits_4 : decode b_G_hasLimits 4 = .ok (.ireturn, 1) := by decide +kernel
theorem d_G_operatorCount_0 : decode b_G_operatorCount 0 = .ok (.aload_n 0, 1) := by decide +kernel
theorem d_G_operatorCount_1 : decode b_G_operatorCount 1 = .ok (.getfield 15, 3) := by decide +kernel
theorem d_G_operatorCount_4 : decode b_G_operatorCount 4 = .ok (.ireturn, 1) := by decide +kernel
theorem d_V_size_0 : decode b_V_size 0 = .ok (.aload_n 0, 1) := by decide +kernel
theorem d_V_size_1 : decode b_V_size 1 = .ok (.getfield 17, 3) := by decide +kernel
theorem d_V_size_4 : decode b_V_size 4 = .ok (.ireturn, 1) := by decide +kernel
theorem d_D_thrown_0 : decode b_D_thrown 0 = .ok (.aload_n 0, 1) := by decide +kernel
theorem d_D_thrown_1 : decode b_D_thrown 1 = .ok (.getfield 115, 3) := by decide +kernel
theorem d_D_thrown_4 : decode b_D_thrown 4 = .ok (.ireturn, 1) := by decide +kernel
