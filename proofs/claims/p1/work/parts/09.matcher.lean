set_option maxRecDepth 100000 in
theorem tw_6 : (Jvm.Cond.initialized "TreeMatcher$Forest") ∈ gw := gw_of (List.mem_of_getElem? (i := 6) rfl) rfl
set_option maxRecDepth 100000 in
theorem tw_9 : (Jvm.Cond.initialized "TreeMatcher$Covering") ∈ gw := gw_of (List.mem_of_getElem? (i := 9) rfl) rfl
set_option maxRecDepth 100000 in
theorem tw_10 : (Jvm.Cond.initialized "TreeMatcher$Tally") ∈ gw := gw_of (List.mem_of_getElem? (i := 10) rfl) rfl
set_option maxRecDepth 100000 in
theorem tw_15 : (Jvm.Cond.initialized "java/lang/IllegalArgumentException") ∈ gw := gw_of (List.mem_of_getElem? (i := 15) rfl) rfl
set_option maxRecDepth 100000 in
theorem tw_19 : (Jvm.Cond.initialized "java/lang/IndexOutOfBoundsException") ∈ gw := gw_of (List.mem_of_getElem? (i := 19) rfl) rfl
set_option maxRecDepth 100000 in
theorem tw_283 : (Jvm.Cond.fieldLink "TreeMatcher" (12 : Nat) "TreeMatcher" "grammar" "LTreeMatcher$Grammar;") ∈ gw := gw_of (List.mem_of_getElem? (i := 283) rfl) rfl
set_option maxRecDepth 100000 in
theorem tw_284 : (Jvm.Cond.fieldLink "TreeMatcher" (21 : Nat) "TreeMatcher" "forest" "LTreeMatcher$Forest;") ∈ gw := gw_of (List.mem_of_getElem? (i := 284) rfl) rfl
set_option maxRecDepth 100000 in
theorem tw_285 : (Jvm.Cond.fieldLink "TreeMatcher" (30 : Nat) "TreeMatcher" "covering" "LTreeMatcher$Covering;") ∈ gw := gw_of (List.mem_of_getElem? (i := 285) rfl) rfl
set_option maxRecDepth 100000 in
theorem tw_286 : (Jvm.Cond.fieldLink "TreeMatcher" (37 : Nat) "TreeMatcher" "tally" "LTreeMatcher$Tally;") ∈ gw := gw_of (List.mem_of_getElem? (i := 286) rfl) rfl
set_option maxRecDepth 100000 in
theorem tw_299 : (Jvm.Cond.code ({ cls := "TreeMatcher", name := "clear", desc := "()I" } : Jvm.MethodName) prog_1_method_12_code (1 : Nat) (Option.some Jvm.ClassFile.FieldType.int)) ∈ gw := gw_of (List.mem_of_getElem? (i := 299) rfl) rfl
set_option maxRecDepth 100000 in
theorem tw_300 : (Jvm.Cond.methodLink "TreeMatcher" (155 : Nat) ({ cls := "TreeMatcher$Covering", name := "forget", desc := "()V" } : Jvm.MethodName)) ∈ gw := gw_of (List.mem_of_getElem? (i := 300) rfl) rfl
set_option maxRecDepth 100000 in
theorem tw_301 : (Jvm.Cond.instanceMethod ({ cls := "TreeMatcher$Covering", name := "forget", desc := "()V" } : Jvm.MethodName)) ∈ gw := gw_of (List.mem_of_getElem? (i := 301) rfl) rfl
set_option maxRecDepth 100000 in
theorem tw_302 : (Jvm.Cond.selects "TreeMatcher$Covering" ({ cls := "TreeMatcher$Covering", name := "forget", desc := "()V" } : Jvm.MethodName) ({ cls := "TreeMatcher$Covering", name := "forget", desc := "()V" } : Jvm.MethodName)) ∈ gw := gw_of (List.mem_of_getElem? (i := 302) rfl) rfl
set_option maxRecDepth 100000 in
theorem tw_304 : (Jvm.Cond.methodLink "TreeMatcher" (158 : Nat) ({ cls := "TreeMatcher$Forest", name := "forget", desc := "()I" } : Jvm.MethodName)) ∈ gw := gw_of (List.mem_of_getElem? (i := 304) rfl) rfl
set_option maxRecDepth 100000 in
theorem tw_305 : (Jvm.Cond.instanceMethod ({ cls := "TreeMatcher$Forest", name := "forget", desc := "()I" } : Jvm.MethodName)) ∈ gw := gw_of (List.mem_of_getElem? (i := 305) rfl) rfl
set_option maxRecDepth 100000 in
theorem tw_306 : (Jvm.Cond.selects "TreeMatcher$Forest" ({ cls := "TreeMatcher$Forest", name := "forget", desc := "()I" } : Jvm.MethodName) ({ cls := "TreeMatcher$Forest", name := "forget", desc := "()I" } : Jvm.MethodName)) ∈ gw := gw_of (List.mem_of_getElem? (i := 306) rfl) rfl
set_option maxRecDepth 100000 in
theorem tw_320 : (Jvm.Cond.code ({ cls := "TreeMatcher", name := "operator", desc := "(II)I" } : Jvm.MethodName) prog_1_method_2_code (3 : Nat) (Option.some Jvm.ClassFile.FieldType.int)) ∈ gw := gw_of (List.mem_of_getElem? (i := 320) rfl) rfl
set_option maxRecDepth 100000 in
theorem tw_321 : (Jvm.Cond.methodLink "TreeMatcher" (41 : Nat) ({ cls := "TreeMatcher", name := "isWithin", desc := "(II)Z" } : Jvm.MethodName)) ∈ gw := gw_of (List.mem_of_getElem? (i := 321) rfl) rfl
set_option maxRecDepth 100000 in
theorem tw_324 : (Jvm.Cond.classLink "TreeMatcher" (45 : Nat) "java/lang/IllegalArgumentException") ∈ gw := gw_of (List.mem_of_getElem? (i := 324) rfl) rfl
set_option maxRecDepth 100000 in
theorem tw_325 : (Jvm.Cond.instantiable "java/lang/IllegalArgumentException" (6 : Nat)) ∈ gw := gw_of (List.mem_of_getElem? (i := 325) rfl) rfl
set_option maxRecDepth 100000 in
theorem tw_392 : (Jvm.Cond.methodLink "TreeMatcher" (52 : Nat) ({ cls := "TreeMatcher$Grammar", name := "hasOperator", desc := "(I)Z" } : Jvm.MethodName)) ∈ gw := gw_of (List.mem_of_getElem? (i := 392) rfl) rfl
set_option maxRecDepth 100000 in
theorem tw_393 : (Jvm.Cond.instanceMethod ({ cls := "TreeMatcher$Grammar", name := "hasOperator", desc := "(I)Z" } : Jvm.MethodName)) ∈ gw := gw_of (List.mem_of_getElem? (i := 393) rfl) rfl
set_option maxRecDepth 100000 in
theorem tw_394 : (Jvm.Cond.selects "TreeMatcher$Grammar" ({ cls := "TreeMatcher$Grammar", name := "hasOperator", desc := "(I)Z" } : Jvm.MethodName) ({ cls := "TreeMatcher$Grammar", name := "hasOperator", desc := "(I)Z" } : Jvm.MethodName)) ∈ gw := gw_of (List.mem_of_getElem? (i := 394) rfl) rfl
set_option maxRecDepth 100000 in
theorem tw_413 : (Jvm.Cond.methodLink "TreeMatcher" (61 : Nat) ({ cls := "TreeMatcher$Grammar", name := "addOperator", desc := "(II)I" } : Jvm.MethodName)) ∈ gw := gw_of (List.mem_of_getElem? (i := 413) rfl) rfl
set_option maxRecDepth 100000 in
theorem tw_414 : (Jvm.Cond.instanceMethod ({ cls := "TreeMatcher$Grammar", name := "addOperator", desc := "(II)I" } : Jvm.MethodName)) ∈ gw := gw_of (List.mem_of_getElem? (i := 414) rfl) rfl
set_option maxRecDepth 100000 in
theorem tw_415 : (Jvm.Cond.selects "TreeMatcher$Grammar" ({ cls := "TreeMatcher$Grammar", name := "addOperator", desc := "(II)I" } : Jvm.MethodName) ({ cls := "TreeMatcher$Grammar", name := "addOperator", desc := "(II)I" } : Jvm.MethodName)) ∈ gw := gw_of (List.mem_of_getElem? (i := 415) rfl) rfl
set_option maxRecDepth 100000 in
theorem tw_423 : (Jvm.Cond.code ({ cls := "TreeMatcher", name := "element", desc := "(I)I" } : Jvm.MethodName) prog_1_method_3_code (2 : Nat) (Option.some Jvm.ClassFile.FieldType.int)) ∈ gw := gw_of (List.mem_of_getElem? (i := 423) rfl) rfl
set_option maxRecDepth 100000 in
theorem tw_425 : (Jvm.Cond.methodLink "TreeMatcher" (67 : Nat) ({ cls := "TreeMatcher$Grammar", name := "handSize", desc := "()I" } : Jvm.MethodName)) ∈ gw := gw_of (List.mem_of_getElem? (i := 425) rfl) rfl
set_option maxRecDepth 100000 in
theorem tw_426 : (Jvm.Cond.instanceMethod ({ cls := "TreeMatcher$Grammar", name := "handSize", desc := "()I" } : Jvm.MethodName)) ∈ gw := gw_of (List.mem_of_getElem? (i := 426) rfl) rfl
set_option maxRecDepth 100000 in
theorem tw_427 : (Jvm.Cond.selects "TreeMatcher$Grammar" ({ cls := "TreeMatcher$Grammar", name := "handSize", desc := "()I" } : Jvm.MethodName) ({ cls := "TreeMatcher$Grammar", name := "handSize", desc := "()I" } : Jvm.MethodName)) ∈ gw := gw_of (List.mem_of_getElem? (i := 427) rfl) rfl
set_option maxRecDepth 100000 in
theorem tw_430 : (Jvm.Cond.methodLink "TreeMatcher" (73 : Nat) ({ cls := "TreeMatcher$Grammar", name := "addElement", desc := "(I)I" } : Jvm.MethodName)) ∈ gw := gw_of (List.mem_of_getElem? (i := 430) rfl) rfl
set_option maxRecDepth 100000 in
theorem tw_431 : (Jvm.Cond.instanceMethod ({ cls := "TreeMatcher$Grammar", name := "addElement", desc := "(I)I" } : Jvm.MethodName)) ∈ gw := gw_of (List.mem_of_getElem? (i := 431) rfl) rfl
set_option maxRecDepth 100000 in
theorem tw_432 : (Jvm.Cond.selects "TreeMatcher$Grammar" ({ cls := "TreeMatcher$Grammar", name := "addElement", desc := "(I)I" } : Jvm.MethodName) ({ cls := "TreeMatcher$Grammar", name := "addElement", desc := "(I)I" } : Jvm.MethodName)) ∈ gw := gw_of (List.mem_of_getElem? (i := 432) rfl) rfl
set_option maxRecDepth 100000 in
theorem tw_440 : (Jvm.Cond.code ({ cls := "TreeMatcher", name := "rule", desc := "(IIII)I" } : Jvm.MethodName) prog_1_method_4_code (6 : Nat) (Option.some Jvm.ClassFile.FieldType.int)) ∈ gw := gw_of (List.mem_of_getElem? (i := 440) rfl) rfl
set_option maxRecDepth 100000 in
theorem tw_441 : (Jvm.Cond.methodLink "TreeMatcher" (77 : Nat) ({ cls := "TreeMatcher$Grammar", name := "ruleCount", desc := "()I" } : Jvm.MethodName)) ∈ gw := gw_of (List.mem_of_getElem? (i := 441) rfl) rfl
set_option maxRecDepth 100000 in
theorem tw_445 : (Jvm.Cond.methodLink "TreeMatcher" (80 : Nat) ({ cls := "TreeMatcher$Forest", name := "size", desc := "()I" } : Jvm.MethodName)) ∈ gw := gw_of (List.mem_of_getElem? (i := 445) rfl) rfl
set_option maxRecDepth 100000 in
theorem tw_446 : (Jvm.Cond.instanceMethod ({ cls := "TreeMatcher$Forest", name := "size", desc := "()I" } : Jvm.MethodName)) ∈ gw := gw_of (List.mem_of_getElem? (i := 446) rfl) rfl
set_option maxRecDepth 100000 in
theorem tw_447 : (Jvm.Cond.selects "TreeMatcher$Forest" ({ cls := "TreeMatcher$Forest", name := "size", desc := "()I" } : Jvm.MethodName) ({ cls := "TreeMatcher$Forest", name := "size", desc := "()I" } : Jvm.MethodName)) ∈ gw := gw_of (List.mem_of_getElem? (i := 447) rfl) rfl
set_option maxRecDepth 100000 in
theorem tw_450 : (Jvm.Cond.methodLink "TreeMatcher" (85 : Nat) ({ cls := "TreeMatcher$Grammar", name := "handIsPattern", desc := "()Z" } : Jvm.MethodName)) ∈ gw := gw_of (List.mem_of_getElem? (i := 450) rfl) rfl
set_option maxRecDepth 100000 in
theorem tw_451 : (Jvm.Cond.instanceMethod ({ cls := "TreeMatcher$Grammar", name := "handIsPattern", desc := "()Z" } : Jvm.MethodName)) ∈ gw := gw_of (List.mem_of_getElem? (i := 451) rfl) rfl
set_option maxRecDepth 100000 in
theorem tw_452 : (Jvm.Cond.selects "TreeMatcher$Grammar" ({ cls := "TreeMatcher$Grammar", name := "handIsPattern", desc := "()Z" } : Jvm.MethodName) ({ cls := "TreeMatcher$Grammar", name := "handIsPattern", desc := "()Z" } : Jvm.MethodName)) ∈ gw := gw_of (List.mem_of_getElem? (i := 452) rfl) rfl
set_option maxRecDepth 100000 in
theorem tw_455 : (Jvm.Cond.methodLink "TreeMatcher" (89 : Nat) ({ cls := "TreeMatcher$Grammar", name := "dropHand", desc := "()V" } : Jvm.MethodName)) ∈ gw := gw_of (List.mem_of_getElem? (i := 455) rfl) rfl
set_option maxRecDepth 100000 in
theorem tw_456 : (Jvm.Cond.instanceMethod ({ cls := "TreeMatcher$Grammar", name := "dropHand", desc := "()V" } : Jvm.MethodName)) ∈ gw := gw_of (List.mem_of_getElem? (i := 456) rfl) rfl
set_option maxRecDepth 100000 in
theorem tw_457 : (Jvm.Cond.selects "TreeMatcher$Grammar" ({ cls := "TreeMatcher$Grammar", name := "dropHand", desc := "()V" } : Jvm.MethodName) ({ cls := "TreeMatcher$Grammar", name := "dropHand", desc := "()V" } : Jvm.MethodName)) ∈ gw := gw_of (List.mem_of_getElem? (i := 457) rfl) rfl
set_option maxRecDepth 100000 in
theorem tw_490 : (Jvm.Cond.code ({ cls := "TreeMatcher", name := "node", desc := "(IIII)I" } : Jvm.MethodName) prog_1_method_5_code (5 : Nat) (Option.some Jvm.ClassFile.FieldType.int)) ∈ gw := gw_of (List.mem_of_getElem? (i := 490) rfl) rfl
set_option maxRecDepth 100000 in
theorem tw_660 : (Jvm.Cond.code ({ cls := "TreeMatcher", name := "cost", desc := "(II)I" } : Jvm.MethodName) prog_1_method_6_code (3 : Nat) (Option.some Jvm.ClassFile.FieldType.int)) ∈ gw := gw_of (List.mem_of_getElem? (i := 660) rfl) rfl
set_option maxRecDepth 100000 in
theorem tw_661 : (Jvm.Cond.methodLink "TreeMatcher" (109 : Nat) ({ cls := "TreeMatcher", name := "checkLabel", desc := "(II)V" } : Jvm.MethodName)) ∈ gw := gw_of (List.mem_of_getElem? (i := 661) rfl) rfl
set_option maxRecDepth 100000 in
theorem tw_663 : (Jvm.Cond.instanceMethod ({ cls := "TreeMatcher", name := "checkLabel", desc := "(II)V" } : Jvm.MethodName)) ∈ gw := gw_of (List.mem_of_getElem? (i := 663) rfl) rfl
set_option maxRecDepth 100000 in
theorem tw_664 : (Jvm.Cond.code ({ cls := "TreeMatcher", name := "checkLabel", desc := "(II)V" } : Jvm.MethodName) prog_1_method_14_code (3 : Nat) (Option.none : Option Jvm.ClassFile.FieldType)) ∈ gw := gw_of (List.mem_of_getElem? (i := 664) rfl) rfl
set_option maxRecDepth 100000 in
theorem tw_665 : (Jvm.Cond.classLink "TreeMatcher" (128 : Nat) "java/lang/IndexOutOfBoundsException") ∈ gw := gw_of (List.mem_of_getElem? (i := 665) rfl) rfl
set_option maxRecDepth 100000 in
theorem tw_666 : (Jvm.Cond.instantiable "java/lang/IndexOutOfBoundsException" (6 : Nat)) ∈ gw := gw_of (List.mem_of_getElem? (i := 666) rfl) rfl
set_option maxRecDepth 100000 in
theorem tw_692 : (Jvm.Cond.code ({ cls := "TreeMatcher", name := "ruleAt", desc := "(II)I" } : Jvm.MethodName) prog_1_method_7_code (3 : Nat) (Option.some Jvm.ClassFile.FieldType.int)) ∈ gw := gw_of (List.mem_of_getElem? (i := 692) rfl) rfl
set_option maxRecDepth 100000 in
theorem tw_703 : (Jvm.Cond.code ({ cls := "TreeMatcher", name := "cover", desc := "(II)I" } : Jvm.MethodName) prog_1_method_8_code (4 : Nat) (Option.some Jvm.ClassFile.FieldType.int)) ∈ gw := gw_of (List.mem_of_getElem? (i := 703) rfl) rfl
set_option maxRecDepth 100000 in
theorem tw_729 : (Jvm.Cond.methodLink "TreeMatcher" (127 : Nat) ({ cls := "TreeMatcher$Covering", name := "size", desc := "()I" } : Jvm.MethodName)) ∈ gw := gw_of (List.mem_of_getElem? (i := 729) rfl) rfl
set_option maxRecDepth 100000 in
theorem tw_730 : (Jvm.Cond.instanceMethod ({ cls := "TreeMatcher$Covering", name := "size", desc := "()I" } : Jvm.MethodName)) ∈ gw := gw_of (List.mem_of_getElem? (i := 730) rfl) rfl
set_option maxRecDepth 100000 in
theorem tw_731 : (Jvm.Cond.selects "TreeMatcher$Covering" ({ cls := "TreeMatcher$Covering", name := "size", desc := "()I" } : Jvm.MethodName) ({ cls := "TreeMatcher$Covering", name := "size", desc := "()I" } : Jvm.MethodName)) ∈ gw := gw_of (List.mem_of_getElem? (i := 731) rfl) rfl
set_option maxRecDepth 100000 in
theorem tw_739 : (Jvm.Cond.code ({ cls := "TreeMatcher", name := "pair", desc := "(II)I" } : Jvm.MethodName) prog_1_method_9_code (4 : Nat) (Option.some Jvm.ClassFile.FieldType.int)) ∈ gw := gw_of (List.mem_of_getElem? (i := 739) rfl) rfl
set_option maxRecDepth 100000 in
theorem tw_752 : (Jvm.Cond.code ({ cls := "TreeMatcher", name := "states", desc := "()I" } : Jvm.MethodName) prog_1_method_10_code (1 : Nat) (Option.some Jvm.ClassFile.FieldType.int)) ∈ gw := gw_of (List.mem_of_getElem? (i := 752) rfl) rfl
set_option maxRecDepth 100000 in
theorem tw_753 : (Jvm.Cond.methodLink "TreeMatcher" (139 : Nat) ({ cls := "TreeMatcher$Grammar", name := "hasLimits", desc := "()Z" } : Jvm.MethodName)) ∈ gw := gw_of (List.mem_of_getElem? (i := 753) rfl) rfl
set_option maxRecDepth 100000 in
theorem tw_754 : (Jvm.Cond.instanceMethod ({ cls := "TreeMatcher$Grammar", name := "hasLimits", desc := "()Z" } : Jvm.MethodName)) ∈ gw := gw_of (List.mem_of_getElem? (i := 754) rfl) rfl
set_option maxRecDepth 100000 in
theorem tw_755 : (Jvm.Cond.selects "TreeMatcher$Grammar" ({ cls := "TreeMatcher$Grammar", name := "hasLimits", desc := "()Z" } : Jvm.MethodName) ({ cls := "TreeMatcher$Grammar", name := "hasLimits", desc := "()Z" } : Jvm.MethodName)) ∈ gw := gw_of (List.mem_of_getElem? (i := 755) rfl) rfl
set_option maxRecDepth 100000 in
theorem tw_758 : (Jvm.Cond.methodLink "TreeMatcher" (144 : Nat) ({ cls := "TreeMatcher$Tally", name := "refresh", desc := "()V" } : Jvm.MethodName)) ∈ gw := gw_of (List.mem_of_getElem? (i := 758) rfl) rfl
set_option maxRecDepth 100000 in
theorem tw_759 : (Jvm.Cond.instanceMethod ({ cls := "TreeMatcher$Tally", name := "refresh", desc := "()V" } : Jvm.MethodName)) ∈ gw := gw_of (List.mem_of_getElem? (i := 759) rfl) rfl
set_option maxRecDepth 100000 in
theorem tw_760 : (Jvm.Cond.selects "TreeMatcher$Tally" ({ cls := "TreeMatcher$Tally", name := "refresh", desc := "()V" } : Jvm.MethodName) ({ cls := "TreeMatcher$Tally", name := "refresh", desc := "()V" } : Jvm.MethodName)) ∈ gw := gw_of (List.mem_of_getElem? (i := 760) rfl) rfl
set_option maxRecDepth 100000 in
theorem tw_778 : (Jvm.Cond.methodLink "TreeMatcher" (147 : Nat) ({ cls := "TreeMatcher$Tally", name := "size", desc := "()I" } : Jvm.MethodName)) ∈ gw := gw_of (List.mem_of_getElem? (i := 778) rfl) rfl
set_option maxRecDepth 100000 in
theorem tw_779 : (Jvm.Cond.instanceMethod ({ cls := "TreeMatcher$Tally", name := "size", desc := "()I" } : Jvm.MethodName)) ∈ gw := gw_of (List.mem_of_getElem? (i := 779) rfl) rfl
set_option maxRecDepth 100000 in
theorem tw_780 : (Jvm.Cond.selects "TreeMatcher$Tally" ({ cls := "TreeMatcher$Tally", name := "size", desc := "()I" } : Jvm.MethodName) ({ cls := "TreeMatcher$Tally", name := "size", desc := "()I" } : Jvm.MethodName)) ∈ gw := gw_of (List.mem_of_getElem? (i := 780) rfl) rfl
set_option maxRecDepth 100000 in
theorem tw_789 : (Jvm.Cond.code ({ cls := "TreeMatcher", name := "same", desc := "(II)Z" } : Jvm.MethodName) prog_1_method_11_code (3 : Nat) (Option.some Jvm.ClassFile.FieldType.boolean)) ∈ gw := gw_of (List.mem_of_getElem? (i := 789) rfl) rfl
abbrev b_M_clear : ByteArray := prog_1_method_12_code
def y_M_clear : MethodName := ⟨"TreeMatcher", "clear", "()I"⟩
def ws_M_clear : List Cond := Cond.code y_M_clear b_M_clear 1 (Option.some Jvm.ClassFile.FieldType.int) :: gw
theorem cin_M_clear : Cond.code y_M_clear b_M_clear 1 (Option.some Jvm.ClassFile.FieldType.int) ∈ gw := tw_299
abbrev b_M_operator : ByteArray := prog_1_method_2_code
def y_M_operator : MethodName := ⟨"TreeMatcher", "operator", "(II)I"⟩
def ws_M_operator : List Cond := Cond.code y_M_operator b_M_operator 3 (Option.some Jvm.ClassFile.FieldType.int) :: gw
theorem cin_M_operator : Cond.code y_M_operator b_M_operator 3 (Option.some Jvm.ClassFile.FieldType.int) ∈ gw := tw_320
abbrev b_M_element : ByteArray := prog_1_method_3_code
def y_M_element : MethodName := ⟨"TreeMatcher", "element", "(I)I"⟩
def ws_M_element : List Cond := Cond.code y_M_element b_M_element 2 (Option.some Jvm.ClassFile.FieldType.int) :: gw
theorem cin_M_element : Cond.code y_M_element b_M_element 2 (Option.some Jvm.ClassFile.FieldType.int) ∈ gw := tw_423
abbrev b_M_rule : ByteArray := prog_1_method_4_code
def y_M_rule : MethodName := ⟨"TreeMatcher", "rule", "(IIII)I"⟩
def ws_M_rule : List Cond := Cond.code y_M_rule b_M_rule 6 (Option.some Jvm.ClassFile.FieldType.int) :: gw
theorem cin_M_rule : Cond.code y_M_rule b_M_rule 6 (Option.some Jvm.ClassFile.FieldType.int) ∈ gw := tw_440
abbrev b_M_node : ByteArray := prog_1_method_5_code
def y_M_node : MethodName := ⟨"TreeMatcher", "node", "(IIII)I"⟩
def ws_M_node : List Cond := Cond.code y_M_node b_M_node 5 (Option.some Jvm.ClassFile.FieldType.int) :: gw
theorem cin_M_node : Cond.code y_M_node b_M_node 5 (Option.some Jvm.ClassFile.FieldType.int) ∈ gw := tw_490
abbrev b_M_cost : ByteArray := prog_1_method_6_code
def y_M_cost : MethodName := ⟨"TreeMatcher", "cost", "(II)I"⟩
def ws_M_cost : List Cond := Cond.code y_M_cost b_M_cost 3 (Option.some Jvm.ClassFile.FieldType.int) :: gw
theorem cin_M_cost : Cond.code y_M_cost b_M_cost 3 (Option.some Jvm.ClassFile.FieldType.int) ∈ gw := tw_660
abbrev b_M_checkLabel : ByteArray := prog_1_method_14_code
def y_M_checkLabel : MethodName := ⟨"TreeMatcher", "checkLabel", "(II)V"⟩
def ws_M_checkLabel : List Cond := Cond.code y_M_checkLabel b_M_checkLabel 3 (Option.none : Option Jvm.ClassFile.FieldType) :: gw
theorem cin_M_checkLabel : Cond.code y_M_checkLabel b_M_checkLabel 3 (Option.none : Option Jvm.ClassFile.FieldType) ∈ gw := tw_664
abbrev b_M_ruleAt : ByteArray := prog_1_method_7_code
def y_M_ruleAt : MethodName := ⟨"TreeMatcher", "ruleAt", "(II)I"⟩
def ws_M_ruleAt : List Cond := Cond.code y_M_ruleAt b_M_ruleAt 3 (Option.some Jvm.ClassFile.FieldType.int) :: gw
theorem cin_M_ruleAt : Cond.code y_M_ruleAt b_M_ruleAt 3 (Option.some Jvm.ClassFile.FieldType.int) ∈ gw := tw_692
abbrev b_M_cover : ByteArray := prog_1_method_8_code
def y_M_cover : MethodName := ⟨"TreeMatcher", "cover", "(II)I"⟩
def ws_M_cover : List Cond := Cond.code y_M_cover b_M_cover 4 (Option.some Jvm.ClassFile.FieldType.int) :: gw
theorem cin_M_cover : Cond.code y_M_cover b_M_cover 4 (Option.some Jvm.ClassFile.FieldType.int) ∈ gw := tw_703
abbrev b_M_pair : ByteArray := prog_1_method_9_code
def y_M_pair : MethodName := ⟨"TreeMatcher", "pair", "(II)I"⟩
def ws_M_pair : List Cond := Cond.code y_M_pair b_M_pair 4 (Option.some Jvm.ClassFile.FieldType.int) :: gw
theorem cin_M_pair : Cond.code y_M_pair b_M_pair 4 (Option.some Jvm.ClassFile.FieldType.int) ∈ gw := tw_739
abbrev b_M_states : ByteArray := prog_1_method_10_code
def y_M_states : MethodName := ⟨"TreeMatcher", "states", "()I"⟩
def ws_M_states : List Cond := Cond.code y_M_states b_M_states 1 (Option.some Jvm.ClassFile.FieldType.int) :: gw
theorem cin_M_states : Cond.code y_M_states b_M_states 1 (Option.some Jvm.ClassFile.FieldType.int) ∈ gw := tw_752
abbrev b_M_same : ByteArray := prog_1_method_11_code
def y_M_same : MethodName := ⟨"TreeMatcher", "same", "(II)Z"⟩
def ws_M_same : List Cond := Cond.code y_M_same b_M_same 3 (Option.some Jvm.ClassFile.FieldType.boolean) :: gw
theorem cin_M_same : Cond.code y_M_same b_M_same 3 (Option.some Jvm.ClassFile.FieldType.boolean) ∈ gw := tw_789
theorem sw_M_checkLabel : Cond.selects "TreeMatcher" ({ cls := "TreeMatcher", name := "checkLabel", desc := "(II)V" } : Jvm.MethodName) ({ cls := "TreeMatcher", name := "checkLabel", desc := "(II)V" } : Jvm.MethodName) ∈ gw := gw_sel (by decide +kernel) rfl
theorem d_M_clear_0 : decode b_M_clear 0 = .ok (.aload_n 0, 1) := by decide +kernel
theorem d_M_clear_1 : decode b_M_clear 1 = .ok (.getfield 30, 3) := by decide +kernel
theorem d_M_clear_4 : decode b_M_clear 4 = .ok (.invokevirtual 155, 3) := by decide +kernel
theorem d_M_clear_7 : decode b_M_clear 7 = .ok (.aload_n 0, 1) := by decide +kernel
theorem d_M_clear_8 : decode b_M_clear 8 = .ok (.getfield 21, 3) := by decide +kernel
theorem d_M_clear_11 : decode b_M_clear 11 = .ok (.invokevirtual 158, 3) := by decide +kernel
theorem d_M_clear_14 : decode b_M_clear 14 = .ok (.ireturn, 1) := by decide +kernel
theorem d_M_operator_0 : decode b_M_operator 0 = .ok (.iload_n 1, 1) := by decide +kernel
theorem d_M_operator_1 : decode b_M_operator 1 = .ok (.bipush 32, 2) := by decide +kernel
theorem d_M_operator_3 : decode b_M_operator 3 = .ok (.invokestatic 41, 3) := by decide +kernel
theorem d_M_operator_6 : decode b_M_operator 6 = .ok (.ifCond .eq 11, 3) := by decide +kernel
theorem d_M_operator_9 : decode b_M_operator 9 = .ok (.iload_n 2, 1) := by decide +kernel
theorem d_M_operator_10 : decode b_M_operator 10 = .ok (.iconst 3, 1) := by decide +kernel
theorem d_M_operator_11 : decode b_M_operator 11 = .ok (.invokestatic 41, 3) := by decide +kernel
theorem d_M_operator_14 : decode b_M_operator 14 = .ok (.ifCond .ne 13, 3) := by decide +kernel
theorem d_M_operator_17 : decode b_M_operator 17 = .ok (.new 45, 3) := by decide +kernel
theorem d_M_operator_20 : decode b_M_operator 20 = .ok (.dup, 1) := by decide +kernel
theorem d_M_operator_21 : decode b_M_operator 21 = .ok (.ldc 47, 2) := by decide +kernel
theorem d_M_operator_23 : decode b_M_operator 23 = .ok (.invokespecial 49, 3) := by decide +kernel
theorem d_M_operator_26 : decode b_M_operator 26 = .ok (.athrow, 1) := by decide +kernel
theorem d_M_operator_27 : decode b_M_operator 27 = .ok (.aload_n 0, 1) := by decide +kernel
theorem d_M_operator_28 : decode b_M_operator 28 = .ok (.getfield 12, 3) := by decide +kernel
theorem d_M_operator_31 : decode b_M_operator 31 = .ok (.iload_n 1, 1) := by decide +kernel
theorem d_M_operator_32 : decode b_M_operator 32 = .ok (.invokevirtual 52, 3) := by decide +kernel
theorem d_M_operator_35 : decode b_M_operator 35 = .ok (.ifCond .eq 13, 3) := by decide +kernel
theorem d_M_operator_48 : decode b_M_operator 48 = .ok (.aload_n 0, 1) := by decide +kernel
theorem d_M_operator_49 : decode b_M_operator 49 = .ok (.getfield 12, 3) := by decide +kernel
theorem d_M_operator_52 : decode b_M_operator 52 = .ok (.iload_n 1, 1) := by decide +kernel
theorem d_M_operator_53 : decode b_M_operator 53 = .ok (.iload_n 2, 1) := by decide +kernel
theorem d_M_operator_54 : decode b_M_operator 54 = .ok (.invokevirtual 61, 3) := by decide +kernel
theorem d_M_operator_57 : decode b_M_operator 57 = .ok (.ireturn, 1) := by decide +kernel
theorem d_M_element_0 : decode b_M_element 0 = .ok (.iload_n 1, 1) := by decide +kernel
theorem d_M_element_1 : decode b_M_element 1 = .ok (.bipush 48, 2) := by decide +kernel
theorem d_M_element_3 : decode b_M_element 3 = .ok (.invokestatic 41, 3) := by decide +kernel
theorem d_M_element_6 : decode b_M_element 6 = .ok (.ifCond .ne 13, 3) := by decide +kernel
theorem d_M_element_9 : decode b_M_element 9 = .ok (.new 45, 3) := by decide +kernel
theorem d_M_element_12 : decode b_M_element 12 = .ok (.dup, 1) := by decide +kernel
theorem d_M_element_13 : decode b_M_element 13 = .ok (.ldc 65, 2) := by decide +kernel
theorem d_M_element_15 : decode b_M_element 15 = .ok (.invokespecial 49, 3) := by decide +kernel
theorem d_M_element_18 : decode b_M_element 18 = .ok (.athrow, 1) := by decide +kernel
theorem d_M_element_19 : decode b_M_element 19 = .ok (.aload_n 0, 1) := by decide +kernel
theorem d_M_element_20 : decode b_M_element 20 = .ok (.getfield 12, 3) := by decide +kernel
theorem d_M_element_23 : decode b_M_element 23 = .ok (.invokevirtual 67, 3) := by decide +kernel
theorem d_M_element_26 : decode b_M_element 26 = .ok (.bipush 12, 2) := by decide +kernel
theorem d_M_element_28 : decode b_M_element 28 = .ok (.if_icmp .lt 13, 3) := by decide +kernel
theorem d_M_element_41 : decode b_M_element 41 = .ok (.aload_n 0, 1) := by decide +kernel
theorem d_M_element_42 : decode b_M_element 42 = .ok (.getfield 12, 3) := by decide +kernel
theorem d_M_element_45 : decode b_M_element 45 = .ok (.iload_n 1, 1) := by decide +kernel
theorem d_M_element_46 : decode b_M_element 46 = .ok (.invokevirtual 73, 3) := by decide +kernel
theorem d_M_element_49 : decode b_M_element 49 = .ok (.ireturn, 1) := by decide +kernel
theorem d_M_rule_0 : decode b_M_rule 0 = .ok (.aload_n 0, 1) := by decide +kernel
theorem d_M_rule_1 : decode b_M_rule 1 = .ok (.getfield 12, 3) := by decide +kernel
theorem d_M_rule_4 : decode b_M_rule 4 = .ok (.invokevirtual 77, 3) := by decide +kernel
theorem d_M_rule_7 : decode b_M_rule 7 = .ok (.bipush 64, 2) := by decide +kernel
theorem d_M_rule_9 : decode b_M_rule 9 = .ok (.if_icmp .ge 13, 3) := by decide +kernel
theorem d_M_rule_12 : decode b_M_rule 12 = .ok (.aload_n 0, 1) := by decide +kernel
theorem d_M_rule_13 : decode b_M_rule 13 = .ok (.getfield 21, 3) := by decide +kernel
theorem d_M_rule_16 : decode b_M_rule 16 = .ok (.invokevirtual 80, 3) := by decide +kernel
theorem d_M_rule_19 : decode b_M_rule 19 = .ok (.ifCond .le 13, 3) := by decide +kernel
theorem d_M_rule_32 : decode b_M_rule 32 = .ok (.iload_n 1, 1) := by decide +kernel
theorem d_M_rule_33 : decode b_M_rule 33 = .ok (.bipush 16, 2) := by decide +kernel
theorem d_M_rule_35 : decode b_M_rule 35 = .ok (.invokestatic 41, 3) := by decide +kernel
theorem d_M_rule_38 : decode b_M_rule 38 = .ok (.ifCond .eq 32, 3) := by decide +kernel
theorem d_M_rule_41 : decode b_M_rule 41 = .ok (.iload_n 2, 1) := by decide +kernel
theorem d_M_rule_42 : decode b_M_rule 42 = .ok (.bipush 100, 2) := by decide +kernel
theorem d_M_rule_44 : decode b_M_rule 44 = .ok (.invokestatic 41, 3) := by decide +kernel
theorem d_M_rule_47 : decode b_M_rule 47 = .ok (.ifCond .eq 23, 3) := by decide +kernel
theorem d_M_rule_50 : decode b_M_rule 50 = .ok (.iload_n 3, 1) := by decide +kernel
theorem d_M_rule_51 : decode b_M_rule 51 = .ok (.iload 4, 2) := by decide +kernel
theorem d_M_rule_53 : decode b_M_rule 53 = .ok (.if_icmp .gt 17, 3) := by decide +kernel
theorem d_M_rule_56 : decode b_M_rule 56 = .ok (.aload_n 0, 1) := by decide +kernel
theorem d_M_rule_57 : decode b_M_rule 57 = .ok (.getfield 12, 3) := by decide +kernel
theorem d_M_rule_60 : decode b_M_rule 60 = .ok (.invokevirtual 85, 3) := by decide +kernel
theorem d_M_rule_63 : decode b_M_rule 63 = .ok (.ifCond .eq 7, 3) := by decide +kernel
theorem d_M_rule_70 : decode b_M_rule 70 = .ok (.iconst 0, 1) := by decide +kernel
theorem d_M_rule_71 : decode b_M_rule 71 = .ok (.istore 5, 2) := by decide +kernel
theorem d_M_rule_73 : decode b_M_rule 73 = .ok (.iload 5, 2) := by decide +kernel
theorem d_M_rule_75 : decode b_M_rule 75 = .ok (.ifCond .ne 20, 3) := by decide +kernel
theorem d_M_rule_78 : decode b_M_rule 78 = .ok (.aload_n 0, 1) := by decide +kernel
theorem d_M_rule_79 : decode b_M_rule 79 = .ok (.getfield 12, 3) := by decide +kernel
theorem d_M_rule_82 : decode b_M_rule 82 = .ok (.invokevirtual 89, 3) := by decide +kernel
theorem d_M_rule_85 : decode b_M_rule 85 = .ok (.new 45, 3) := by decide +kernel
theorem d_M_rule_88 : decode b_M_rule 88 = .ok (.dup, 1) := by decide +kernel
theorem d_M_rule_89 : decode b_M_rule 89 = .ok (.ldc 92, 2) := by decide +kernel
theorem d_M_rule_91 : decode b_M_rule 91 = .ok (.invokespecial 49, 3) := by decide +kernel
theorem d_M_rule_94 : decode b_M_rule 94 = .ok (.athrow, 1) := by decide +kernel
theorem d_M_node_0 : decode b_M_node 0 = .ok (.aload_n 0, 1) := by decide +kernel
theorem d_M_node_1 : decode b_M_node 1 = .ok (.getfield 12, 3) := by decide +kernel
theorem d_M_node_4 : decode b_M_node 4 = .ok (.iload_n 1, 1) := by decide +kernel
theorem d_M_node_5 : decode b_M_node 5 = .ok (.invokevirtual 52, 3) := by decide +kernel
theorem d_M_node_8 : decode b_M_node 8 = .ok (.ifCond .eq 17, 3) := by decide +kernel
theorem d_M_node_25 : decode b_M_node 25 = .ok (.new 45, 3) := by decide +kernel
theorem d_M_node_28 : decode b_M_node 28 = .ok (.dup, 1) := by decide +kernel
theorem d_M_node_29 : decode b_M_node 29 = .ok (.ldc 102, 2) := by decide +kernel
theorem d_M_node_31 : decode b_M_node 31 = .ok (.invokespecial 49, 3) := by decide +kernel
theorem d_M_node_34 : decode b_M_node 34 = .ok (.athrow, 1) := by decide +kernel
theorem d_M_cost_0 : decode b_M_cost 0 = .ok (.aload_n 0, 1) := by decide +kernel
theorem d_M_cost_1 : decode b_M_cost 1 = .ok (.iload_n 1, 1) := by decide +kernel
theorem d_M_cost_2 : decode b_M_cost 2 = .ok (.iload_n 2, 1) := by decide +kernel
theorem d_M_cost_3 : decode b_M_cost 3 = .ok (.invokevirtual 109, 3) := by decide +kernel
theorem d_M_checkLabel_0 : decode b_M_checkLabel 0 = .ok (.iload_n 1, 1) := by decide +kernel
theorem d_M_checkLabel_1 : decode b_M_checkLabel 1 = .ok (.aload_n 0, 1) := by decide +kernel
theorem d_M_checkLabel_2 : decode b_M_checkLabel 2 = .ok (.getfield 21, 3) := by decide +kernel
theorem d_M_checkLabel_5 : decode b_M_checkLabel 5 = .ok (.invokevirtual 80, 3) := by decide +kernel
theorem d_M_checkLabel_8 : decode b_M_checkLabel 8 = .ok (.invokestatic 41, 3) := by decide +kernel
theorem d_M_checkLabel_11 : decode b_M_checkLabel 11 = .ok (.ifCond .eq 12, 3) := by decide +kernel
theorem d_M_checkLabel_23 : decode b_M_checkLabel 23 = .ok (.new 128, 3) := by decide +kernel
theorem d_M_checkLabel_26 : decode b_M_checkLabel 26 = .ok (.dup, 1) := by decide +kernel
theorem d_M_checkLabel_27 : decode b_M_checkLabel 27 = .ok (.ldc 168, 2) := by decide +kernel
theorem d_M_checkLabel_29 : decode b_M_checkLabel 29 = .ok (.invokespecial 132, 3) := by decide +kernel
theorem d_M_checkLabel_32 : decode b_M_checkLabel 32 = .ok (.athrow, 1) := by decide +kernel
theorem d_M_ruleAt_0 : decode b_M_ruleAt 0 = .ok (.aload_n 0, 1) := by decide +kernel
theorem d_M_ruleAt_1 : decode b_M_ruleAt 1 = .ok (.iload_n 1, 1) := by decide +kernel
theorem d_M_ruleAt_2 : decode b_M_ruleAt 2 = .ok (.iload_n 2, 1) := by decide +kernel
theorem d_M_ruleAt_3 : decode b_M_ruleAt 3 = .ok (.invokevirtual 109, 3) := by decide +kernel
theorem d_M_cover_0 : decode b_M_cover 0 = .ok (.aload_n 0, 1) := by decide +kernel
theorem d_M_cover_1 : decode b_M_cover 1 = .ok (.iload_n 1, 1) := by decide +kernel
theorem d_M_cover_2 : decode b_M_cover 2 = .ok (.iload_n 2, 1) := by decide +kernel
theorem d_M_cover_3 : decode b_M_cover 3 = .ok (.invokevirtual 109, 3) := by decide +kernel
theorem d_M_pair_0 : decode b_M_pair 0 = .ok (.iload_n 1, 1) := by decide +kernel
theorem d_M_pair_1 : decode b_M_pair 1 = .ok (.aload_n 0, 1) := by decide +kernel
theorem d_M_pair_2 : decode b_M_pair 2 = .ok (.getfield 30, 3) := by decide +kernel
theorem d_M_pair_5 : decode b_M_pair 5 = .ok (.invokevirtual 127, 3) := by decide +kernel
theorem d_M_pair_8 : decode b_M_pair 8 = .ok (.invokestatic 41, 3) := by decide +kernel
theorem d_M_pair_11 : decode b_M_pair 11 = .ok (.ifCond .eq 11, 3) := by decide +kernel
theorem d_M_pair_22 : decode b_M_pair 22 = .ok (.new 128, 3) := by decide +kernel
theorem d_M_pair_25 : decode b_M_pair 25 = .ok (.dup, 1) := by decide +kernel
theorem d_M_pair_26 : decode b_M_pair 26 = .ok (.ldc 130, 2) := by decide +kernel
theorem d_M_pair_28 : decode b_M_pair 28 = .ok (.invokespecial 132, 3) := by decide +kernel
theorem d_M_pair_31 : decode b_M_pair 31 = .ok (.athrow, 1) := by decide +kernel
theorem d_M_states_0 : decode b_M_states 0 = .ok (.aload_n 0, 1) := by decide +kernel
theorem d_M_states_1 : decode b_M_states 1 = .ok (.getfield 12, 3) := by decide +kernel
theorem d_M_states_4 : decode b_M_states 4 = .ok (.invokevirtual 139, 3) := by decide +kernel
theorem d_M_states_7 : decode b_M_states 7 = .ok (.ifCond .eq 13, 3) := by decide +kernel
theorem d_M_states_20 : decode b_M_states 20 = .ok (.aload_n 0, 1) := by decide +kernel
theorem d_M_states_21 : decode b_M_states 21 = .ok (.getfield 37, 3) := by decide +kernel
theorem d_M_states_24 : decode b_M_states 24 = .ok (.invokevirtual 144, 3) := by decide +kernel
theorem d_M_states_27 : decode b_M_states 27 = .ok (.aload_n 0, 1) := by decide +kernel
theorem d_M_states_28 : decode b_M_states 28 = .ok (.getfield 37, 3) := by decide +kernel
theorem d_M_states_31 : decode b_M_states 31 = .ok (.invokevirtual 147, 3) := by decide +kernel
theorem d_M_states_34 : decode b_M_states 34 = .ok (.bipush 60, 2) := by decide +kernel
theorem d_M_states_36 : decode b_M_states 36 = .ok (.if_icmp .le 13, 3) := by decide +kernel
theorem d_M_states_49 : decode b_M_states 49 = .ok (.aload_n 0, 1) := by decide +kernel
theorem d_M_states_50 : decode b_M_states 50 = .ok (.getfield 37, 3) := by decide +kernel
theorem d_M_states_53 : decode b_M_states 53 = .ok (.invokevirtual 147, 3) := by decide +kernel
theorem d_M_states_56 : decode b_M_states 56 = .ok (.ireturn, 1) := by decide +kernel
theorem d_M_same_0 : decode b_M_same 0 = .ok (.iload_n 1, 1) := by decide +kernel
theorem d_M_same_1 : decode b_M_same 1 = .ok (.aload_n 0, 1) := by decide +kernel
theorem d_M_same_2 : decode b_M_same 2 = .ok (.getfield 21, 3) := by decide +kernel
theorem d_M_same_5 : decode b_M_same 5 = .ok (.invokevirtual 80, 3) := by decide +kernel
theorem d_M_same_8 : decode b_M_same 8 = .ok (.invokestatic 41, 3) := by decide +kernel
theorem d_M_same_11 : decode b_M_same 11 = .ok (.ifCond .eq 17, 3) := by decide +kernel
theorem d_M_same_28 : decode b_M_same 28 = .ok (.new 128, 3) := by decide +kernel
theorem d_M_same_31 : decode b_M_same 31 = .ok (.dup, 1) := by decide +kernel
theorem d_M_same_32 : decode b_M_same 32 = .ok (.ldc 150, 2) := by decide +kernel
theorem d_M_same_34 : decode b_M_same 34 = .ok (.invokespecial 132, 3) := by decide +kernel
theorem d_M_same_37 : decode b_M_same 37 = .ok (.athrow, 1) := by decide +kernel
theorem tx_none {n : Int32} (h : 0 ≤ n ∧ n < 0) : False := absurd h.2 (Int32.not_lt.mpr h.1)
set_option maxHeartbeats 4000000 in
set_option maxRecDepth 100000 in
/-- operator on a new object -/
theorem c_M_operator (l : Launch) (hlf : l.flags = flags0) (dC : Nat → ClassId) (dI : Nat → Nat → Nat) (sz : Nat) (x g kq : Nat) (cA : ClassId) (zx : Nat → Value) (zg : Nat → Value) (f : Nat → Int32) (hf : ∀ j, j < 32 → f j = -1) (n k : Int32) : tx_Met l y_M_operator ws_M_operator ({ frames := 6, cells := 1, slots := 6, locals := 90 }) (va_Pc [Value.ref x, Value.int n, Value.int k] (fun U => U.heap.size = sz ∧ va_P (dC, dI) kcl [(x, .inr (0, [Value.ref g, (zx 1), (zx 2), (zx 3)])), (g, .inr (1, [Value.ref kq, Value.int 0, (zg 2), (zg 3), (zg 4), (zg 5), (zg 6), (zg 7), (zg 8), (zg 9), (zg 10), (zg 11), (zg 12), (zg 13)])), (kq, .inl (cA, 32, .inl f))] U.heap ∧ va_K (dC, dI) kcl [(cA, .int)] U ∧ va_D (fun _ => True) [(x, .inr (0, [Value.ref g, (zx 1), (zx 2), (zx 3)])), (g, .inr (1, [Value.ref kq, Value.int 0, (zg 2), (zg 3), (zg 4), (zg 5), (zg 6), (zg 7), (zg 8), (zg 9), (zg 10), (zg 11), (zg 12), (zg 13)])), (kq, .inl (cA, 32, .inl f))] ∧ tx_G (va_A [(x, .inr (0, [Value.ref g, (zx 1), (zx 2), (zx 3)])), (g, .inr (1, [Value.ref kq, Value.int 0, (zg 2), (zg 3), (zg 4), (zg 5), (zg 6), (zg 7), (zg 8), (zg 9), (zg 10), (zg 11), (zg 12), (zg 13)])), (kq, .inl (cA, 32, .inl f))] sz) U)) (tx_Q (fun v => ((0 ≤ n ∧ n < 32) ∧ (0 ≤ k ∧ k < 3)) ∧ v = some (.int 1)) (fun X => ¬ ((0 ≤ n ∧ n < 32) ∧ (0 ≤ k ∧ k < 3)) ∧ X = "java/lang/IllegalArgumentException") (va_A [(x, .inr (0, [Value.ref g, (zx 1), (zx 2), (zx 3)])), (g, .inr (1, [Value.ref kq, Value.int 0, (zg 2), (zg 3), (zg 4), (zg 5), (zg 6), (zg 7), (zg 8), (zg 9), (zg 10), (zg 11), (zg 12), (zg 13)])), (kq, .inl (cA, 32, .inl f))] sz)) 1 6 (va_A [(x, .inr (0, [Value.ref g, (zx 1), (zx 2), (zx 3)])), (g, .inr (1, [Value.ref kq, Value.int 0, (zg 2), (zg 3), (zg 4), (zg 5), (zg 6), (zg 7), (zg 8), (zg 9), (zg 10), (zg 11), (zg 12), (zg 13)])), (kq, .inl (cA, 32, .inl f))] sz) := by
  refine tx_ofW (cc := b_M_operator) (maxL := 3) (ret := (Option.some Jvm.ClassFile.FieldType.int)) (by decide) rfl ?_
  intro p e s m args below meth c s₁ B hml hout hadm hv
  obtain ⟨rfl, hsz, hP, hK, hD0, hG⟩ := hv
  have hP0 := hP
  have hx := B.exec
  have hb := B.bytes
  have hr := B.returns
  have hlocks := B.notSynchronized
  have hg : ∀ w ∈ gw, w.before _ s = true := fun w h => atoms_spec (ws := ws_M_operator) B.pre w (List.mem_cons_of_mem _ h)
  have hown : s.vm.findClass "TreeMatcher" = some m.cls := findClass_of_methodNamed B.named
  subst hsz
  have hD := hD0.self (sz := s.heap.size)
  have hA : ∀ q : Nat, s.heap.size ≤ q → va_A [(x, .inr (0, [Value.ref g, (zx 1), (zx 2), (zx 3)])), (g, .inr (1, [Value.ref kq, Value.int 0, (zg 2), (zg 3), (zg 4), (zg 5), (zg 6), (zg 7), (zg 8), (zg 9), (zg 10), (zg 11), (zg 12), (zg 13)])), (kq, .inl (cA, 32, .inl f))] s.heap.size q := fun q h => Or.inr h
  generalize hAe : va_A [(x, .inr (0, [Value.ref g, (zx 1), (zx 2), (zx 3)])), (g, .inr (1, [Value.ref kq, Value.int 0, (zg 2), (zg 3), (zg 4), (zg 5), (zg 6), (zg 7), (zg 8), (zg 9), (zg 10), (zg 11), (zg 12), (zg 13)])), (kq, .inl (cA, 32, .inl f))] s.heap.size = A at hD hG hA ⊢
  have hN : tx_N s := hG.1
  have hS : va_S A s.heap s.heap [] := va_S.rf
  have hl := lv_entry ([Value.ref x, Value.int n, Value.int k] : List Value) (n := 3) (Nat.le_of_ble_eq_true rfl)
  rw [lg_entry_eq]
  generalize (lg_sl ([Value.ref x, Value.int n, Value.int k] : List Value) ++ List.replicate (3 - (lg_sl ([Value.ref x, Value.int n, Value.int k] : List Value)).length) Slot.unset).toArray = ls at hl ⊢
  have hl : lv_has ls 3 [(0, Value.ref x), (1, Value.int n), (2, Value.int k)] := hl
  refine lv_iload_n hx hb d_M_operator_0 rfl (lv_at hl 1 rfl) ?_
  refine lv_bipush (v := 32) hx hb d_M_operator_1 (by decide) ?_
  have hPc := hP.sub (ws' := []) [] rfl
  have hKc := hK.sub (tys' := []) [] rfl
  refine va_calli (va_runS (As := [Value.int n, Value.int 32]) (rest := []) ⟨hx, hb, hml, hown, hg⟩ (c_M_isWithin l dC dI s.heap.size n 32) (va_cwS 2 hg (gw_giS cin_M_isWithin tw_321 tw_322 tw_1) rfl rfl rfl (by decide +kernel) ⟨Nat.le_of_ble_eq_true rfl, Nat.le_of_ble_eq_true rfl⟩) ⟨fun a U g mk q => by obtain ⟨q0, q1, qP, qK⟩ := q; exact ⟨q0, q1, qP, va_K.moved (u := U) (U := U.calling g mk a) (Vm.Alike.refl U.vm) qK⟩, fun U hU hW => ⟨rfl, by rw [hU], by rw [hU]; exact hPc, va_K.moved hW.alike hKc⟩⟩ rfl rfl hl.1 rfl (lv_room (Nat.le_of_ble_eq_true rfl)) d_M_operator_3 ⟨Nat.le_of_ble_eq_true rfl, Nat.le_of_ble_eq_true rfl⟩) hS (fun q h1 h => (tx_pA h1 h).elim) (tx_pF hS hA) (fun r_k_1 u_k_1 t_k_1 H_2 l_k_1 ht hvm hw_k_1 hB hz1 hk1 hS => ?_)
  have hw_k_1 : (if 0 ≤ n ∧ n < 32 then 1 else 0) = r_k_1 := Eq.symm hw_k_1
  subst hw_k_1
  have hP := tx_keep hP hk1
  refine lv_if_eq (tgt := 17) hx hb d_M_operator_6 (by decide) (fun c_3 => ?_) (fun c_3 => ?_)
  · obtain ⟨qs, hqs⟩ := tx_str47 hG.2.1
    exact tx_throwNew (names := tx_nm) hx hb hlf hout hlocks hown (hg _ tw_324) (hg _ tw_325) (hg _ tw_15) (tx_ownIAE hg hG) (by decide +kernel) (by decide +kernel) hqs (tx_loc (ws := [(x, .inr (0, [Value.ref g, (zx 1), (zx 2), (zx 3)])), (g, .inr (1, [Value.ref kq, Value.int 0, (zg 2), (zg 3), (zg 4), (zg 5), (zg 6), (zg 7), (zg 8), (zg 9), (zg 10), (zg 11), (zg 12), (zg 13)])), (kq, .inl (cA, 32, .inl f))]) hP0 (by rw [hAe]; exact hS)) (hl.1.trans hml.symm) hS (Nat.le_of_ble_eq_true rfl) (Nat.le_of_ble_eq_true rfl) (Nat.le_of_ble_eq_true rfl) (Nat.le_of_ble_eq_true rfl) d_M_operator_17 d_M_operator_20 d_M_operator_21 d_M_operator_23 d_M_operator_26 ⟨fun h => tx_if0 c_3 h.1, rfl⟩
  · refine lv_iload_n hx hb d_M_operator_9 rfl (lv_at hl 2 rfl) ?_
    refine lv_iconst (v := 3) hx hb d_M_operator_10 (by decide) ?_
    have hPc := hP.sub (ws' := []) [] rfl
    have hKc := hK.sub (tys' := []) [] rfl
    refine va_calli (va_runS (As := [Value.int k, Value.int 3]) (rest := []) ⟨hx, hb, hml, hown, hg⟩ (c_M_isWithin l dC dI H_2.size k 3) (va_cwS 2 hg (gw_giS cin_M_isWithin tw_321 tw_322 tw_1) rfl rfl rfl (by decide +kernel) ⟨Nat.le_of_ble_eq_true rfl, Nat.le_of_ble_eq_true rfl⟩) ⟨fun a U g mk q => by obtain ⟨q0, q1, qP, qK⟩ := q; exact ⟨q0, q1, qP, va_K.moved (u := U) (U := U.calling g mk a) (Vm.Alike.refl U.vm) qK⟩, fun U hU hW => ⟨rfl, by rw [hU], by rw [hU]; exact hPc, va_K.moved hW.alike hKc⟩⟩ rfl rfl hl.1 rfl (lv_room (Nat.le_of_ble_eq_true rfl)) d_M_operator_11 ⟨Nat.le_of_ble_eq_true rfl, Nat.le_of_ble_eq_true rfl⟩) hS (fun q h1 h => (tx_pA h1 h).elim) (tx_pF hS hA) (fun r_k_4 u_k_4 t_k_4 H_5 l_k_4 ht hvm hw_k_4 hB hz1 hk1 hS => ?_)
    have hw_k_4 : (if 0 ≤ k ∧ k < 3 then 1 else 0) = r_k_4 := Eq.symm hw_k_4
    subst hw_k_4
    have hP := tx_keep hP hk1
    refine lv_if_ne (tgt := 27) hx hb d_M_operator_14 (by decide) (fun c_6 => ?_) (fun c_6 => ?_)
    · refine lv_aload_n hx hb d_M_operator_27 rfl (lv_at hl 0 rfl) ?_
      refine va_get (D := (dC, dI)) (ci := 0) (v := Value.ref g) (C := kR_M) (T := kT_M) (N := 4) hx hb hg kin_M hown hK hP 0 rfl rfl 0 (by decide) (hg _ tw_283) (fun _ h9 => h9) rfl d_M_operator_28 ?_
      refine lv_iload_n hx hb d_M_operator_31 rfl (lv_at hl 1 rfl) ?_
      have hPc := hP.sub (ws' := [(g, .inr (1, [Value.ref kq, Value.int 0, (zg 2), (zg 3), (zg 4), (zg 5), (zg 6), (zg 7), (zg 8), (zg 9), (zg 10), (zg 11), (zg 12), (zg 13)])), (kq, .inl (cA, 32, .inl f))]) [1, 2] rfl
      have hKc := hK.sub (tys' := [(cA, .int)]) [0] rfl
      refine va_calli (va_runV (As := [Value.int n]) (rest := []) ⟨hx, hb, hml, hown, hg⟩ (c_G_hasOperator l dC dI H_5.size g kq cA (fun i => if i = 1 then Value.int 0 else zg i) f hf n) (cwV 1 hg (gw_giV cin_G_hasOperator tw_392 tw_393 tw_394 tw_2) rfl rfl rfl (by decide +kernel) ⟨Nat.le_of_ble_eq_true rfl, Nat.le_of_ble_eq_true rfl⟩) ⟨fun a U g mk q => by obtain ⟨q0, q1, qP, qK, qG⟩ := q; exact ⟨q0, q1, qP, va_K.moved (u := U) (U := U.calling g mk a) (Vm.Alike.refl U.vm) qK, tx_N.same (U := U.calling g mk a) rfl qG⟩, va_recv hKc hPc (ci := 1) (q0 := 0) rfl rfl, fun U hU hW => ⟨rfl, by rw [hU], by rw [hU]; exact hPc, va_K.moved hW.alike hKc, hN.warm hW⟩⟩ rfl rfl hl.1 rfl (lv_room (Nat.le_of_ble_eq_true rfl)) d_M_operator_32 ⟨Nat.le_of_ble_eq_true rfl, Nat.le_of_ble_eq_true rfl⟩) hS (fun q h1 h => (tx_pA h1 h).elim) (tx_pF hS hA) (fun r_k_7 u_k_7 t_k_7 H_8 l_k_7 ht hvm hw_k_7 hB hz1 hk1 hS => ?_)
      have hw_k_7 : 0 = r_k_7 := Eq.symm hw_k_7
      subst hw_k_7
      have hP := tx_keep hP hk1
      refine lv_if_eq (tgt := 48) hx hb d_M_operator_35 (by decide) (fun c_9 => ?_) (fun c_9 => ?_)
      · refine lv_aload_n hx hb d_M_operator_48 rfl (lv_at hl 0 rfl) ?_
        refine va_get (D := (dC, dI)) (ci := 0) (v := Value.ref g) (C := kR_M) (T := kT_M) (N := 4) hx hb hg kin_M hown hK hP 0 rfl rfl 0 (by decide) (hg _ tw_283) (fun _ h9 => h9) rfl d_M_operator_49 ?_
        refine lv_iload_n hx hb d_M_operator_52 rfl (lv_at hl 1 rfl) ?_
        refine lv_iload_n hx hb d_M_operator_53 rfl (lv_at hl 2 rfl) ?_
        have hPc := hP.sub (ws' := [(g, .inr (1, [Value.ref kq, Value.int 0, (zg 2), (zg 3), (zg 4), (zg 5), (zg 6), (zg 7), (zg 8), (zg 9), (zg 10), (zg 11), (zg 12), (zg 13)])), (kq, .inl (cA, 32, .inl f))]) [1, 2] rfl
        have hKc := hK.sub (tys' := [(cA, .int)]) [0] rfl
        have hDc := hD.sub (ws' := [(g, .inr (1, [Value.ref kq, Value.int 0, (zg 2), (zg 3), (zg 4), (zg 5), (zg 6), (zg 7), (zg 8), (zg 9), (zg 10), (zg 11), (zg 12), (zg 13)])), (kq, .inl (cA, 32, .inl f))]) [1, 2] (by decide) rfl
        have hFc := va_free (wc := [(g, .inr (1, [Value.ref kq, Value.int 0, (zg 2), (zg 3), (zg 4), (zg 5), (zg 6), (zg 7), (zg 8), (zg 9), (zg 10), (zg 11), (zg 12), (zg 13)])), (kq, .inl (cA, 32, .inl f))]) hD hS hA [1, 2] rfl
        refine va_calli (va_runV (As := [Value.int n, Value.int k]) (rest := []) ⟨hx, hb, hml, hown, hg⟩ (c_G_addOperator l dC dI H_8.size g kq cA zg f n k 0 (tx_if1 c_3)) (cwV 2 hg (gw_giV cin_G_addOperator tw_413 tw_414 tw_415 tw_2) rfl rfl rfl (by decide +kernel) ⟨Nat.le_of_ble_eq_true rfl, Nat.le_of_ble_eq_true rfl⟩) ⟨fun a U g mk q => by obtain ⟨q0, q1, qP, qK, qD⟩ := q; exact ⟨q0, q1, qP, va_K.moved (u := U) (U := U.calling g mk a) (Vm.Alike.refl U.vm) qK, qD⟩, va_recv hKc hPc (ci := 1) (q0 := 0) rfl rfl, fun U hU hW => ⟨rfl, by rw [hU], by rw [hU]; exact hPc, va_K.moved hW.alike hKc, hDc.weaken (fun _ _ _ _ => trivial)⟩⟩ rfl rfl hl.1 rfl (lv_room (Nat.le_of_ble_eq_true rfl)) d_M_operator_54 ⟨Nat.le_of_ble_eq_true rfl, Nat.le_of_ble_eq_true rfl⟩) hS (fun q _ h => hFc q h) hFc (fun r_k_10 u_k_10 t_k_10 H_11 l_k_10 ht hvm hw_k_10 hB hz1 hk1 hS => ?_)
        have hw_k_10 : (0 + 1) = r_k_10 := Eq.symm hw_k_10
        subst hw_k_10
        obtain ⟨hP, hD⟩ := tx_rest (wc := [(g, .inr (1, [Value.ref kq, Value.int 0, (zg 2), (zg 3), (zg 4), (zg 5), (zg 6), (zg 7), (zg 8), (zg 9), (zg 10), (zg 11), (zg 12), (zg 13)])), (kq, .inl (cA, 32, .inl f))]) (wr := [(x, .inr (0, [Value.ref g, (zx 1), (zx 2), (zx 3)]))]) hP hD [1, 2] [0] rfl rfl (by decide) (by decide) hk1 hFc
        have hK := hK.sub (tys' := []) [] rfl
        refine W.widen (k := 1) (n := 6) (Nat.le_of_ble_eq_true rfl) (Nat.le_of_ble_eq_true rfl) ?_
        exact tx_ret (W.iret (v := (0 + 1)) hx hb hr (fun t ht hW => ⟨Or.inl ⟨_, rfl, ⟨⟨tx_if1 c_3, tx_if1 c_6⟩, rfl⟩⟩, hS.F ht⟩) hS.2.2 d_M_operator_57)
      · exact absurd rfl c_9
    · obtain ⟨qs, hqs⟩ := tx_str47 hG.2.1
      exact tx_throwNew (names := tx_nm) hx hb hlf hout hlocks hown (hg _ tw_324) (hg _ tw_325) (hg _ tw_15) (tx_ownIAE hg hG) (by decide +kernel) (by decide +kernel) hqs (tx_loc (ws := [(x, .inr (0, [Value.ref g, (zx 1), (zx 2), (zx 3)])), (g, .inr (1, [Value.ref kq, Value.int 0, (zg 2), (zg 3), (zg 4), (zg 5), (zg 6), (zg 7), (zg 8), (zg 9), (zg 10), (zg 11), (zg 12), (zg 13)])), (kq, .inl (cA, 32, .inl f))]) hP0 (by rw [hAe]; exact hS)) (hl.1.trans hml.symm) hS (Nat.le_of_ble_eq_true rfl) (Nat.le_of_ble_eq_true rfl) (Nat.le_of_ble_eq_true rfl) (Nat.le_of_ble_eq_true rfl) d_M_operator_17 d_M_operator_20 d_M_operator_21 d_M_operator_23 d_M_operator_26 ⟨fun h => tx_if0 c_6 h.2, rfl⟩
set_option maxHeartbeats 4000000 in
set_option maxRecDepth 100000 in
theorem c_M_element (l : Launch) (hlf : l.flags = flags0) (dC : Nat → ClassId) (dI : Nat → Nat → Nat) (sz : Nat) (x g hq : Nat) (cA : ClassId) (zx : Nat → Value) (zg : Nat → Value) (f : Nat → Int32) (n : Int32) : tx_Met l y_M_element ws_M_element ({ frames := 6, cells := 1, slots := 6, locals := 90 }) (va_Pc [Value.ref x, Value.int n] (fun U => U.heap.size = sz ∧ va_P (dC, dI) kcl [(x, .inr (0, [Value.ref g, (zx 1), (zx 2), (zx 3)])), (g, .inr (1, [(zg 0), (zg 1), Value.ref hq, Value.int 0, (zg 4), (zg 5), (zg 6), (zg 7), (zg 8), (zg 9), (zg 10), (zg 11), (zg 12), (zg 13)])), (hq, .inl (cA, 12, .inl f))] U.heap ∧ va_K (dC, dI) kcl [(cA, .int)] U ∧ va_D (fun _ => True) [(x, .inr (0, [Value.ref g, (zx 1), (zx 2), (zx 3)])), (g, .inr (1, [(zg 0), (zg 1), Value.ref hq, Value.int 0, (zg 4), (zg 5), (zg 6), (zg 7), (zg 8), (zg 9), (zg 10), (zg 11), (zg 12), (zg 13)])), (hq, .inl (cA, 12, .inl f))] ∧ tx_G (va_A [(x, .inr (0, [Value.ref g, (zx 1), (zx 2), (zx 3)])), (g, .inr (1, [(zg 0), (zg 1), Value.ref hq, Value.int 0, (zg 4), (zg 5), (zg 6), (zg 7), (zg 8), (zg 9), (zg 10), (zg 11), (zg 12), (zg 13)])), (hq, .inl (cA, 12, .inl f))] sz) U)) (tx_Q (fun v => (0 ≤ n ∧ n < 48) ∧ v = some (.int 1)) (fun X => ¬ (0 ≤ n ∧ n < 48) ∧ X = "java/lang/IllegalArgumentException") (va_A [(x, .inr (0, [Value.ref g, (zx 1), (zx 2), (zx 3)])), (g, .inr (1, [(zg 0), (zg 1), Value.ref hq, Value.int 0, (zg 4), (zg 5), (zg 6), (zg 7), (zg 8), (zg 9), (zg 10), (zg 11), (zg 12), (zg 13)])), (hq, .inl (cA, 12, .inl f))] sz)) 1 6 (va_A [(x, .inr (0, [Value.ref g, (zx 1), (zx 2), (zx 3)])), (g, .inr (1, [(zg 0), (zg 1), Value.ref hq, Value.int 0, (zg 4), (zg 5), (zg 6), (zg 7), (zg 8), (zg 9), (zg 10), (zg 11), (zg 12), (zg 13)])), (hq, .inl (cA, 12, .inl f))] sz) := by
  refine tx_ofW (cc := b_M_element) (maxL := 2) (ret := (Option.some Jvm.ClassFile.FieldType.int)) (by decide) rfl ?_
  intro p e s m args below meth c s₁ B hml hout hadm hv
  obtain ⟨rfl, hsz, hP, hK, hD0, hG⟩ := hv
  have hP0 := hP
  have hx := B.exec
  have hb := B.bytes
  have hr := B.returns
  have hlocks := B.notSynchronized
  have hg : ∀ w ∈ gw, w.before _ s = true := fun w h => atoms_spec (ws := ws_M_element) B.pre w (List.mem_cons_of_mem _ h)
  have hown : s.vm.findClass "TreeMatcher" = some m.cls := findClass_of_methodNamed B.named
  subst hsz
  have hD := hD0.self (sz := s.heap.size)
  have hA : ∀ q : Nat, s.heap.size ≤ q → va_A [(x, .inr (0, [Value.ref g, (zx 1), (zx 2), (zx 3)])), (g, .inr (1, [(zg 0), (zg 1), Value.ref hq, Value.int 0, (zg 4), (zg 5), (zg 6), (zg 7), (zg 8), (zg 9), (zg 10), (zg 11), (zg 12), (zg 13)])), (hq, .inl (cA, 12, .inl f))] s.heap.size q := fun q h => Or.inr h
  generalize hAe : va_A [(x, .inr (0, [Value.ref g, (zx 1), (zx 2), (zx 3)])), (g, .inr (1, [(zg 0), (zg 1), Value.ref hq, Value.int 0, (zg 4), (zg 5), (zg 6), (zg 7), (zg 8), (zg 9), (zg 10), (zg 11), (zg 12), (zg 13)])), (hq, .inl (cA, 12, .inl f))] s.heap.size = A at hD hG hA ⊢
  have hN : tx_N s := hG.1
  have hS : va_S A s.heap s.heap [] := va_S.rf
  have hl := lv_entry ([Value.ref x, Value.int n] : List Value) (n := 2) (Nat.le_of_ble_eq_true rfl)
  rw [lg_entry_eq]
  generalize (lg_sl ([Value.ref x, Value.int n] : List Value) ++ List.replicate (2 - (lg_sl ([Value.ref x, Value.int n] : List Value)).length) Slot.unset).toArray = ls at hl ⊢
  have hl : lv_has ls 2 [(0, Value.ref x), (1, Value.int n)] := hl
  refine lv_iload_n hx hb d_M_element_0 rfl (lv_at hl 1 rfl) ?_
  refine lv_bipush (v := 48) hx hb d_M_element_1 (by decide) ?_
  have hPc := hP.sub (ws' := []) [] rfl
  have hKc := hK.sub (tys' := []) [] rfl
  refine va_calli (va_runS (As := [Value.int n, Value.int 48]) (rest := []) ⟨hx, hb, hml, hown, hg⟩ (c_M_isWithin l dC dI s.heap.size n 48) (va_cwS 2 hg (gw_giS cin_M_isWithin tw_321 tw_322 tw_1) rfl rfl rfl (by decide +kernel) ⟨Nat.le_of_ble_eq_true rfl, Nat.le_of_ble_eq_true rfl⟩) ⟨fun a U g mk q => by obtain ⟨q0, q1, qP, qK⟩ := q; exact ⟨q0, q1, qP, va_K.moved (u := U) (U := U.calling g mk a) (Vm.Alike.refl U.vm) qK⟩, fun U hU hW => ⟨rfl, by rw [hU], by rw [hU]; exact hPc, va_K.moved hW.alike hKc⟩⟩ rfl rfl hl.1 rfl (lv_room (Nat.le_of_ble_eq_true rfl)) d_M_element_3 ⟨Nat.le_of_ble_eq_true rfl, Nat.le_of_ble_eq_true rfl⟩) hS (fun q h1 h => (tx_pA h1 h).elim) (tx_pF hS hA) (fun r_k_1 u_k_1 t_k_1 H_2 l_k_1 ht hvm hw_k_1 hB hz1 hk1 hS => ?_)
  have hw_k_1 : (if 0 ≤ n ∧ n < 48 then 1 else 0) = r_k_1 := Eq.symm hw_k_1
  subst hw_k_1
  have hP := tx_keep hP hk1
  refine lv_if_ne (tgt := 19) hx hb d_M_element_6 (by decide) (fun c_3 => ?_) (fun c_3 => ?_)
  · refine lv_aload_n hx hb d_M_element_19 rfl (lv_at hl 0 rfl) ?_
    refine va_get (D := (dC, dI)) (ci := 0) (v := Value.ref g) (C := kR_M) (T := kT_M) (N := 4) hx hb hg kin_M hown hK hP 0 rfl rfl 0 (by decide) (hg _ tw_283) (fun _ h9 => h9) rfl d_M_element_20 ?_
    have hPc := hP.sub (ws' := [(g, .inr (1, [(zg 0), (zg 1), Value.ref hq, Value.int 0, (zg 4), (zg 5), (zg 6), (zg 7), (zg 8), (zg 9), (zg 10), (zg 11), (zg 12), (zg 13)]))]) [1] rfl
    have hKc := hK.sub (tys' := []) [] rfl
    refine va_calli (va_runV (As := []) (rest := []) ⟨hx, hb, hml, hown, hg⟩ (c_G_handSize l dC dI H_2.size g (fun i => if i = 2 then Value.ref hq else zg i) 0) (cwV 0 hg (gw_giV cin_G_handSize tw_425 tw_426 tw_427 tw_2) rfl rfl rfl (by decide +kernel) ⟨Nat.le_of_ble_eq_true rfl, Nat.le_of_ble_eq_true rfl⟩) ⟨fun a U g mk q => by obtain ⟨q0, q1, qP, qK⟩ := q; exact ⟨q0, q1, qP, va_K.moved (u := U) (U := U.calling g mk a) (Vm.Alike.refl U.vm) qK⟩, va_recv hKc hPc (ci := 1) (q0 := 0) rfl rfl, fun U hU hW => ⟨rfl, by rw [hU], by rw [hU]; exact hPc, va_K.moved hW.alike hKc⟩⟩ rfl rfl hl.1 rfl (lv_room (Nat.le_of_ble_eq_true rfl)) d_M_element_23 ⟨Nat.le_of_ble_eq_true rfl, Nat.le_of_ble_eq_true rfl⟩) hS (fun q h1 h => (tx_pA h1 h).elim) (tx_pF hS hA) (fun r_k_4 u_k_4 t_k_4 H_5 l_k_4 ht hvm hw_k_4 hB hz1 hk1 hS => ?_)
    have hw_k_4 : 0 = r_k_4 := Eq.symm hw_k_4
    subst hw_k_4
    have hP := tx_keep hP hk1
    refine lv_bipush (v := 12) hx hb d_M_element_26 (by decide) ?_
    refine lv_icmp_lt (tgt := 41) hx hb d_M_element_28 (by decide) (fun c_6 => ?_) (fun c_6 => ?_)
    · refine lv_aload_n hx hb d_M_element_41 rfl (lv_at hl 0 rfl) ?_
      refine va_get (D := (dC, dI)) (ci := 0) (v := Value.ref g) (C := kR_M) (T := kT_M) (N := 4) hx hb hg kin_M hown hK hP 0 rfl rfl 0 (by decide) (hg _ tw_283) (fun _ h9 => h9) rfl d_M_element_42 ?_
      refine lv_iload_n hx hb d_M_element_45 rfl (lv_at hl 1 rfl) ?_
      have hPc := hP.sub (ws' := [(g, .inr (1, [(zg 0), (zg 1), Value.ref hq, Value.int 0, (zg 4), (zg 5), (zg 6), (zg 7), (zg 8), (zg 9), (zg 10), (zg 11), (zg 12), (zg 13)])), (hq, .inl (cA, 12, .inl f))]) [1, 2] rfl
      have hKc := hK.sub (tys' := [(cA, .int)]) [0] rfl
      have hDc := hD.sub (ws' := [(g, .inr (1, [(zg 0), (zg 1), Value.ref hq, Value.int 0, (zg 4), (zg 5), (zg 6), (zg 7), (zg 8), (zg 9), (zg 10), (zg 11), (zg 12), (zg 13)])), (hq, .inl (cA, 12, .inl f))]) [1, 2] (by decide) rfl
      have hFc := va_free (wc := [(g, .inr (1, [(zg 0), (zg 1), Value.ref hq, Value.int 0, (zg 4), (zg 5), (zg 6), (zg 7), (zg 8), (zg 9), (zg 10), (zg 11), (zg 12), (zg 13)])), (hq, .inl (cA, 12, .inl f))]) hD hS hA [1, 2] rfl
      refine va_calli (va_runV (As := [Value.int n]) (rest := []) ⟨hx, hb, hml, hown, hg⟩ (c_G_addElement l dC dI H_5.size g hq cA zg f n) (cwV 1 hg (gw_giV cin_G_addElement tw_430 tw_431 tw_432 tw_2) rfl rfl rfl (by decide +kernel) ⟨Nat.le_of_ble_eq_true rfl, Nat.le_of_ble_eq_true rfl⟩) ⟨fun a U g mk q => by obtain ⟨q0, q1, qP, qK, qD⟩ := q; exact ⟨q0, q1, qP, va_K.moved (u := U) (U := U.calling g mk a) (Vm.Alike.refl U.vm) qK, qD⟩, va_recv hKc hPc (ci := 1) (q0 := 0) rfl rfl, fun U hU hW => ⟨rfl, by rw [hU], by rw [hU]; exact hPc, va_K.moved hW.alike hKc, hDc.weaken (fun _ _ _ _ => trivial)⟩⟩ rfl rfl hl.1 rfl (lv_room (Nat.le_of_ble_eq_true rfl)) d_M_element_46 ⟨Nat.le_of_ble_eq_true rfl, Nat.le_of_ble_eq_true rfl⟩) hS (fun q _ h => hFc q h) hFc (fun r_k_7 u_k_7 t_k_7 H_8 l_k_7 ht hvm hw_k_7 hB hz1 hk1 hS => ?_)
      have hw_k_7 : (0 + 1) = r_k_7 := Eq.symm hw_k_7
      subst hw_k_7
      obtain ⟨hP, hD⟩ := tx_rest (wc := [(g, .inr (1, [(zg 0), (zg 1), Value.ref hq, Value.int 0, (zg 4), (zg 5), (zg 6), (zg 7), (zg 8), (zg 9), (zg 10), (zg 11), (zg 12), (zg 13)])), (hq, .inl (cA, 12, .inl f))]) (wr := [(x, .inr (0, [Value.ref g, (zx 1), (zx 2), (zx 3)]))]) hP hD [1, 2] [0] rfl rfl (by decide) (by decide) hk1 hFc
      have hK := hK.sub (tys' := []) [] rfl
      refine W.widen (k := 1) (n := 6) (Nat.le_of_ble_eq_true rfl) (Nat.le_of_ble_eq_true rfl) ?_
      exact tx_ret (W.iret (v := (0 + 1)) hx hb hr (fun t ht hW => ⟨Or.inl ⟨_, rfl, ⟨tx_if1 c_3, rfl⟩⟩, hS.F ht⟩) hS.2.2 d_M_element_49)
    · exact absurd (by decide) c_6
  · obtain ⟨qs, hqs⟩ := tx_str65 hG.2.1
    exact tx_throwNew (names := tx_nm) hx hb hlf hout hlocks hown (hg _ tw_324) (hg _ tw_325) (hg _ tw_15) (tx_ownIAE hg hG) (by decide +kernel) (by decide +kernel) hqs (tx_loc (ws := [(x, .inr (0, [Value.ref g, (zx 1), (zx 2), (zx 3)])), (g, .inr (1, [(zg 0), (zg 1), Value.ref hq, Value.int 0, (zg 4), (zg 5), (zg 6), (zg 7), (zg 8), (zg 9), (zg 10), (zg 11), (zg 12), (zg 13)])), (hq, .inl (cA, 12, .inl f))]) hP0 (by rw [hAe]; exact hS)) (hl.1.trans hml.symm) hS (Nat.le_of_ble_eq_true rfl) (Nat.le_of_ble_eq_true rfl) (Nat.le_of_ble_eq_true rfl) (Nat.le_of_ble_eq_true rfl) d_M_element_9 d_M_element_12 d_M_element_13 d_M_element_15 d_M_element_18 ⟨tx_if0 c_3, rfl⟩
set_option maxHeartbeats 4000000 in
set_option maxRecDepth 100000 in
/-- rule on a new object: nothing is at hand -/
theorem c_M_rule (l : Launch) (hlf : l.flags = flags0) (dC : Nat → ClassId) (dI : Nat → Nat → Nat) (sz : Nat) (x g f : Nat) (zx : Nat → Value) (zg : Nat → Value) (zf : Nat → Value) (n k lo hi : Int32) : tx_Met l y_M_rule ws_M_rule ({ frames := 6, cells := 1, slots := 6, locals := 90 }) (va_Pc [Value.ref x, Value.int n, Value.int k, Value.int lo, Value.int hi] (fun U => U.heap.size = sz ∧ va_P (dC, dI) kcl [(x, .inr (0, [Value.ref g, Value.ref f, (zx 2), (zx 3)])), (g, .inr (1, [(zg 0), (zg 1), (zg 2), Value.int 0, (zg 4), (zg 5), (zg 6), (zg 7), (zg 8), (zg 9), (zg 10), Value.int 0, (zg 12), (zg 13)])), (f, .inr (2, [(zf 0), (zf 1), (zf 2), (zf 3), (zf 4), (zf 5), (zf 6), (zf 7), (zf 8), Value.int 0, (zf 10), (zf 11), (zf 12), (zf 13)]))] U.heap ∧ va_K (dC, dI) kcl [] U ∧ va_D (fun _ => True) [(x, .inr (0, [Value.ref g, Value.ref f, (zx 2), (zx 3)])), (g, .inr (1, [(zg 0), (zg 1), (zg 2), Value.int 0, (zg 4), (zg 5), (zg 6), (zg 7), (zg 8), (zg 9), (zg 10), Value.int 0, (zg 12), (zg 13)])), (f, .inr (2, [(zf 0), (zf 1), (zf 2), (zf 3), (zf 4), (zf 5), (zf 6), (zf 7), (zf 8), Value.int 0, (zf 10), (zf 11), (zf 12), (zf 13)]))] ∧ tx_G (va_A [(x, .inr (0, [Value.ref g, Value.ref f, (zx 2), (zx 3)])), (g, .inr (1, [(zg 0), (zg 1), (zg 2), Value.int 0, (zg 4), (zg 5), (zg 6), (zg 7), (zg 8), (zg 9), (zg 10), Value.int 0, (zg 12), (zg 13)])), (f, .inr (2, [(zf 0), (zf 1), (zf 2), (zf 3), (zf 4), (zf 5), (zf 6), (zf 7), (zf 8), Value.int 0, (zf 10), (zf 11), (zf 12), (zf 13)]))] sz) U)) (tx_Q (fun _ => False) (fun X => X = "java/lang/IllegalArgumentException") (va_A [(x, .inr (0, [Value.ref g, Value.ref f, (zx 2), (zx 3)])), (g, .inr (1, [(zg 0), (zg 1), (zg 2), Value.int 0, (zg 4), (zg 5), (zg 6), (zg 7), (zg 8), (zg 9), (zg 10), Value.int 0, (zg 12), (zg 13)])), (f, .inr (2, [(zf 0), (zf 1), (zf 2), (zf 3), (zf 4), (zf 5), (zf 6), (zf 7), (zf 8), Value.int 0, (zf 10), (zf 11), (zf 12), (zf 13)]))] sz)) 1 6 (va_A [(x, .inr (0, [Value.ref g, Value.ref f, (zx 2), (zx 3)])), (g, .inr (1, [(zg 0), (zg 1), (zg 2), Value.int 0, (zg 4), (zg 5), (zg 6), (zg 7), (zg 8), (zg 9), (zg 10), Value.int 0, (zg 12), (zg 13)])), (f, .inr (2, [(zf 0), (zf 1), (zf 2), (zf 3), (zf 4), (zf 5), (zf 6), (zf 7), (zf 8), Value.int 0, (zf 10), (zf 11), (zf 12), (zf 13)]))] sz) := by
  refine tx_ofW (cc := b_M_rule) (maxL := 6) (ret := (Option.some Jvm.ClassFile.FieldType.int)) (by decide) rfl ?_
  intro p e s m args below meth c s₁ B hml hout hadm hv
  obtain ⟨rfl, hsz, hP, hK, hD0, hG⟩ := hv
  have hP0 := hP
  have hx := B.exec
  have hb := B.bytes
  have hr := B.returns
  have hlocks := B.notSynchronized
  have hg : ∀ w ∈ gw, w.before _ s = true := fun w h => atoms_spec (ws := ws_M_rule) B.pre w (List.mem_cons_of_mem _ h)
  have hown : s.vm.findClass "TreeMatcher" = some m.cls := findClass_of_methodNamed B.named
  subst hsz
  have hD := hD0.self (sz := s.heap.size)
  have hA : ∀ q : Nat, s.heap.size ≤ q → va_A [(x, .inr (0, [Value.ref g, Value.ref f, (zx 2), (zx 3)])), (g, .inr (1, [(zg 0), (zg 1), (zg 2), Value.int 0, (zg 4), (zg 5), (zg 6), (zg 7), (zg 8), (zg 9), (zg 10), Value.int 0, (zg 12), (zg 13)])), (f, .inr (2, [(zf 0), (zf 1), (zf 2), (zf 3), (zf 4), (zf 5), (zf 6), (zf 7), (zf 8), Value.int 0, (zf 10), (zf 11), (zf 12), (zf 13)]))] s.heap.size q := fun q h => Or.inr h
  generalize hAe : va_A [(x, .inr (0, [Value.ref g, Value.ref f, (zx 2), (zx 3)])), (g, .inr (1, [(zg 0), (zg 1), (zg 2), Value.int 0, (zg 4), (zg 5), (zg 6), (zg 7), (zg 8), (zg 9), (zg 10), Value.int 0, (zg 12), (zg 13)])), (f, .inr (2, [(zf 0), (zf 1), (zf 2), (zf 3), (zf 4), (zf 5), (zf 6), (zf 7), (zf 8), Value.int 0, (zf 10), (zf 11), (zf 12), (zf 13)]))] s.heap.size = A at hD hG hA ⊢
  have hN : tx_N s := hG.1
  have hS : va_S A s.heap s.heap [] := va_S.rf
  have hl := lv_entry ([Value.ref x, Value.int n, Value.int k, Value.int lo, Value.int hi] : List Value) (n := 6) (Nat.le_of_ble_eq_true rfl)
  rw [lg_entry_eq]
  generalize (lg_sl ([Value.ref x, Value.int n, Value.int k, Value.int lo, Value.int hi] : List Value) ++ List.replicate (6 - (lg_sl ([Value.ref x, Value.int n, Value.int k, Value.int lo, Value.int hi] : List Value)).length) Slot.unset).toArray = ls at hl ⊢
  have hl : lv_has ls 6 [(0, Value.ref x), (1, Value.int n), (2, Value.int k), (3, Value.int lo), (4, Value.int hi)] := hl
  refine lv_aload_n hx hb d_M_rule_0 rfl (lv_at hl 0 rfl) ?_
  refine va_get (D := (dC, dI)) (ci := 0) (v := Value.ref g) (C := kR_M) (T := kT_M) (N := 4) hx hb hg kin_M hown hK hP 0 rfl rfl 0 (by decide) (hg _ tw_283) (fun _ h9 => h9) rfl d_M_rule_1 ?_
  have hPc := hP.sub (ws' := [(g, .inr (1, [(zg 0), (zg 1), (zg 2), Value.int 0, (zg 4), (zg 5), (zg 6), (zg 7), (zg 8), (zg 9), (zg 10), Value.int 0, (zg 12), (zg 13)]))]) [1] rfl
  have hKc := hK.sub (tys' := []) [] rfl
  refine va_calli (va_runV (As := []) (rest := []) ⟨hx, hb, hml, hown, hg⟩ (c_G_ruleCount l dC dI s.heap.size g (fun i => if i = 3 then Value.int 0 else zg i) 0) (cwV 0 hg (gw_giV cin_G_ruleCount tw_441 tw_442 tw_443 tw_2) rfl rfl rfl (by decide +kernel) ⟨Nat.le_of_ble_eq_true rfl, Nat.le_of_ble_eq_true rfl⟩) ⟨fun a U g mk q => by obtain ⟨q0, q1, qP, qK⟩ := q; exact ⟨q0, q1, qP, va_K.moved (u := U) (U := U.calling g mk a) (Vm.Alike.refl U.vm) qK⟩, va_recv hKc hPc (ci := 1) (q0 := 0) rfl rfl, fun U hU hW => ⟨rfl, by rw [hU], by rw [hU]; exact hPc, va_K.moved hW.alike hKc⟩⟩ rfl rfl hl.1 rfl (lv_room (Nat.le_of_ble_eq_true rfl)) d_M_rule_4 ⟨Nat.le_of_ble_eq_true rfl, Nat.le_of_ble_eq_true rfl⟩) hS (fun q h1 h => (tx_pA h1 h).elim) (tx_pF hS hA) (fun r_k_1 u_k_1 t_k_1 H_2 l_k_1 ht hvm hw_k_1 hB hz1 hk1 hS => ?_)
  have hw_k_1 : 0 = r_k_1 := Eq.symm hw_k_1
  subst hw_k_1
  have hP := tx_keep hP hk1
  refine lv_bipush (v := 64) hx hb d_M_rule_7 (by decide) ?_
  refine lv_icmp_ge (tgt := 22) hx hb d_M_rule_9 (by decide) (fun c_3 => ?_) (fun c_3 => ?_)
  · exact absurd c_3 (by decide)
  · refine lv_aload_n hx hb d_M_rule_12 rfl (lv_at hl 0 rfl) ?_
    refine va_get (D := (dC, dI)) (ci := 0) (v := Value.ref f) (C := kR_M) (T := kT_M) (N := 4) hx hb hg kin_M hown hK hP 0 rfl rfl 1 (by decide) (hg _ tw_284) (fun _ h9 => h9) rfl d_M_rule_13 ?_
    have hPc := hP.sub (ws' := [(f, .inr (2, [(zf 0), (zf 1), (zf 2), (zf 3), (zf 4), (zf 5), (zf 6), (zf 7), (zf 8), Value.int 0, (zf 10), (zf 11), (zf 12), (zf 13)]))]) [2] rfl
    have hKc := hK.sub (tys' := []) [] rfl
    refine va_calli (va_runV (As := []) (rest := []) ⟨hx, hb, hml, hown, hg⟩ (c_F_size l dC dI H_2.size f zf 0) (cwV 0 hg (gw_giV cin_F_size tw_445 tw_446 tw_447 tw_6) rfl rfl rfl (by decide +kernel) ⟨Nat.le_of_ble_eq_true rfl, Nat.le_of_ble_eq_true rfl⟩) ⟨fun a U g mk q => by obtain ⟨q0, q1, qP, qK⟩ := q; exact ⟨q0, q1, qP, va_K.moved (u := U) (U := U.calling g mk a) (Vm.Alike.refl U.vm) qK⟩, va_recv hKc hPc (ci := 2) (q0 := 0) rfl rfl, fun U hU hW => ⟨rfl, by rw [hU], by rw [hU]; exact hPc, va_K.moved hW.alike hKc⟩⟩ rfl rfl hl.1 rfl (lv_room (Nat.le_of_ble_eq_true rfl)) d_M_rule_16 ⟨Nat.le_of_ble_eq_true rfl, Nat.le_of_ble_eq_true rfl⟩) hS (fun q h1 h => (tx_pA h1 h).elim) (tx_pF hS hA) (fun r_k_4 u_k_4 t_k_4 H_5 l_k_4 ht hvm hw_k_4 hB hz1 hk1 hS => ?_)
    have hw_k_4 : 0 = r_k_4 := Eq.symm hw_k_4
    subst hw_k_4
    have hP := tx_keep hP hk1
    refine lv_if_le (tgt := 32) hx hb d_M_rule_19 (by decide) (fun c_6 => ?_) (fun c_6 => ?_)
    · refine lv_iload_n hx hb d_M_rule_32 rfl (lv_at hl 1 rfl) ?_
      refine lv_bipush (v := 16) hx hb d_M_rule_33 (by decide) ?_
      have hPc := hP.sub (ws' := []) [] rfl
      have hKc := hK.sub (tys' := []) [] rfl
      refine va_calli (va_runS (As := [Value.int n, Value.int 16]) (rest := []) ⟨hx, hb, hml, hown, hg⟩ (c_M_isWithin l dC dI H_5.size n 16) (va_cwS 2 hg (gw_giS cin_M_isWithin tw_321 tw_322 tw_1) rfl rfl rfl (by decide +kernel) ⟨Nat.le_of_ble_eq_true rfl, Nat.le_of_ble_eq_true rfl⟩) ⟨fun a U g mk q => by obtain ⟨q0, q1, qP, qK⟩ := q; exact ⟨q0, q1, qP, va_K.moved (u := U) (U := U.calling g mk a) (Vm.Alike.refl U.vm) qK⟩, fun U hU hW => ⟨rfl, by rw [hU], by rw [hU]; exact hPc, va_K.moved hW.alike hKc⟩⟩ rfl rfl hl.1 rfl (lv_room (Nat.le_of_ble_eq_true rfl)) d_M_rule_35 ⟨Nat.le_of_ble_eq_true rfl, Nat.le_of_ble_eq_true rfl⟩) hS (fun q h1 h => (tx_pA h1 h).elim) (tx_pF hS hA) (fun r_k_7 u_k_7 t_k_7 H_8 l_k_7 ht hvm hw_k_7 hB hz1 hk1 hS => ?_)
      have hw_k_7 : (if 0 ≤ n ∧ n < 16 then 1 else 0) = r_k_7 := Eq.symm hw_k_7
      subst hw_k_7
      have hP := tx_keep hP hk1
      refine lv_if_eq (tgt := 70) hx hb d_M_rule_38 (by decide) (fun c_9 => ?_) (fun c_9 => ?_)
      · refine lv_iconst (v := 0) hx hb d_M_rule_70 (by decide) ?_
        refine lv_istore (lv' := [(5, Value.int 0), (0, Value.ref x), (1, Value.int n), (2, Value.int k), (3, Value.int lo), (4, Value.int hi)]) hx hb d_M_rule_71 hl (by decide) rfl (fun ls hl => ?_)
        refine lv_iload hx hb d_M_rule_73 (lv_at hl 0 rfl) ?_
        refine lv_if_ne (tgt := 95) hx hb d_M_rule_75 (by decide) (fun c_10 => ?_) (fun c_10 => ?_)
        · exact absurd rfl c_10
        · refine lv_aload_n hx hb d_M_rule_78 rfl (lv_at hl 1 rfl) ?_
          refine va_get (D := (dC, dI)) (ci := 0) (v := Value.ref g) (C := kR_M) (T := kT_M) (N := 4) hx hb hg kin_M hown hK hP 0 rfl rfl 0 (by decide) (hg _ tw_283) (fun _ h9 => h9) rfl d_M_rule_79 ?_
          have hPc := hP.sub (ws' := [(g, .inr (1, [(zg 0), (zg 1), (zg 2), Value.int 0, (zg 4), (zg 5), (zg 6), (zg 7), (zg 8), (zg 9), (zg 10), Value.int 0, (zg 12), (zg 13)]))]) [1] rfl
          have hKc := hK.sub (tys' := []) [] rfl
          have hDc := hD.sub (ws' := [(g, .inr (1, [(zg 0), (zg 1), (zg 2), Value.int 0, (zg 4), (zg 5), (zg 6), (zg 7), (zg 8), (zg 9), (zg 10), Value.int 0, (zg 12), (zg 13)]))]) [1] (by decide) rfl
          have hFc := va_free (wc := [(g, .inr (1, [(zg 0), (zg 1), (zg 2), Value.int 0, (zg 4), (zg 5), (zg 6), (zg 7), (zg 8), (zg 9), (zg 10), Value.int 0, (zg 12), (zg 13)]))]) hD hS hA [1] rfl
          refine va_callv (va_runV (As := []) (rest := []) ⟨hx, hb, hml, hown, hg⟩ (c_G_dropHand l dC dI H_8.size g (fun i => if i = 11 then Value.int 0 else zg i) 0) (cwV 0 hg (gw_giV cin_G_dropHand tw_455 tw_456 tw_457 tw_2) rfl rfl rfl (by decide +kernel) ⟨Nat.le_of_ble_eq_true rfl, Nat.le_of_ble_eq_true rfl⟩) ⟨fun a U g mk q => by obtain ⟨q0, q1, qP, qK, qD⟩ := q; exact ⟨q0, q1, qP, va_K.moved (u := U) (U := U.calling g mk a) (Vm.Alike.refl U.vm) qK, qD⟩, va_recv hKc hPc (ci := 1) (q0 := 0) rfl rfl, fun U hU hW => ⟨rfl, by rw [hU], by rw [hU]; exact hPc, va_K.moved hW.alike hKc, hDc.weaken (fun _ _ _ _ => trivial)⟩⟩ rfl rfl hl.1 rfl (lv_room (Nat.le_of_ble_eq_true rfl)) d_M_rule_82 ⟨Nat.le_of_ble_eq_true rfl, Nat.le_of_ble_eq_true rfl⟩) hS (fun q _ h => hFc q h) hFc (fun u_k_11 t_k_11 H_12 l_k_11 ht hvm hw_k_11 hB hz1 hk1 hS => ?_)
          obtain ⟨hP, hD⟩ := tx_rest (wc := [(g, .inr (1, [(zg 0), (zg 1), (zg 2), Value.int 0, (zg 4), (zg 5), (zg 6), (zg 7), (zg 8), (zg 9), (zg 10), Value.int 0, (zg 12), (zg 13)]))]) (wr := [(x, .inr (0, [Value.ref g, Value.ref f, (zx 2), (zx 3)])), (f, .inr (2, [(zf 0), (zf 1), (zf 2), (zf 3), (zf 4), (zf 5), (zf 6), (zf 7), (zf 8), Value.int 0, (zf 10), (zf 11), (zf 12), (zf 13)]))]) hP hD [1] [0, 2] rfl rfl (by decide) (by decide) hk1 hFc
          have hK := hK.sub (tys' := []) [] rfl
          obtain ⟨qs, hqs⟩ := tx_str92 hG.2.1
          exact tx_throwNew (names := tx_nm) hx hb hlf hout hlocks hown (hg _ tw_324) (hg _ tw_325) (hg _ tw_15) (tx_ownIAE hg hG) (by decide +kernel) (by decide +kernel) hqs (tx_loc (ws := [(x, .inr (0, [Value.ref g, Value.ref f, (zx 2), (zx 3)])), (g, .inr (1, [(zg 0), (zg 1), (zg 2), Value.int 0, (zg 4), (zg 5), (zg 6), (zg 7), (zg 8), (zg 9), (zg 10), Value.int 0, (zg 12), (zg 13)])), (f, .inr (2, [(zf 0), (zf 1), (zf 2), (zf 3), (zf 4), (zf 5), (zf 6), (zf 7), (zf 8), Value.int 0, (zf 10), (zf 11), (zf 12), (zf 13)]))]) hP0 (by rw [hAe]; exact hS)) (hl.1.trans hml.symm) hS (Nat.le_of_ble_eq_true rfl) (Nat.le_of_ble_eq_true rfl) (Nat.le_of_ble_eq_true rfl) (Nat.le_of_ble_eq_true rfl) d_M_rule_85 d_M_rule_88 d_M_rule_89 d_M_rule_91 d_M_rule_94 rfl
      · refine lv_iload_n hx hb d_M_rule_41 rfl (lv_at hl 2 rfl) ?_
        refine lv_bipush (v := 100) hx hb d_M_rule_42 (by decide) ?_
        have hPc := hP.sub (ws' := []) [] rfl
        have hKc := hK.sub (tys' := []) [] rfl
        refine va_calli (va_runS (As := [Value.int k, Value.int 100]) (rest := []) ⟨hx, hb, hml, hown, hg⟩ (c_M_isWithin l dC dI H_8.size k 100) (va_cwS 2 hg (gw_giS cin_M_isWithin tw_321 tw_322 tw_1) rfl rfl rfl (by decide +kernel) ⟨Nat.le_of_ble_eq_true rfl, Nat.le_of_ble_eq_true rfl⟩) ⟨fun a U g mk q => by obtain ⟨q0, q1, qP, qK⟩ := q; exact ⟨q0, q1, qP, va_K.moved (u := U) (U := U.calling g mk a) (Vm.Alike.refl U.vm) qK⟩, fun U hU hW => ⟨rfl, by rw [hU], by rw [hU]; exact hPc, va_K.moved hW.alike hKc⟩⟩ rfl rfl hl.1 rfl (lv_room (Nat.le_of_ble_eq_true rfl)) d_M_rule_44 ⟨Nat.le_of_ble_eq_true rfl, Nat.le_of_ble_eq_true rfl⟩) hS (fun q h1 h => (tx_pA h1 h).elim) (tx_pF hS hA) (fun r_k_13 u_k_13 t_k_13 H_14 l_k_13 ht hvm hw_k_13 hB hz1 hk1 hS => ?_)
        have hw_k_13 : (if 0 ≤ k ∧ k < 100 then 1 else 0) = r_k_13 := Eq.symm hw_k_13
        subst hw_k_13
        have hP := tx_keep hP hk1
        refine lv_if_eq (tgt := 70) hx hb d_M_rule_47 (by decide) (fun c_15 => ?_) (fun c_15 => ?_)
        · refine lv_iconst (v := 0) hx hb d_M_rule_70 (by decide) ?_
          refine lv_istore (lv' := [(5, Value.int 0), (0, Value.ref x), (1, Value.int n), (2, Value.int k), (3, Value.int lo), (4, Value.int hi)]) hx hb d_M_rule_71 hl (by decide) rfl (fun ls hl => ?_)
          refine lv_iload hx hb d_M_rule_73 (lv_at hl 0 rfl) ?_
          refine lv_if_ne (tgt := 95) hx hb d_M_rule_75 (by decide) (fun c_16 => ?_) (fun c_16 => ?_)
          · exact absurd rfl c_16
          · refine lv_aload_n hx hb d_M_rule_78 rfl (lv_at hl 1 rfl) ?_
            refine va_get (D := (dC, dI)) (ci := 0) (v := Value.ref g) (C := kR_M) (T := kT_M) (N := 4) hx hb hg kin_M hown hK hP 0 rfl rfl 0 (by decide) (hg _ tw_283) (fun _ h9 => h9) rfl d_M_rule_79 ?_
            have hPc := hP.sub (ws' := [(g, .inr (1, [(zg 0), (zg 1), (zg 2), Value.int 0, (zg 4), (zg 5), (zg 6), (zg 7), (zg 8), (zg 9), (zg 10), Value.int 0, (zg 12), (zg 13)]))]) [1] rfl
            have hKc := hK.sub (tys' := []) [] rfl
            have hDc := hD.sub (ws' := [(g, .inr (1, [(zg 0), (zg 1), (zg 2), Value.int 0, (zg 4), (zg 5), (zg 6), (zg 7), (zg 8), (zg 9), (zg 10), Value.int 0, (zg 12), (zg 13)]))]) [1] (by decide) rfl
            have hFc := va_free (wc := [(g, .inr (1, [(zg 0), (zg 1), (zg 2), Value.int 0, (zg 4), (zg 5), (zg 6), (zg 7), (zg 8), (zg 9), (zg 10), Value.int 0, (zg 12), (zg 13)]))]) hD hS hA [1] rfl
            refine va_callv (va_runV (As := []) (rest := []) ⟨hx, hb, hml, hown, hg⟩ (c_G_dropHand l dC dI H_14.size g (fun i => if i = 11 then Value.int 0 else zg i) 0) (cwV 0 hg (gw_giV cin_G_dropHand tw_455 tw_456 tw_457 tw_2) rfl rfl rfl (by decide +kernel) ⟨Nat.le_of_ble_eq_true rfl, Nat.le_of_ble_eq_true rfl⟩) ⟨fun a U g mk q => by obtain ⟨q0, q1, qP, qK, qD⟩ := q; exact ⟨q0, q1, qP, va_K.moved (u := U) (U := U.calling g mk a) (Vm.Alike.refl U.vm) qK, qD⟩, va_recv hKc hPc (ci := 1) (q0 := 0) rfl rfl, fun U hU hW => ⟨rfl, by rw [hU], by rw [hU]; exact hPc, va_K.moved hW.alike hKc, hDc.weaken (fun _ _ _ _ => trivial)⟩⟩ rfl rfl hl.1 rfl (lv_room (Nat.le_of_ble_eq_true rfl)) d_M_rule_82 ⟨Nat.le_of_ble_eq_true rfl, Nat.le_of_ble_eq_true rfl⟩) hS (fun q _ h => hFc q h) hFc (fun u_k_17 t_k_17 H_18 l_k_17 ht hvm hw_k_17 hB hz1 hk1 hS => ?_)
            obtain ⟨hP, hD⟩ := tx_rest (wc := [(g, .inr (1, [(zg 0), (zg 1), (zg 2), Value.int 0, (zg 4), (zg 5), (zg 6), (zg 7), (zg 8), (zg 9), (zg 10), Value.int 0, (zg 12), (zg 13)]))]) (wr := [(x, .inr (0, [Value.ref g, Value.ref f, (zx 2), (zx 3)])), (f, .inr (2, [(zf 0), (zf 1), (zf 2), (zf 3), (zf 4), (zf 5), (zf 6), (zf 7), (zf 8), Value.int 0, (zf 10), (zf 11), (zf 12), (zf 13)]))]) hP hD [1] [0, 2] rfl rfl (by decide) (by decide) hk1 hFc
            have hK := hK.sub (tys' := []) [] rfl
            obtain ⟨qs, hqs⟩ := tx_str92 hG.2.1
            exact tx_throwNew (names := tx_nm) hx hb hlf hout hlocks hown (hg _ tw_324) (hg _ tw_325) (hg _ tw_15) (tx_ownIAE hg hG) (by decide +kernel) (by decide +kernel) hqs (tx_loc (ws := [(x, .inr (0, [Value.ref g, Value.ref f, (zx 2), (zx 3)])), (g, .inr (1, [(zg 0), (zg 1), (zg 2), Value.int 0, (zg 4), (zg 5), (zg 6), (zg 7), (zg 8), (zg 9), (zg 10), Value.int 0, (zg 12), (zg 13)])), (f, .inr (2, [(zf 0), (zf 1), (zf 2), (zf 3), (zf 4), (zf 5), (zf 6), (zf 7), (zf 8), Value.int 0, (zf 10), (zf 11), (zf 12), (zf 13)]))]) hP0 (by rw [hAe]; exact hS)) (hl.1.trans hml.symm) hS (Nat.le_of_ble_eq_true rfl) (Nat.le_of_ble_eq_true rfl) (Nat.le_of_ble_eq_true rfl) (Nat.le_of_ble_eq_true rfl) d_M_rule_85 d_M_rule_88 d_M_rule_89 d_M_rule_91 d_M_rule_94 rfl
        · refine lv_iload_n hx hb d_M_rule_50 rfl (lv_at hl 3 rfl) ?_
          refine lv_iload hx hb d_M_rule_51 (lv_at hl 4 rfl) ?_
          refine lv_icmp_gt (tgt := 70) hx hb d_M_rule_53 (by decide) (fun c_19 => ?_) (fun c_19 => ?_)
          · refine lv_iconst (v := 0) hx hb d_M_rule_70 (by decide) ?_
            refine lv_istore (lv' := [(5, Value.int 0), (0, Value.ref x), (1, Value.int n), (2, Value.int k), (3, Value.int lo), (4, Value.int hi)]) hx hb d_M_rule_71 hl (by decide) rfl (fun ls hl => ?_)
            refine lv_iload hx hb d_M_rule_73 (lv_at hl 0 rfl) ?_
            refine lv_if_ne (tgt := 95) hx hb d_M_rule_75 (by decide) (fun c_20 => ?_) (fun c_20 => ?_)
            · exact absurd rfl c_20
            · refine lv_aload_n hx hb d_M_rule_78 rfl (lv_at hl 1 rfl) ?_
              refine va_get (D := (dC, dI)) (ci := 0) (v := Value.ref g) (C := kR_M) (T := kT_M) (N := 4) hx hb hg kin_M hown hK hP 0 rfl rfl 0 (by decide) (hg _ tw_283) (fun _ h9 => h9) rfl d_M_rule_79 ?_
              have hPc := hP.sub (ws' := [(g, .inr (1, [(zg 0), (zg 1), (zg 2), Value.int 0, (zg 4), (zg 5), (zg 6), (zg 7), (zg 8), (zg 9), (zg 10), Value.int 0, (zg 12), (zg 13)]))]) [1] rfl
              have hKc := hK.sub (tys' := []) [] rfl
              have hDc := hD.sub (ws' := [(g, .inr (1, [(zg 0), (zg 1), (zg 2), Value.int 0, (zg 4), (zg 5), (zg 6), (zg 7), (zg 8), (zg 9), (zg 10), Value.int 0, (zg 12), (zg 13)]))]) [1] (by decide) rfl
              have hFc := va_free (wc := [(g, .inr (1, [(zg 0), (zg 1), (zg 2), Value.int 0, (zg 4), (zg 5), (zg 6), (zg 7), (zg 8), (zg 9), (zg 10), Value.int 0, (zg 12), (zg 13)]))]) hD hS hA [1] rfl
              refine va_callv (va_runV (As := []) (rest := []) ⟨hx, hb, hml, hown, hg⟩ (c_G_dropHand l dC dI H_14.size g (fun i => if i = 11 then Value.int 0 else zg i) 0) (cwV 0 hg (gw_giV cin_G_dropHand tw_455 tw_456 tw_457 tw_2) rfl rfl rfl (by decide +kernel) ⟨Nat.le_of_ble_eq_true rfl, Nat.le_of_ble_eq_true rfl⟩) ⟨fun a U g mk q => by obtain ⟨q0, q1, qP, qK, qD⟩ := q; exact ⟨q0, q1, qP, va_K.moved (u := U) (U := U.calling g mk a) (Vm.Alike.refl U.vm) qK, qD⟩, va_recv hKc hPc (ci := 1) (q0 := 0) rfl rfl, fun U hU hW => ⟨rfl, by rw [hU], by rw [hU]; exact hPc, va_K.moved hW.alike hKc, hDc.weaken (fun _ _ _ _ => trivial)⟩⟩ rfl rfl hl.1 rfl (lv_room (Nat.le_of_ble_eq_true rfl)) d_M_rule_82 ⟨Nat.le_of_ble_eq_true rfl, Nat.le_of_ble_eq_true rfl⟩) hS (fun q _ h => hFc q h) hFc (fun u_k_21 t_k_21 H_22 l_k_21 ht hvm hw_k_21 hB hz1 hk1 hS => ?_)
              obtain ⟨hP, hD⟩ := tx_rest (wc := [(g, .inr (1, [(zg 0), (zg 1), (zg 2), Value.int 0, (zg 4), (zg 5), (zg 6), (zg 7), (zg 8), (zg 9), (zg 10), Value.int 0, (zg 12), (zg 13)]))]) (wr := [(x, .inr (0, [Value.ref g, Value.ref f, (zx 2), (zx 3)])), (f, .inr (2, [(zf 0), (zf 1), (zf 2), (zf 3), (zf 4), (zf 5), (zf 6), (zf 7), (zf 8), Value.int 0, (zf 10), (zf 11), (zf 12), (zf 13)]))]) hP hD [1] [0, 2] rfl rfl (by decide) (by decide) hk1 hFc
              have hK := hK.sub (tys' := []) [] rfl
              obtain ⟨qs, hqs⟩ := tx_str92 hG.2.1
              exact tx_throwNew (names := tx_nm) hx hb hlf hout hlocks hown (hg _ tw_324) (hg _ tw_325) (hg _ tw_15) (tx_ownIAE hg hG) (by decide +kernel) (by decide +kernel) hqs (tx_loc (ws := [(x, .inr (0, [Value.ref g, Value.ref f, (zx 2), (zx 3)])), (g, .inr (1, [(zg 0), (zg 1), (zg 2), Value.int 0, (zg 4), (zg 5), (zg 6), (zg 7), (zg 8), (zg 9), (zg 10), Value.int 0, (zg 12), (zg 13)])), (f, .inr (2, [(zf 0), (zf 1), (zf 2), (zf 3), (zf 4), (zf 5), (zf 6), (zf 7), (zf 8), Value.int 0, (zf 10), (zf 11), (zf 12), (zf 13)]))]) hP0 (by rw [hAe]; exact hS)) (hl.1.trans hml.symm) hS (Nat.le_of_ble_eq_true rfl) (Nat.le_of_ble_eq_true rfl) (Nat.le_of_ble_eq_true rfl) (Nat.le_of_ble_eq_true rfl) d_M_rule_85 d_M_rule_88 d_M_rule_89 d_M_rule_91 d_M_rule_94 rfl
          · refine lv_aload_n hx hb d_M_rule_56 rfl (lv_at hl 0 rfl) ?_
            refine va_get (D := (dC, dI)) (ci := 0) (v := Value.ref g) (C := kR_M) (T := kT_M) (N := 4) hx hb hg kin_M hown hK hP 0 rfl rfl 0 (by decide) (hg _ tw_283) (fun _ h9 => h9) rfl d_M_rule_57 ?_
            have hPc := hP.sub (ws' := [(g, .inr (1, [(zg 0), (zg 1), (zg 2), Value.int 0, (zg 4), (zg 5), (zg 6), (zg 7), (zg 8), (zg 9), (zg 10), Value.int 0, (zg 12), (zg 13)]))]) [1] rfl
            have hKc := hK.sub (tys' := []) [] rfl
            refine va_calli (va_runV (As := []) (rest := []) ⟨hx, hb, hml, hown, hg⟩ (c_G_handIsPattern l dC dI H_14.size g (fun i => if i = 11 then Value.int 0 else zg i)) (cwV 0 hg (gw_giV cin_G_handIsPattern tw_450 tw_451 tw_452 tw_2) rfl rfl rfl (by decide +kernel) ⟨Nat.le_of_ble_eq_true rfl, Nat.le_of_ble_eq_true rfl⟩) ⟨fun a U g mk q => by obtain ⟨q0, q1, qP, qK⟩ := q; exact ⟨q0, q1, qP, va_K.moved (u := U) (U := U.calling g mk a) (Vm.Alike.refl U.vm) qK⟩, va_recv hKc hPc (ci := 1) (q0 := 0) rfl rfl, fun U hU hW => ⟨rfl, by rw [hU], by rw [hU]; exact hPc, va_K.moved hW.alike hKc⟩⟩ rfl rfl hl.1 rfl (lv_room (Nat.le_of_ble_eq_true rfl)) d_M_rule_60 ⟨Nat.le_of_ble_eq_true rfl, Nat.le_of_ble_eq_true rfl⟩) hS (fun q h1 h => (tx_pA h1 h).elim) (tx_pF hS hA) (fun r_k_23 u_k_23 t_k_23 H_24 l_k_23 ht hvm hw_k_23 hB hz1 hk1 hS => ?_)
            have hw_k_23 : 0 = r_k_23 := Eq.symm hw_k_23
            subst hw_k_23
            have hP := tx_keep hP hk1
            refine lv_if_eq (tgt := 70) hx hb d_M_rule_63 (by decide) (fun c_25 => ?_) (fun c_25 => ?_)
            · refine lv_iconst (v := 0) hx hb d_M_rule_70 (by decide) ?_
              refine lv_istore (lv' := [(5, Value.int 0), (0, Value.ref x), (1, Value.int n), (2, Value.int k), (3, Value.int lo), (4, Value.int hi)]) hx hb d_M_rule_71 hl (by decide) rfl (fun ls hl => ?_)
              refine lv_iload hx hb d_M_rule_73 (lv_at hl 0 rfl) ?_
              refine lv_if_ne (tgt := 95) hx hb d_M_rule_75 (by decide) (fun c_26 => ?_) (fun c_26 => ?_)
              · exact absurd rfl c_26
              · refine lv_aload_n hx hb d_M_rule_78 rfl (lv_at hl 1 rfl) ?_
                refine va_get (D := (dC, dI)) (ci := 0) (v := Value.ref g) (C := kR_M) (T := kT_M) (N := 4) hx hb hg kin_M hown hK hP 0 rfl rfl 0 (by decide) (hg _ tw_283) (fun _ h9 => h9) rfl d_M_rule_79 ?_
                have hPc := hP.sub (ws' := [(g, .inr (1, [(zg 0), (zg 1), (zg 2), Value.int 0, (zg 4), (zg 5), (zg 6), (zg 7), (zg 8), (zg 9), (zg 10), Value.int 0, (zg 12), (zg 13)]))]) [1] rfl
                have hKc := hK.sub (tys' := []) [] rfl
                have hDc := hD.sub (ws' := [(g, .inr (1, [(zg 0), (zg 1), (zg 2), Value.int 0, (zg 4), (zg 5), (zg 6), (zg 7), (zg 8), (zg 9), (zg 10), Value.int 0, (zg 12), (zg 13)]))]) [1] (by decide) rfl
                have hFc := va_free (wc := [(g, .inr (1, [(zg 0), (zg 1), (zg 2), Value.int 0, (zg 4), (zg 5), (zg 6), (zg 7), (zg 8), (zg 9), (zg 10), Value.int 0, (zg 12), (zg 13)]))]) hD hS hA [1] rfl
                refine va_callv (va_runV (As := []) (rest := []) ⟨hx, hb, hml, hown, hg⟩ (c_G_dropHand l dC dI H_24.size g (fun i => if i = 11 then Value.int 0 else zg i) 0) (cwV 0 hg (gw_giV cin_G_dropHand tw_455 tw_456 tw_457 tw_2) rfl rfl rfl (by decide +kernel) ⟨Nat.le_of_ble_eq_true rfl, Nat.le_of_ble_eq_true rfl⟩) ⟨fun a U g mk q => by obtain ⟨q0, q1, qP, qK, qD⟩ := q; exact ⟨q0, q1, qP, va_K.moved (u := U) (U := U.calling g mk a) (Vm.Alike.refl U.vm) qK, qD⟩, va_recv hKc hPc (ci := 1) (q0 := 0) rfl rfl, fun U hU hW => ⟨rfl, by rw [hU], by rw [hU]; exact hPc, va_K.moved hW.alike hKc, hDc.weaken (fun _ _ _ _ => trivial)⟩⟩ rfl rfl hl.1 rfl (lv_room (Nat.le_of_ble_eq_true rfl)) d_M_rule_82 ⟨Nat.le_of_ble_eq_true rfl, Nat.le_of_ble_eq_true rfl⟩) hS (fun q _ h => hFc q h) hFc (fun u_k_27 t_k_27 H_28 l_k_27 ht hvm hw_k_27 hB hz1 hk1 hS => ?_)
                obtain ⟨hP, hD⟩ := tx_rest (wc := [(g, .inr (1, [(zg 0), (zg 1), (zg 2), Value.int 0, (zg 4), (zg 5), (zg 6), (zg 7), (zg 8), (zg 9), (zg 10), Value.int 0, (zg 12), (zg 13)]))]) (wr := [(x, .inr (0, [Value.ref g, Value.ref f, (zx 2), (zx 3)])), (f, .inr (2, [(zf 0), (zf 1), (zf 2), (zf 3), (zf 4), (zf 5), (zf 6), (zf 7), (zf 8), Value.int 0, (zf 10), (zf 11), (zf 12), (zf 13)]))]) hP hD [1] [0, 2] rfl rfl (by decide) (by decide) hk1 hFc
                have hK := hK.sub (tys' := []) [] rfl
                obtain ⟨qs, hqs⟩ := tx_str92 hG.2.1
                exact tx_throwNew (names := tx_nm) hx hb hlf hout hlocks hown (hg _ tw_324) (hg _ tw_325) (hg _ tw_15) (tx_ownIAE hg hG) (by decide +kernel) (by decide +kernel) hqs (tx_loc (ws := [(x, .inr (0, [Value.ref g, Value.ref f, (zx 2), (zx 3)])), (g, .inr (1, [(zg 0), (zg 1), (zg 2), Value.int 0, (zg 4), (zg 5), (zg 6), (zg 7), (zg 8), (zg 9), (zg 10), Value.int 0, (zg 12), (zg 13)])), (f, .inr (2, [(zf 0), (zf 1), (zf 2), (zf 3), (zf 4), (zf 5), (zf 6), (zf 7), (zf 8), Value.int 0, (zf 10), (zf 11), (zf 12), (zf 13)]))]) hP0 (by rw [hAe]; exact hS)) (hl.1.trans hml.symm) hS (Nat.le_of_ble_eq_true rfl) (Nat.le_of_ble_eq_true rfl) (Nat.le_of_ble_eq_true rfl) (Nat.le_of_ble_eq_true rfl) d_M_rule_85 d_M_rule_88 d_M_rule_89 d_M_rule_91 d_M_rule_94 rfl
            · exact absurd rfl c_25
    · exact absurd (by decide) c_6
set_option maxHeartbeats 4000000 in
set_option maxRecDepth 100000 in
theorem c_M_node (l : Launch) (hlf : l.flags = flags0) (dC : Nat → ClassId) (dI : Nat → Nat → Nat) (sz : Nat) (x g kq : Nat) (cA : ClassId) (zx : Nat → Value) (zg : Nat → Value) (f : Nat → Int32) (hf : ∀ j, j < 32 → f j = -1) (n k lo hi : Int32) : tx_Met l y_M_node ws_M_node ({ frames := 6, cells := 1, slots := 6, locals := 90 }) (va_Pc [Value.ref x, Value.int n, Value.int k, Value.int lo, Value.int hi] (fun U => U.heap.size = sz ∧ va_P (dC, dI) kcl [(x, .inr (0, [Value.ref g, (zx 1), (zx 2), (zx 3)])), (g, .inr (1, [Value.ref kq, (zg 1), (zg 2), (zg 3), (zg 4), (zg 5), (zg 6), (zg 7), (zg 8), (zg 9), (zg 10), (zg 11), (zg 12), (zg 13)])), (kq, .inl (cA, 32, .inl f))] U.heap ∧ va_K (dC, dI) kcl [(cA, .int)] U ∧ tx_G (va_A [] sz) U)) (tx_Q (fun _ => False) (fun X => X = "java/lang/IllegalArgumentException") (va_A [] sz)) 1 6 (va_A [] sz) := by
  refine tx_ofW (cc := b_M_node) (maxL := 5) (ret := (Option.some Jvm.ClassFile.FieldType.int)) (by decide) rfl ?_
  intro p e s m args below meth c s₁ B hml hout hadm hv
  obtain ⟨rfl, hsz, hP, hK, hG⟩ := hv
  have hP0 := hP
  have hx := B.exec
  have hb := B.bytes
  have hr := B.returns
  have hlocks := B.notSynchronized
  have hg : ∀ w ∈ gw, w.before _ s = true := fun w h => atoms_spec (ws := ws_M_node) B.pre w (List.mem_cons_of_mem _ h)
  have hown : s.vm.findClass "TreeMatcher" = some m.cls := findClass_of_methodNamed B.named
  subst hsz
  have hA : ∀ q : Nat, s.heap.size ≤ q → va_A ([] : va_W) s.heap.size q := fun q h => Or.inr h
  generalize hAe : va_A ([] : va_W) s.heap.size = A at hG hA ⊢
  have hN : tx_N s := hG.1
  have hS : va_S A s.heap s.heap [] := va_S.rf
  have hl := lv_entry ([Value.ref x, Value.int n, Value.int k, Value.int lo, Value.int hi] : List Value) (n := 5) (Nat.le_of_ble_eq_true rfl)
  rw [lg_entry_eq]
  generalize (lg_sl ([Value.ref x, Value.int n, Value.int k, Value.int lo, Value.int hi] : List Value) ++ List.replicate (5 - (lg_sl ([Value.ref x, Value.int n, Value.int k, Value.int lo, Value.int hi] : List Value)).length) Slot.unset).toArray = ls at hl ⊢
  have hl : lv_has ls 5 [(0, Value.ref x), (1, Value.int n), (2, Value.int k), (3, Value.int lo), (4, Value.int hi)] := hl
  refine lv_aload_n hx hb d_M_node_0 rfl (lv_at hl 0 rfl) ?_
  refine va_get (D := (dC, dI)) (ci := 0) (v := Value.ref g) (C := kR_M) (T := kT_M) (N := 4) hx hb hg kin_M hown hK hP 0 rfl rfl 0 (by decide) (hg _ tw_283) (fun _ h9 => h9) rfl d_M_node_1 ?_
  refine lv_iload_n hx hb d_M_node_4 rfl (lv_at hl 1 rfl) ?_
  have hPc := hP.sub (ws' := [(g, .inr (1, [Value.ref kq, (zg 1), (zg 2), (zg 3), (zg 4), (zg 5), (zg 6), (zg 7), (zg 8), (zg 9), (zg 10), (zg 11), (zg 12), (zg 13)])), (kq, .inl (cA, 32, .inl f))]) [1, 2] rfl
  have hKc := hK.sub (tys' := [(cA, .int)]) [0] rfl
  refine va_calli (va_runV (As := [Value.int n]) (rest := []) ⟨hx, hb, hml, hown, hg⟩ (c_G_hasOperator l dC dI s.heap.size g kq cA zg f hf n) (cwV 1 hg (gw_giV cin_G_hasOperator tw_392 tw_393 tw_394 tw_2) rfl rfl rfl (by decide +kernel) ⟨Nat.le_of_ble_eq_true rfl, Nat.le_of_ble_eq_true rfl⟩) ⟨fun a U g mk q => by obtain ⟨q0, q1, qP, qK, qG⟩ := q; exact ⟨q0, q1, qP, va_K.moved (u := U) (U := U.calling g mk a) (Vm.Alike.refl U.vm) qK, tx_N.same (U := U.calling g mk a) rfl qG⟩, va_recv hKc hPc (ci := 1) (q0 := 0) rfl rfl, fun U hU hW => ⟨rfl, by rw [hU], by rw [hU]; exact hPc, va_K.moved hW.alike hKc, hN.warm hW⟩⟩ rfl rfl hl.1 rfl (lv_room (Nat.le_of_ble_eq_true rfl)) d_M_node_5 ⟨Nat.le_of_ble_eq_true rfl, Nat.le_of_ble_eq_true rfl⟩) hS (fun q h1 h => (tx_pA h1 h).elim) (tx_pF hS hA) (fun r_k_1 u_k_1 t_k_1 H_2 l_k_1 ht hvm hw_k_1 hB hz1 hk1 hS => ?_)
  have hw_k_1 : 0 = r_k_1 := Eq.symm hw_k_1
  subst hw_k_1
  have hP := tx_keep hP hk1
  refine lv_if_eq (tgt := 25) hx hb d_M_node_8 (by decide) (fun c_3 => ?_) (fun c_3 => ?_)
  · obtain ⟨qs, hqs⟩ := tx_str102 hG.2.1
    exact tx_throwNew (names := tx_nm) hx hb hlf hout hlocks hown (hg _ tw_324) (hg _ tw_325) (hg _ tw_15) (tx_ownIAE hg hG) (by decide +kernel) (by decide +kernel) hqs (tx_loc (D := (dC, dI)) (cl := kcl) (ws := []) (fun k q h => by simp at h) (by rw [hAe]; exact hS)) (hl.1.trans hml.symm) hS (Nat.le_of_ble_eq_true rfl) (Nat.le_of_ble_eq_true rfl) (Nat.le_of_ble_eq_true rfl) (Nat.le_of_ble_eq_true rfl) d_M_node_25 d_M_node_28 d_M_node_29 d_M_node_31 d_M_node_34 rfl
  · exact absurd rfl c_3
set_option maxHeartbeats 4000000 in
set_option maxRecDepth 100000 in
theorem c_M_checkLabel (l : Launch) (hlf : l.flags = flags0) (dC : Nat → ClassId) (dI : Nat → Nat → Nat) (sz : Nat) (x f : Nat) (zx : Nat → Value) (zf : Nat → Value) (n k : Int32) : tx_Met l y_M_checkLabel ws_M_checkLabel ({ frames := 6, cells := 1, slots := 6, locals := 90 }) (va_Pc [Value.ref x, Value.int n, Value.int k] (fun U => U.heap.size = sz ∧ va_P (dC, dI) kcl [(x, .inr (0, [(zx 0), Value.ref f, (zx 2), (zx 3)])), (f, .inr (2, [(zf 0), (zf 1), (zf 2), (zf 3), (zf 4), (zf 5), (zf 6), (zf 7), (zf 8), Value.int 0, (zf 10), (zf 11), (zf 12), (zf 13)]))] U.heap ∧ va_K (dC, dI) kcl [] U ∧ tx_G (va_A [] sz) U)) (tx_Q (fun _ => False) (fun X => X = "java/lang/IndexOutOfBoundsException") (va_A [] sz)) 1 6 (va_A [] sz) := by
  refine tx_ofW (cc := b_M_checkLabel) (maxL := 3) (ret := (Option.none : Option Jvm.ClassFile.FieldType)) (by decide) rfl ?_
  intro p e s m args below meth c s₁ B hml hout hadm hv
  obtain ⟨rfl, hsz, hP, hK, hG⟩ := hv
  have hP0 := hP
  have hx := B.exec
  have hb := B.bytes
  have hr := B.returns
  have hlocks := B.notSynchronized
  have hg : ∀ w ∈ gw, w.before _ s = true := fun w h => atoms_spec (ws := ws_M_checkLabel) B.pre w (List.mem_cons_of_mem _ h)
  have hown : s.vm.findClass "TreeMatcher" = some m.cls := findClass_of_methodNamed B.named
  subst hsz
  have hA : ∀ q : Nat, s.heap.size ≤ q → va_A ([] : va_W) s.heap.size q := fun q h => Or.inr h
  generalize hAe : va_A ([] : va_W) s.heap.size = A at hG hA ⊢
  have hN : tx_N s := hG.1
  have hS : va_S A s.heap s.heap [] := va_S.rf
  have hl := lv_entry ([Value.ref x, Value.int n, Value.int k] : List Value) (n := 3) (Nat.le_of_ble_eq_true rfl)
  rw [lg_entry_eq]
  generalize (lg_sl ([Value.ref x, Value.int n, Value.int k] : List Value) ++ List.replicate (3 - (lg_sl ([Value.ref x, Value.int n, Value.int k] : List Value)).length) Slot.unset).toArray = ls at hl ⊢
  have hl : lv_has ls 3 [(0, Value.ref x), (1, Value.int n), (2, Value.int k)] := hl
  refine lv_iload_n hx hb d_M_checkLabel_0 rfl (lv_at hl 1 rfl) ?_
  refine lv_aload_n hx hb d_M_checkLabel_1 rfl (lv_at hl 0 rfl) ?_
  refine va_get (D := (dC, dI)) (ci := 0) (v := Value.ref f) (C := kR_M) (T := kT_M) (N := 4) hx hb hg kin_M hown hK hP 0 rfl rfl 1 (by decide) (hg _ tw_284) (fun _ h9 => h9) rfl d_M_checkLabel_2 ?_
  have hPc := hP.sub (ws' := [(f, .inr (2, [(zf 0), (zf 1), (zf 2), (zf 3), (zf 4), (zf 5), (zf 6), (zf 7), (zf 8), Value.int 0, (zf 10), (zf 11), (zf 12), (zf 13)]))]) [1] rfl
  have hKc := hK.sub (tys' := []) [] rfl
  refine va_calli (va_runV (As := []) (rest := [Value.int n]) ⟨hx, hb, hml, hown, hg⟩ (c_F_size l dC dI s.heap.size f zf 0) (cwV 0 hg (gw_giV cin_F_size tw_445 tw_446 tw_447 tw_6) rfl rfl rfl (by decide +kernel) ⟨Nat.le_of_ble_eq_true rfl, Nat.le_of_ble_eq_true rfl⟩) ⟨fun a U g mk q => by obtain ⟨q0, q1, qP, qK⟩ := q; exact ⟨q0, q1, qP, va_K.moved (u := U) (U := U.calling g mk a) (Vm.Alike.refl U.vm) qK⟩, va_recv hKc hPc (ci := 2) (q0 := 0) rfl rfl, fun U hU hW => ⟨rfl, by rw [hU], by rw [hU]; exact hPc, va_K.moved hW.alike hKc⟩⟩ rfl rfl hl.1 rfl (lv_room (Nat.le_of_ble_eq_true rfl)) d_M_checkLabel_5 ⟨Nat.le_of_ble_eq_true rfl, Nat.le_of_ble_eq_true rfl⟩) hS (fun q h1 h => (tx_pA h1 h).elim) (tx_pF hS hA) (fun r_k_1 u_k_1 t_k_1 H_2 l_k_1 ht hvm hw_k_1 hB hz1 hk1 hS => ?_)
  have hw_k_1 : 0 = r_k_1 := Eq.symm hw_k_1
  subst hw_k_1
  have hP := tx_keep hP hk1
  have hPc := hP.sub (ws' := []) [] rfl
  have hKc := hK.sub (tys' := []) [] rfl
  refine va_calli (va_runS (As := [Value.int n, Value.int 0]) (rest := []) ⟨hx, hb, hml, hown, hg⟩ (c_M_isWithin l dC dI H_2.size n 0) (va_cwS 2 hg (gw_giS cin_M_isWithin tw_321 tw_322 tw_1) rfl rfl rfl (by decide +kernel) ⟨Nat.le_of_ble_eq_true rfl, Nat.le_of_ble_eq_true rfl⟩) ⟨fun a U g mk q => by obtain ⟨q0, q1, qP, qK⟩ := q; exact ⟨q0, q1, qP, va_K.moved (u := U) (U := U.calling g mk a) (Vm.Alike.refl U.vm) qK⟩, fun U hU hW => ⟨rfl, by rw [hU], by rw [hU]; exact hPc, va_K.moved hW.alike hKc⟩⟩ rfl rfl hl.1 rfl (lv_room (Nat.le_of_ble_eq_true rfl)) d_M_checkLabel_8 ⟨Nat.le_of_ble_eq_true rfl, Nat.le_of_ble_eq_true rfl⟩) hS (fun q h1 h => (tx_pA h1 h).elim) (tx_pF hS hA) (fun r_k_3 u_k_3 t_k_3 H_4 l_k_3 ht hvm hw_k_3 hB hz1 hk1 hS => ?_)
  have hw_k_3 : (if 0 ≤ n ∧ n < 0 then 1 else 0) = r_k_3 := Eq.symm hw_k_3
  subst hw_k_3
  have hP := tx_keep hP hk1
  refine lv_if_eq (tgt := 23) hx hb d_M_checkLabel_11 (by decide) (fun c_5 => ?_) (fun c_5 => ?_)
  · obtain ⟨qs, hqs⟩ := tx_str168 hG.2.1
    exact tx_throwNew (names := tx_nm) hx hb hlf hout hlocks hown (hg _ tw_665) (hg _ tw_666) (hg _ tw_19) (tx_ownIOB hg hG) (by decide +kernel) (by decide +kernel) hqs (tx_loc (D := (dC, dI)) (cl := kcl) (ws := []) (fun k q h => by simp at h) (by rw [hAe]; exact hS)) (hl.1.trans hml.symm) hS (Nat.le_of_ble_eq_true rfl) (Nat.le_of_ble_eq_true rfl) (Nat.le_of_ble_eq_true rfl) (Nat.le_of_ble_eq_true rfl) d_M_checkLabel_23 d_M_checkLabel_26 d_M_checkLabel_27 d_M_checkLabel_29 d_M_checkLabel_32 rfl
  · exact (tx_none (tx_if1 c_5)).elim
set_option maxHeartbeats 4000000 in
set_option maxRecDepth 100000 in
theorem c_M_cost (l : Launch) (hlf : l.flags = flags0) (dC : Nat → ClassId) (dI : Nat → Nat → Nat) (sz : Nat) (x f : Nat) (zx : Nat → Value) (zf : Nat → Value) (n k : Int32) : tx_Met l y_M_cost ws_M_cost ({ frames := 7, cells := 1, slots := 6, locals := 112 }) (va_Pc [Value.ref x, Value.int n, Value.int k] (fun U => U.heap.size = sz ∧ va_P (dC, dI) kcl [(x, .inr (0, [(zx 0), Value.ref f, (zx 2), (zx 3)])), (f, .inr (2, [(zf 0), (zf 1), (zf 2), (zf 3), (zf 4), (zf 5), (zf 6), (zf 7), (zf 8), Value.int 0, (zf 10), (zf 11), (zf 12), (zf 13)]))] U.heap ∧ va_K (dC, dI) kcl [] U ∧ tx_G (va_A [] sz) U)) (tx_Q (fun _ => False) (fun X => X = "java/lang/IndexOutOfBoundsException") (va_A [] sz)) 1 6 (va_A [] sz) := by
  refine tx_ofW (cc := b_M_cost) (maxL := 3) (ret := (Option.some Jvm.ClassFile.FieldType.int)) (by decide) rfl ?_
  intro p e s m args below meth c s₁ B hml hout hadm hv
  obtain ⟨rfl, hsz, hP, hK, hG⟩ := hv
  have hP0 := hP
  have hx := B.exec
  have hb := B.bytes
  have hr := B.returns
  have hlocks := B.notSynchronized
  have hg : ∀ w ∈ gw, w.before _ s = true := fun w h => atoms_spec (ws := ws_M_cost) B.pre w (List.mem_cons_of_mem _ h)
  have hown : s.vm.findClass "TreeMatcher" = some m.cls := findClass_of_methodNamed B.named
  subst hsz
  have hA : ∀ q : Nat, s.heap.size ≤ q → va_A ([] : va_W) s.heap.size q := fun q h => Or.inr h
  generalize hAe : va_A ([] : va_W) s.heap.size = A at hG hA ⊢
  have hN : tx_N s := hG.1
  have hS : va_S A s.heap s.heap [] := va_S.rf
  have hl := lv_entry ([Value.ref x, Value.int n, Value.int k] : List Value) (n := 3) (Nat.le_of_ble_eq_true rfl)
  rw [lg_entry_eq]
  generalize (lg_sl ([Value.ref x, Value.int n, Value.int k] : List Value) ++ List.replicate (3 - (lg_sl ([Value.ref x, Value.int n, Value.int k] : List Value)).length) Slot.unset).toArray = ls at hl ⊢
  have hl : lv_has ls 3 [(0, Value.ref x), (1, Value.int n), (2, Value.int k)] := hl
  refine lv_aload_n hx hb d_M_cost_0 rfl (lv_at hl 0 rfl) ?_
  refine lv_iload_n hx hb d_M_cost_1 rfl (lv_at hl 1 rfl) ?_
  refine lv_iload_n hx hb d_M_cost_2 rfl (lv_at hl 2 rfl) ?_
  have hPc := hP.sub (ws' := [(x, .inr (0, [(zx 0), Value.ref f, (zx 2), (zx 3)])), (f, .inr (2, [(zf 0), (zf 1), (zf 2), (zf 3), (zf 4), (zf 5), (zf 6), (zf 7), (zf 8), Value.int 0, (zf 10), (zf 11), (zf 12), (zf 13)]))]) [0, 1] rfl
  have hKc := hK.sub (tys' := []) [] rfl
  refine tx_call (tx_runV (As := [Value.int n, Value.int k]) (rest := []) ⟨hx, hb, hml, hown, hg⟩ (c_M_checkLabel l hlf dC dI s.heap.size x f zx zf n k) (cwV 2 hg (gw_giV cin_M_checkLabel tw_661 tw_663 sw_M_checkLabel tw_1) rfl rfl rfl (by decide +kernel) ⟨Nat.le_of_ble_eq_true rfl, Nat.le_of_ble_eq_true rfl⟩) ⟨fun a U g mk q => by obtain ⟨q0, q1, qP, qK, qG⟩ := q; exact ⟨q0, q1, qP, va_K.moved (u := U) (U := U.calling g mk a) (Vm.Alike.refl U.vm) qK, tx_G.same (U := U.calling g mk a) rfl rfl qG⟩, va_recv hKc hPc (ci := 0) (q0 := 0) rfl rfl, fun U hU hW => ⟨rfl, by rw [hU], by rw [hU]; exact hPc, va_K.moved hW.alike hKc, hG.to hW (fun a h1 h2 => (congrArg (fun (h : Heap) => h[a]?) hU).trans (hS.2.1 a h1 h2)) (tx_pF hS hA)⟩⟩ rfl rfl hl.1 rfl (lv_room (Nat.le_of_ble_eq_true rfl)) d_M_cost_3 ⟨Nat.le_of_ble_eq_true rfl, Nat.le_of_ble_eq_true rfl⟩) hS (fun q h1 h => (tx_pA h1 h).elim) (tx_pF hS hA) (fun v_k_1 H_2 l_k_1 hv_k_1 hz1 hk1 hS => ?_) (fun x_k_1 X_k_1 H_2 l_k_1 hX_k_1 hx_k_1 hz1 hk1 hS => ?_)
  · exact hv_k_1.elim
  · exact tx_leave rfl rfl rfl hlocks hout (fun t ht hW => ⟨Or.inr ⟨x_k_1, X_k_1, rfl, hX_k_1, by rw [ht]; exact tx_X.moved hW.alike hx_k_1⟩, hS.F ht⟩) hS.2.2
set_option maxHeartbeats 4000000 in
set_option maxRecDepth 100000 in
theorem c_M_ruleAt (l : Launch) (hlf : l.flags = flags0) (dC : Nat → ClassId) (dI : Nat → Nat → Nat) (sz : Nat) (x f : Nat) (zx : Nat → Value) (zf : Nat → Value) (n k : Int32) : tx_Met l y_M_ruleAt ws_M_ruleAt ({ frames := 7, cells := 1, slots := 6, locals := 112 }) (va_Pc [Value.ref x, Value.int n, Value.int k] (fun U => U.heap.size = sz ∧ va_P (dC, dI) kcl [(x, .inr (0, [(zx 0), Value.ref f, (zx 2), (zx 3)])), (f, .inr (2, [(zf 0), (zf 1), (zf 2), (zf 3), (zf 4), (zf 5), (zf 6), (zf 7), (zf 8), Value.int 0, (zf 10), (zf 11), (zf 12), (zf 13)]))] U.heap ∧ va_K (dC, dI) kcl [] U ∧ tx_G (va_A [] sz) U)) (tx_Q (fun _ => False) (fun X => X = "java/lang/IndexOutOfBoundsException") (va_A [] sz)) 1 6 (va_A [] sz) := by
  refine tx_ofW (cc := b_M_ruleAt) (maxL := 3) (ret := (Option.some Jvm.ClassFile.FieldType.int)) (by decide) rfl ?_
  intro p e s m args below meth c s₁ B hml hout hadm hv
  obtain ⟨rfl, hsz, hP, hK, hG⟩ := hv
  have hP0 := hP
  have hx := B.exec
  have hb := B.bytes
  have hr := B.returns
  have hlocks := B.notSynchronized
  have hg : ∀ w ∈ gw, w.before _ s = true := fun w h => atoms_spec (ws := ws_M_ruleAt) B.pre w (List.mem_cons_of_mem _ h)
  have hown : s.vm.findClass "TreeMatcher" = some m.cls := findClass_of_methodNamed B.named
  subst hsz
  have hA : ∀ q : Nat, s.heap.size ≤ q → va_A ([] : va_W) s.heap.size q := fun q h => Or.inr h
  generalize hAe : va_A ([] : va_W) s.heap.size = A at hG hA ⊢
  have hN : tx_N s := hG.1
  have hS : va_S A s.heap s.heap [] := va_S.rf
  have hl := lv_entry ([Value.ref x, Value.int n, Value.int k] : List Value) (n := 3) (Nat.le_of_ble_eq_true rfl)
  rw [lg_entry_eq]
  generalize (lg_sl ([Value.ref x, Value.int n, Value.int k] : List Value) ++ List.replicate (3 - (lg_sl ([Value.ref x, Value.int n, Value.int k] : List Value)).length) Slot.unset).toArray = ls at hl ⊢
  have hl : lv_has ls 3 [(0, Value.ref x), (1, Value.int n), (2, Value.int k)] := hl
  refine lv_aload_n hx hb d_M_ruleAt_0 rfl (lv_at hl 0 rfl) ?_
  refine lv_iload_n hx hb d_M_ruleAt_1 rfl (lv_at hl 1 rfl) ?_
  refine lv_iload_n hx hb d_M_ruleAt_2 rfl (lv_at hl 2 rfl) ?_
  have hPc := hP.sub (ws' := [(x, .inr (0, [(zx 0), Value.ref f, (zx 2), (zx 3)])), (f, .inr (2, [(zf 0), (zf 1), (zf 2), (zf 3), (zf 4), (zf 5), (zf 6), (zf 7), (zf 8), Value.int 0, (zf 10), (zf 11), (zf 12), (zf 13)]))]) [0, 1] rfl
  have hKc := hK.sub (tys' := []) [] rfl
  refine tx_call (tx_runV (As := [Value.int n, Value.int k]) (rest := []) ⟨hx, hb, hml, hown, hg⟩ (c_M_checkLabel l hlf dC dI s.heap.size x f zx zf n k) (cwV 2 hg (gw_giV cin_M_checkLabel tw_661 tw_663 sw_M_checkLabel tw_1) rfl rfl rfl (by decide +kernel) ⟨Nat.le_of_ble_eq_true rfl, Nat.le_of_ble_eq_true rfl⟩) ⟨fun a U g mk q => by obtain ⟨q0, q1, qP, qK, qG⟩ := q; exact ⟨q0, q1, qP, va_K.moved (u := U) (U := U.calling g mk a) (Vm.Alike.refl U.vm) qK, tx_G.same (U := U.calling g mk a) rfl rfl qG⟩, va_recv hKc hPc (ci := 0) (q0 := 0) rfl rfl, fun U hU hW => ⟨rfl, by rw [hU], by rw [hU]; exact hPc, va_K.moved hW.alike hKc, hG.to hW (fun a h1 h2 => (congrArg (fun (h : Heap) => h[a]?) hU).trans (hS.2.1 a h1 h2)) (tx_pF hS hA)⟩⟩ rfl rfl hl.1 rfl (lv_room (Nat.le_of_ble_eq_true rfl)) d_M_ruleAt_3 ⟨Nat.le_of_ble_eq_true rfl, Nat.le_of_ble_eq_true rfl⟩) hS (fun q h1 h => (tx_pA h1 h).elim) (tx_pF hS hA) (fun v_k_1 H_2 l_k_1 hv_k_1 hz1 hk1 hS => ?_) (fun x_k_1 X_k_1 H_2 l_k_1 hX_k_1 hx_k_1 hz1 hk1 hS => ?_)
  · exact hv_k_1.elim
  · exact tx_leave rfl rfl rfl hlocks hout (fun t ht hW => ⟨Or.inr ⟨x_k_1, X_k_1, rfl, hX_k_1, by rw [ht]; exact tx_X.moved hW.alike hx_k_1⟩, hS.F ht⟩) hS.2.2
set_option maxHeartbeats 4000000 in
set_option maxRecDepth 100000 in
theorem c_M_cover (l : Launch) (hlf : l.flags = flags0) (dC : Nat → ClassId) (dI : Nat → Nat → Nat) (sz : Nat) (x f : Nat) (zx : Nat → Value) (zf : Nat → Value) (n k : Int32) : tx_Met l y_M_cover ws_M_cover ({ frames := 7, cells := 1, slots := 6, locals := 112 }) (va_Pc [Value.ref x, Value.int n, Value.int k] (fun U => U.heap.size = sz ∧ va_P (dC, dI) kcl [(x, .inr (0, [(zx 0), Value.ref f, (zx 2), (zx 3)])), (f, .inr (2, [(zf 0), (zf 1), (zf 2), (zf 3), (zf 4), (zf 5), (zf 6), (zf 7), (zf 8), Value.int 0, (zf 10), (zf 11), (zf 12), (zf 13)]))] U.heap ∧ va_K (dC, dI) kcl [] U ∧ tx_G (va_A [] sz) U)) (tx_Q (fun _ => False) (fun X => X = "java/lang/IndexOutOfBoundsException") (va_A [] sz)) 1 6 (va_A [] sz) := by
  refine tx_ofW (cc := b_M_cover) (maxL := 4) (ret := (Option.some Jvm.ClassFile.FieldType.int)) (by decide) rfl ?_
  intro p e s m args below meth c s₁ B hml hout hadm hv
  obtain ⟨rfl, hsz, hP, hK, hG⟩ := hv
  have hP0 := hP
  have hx := B.exec
  have hb := B.bytes
  have hr := B.returns
  have hlocks := B.notSynchronized
  have hg : ∀ w ∈ gw, w.before _ s = true := fun w h => atoms_spec (ws := ws_M_cover) B.pre w (List.mem_cons_of_mem _ h)
  have hown : s.vm.findClass "TreeMatcher" = some m.cls := findClass_of_methodNamed B.named
  subst hsz
  have hA : ∀ q : Nat, s.heap.size ≤ q → va_A ([] : va_W) s.heap.size q := fun q h => Or.inr h
  generalize hAe : va_A ([] : va_W) s.heap.size = A at hG hA ⊢
  have hN : tx_N s := hG.1
  have hS : va_S A s.heap s.heap [] := va_S.rf
  have hl := lv_entry ([Value.ref x, Value.int n, Value.int k] : List Value) (n := 4) (Nat.le_of_ble_eq_true rfl)
  rw [lg_entry_eq]
  generalize (lg_sl ([Value.ref x, Value.int n, Value.int k] : List Value) ++ List.replicate (4 - (lg_sl ([Value.ref x, Value.int n, Value.int k] : List Value)).length) Slot.unset).toArray = ls at hl ⊢
  have hl : lv_has ls 4 [(0, Value.ref x), (1, Value.int n), (2, Value.int k)] := hl
  refine lv_aload_n hx hb d_M_cover_0 rfl (lv_at hl 0 rfl) ?_
  refine lv_iload_n hx hb d_M_cover_1 rfl (lv_at hl 1 rfl) ?_
  refine lv_iload_n hx hb d_M_cover_2 rfl (lv_at hl 2 rfl) ?_
  have hPc := hP.sub (ws' := [(x, .inr (0, [(zx 0), Value.ref f, (zx 2), (zx 3)])), (f, .inr (2, [(zf 0), (zf 1), (zf 2), (zf 3), (zf 4), (zf 5), (zf 6), (zf 7), (zf 8), Value.int 0, (zf 10), (zf 11), (zf 12), (zf 13)]))]) [0, 1] rfl
  have hKc := hK.sub (tys' := []) [] rfl
  refine tx_call (tx_runV (As := [Value.int n, Value.int k]) (rest := []) ⟨hx, hb, hml, hown, hg⟩ (c_M_checkLabel l hlf dC dI s.heap.size x f zx zf n k) (cwV 2 hg (gw_giV cin_M_checkLabel tw_661 tw_663 sw_M_checkLabel tw_1) rfl rfl rfl (by decide +kernel) ⟨Nat.le_of_ble_eq_true rfl, Nat.le_of_ble_eq_true rfl⟩) ⟨fun a U g mk q => by obtain ⟨q0, q1, qP, qK, qG⟩ := q; exact ⟨q0, q1, qP, va_K.moved (u := U) (U := U.calling g mk a) (Vm.Alike.refl U.vm) qK, tx_G.same (U := U.calling g mk a) rfl rfl qG⟩, va_recv hKc hPc (ci := 0) (q0 := 0) rfl rfl, fun U hU hW => ⟨rfl, by rw [hU], by rw [hU]; exact hPc, va_K.moved hW.alike hKc, hG.to hW (fun a h1 h2 => (congrArg (fun (h : Heap) => h[a]?) hU).trans (hS.2.1 a h1 h2)) (tx_pF hS hA)⟩⟩ rfl rfl hl.1 rfl (lv_room (Nat.le_of_ble_eq_true rfl)) d_M_cover_3 ⟨Nat.le_of_ble_eq_true rfl, Nat.le_of_ble_eq_true rfl⟩) hS (fun q h1 h => (tx_pA h1 h).elim) (tx_pF hS hA) (fun v_k_1 H_2 l_k_1 hv_k_1 hz1 hk1 hS => ?_) (fun x_k_1 X_k_1 H_2 l_k_1 hX_k_1 hx_k_1 hz1 hk1 hS => ?_)
  · exact hv_k_1.elim
  · exact tx_leave rfl rfl rfl hlocks hout (fun t ht hW => ⟨Or.inr ⟨x_k_1, X_k_1, rfl, hX_k_1, by rw [ht]; exact tx_X.moved hW.alike hx_k_1⟩, hS.F ht⟩) hS.2.2
set_option maxHeartbeats 4000000 in
set_option maxRecDepth 100000 in
theorem c_M_pair (l : Launch) (hlf : l.flags = flags0) (dC : Nat → ClassId) (dI : Nat → Nat → Nat) (sz : Nat) (x cq : Nat) (zx : Nat → Value) (zcq : Nat → Value) (n k : Int32) : tx_Met l y_M_pair ws_M_pair ({ frames := 6, cells := 1, slots := 6, locals := 90 }) (va_Pc [Value.ref x, Value.int n, Value.int k] (fun U => U.heap.size = sz ∧ va_P (dC, dI) kcl [(x, .inr (0, [(zx 0), (zx 1), Value.ref cq, (zx 3)])), (cq, .inr (3, [(zcq 0), (zcq 1), (zcq 2), (zcq 3), (zcq 4), (zcq 5), Value.int 0]))] U.heap ∧ va_K (dC, dI) kcl [] U ∧ tx_G (va_A [] sz) U)) (tx_Q (fun _ => False) (fun X => X = "java/lang/IndexOutOfBoundsException") (va_A [] sz)) 1 6 (va_A [] sz) := by
  refine tx_ofW (cc := b_M_pair) (maxL := 4) (ret := (Option.some Jvm.ClassFile.FieldType.int)) (by decide) rfl ?_
  intro p e s m args below meth c s₁ B hml hout hadm hv
  obtain ⟨rfl, hsz, hP, hK, hG⟩ := hv
  have hP0 := hP
  have hx := B.exec
  have hb := B.bytes
  have hr := B.returns
  have hlocks := B.notSynchronized
  have hg : ∀ w ∈ gw, w.before _ s = true := fun w h => atoms_spec (ws := ws_M_pair) B.pre w (List.mem_cons_of_mem _ h)
  have hown : s.vm.findClass "TreeMatcher" = some m.cls := findClass_of_methodNamed B.named
  subst hsz
  have hA : ∀ q : Nat, s.heap.size ≤ q → va_A ([] : va_W) s.heap.size q := fun q h => Or.inr h
  generalize hAe : va_A ([] : va_W) s.heap.size = A at hG hA ⊢
  have hN : tx_N s := hG.1
  have hS : va_S A s.heap s.heap [] := va_S.rf
  have hl := lv_entry ([Value.ref x, Value.int n, Value.int k] : List Value) (n := 4) (Nat.le_of_ble_eq_true rfl)
  rw [lg_entry_eq]
  generalize (lg_sl ([Value.ref x, Value.int n, Value.int k] : List Value) ++ List.replicate (4 - (lg_sl ([Value.ref x, Value.int n, Value.int k] : List Value)).length) Slot.unset).toArray = ls at hl ⊢
  have hl : lv_has ls 4 [(0, Value.ref x), (1, Value.int n), (2, Value.int k)] := hl
  refine lv_iload_n hx hb d_M_pair_0 rfl (lv_at hl 1 rfl) ?_
  refine lv_aload_n hx hb d_M_pair_1 rfl (lv_at hl 0 rfl) ?_
  refine va_get (D := (dC, dI)) (ci := 0) (v := Value.ref cq) (C := kR_M) (T := kT_M) (N := 4) hx hb hg kin_M hown hK hP 0 rfl rfl 2 (by decide) (hg _ tw_285) (fun _ h9 => h9) rfl d_M_pair_2 ?_
  have hPc := hP.sub (ws' := [(cq, .inr (3, [(zcq 0), (zcq 1), (zcq 2), (zcq 3), (zcq 4), (zcq 5), Value.int 0]))]) [1] rfl
  have hKc := hK.sub (tys' := []) [] rfl
  refine va_calli (va_runV (As := []) (rest := [Value.int n]) ⟨hx, hb, hml, hown, hg⟩ (c_C_size l dC dI s.heap.size cq zcq 0) (cwV 0 hg (gw_giV cin_C_size tw_729 tw_730 tw_731 tw_9) rfl rfl rfl (by decide +kernel) ⟨Nat.le_of_ble_eq_true rfl, Nat.le_of_ble_eq_true rfl⟩) ⟨fun a U g mk q => by obtain ⟨q0, q1, qP, qK⟩ := q; exact ⟨q0, q1, qP, va_K.moved (u := U) (U := U.calling g mk a) (Vm.Alike.refl U.vm) qK⟩, va_recv hKc hPc (ci := 3) (q0 := 0) rfl rfl, fun U hU hW => ⟨rfl, by rw [hU], by rw [hU]; exact hPc, va_K.moved hW.alike hKc⟩⟩ rfl rfl hl.1 rfl (lv_room (Nat.le_of_ble_eq_true rfl)) d_M_pair_5 ⟨Nat.le_of_ble_eq_true rfl, Nat.le_of_ble_eq_true rfl⟩) hS (fun q h1 h => (tx_pA h1 h).elim) (tx_pF hS hA) (fun r_k_1 u_k_1 t_k_1 H_2 l_k_1 ht hvm hw_k_1 hB hz1 hk1 hS => ?_)
  have hw_k_1 : 0 = r_k_1 := Eq.symm hw_k_1
  subst hw_k_1
  have hP := tx_keep hP hk1
  have hPc := hP.sub (ws' := []) [] rfl
  have hKc := hK.sub (tys' := []) [] rfl
  refine va_calli (va_runS (As := [Value.int n, Value.int 0]) (rest := []) ⟨hx, hb, hml, hown, hg⟩ (c_M_isWithin l dC dI H_2.size n 0) (va_cwS 2 hg (gw_giS cin_M_isWithin tw_321 tw_322 tw_1) rfl rfl rfl (by decide +kernel) ⟨Nat.le_of_ble_eq_true rfl, Nat.le_of_ble_eq_true rfl⟩) ⟨fun a U g mk q => by obtain ⟨q0, q1, qP, qK⟩ := q; exact ⟨q0, q1, qP, va_K.moved (u := U) (U := U.calling g mk a) (Vm.Alike.refl U.vm) qK⟩, fun U hU hW => ⟨rfl, by rw [hU], by rw [hU]; exact hPc, va_K.moved hW.alike hKc⟩⟩ rfl rfl hl.1 rfl (lv_room (Nat.le_of_ble_eq_true rfl)) d_M_pair_8 ⟨Nat.le_of_ble_eq_true rfl, Nat.le_of_ble_eq_true rfl⟩) hS (fun q h1 h => (tx_pA h1 h).elim) (tx_pF hS hA) (fun r_k_3 u_k_3 t_k_3 H_4 l_k_3 ht hvm hw_k_3 hB hz1 hk1 hS => ?_)
  have hw_k_3 : (if 0 ≤ n ∧ n < 0 then 1 else 0) = r_k_3 := Eq.symm hw_k_3
  subst hw_k_3
  have hP := tx_keep hP hk1
  refine lv_if_eq (tgt := 22) hx hb d_M_pair_11 (by decide) (fun c_5 => ?_) (fun c_5 => ?_)
  · obtain ⟨qs, hqs⟩ := tx_str130 hG.2.1
    exact tx_throwNew (names := tx_nm) hx hb hlf hout hlocks hown (hg _ tw_665) (hg _ tw_666) (hg _ tw_19) (tx_ownIOB hg hG) (by decide +kernel) (by decide +kernel) hqs (tx_loc (D := (dC, dI)) (cl := kcl) (ws := []) (fun k q h => by simp at h) (by rw [hAe]; exact hS)) (hl.1.trans hml.symm) hS (Nat.le_of_ble_eq_true rfl) (Nat.le_of_ble_eq_true rfl) (Nat.le_of_ble_eq_true rfl) (Nat.le_of_ble_eq_true rfl) d_M_pair_22 d_M_pair_25 d_M_pair_26 d_M_pair_28 d_M_pair_31 rfl
  · exact (tx_none (tx_if1 c_5)).elim
set_option maxHeartbeats 4000000 in
set_option maxRecDepth 100000 in
theorem c_M_same (l : Launch) (hlf : l.flags = flags0) (dC : Nat → ClassId) (dI : Nat → Nat → Nat) (sz : Nat) (x f : Nat) (zx : Nat → Value) (zf : Nat → Value) (n k : Int32) : tx_Met l y_M_same ws_M_same ({ frames := 6, cells := 1, slots := 6, locals := 90 }) (va_Pc [Value.ref x, Value.int n, Value.int k] (fun U => U.heap.size = sz ∧ va_P (dC, dI) kcl [(x, .inr (0, [(zx 0), Value.ref f, (zx 2), (zx 3)])), (f, .inr (2, [(zf 0), (zf 1), (zf 2), (zf 3), (zf 4), (zf 5), (zf 6), (zf 7), (zf 8), Value.int 0, (zf 10), (zf 11), (zf 12), (zf 13)]))] U.heap ∧ va_K (dC, dI) kcl [] U ∧ tx_G (va_A [] sz) U)) (tx_Q (fun _ => False) (fun X => X = "java/lang/IndexOutOfBoundsException") (va_A [] sz)) 1 6 (va_A [] sz) := by
  refine tx_ofW (cc := b_M_same) (maxL := 3) (ret := (Option.some Jvm.ClassFile.FieldType.boolean)) (by decide) rfl ?_
  intro p e s m args below meth c s₁ B hml hout hadm hv
  obtain ⟨rfl, hsz, hP, hK, hG⟩ := hv
  have hP0 := hP
  have hx := B.exec
  have hb := B.bytes
  have hr := B.returns
  have hlocks := B.notSynchronized
  have hg : ∀ w ∈ gw, w.before _ s = true := fun w h => atoms_spec (ws := ws_M_same) B.pre w (List.mem_cons_of_mem _ h)
  have hown : s.vm.findClass "TreeMatcher" = some m.cls := findClass_of_methodNamed B.named
  subst hsz
  have hA : ∀ q : Nat, s.heap.size ≤ q → va_A ([] : va_W) s.heap.size q := fun q h => Or.inr h
  generalize hAe : va_A ([] : va_W) s.heap.size = A at hG hA ⊢
  have hN : tx_N s := hG.1
  have hS : va_S A s.heap s.heap [] := va_S.rf
  have hl := lv_entry ([Value.ref x, Value.int n, Value.int k] : List Value) (n := 3) (Nat.le_of_ble_eq_true rfl)
  rw [lg_entry_eq]
  generalize (lg_sl ([Value.ref x, Value.int n, Value.int k] : List Value) ++ List.replicate (3 - (lg_sl ([Value.ref x, Value.int n, Value.int k] : List Value)).length) Slot.unset).toArray = ls at hl ⊢
  have hl : lv_has ls 3 [(0, Value.ref x), (1, Value.int n), (2, Value.int k)] := hl
  refine lv_iload_n hx hb d_M_same_0 rfl (lv_at hl 1 rfl) ?_
  refine lv_aload_n hx hb d_M_same_1 rfl (lv_at hl 0 rfl) ?_
  refine va_get (D := (dC, dI)) (ci := 0) (v := Value.ref f) (C := kR_M) (T := kT_M) (N := 4) hx hb hg kin_M hown hK hP 0 rfl rfl 1 (by decide) (hg _ tw_284) (fun _ h9 => h9) rfl d_M_same_2 ?_
  have hPc := hP.sub (ws' := [(f, .inr (2, [(zf 0), (zf 1), (zf 2), (zf 3), (zf 4), (zf 5), (zf 6), (zf 7), (zf 8), Value.int 0, (zf 10), (zf 11), (zf 12), (zf 13)]))]) [1] rfl
  have hKc := hK.sub (tys' := []) [] rfl
  refine va_calli (va_runV (As := []) (rest := [Value.int n]) ⟨hx, hb, hml, hown, hg⟩ (c_F_size l dC dI s.heap.size f zf 0) (cwV 0 hg (gw_giV cin_F_size tw_445 tw_446 tw_447 tw_6) rfl rfl rfl (by decide +kernel) ⟨Nat.le_of_ble_eq_true rfl, Nat.le_of_ble_eq_true rfl⟩) ⟨fun a U g mk q => by obtain ⟨q0, q1, qP, qK⟩ := q; exact ⟨q0, q1, qP, va_K.moved (u := U) (U := U.calling g mk a) (Vm.Alike.refl U.vm) qK⟩, va_recv hKc hPc (ci := 2) (q0 := 0) rfl rfl, fun U hU hW => ⟨rfl, by rw [hU], by rw [hU]; exact hPc, va_K.moved hW.alike hKc⟩⟩ rfl rfl hl.1 rfl (lv_room (Nat.le_of_ble_eq_true rfl)) d_M_same_5 ⟨Nat.le_of_ble_eq_true rfl, Nat.le_of_ble_eq_true rfl⟩) hS (fun q h1 h => (tx_pA h1 h).elim) (tx_pF hS hA) (fun r_k_1 u_k_1 t_k_1 H_2 l_k_1 ht hvm hw_k_1 hB hz1 hk1 hS => ?_)
  have hw_k_1 : 0 = r_k_1 := Eq.symm hw_k_1
  subst hw_k_1
  have hP := tx_keep hP hk1
  have hPc := hP.sub (ws' := []) [] rfl
  have hKc := hK.sub (tys' := []) [] rfl
  refine va_calli (va_runS (As := [Value.int n, Value.int 0]) (rest := []) ⟨hx, hb, hml, hown, hg⟩ (c_M_isWithin l dC dI H_2.size n 0) (va_cwS 2 hg (gw_giS cin_M_isWithin tw_321 tw_322 tw_1) rfl rfl rfl (by decide +kernel) ⟨Nat.le_of_ble_eq_true rfl, Nat.le_of_ble_eq_true rfl⟩) ⟨fun a U g mk q => by obtain ⟨q0, q1, qP, qK⟩ := q; exact ⟨q0, q1, qP, va_K.moved (u := U) (U := U.calling g mk a) (Vm.Alike.refl U.vm) qK⟩, fun U hU hW => ⟨rfl, by rw [hU], by rw [hU]; exact hPc, va_K.moved hW.alike hKc⟩⟩ rfl rfl hl.1 rfl (lv_room (Nat.le_of_ble_eq_true rfl)) d_M_same_8 ⟨Nat.le_of_ble_eq_true rfl, Nat.le_of_ble_eq_true rfl⟩) hS (fun q h1 h => (tx_pA h1 h).elim) (tx_pF hS hA) (fun r_k_3 u_k_3 t_k_3 H_4 l_k_3 ht hvm hw_k_3 hB hz1 hk1 hS => ?_)
  have hw_k_3 : (if 0 ≤ n ∧ n < 0 then 1 else 0) = r_k_3 := Eq.symm hw_k_3
  subst hw_k_3
  have hP := tx_keep hP hk1
  refine lv_if_eq (tgt := 28) hx hb d_M_same_11 (by decide) (fun c_5 => ?_) (fun c_5 => ?_)
  · obtain ⟨qs, hqs⟩ := tx_str150 hG.2.1
    exact tx_throwNew (names := tx_nm) hx hb hlf hout hlocks hown (hg _ tw_665) (hg _ tw_666) (hg _ tw_19) (tx_ownIOB hg hG) (by decide +kernel) (by decide +kernel) hqs (tx_loc (D := (dC, dI)) (cl := kcl) (ws := []) (fun k q h => by simp at h) (by rw [hAe]; exact hS)) (hl.1.trans hml.symm) hS (Nat.le_of_ble_eq_true rfl) (Nat.le_of_ble_eq_true rfl) (Nat.le_of_ble_eq_true rfl) (Nat.le_of_ble_eq_true rfl) d_M_same_28 d_M_same_31 d_M_same_32 d_M_same_34 d_M_same_37 rfl
  · exact (tx_none (tx_if1 c_5)).elim
set_option maxHeartbeats 4000000 in
set_option maxRecDepth 100000 in
theorem c_M_states (l : Launch) (dC : Nat → ClassId) (dI : Nat → Nat → Nat) (sz : Nat) (x g y v : Nat) (zx : Nat → Value) (zg : Nat → Value) (zy : Nat → Value) (zv : Nat → Value) : Met l y_M_states ws_M_states ({ frames := 2, cells := 0, slots := 0, locals := 42 }) (va_Pc [Value.ref x] (fun U => U.heap.size = sz ∧ va_P (dC, dI) kcl [(x, .inr (0, [Value.ref g, (zx 1), (zx 2), Value.ref y])), (g, .inr (1, [(zg 0), Value.int 0, (zg 2), (zg 3), (zg 4), (zg 5), (zg 6), (zg 7), (zg 8), (zg 9), (zg 10), Value.int 0, Value.int 0, (zg 13)])), (y, .inr (4, [Value.ref g, Value.ref v, Value.int 0, Value.int 0])), (v, .inr (5, [(zv 0), (zv 1), (zv 2), (zv 3), (zv 4), (zv 5), (zv 6), Value.int 0]))] U.heap ∧ va_K (dC, dI) kcl [] U)) (va_Qi (fun (r : Int32) (_ : Unit) => r = 0) (fun (_ : Unit) (_ : State) => True) (va_A [] sz)) 0 0 (va_A [] sz) := by
  refine Met.ofW (cc := b_M_states) (maxL := 1) (ret := (Option.some Jvm.ClassFile.FieldType.int)) (by decide) rfl ?_
  intro p e s m args below meth c s₁ B hml hv
  obtain ⟨rfl, hsz, hP, hK⟩ := hv
  have hx := B.exec
  have hb := B.bytes
  have hr := B.returns
  have hlocks := B.notSynchronized
  have hg : ∀ w ∈ gw, w.before _ s = true := fun w h => atoms_spec (ws := ws_M_states) B.pre w (List.mem_cons_of_mem _ h)
  have hown : s.vm.findClass "TreeMatcher" = some m.cls := findClass_of_methodNamed B.named
  subst hsz
  have hA : ∀ q : Nat, s.heap.size ≤ q → va_A ([] : va_W) s.heap.size q := fun q h => Or.inr h
  generalize hAe : va_A ([] : va_W) s.heap.size = A at hA ⊢
  have hS : va_S A s.heap s.heap [] := va_S.rf
  have hl := lv_entry ([Value.ref x] : List Value) (n := 1) (Nat.le_of_ble_eq_true rfl)
  rw [lg_entry_eq]
  generalize (lg_sl ([Value.ref x] : List Value) ++ List.replicate (1 - (lg_sl ([Value.ref x] : List Value)).length) Slot.unset).toArray = ls at hl ⊢
  have hl : lv_has ls 1 [(0, Value.ref x)] := hl
  refine lv_aload_n hx hb d_M_states_0 rfl (lv_at hl 0 rfl) ?_
  refine va_get (D := (dC, dI)) (ci := 0) (v := Value.ref g) (C := kR_M) (T := kT_M) (N := 4) hx hb hg kin_M hown hK hP 0 rfl rfl 0 (by decide) (hg _ tw_283) (fun _ h9 => h9) rfl d_M_states_1 ?_
  have hPc := hP.sub (ws' := [(g, .inr (1, [(zg 0), Value.int 0, (zg 2), (zg 3), (zg 4), (zg 5), (zg 6), (zg 7), (zg 8), (zg 9), (zg 10), Value.int 0, Value.int 0, (zg 13)]))]) [1] rfl
  have hKc := hK.sub (tys' := []) [] rfl
  refine va_calli (va_runV (As := []) (rest := []) ⟨hx, hb, hml, hown, hg⟩ (c_G_hasLimits l dC dI s.heap.size g (fun i => if i = 11 then Value.int 0 else if i = 1 then Value.int 0 else zg i) 0 (Or.inl rfl)) (cwV 0 hg (gw_giV cin_G_hasLimits tw_753 tw_754 tw_755 tw_2) rfl rfl rfl (by decide +kernel) ⟨Nat.le_of_ble_eq_true rfl, Nat.le_of_ble_eq_true rfl⟩) ⟨fun a U g mk q => by obtain ⟨q0, q1, qP, qK⟩ := q; exact ⟨q0, q1, qP, va_K.moved (u := U) (U := U.calling g mk a) (Vm.Alike.refl U.vm) qK⟩, va_recv hKc hPc (ci := 1) (q0 := 0) rfl rfl, fun U hU hW => ⟨rfl, by rw [hU], by rw [hU]; exact hPc, va_K.moved hW.alike hKc⟩⟩ rfl rfl hl.1 rfl (lv_room (Nat.le_of_ble_eq_true rfl)) d_M_states_4 ⟨Nat.le_of_ble_eq_true rfl, Nat.le_of_ble_eq_true rfl⟩) hS (fun q h1 h => (tx_pA h1 h).elim) (tx_pF hS hA) (fun r_k_1 u_k_1 t_k_1 H_2 l_k_1 ht hvm hw_k_1 hB hz1 hk1 hS => ?_)
  have hw_k_1 : 0 = r_k_1 := Eq.symm hw_k_1
  subst hw_k_1
  have hP := tx_keep hP hk1
  refine lv_if_eq (tgt := 20) hx hb d_M_states_7 (by decide) (fun c_3 => ?_) (fun c_3 => ?_)
  · refine lv_aload_n hx hb d_M_states_20 rfl (lv_at hl 0 rfl) ?_
    refine va_get (D := (dC, dI)) (ci := 0) (v := Value.ref y) (C := kR_M) (T := kT_M) (N := 4) hx hb hg kin_M hown hK hP 0 rfl rfl 3 (by decide) (hg _ tw_286) (fun _ h9 => h9) rfl d_M_states_21 ?_
    have hPc := hP.sub (ws' := [(y, .inr (4, [Value.ref g, Value.ref v, Value.int 0, Value.int 0])), (g, .inr (1, [(zg 0), Value.int 0, (zg 2), (zg 3), (zg 4), (zg 5), (zg 6), (zg 7), (zg 8), (zg 9), (zg 10), Value.int 0, Value.int 0, (zg 13)]))]) [2, 1] rfl
    have hKc := hK.sub (tys' := []) [] rfl
    refine va_callv (va_runV (As := []) (rest := []) ⟨hx, hb, hml, hown, hg⟩ (c_Y_refresh l dC dI H_2.size y g (fun i => if i = 1 then Value.ref v else Value.null) (fun i => if i = 12 then Value.int 0 else zg i)) (cwV 0 hg (gw_giV cin_Y_refresh tw_758 tw_759 tw_760 tw_10) rfl rfl rfl (by decide +kernel) ⟨Nat.le_of_ble_eq_true rfl, Nat.le_of_ble_eq_true rfl⟩) ⟨fun a U g mk q => by obtain ⟨q0, q1, qP, qK⟩ := q; exact ⟨q0, q1, qP, va_K.moved (u := U) (U := U.calling g mk a) (Vm.Alike.refl U.vm) qK⟩, va_recv hKc hPc (ci := 4) (q0 := 0) rfl rfl, fun U hU hW => ⟨rfl, by rw [hU], by rw [hU]; exact hPc, va_K.moved hW.alike hKc⟩⟩ rfl rfl hl.1 rfl (lv_room (Nat.le_of_ble_eq_true rfl)) d_M_states_24 ⟨Nat.le_of_ble_eq_true rfl, Nat.le_of_ble_eq_true rfl⟩) hS (fun q h1 h => (tx_pA h1 h).elim) (tx_pF hS hA) (fun u_k_4 t_k_4 H_5 l_k_4 ht hvm hw_k_4 hB hz1 hk1 hS => ?_)
    have hP := tx_keep hP hk1
    refine lv_aload_n hx hb d_M_states_27 rfl (lv_at hl 0 rfl) ?_
    refine va_get (D := (dC, dI)) (ci := 0) (v := Value.ref y) (C := kR_M) (T := kT_M) (N := 4) hx hb hg kin_M hown hK hP 0 rfl rfl 3 (by decide) (hg _ tw_286) (fun _ h9 => h9) rfl d_M_states_28 ?_
    have hPc := hP.sub (ws' := [(y, .inr (4, [Value.ref g, Value.ref v, Value.int 0, Value.int 0])), (v, .inr (5, [(zv 0), (zv 1), (zv 2), (zv 3), (zv 4), (zv 5), (zv 6), Value.int 0]))]) [2, 3] rfl
    have hKc := hK.sub (tys' := []) [] rfl
    refine va_calli (va_runV (As := []) (rest := []) ⟨hx, hb, hml, hown, hg⟩ (c_Y_size l dC dI H_5.size y v (fun i => if i = 3 then Value.int 0 else if i = 2 then Value.int 0 else if i = 0 then Value.ref g else Value.null) zv 0) (cwV 0 hg (gw_giV cin_Y_size tw_778 tw_779 tw_780 tw_10) rfl rfl rfl (by decide +kernel) ⟨Nat.le_of_ble_eq_true rfl, Nat.le_of_ble_eq_true rfl⟩) ⟨fun a U g mk q => by obtain ⟨q0, q1, qP, qK⟩ := q; exact ⟨q0, q1, qP, va_K.moved (u := U) (U := U.calling g mk a) (Vm.Alike.refl U.vm) qK⟩, va_recv hKc hPc (ci := 4) (q0 := 0) rfl rfl, fun U hU hW => ⟨rfl, by rw [hU], by rw [hU]; exact hPc, va_K.moved hW.alike hKc⟩⟩ rfl rfl hl.1 rfl (lv_room (Nat.le_of_ble_eq_true rfl)) d_M_states_31 ⟨Nat.le_of_ble_eq_true rfl, Nat.le_of_ble_eq_true rfl⟩) hS (fun q h1 h => (tx_pA h1 h).elim) (tx_pF hS hA) (fun r_k_6 u_k_6 t_k_6 H_7 l_k_6 ht hvm hw_k_6 hB hz1 hk1 hS => ?_)
    have hw_k_6 : 0 = r_k_6 := Eq.symm hw_k_6
    subst hw_k_6
    have hP := tx_keep hP hk1
    refine lv_bipush (v := 60) hx hb d_M_states_34 (by decide) ?_
    refine lv_icmp_le (tgt := 49) hx hb d_M_states_36 (by decide) (fun c_8 => ?_) (fun c_8 => ?_)
    · refine lv_aload_n hx hb d_M_states_49 rfl (lv_at hl 0 rfl) ?_
      refine va_get (D := (dC, dI)) (ci := 0) (v := Value.ref y) (C := kR_M) (T := kT_M) (N := 4) hx hb hg kin_M hown hK hP 0 rfl rfl 3 (by decide) (hg _ tw_286) (fun _ h9 => h9) rfl d_M_states_50 ?_
      have hPc := hP.sub (ws' := [(y, .inr (4, [Value.ref g, Value.ref v, Value.int 0, Value.int 0])), (v, .inr (5, [(zv 0), (zv 1), (zv 2), (zv 3), (zv 4), (zv 5), (zv 6), Value.int 0]))]) [2, 3] rfl
      have hKc := hK.sub (tys' := []) [] rfl
      refine va_calli (va_runV (As := []) (rest := []) ⟨hx, hb, hml, hown, hg⟩ (c_Y_size l dC dI H_7.size y v (fun i => if i = 3 then Value.int 0 else if i = 2 then Value.int 0 else if i = 0 then Value.ref g else Value.null) zv 0) (cwV 0 hg (gw_giV cin_Y_size tw_778 tw_779 tw_780 tw_10) rfl rfl rfl (by decide +kernel) ⟨Nat.le_of_ble_eq_true rfl, Nat.le_of_ble_eq_true rfl⟩) ⟨fun a U g mk q => by obtain ⟨q0, q1, qP, qK⟩ := q; exact ⟨q0, q1, qP, va_K.moved (u := U) (U := U.calling g mk a) (Vm.Alike.refl U.vm) qK⟩, va_recv hKc hPc (ci := 4) (q0 := 0) rfl rfl, fun U hU hW => ⟨rfl, by rw [hU], by rw [hU]; exact hPc, va_K.moved hW.alike hKc⟩⟩ rfl rfl hl.1 rfl (lv_room (Nat.le_of_ble_eq_true rfl)) d_M_states_53 ⟨Nat.le_of_ble_eq_true rfl, Nat.le_of_ble_eq_true rfl⟩) hS (fun q h1 h => (tx_pA h1 h).elim) (tx_pF hS hA) (fun r_k_9 u_k_9 t_k_9 H_10 l_k_9 ht hvm hw_k_9 hB hz1 hk1 hS => ?_)
      have hw_k_9 : 0 = r_k_9 := Eq.symm hw_k_9
      subst hw_k_9
      have hP := tx_keep hP hk1
      exact W.iret (v := 0) hx hb hr (fun t ht hW => ⟨⟨0, (), rfl, rfl, trivial⟩, hS.F ht⟩) hS.2.2 d_M_states_56
    · exact absurd (by decide) c_8
  · exact absurd rfl c_3
set_option maxHeartbeats 4000000 in
set_option maxRecDepth 100000 in
theorem c_M_clear (l : Launch) (dC : Nat → ClassId) (dI : Nat → Nat → Nat) (sz : Nat) (x cq f v : Nat) (zx : Nat → Value) (zcq : Nat → Value) (zf : Nat → Value) (zv : Nat → Value) : Met l y_M_clear ws_M_clear ({ frames := 2, cells := 0, slots := 0, locals := 41 }) (va_Pc [Value.ref x] (fun U => U.heap.size = sz ∧ va_P (dC, dI) kcl [(x, .inr (0, [(zx 0), Value.ref f, Value.ref cq, (zx 3)])), (cq, .inr (3, [(zcq 0), (zcq 1), (zcq 2), (zcq 3), (zcq 4), (zcq 5), Value.int 0])), (f, .inr (2, [(zf 0), (zf 1), (zf 2), (zf 3), (zf 4), (zf 5), (zf 6), (zf 7), (zf 8), Value.int 0, (zf 10), Value.ref v, (zf 12), (zf 13)])), (v, .inr (5, [(zv 0), (zv 1), (zv 2), (zv 3), (zv 4), (zv 5), (zv 6), Value.int 0]))] U.heap ∧ va_K (dC, dI) kcl [] U ∧ va_D (fun _ => True) [(x, .inr (0, [(zx 0), Value.ref f, Value.ref cq, (zx 3)])), (cq, .inr (3, [(zcq 0), (zcq 1), (zcq 2), (zcq 3), (zcq 4), (zcq 5), Value.int 0])), (f, .inr (2, [(zf 0), (zf 1), (zf 2), (zf 3), (zf 4), (zf 5), (zf 6), (zf 7), (zf 8), Value.int 0, (zf 10), Value.ref v, (zf 12), (zf 13)])), (v, .inr (5, [(zv 0), (zv 1), (zv 2), (zv 3), (zv 4), (zv 5), (zv 6), Value.int 0]))])) (va_Qi (fun (r : Int32) (_ : Unit) => r = 0) (fun (_ : Unit) (_ : State) => True) (va_A [(x, .inr (0, [(zx 0), Value.ref f, Value.ref cq, (zx 3)])), (cq, .inr (3, [(zcq 0), (zcq 1), (zcq 2), (zcq 3), (zcq 4), (zcq 5), Value.int 0])), (f, .inr (2, [(zf 0), (zf 1), (zf 2), (zf 3), (zf 4), (zf 5), (zf 6), (zf 7), (zf 8), Value.int 0, (zf 10), Value.ref v, (zf 12), (zf 13)])), (v, .inr (5, [(zv 0), (zv 1), (zv 2), (zv 3), (zv 4), (zv 5), (zv 6), Value.int 0]))] sz)) 0 0 (va_A [(x, .inr (0, [(zx 0), Value.ref f, Value.ref cq, (zx 3)])), (cq, .inr (3, [(zcq 0), (zcq 1), (zcq 2), (zcq 3), (zcq 4), (zcq 5), Value.int 0])), (f, .inr (2, [(zf 0), (zf 1), (zf 2), (zf 3), (zf 4), (zf 5), (zf 6), (zf 7), (zf 8), Value.int 0, (zf 10), Value.ref v, (zf 12), (zf 13)])), (v, .inr (5, [(zv 0), (zv 1), (zv 2), (zv 3), (zv 4), (zv 5), (zv 6), Value.int 0]))] sz) := by
  refine Met.ofW (cc := b_M_clear) (maxL := 1) (ret := (Option.some Jvm.ClassFile.FieldType.int)) (by decide) rfl ?_
  intro p e s m args below meth c s₁ B hml hv
  obtain ⟨rfl, hsz, hP, hK, hD0⟩ := hv
  have hx := B.exec
  have hb := B.bytes
  have hr := B.returns
  have hlocks := B.notSynchronized
  have hg : ∀ w ∈ gw, w.before _ s = true := fun w h => atoms_spec (ws := ws_M_clear) B.pre w (List.mem_cons_of_mem _ h)
  have hown : s.vm.findClass "TreeMatcher" = some m.cls := findClass_of_methodNamed B.named
  subst hsz
  have hD := hD0.self (sz := s.heap.size)
  have hA : ∀ q : Nat, s.heap.size ≤ q → va_A [(x, .inr (0, [(zx 0), Value.ref f, Value.ref cq, (zx 3)])), (cq, .inr (3, [(zcq 0), (zcq 1), (zcq 2), (zcq 3), (zcq 4), (zcq 5), Value.int 0])), (f, .inr (2, [(zf 0), (zf 1), (zf 2), (zf 3), (zf 4), (zf 5), (zf 6), (zf 7), (zf 8), Value.int 0, (zf 10), Value.ref v, (zf 12), (zf 13)])), (v, .inr (5, [(zv 0), (zv 1), (zv 2), (zv 3), (zv 4), (zv 5), (zv 6), Value.int 0]))] s.heap.size q := fun q h => Or.inr h
  generalize hAe : va_A [(x, .inr (0, [(zx 0), Value.ref f, Value.ref cq, (zx 3)])), (cq, .inr (3, [(zcq 0), (zcq 1), (zcq 2), (zcq 3), (zcq 4), (zcq 5), Value.int 0])), (f, .inr (2, [(zf 0), (zf 1), (zf 2), (zf 3), (zf 4), (zf 5), (zf 6), (zf 7), (zf 8), Value.int 0, (zf 10), Value.ref v, (zf 12), (zf 13)])), (v, .inr (5, [(zv 0), (zv 1), (zv 2), (zv 3), (zv 4), (zv 5), (zv 6), Value.int 0]))] s.heap.size = A at hD hA ⊢
  have hS : va_S A s.heap s.heap [] := va_S.rf
  have hl := lv_entry ([Value.ref x] : List Value) (n := 1) (Nat.le_of_ble_eq_true rfl)
  rw [lg_entry_eq]
  generalize (lg_sl ([Value.ref x] : List Value) ++ List.replicate (1 - (lg_sl ([Value.ref x] : List Value)).length) Slot.unset).toArray = ls at hl ⊢
  have hl : lv_has ls 1 [(0, Value.ref x)] := hl
  refine lv_aload_n hx hb d_M_clear_0 rfl (lv_at hl 0 rfl) ?_
  refine va_get (D := (dC, dI)) (ci := 0) (v := Value.ref cq) (C := kR_M) (T := kT_M) (N := 4) hx hb hg kin_M hown hK hP 0 rfl rfl 2 (by decide) (hg _ tw_285) (fun _ h9 => h9) rfl d_M_clear_1 ?_
  have hPc := hP.sub (ws' := [(cq, .inr (3, [(zcq 0), (zcq 1), (zcq 2), (zcq 3), (zcq 4), (zcq 5), Value.int 0]))]) [1] rfl
  have hKc := hK.sub (tys' := []) [] rfl
  have hDc := hD.sub (ws' := [(cq, .inr (3, [(zcq 0), (zcq 1), (zcq 2), (zcq 3), (zcq 4), (zcq 5), Value.int 0]))]) [1] (by decide) rfl
  have hFc := va_free (wc := [(cq, .inr (3, [(zcq 0), (zcq 1), (zcq 2), (zcq 3), (zcq 4), (zcq 5), Value.int 0]))]) hD hS hA [1] rfl
  refine va_callv (va_runV (As := []) (rest := []) ⟨hx, hb, hml, hown, hg⟩ (c_C_forget l dC dI s.heap.size cq zcq 0) (cwV 0 hg (gw_giV cin_C_forget tw_300 tw_301 tw_302 tw_9) rfl rfl rfl (by decide +kernel) ⟨Nat.le_of_ble_eq_true rfl, Nat.le_of_ble_eq_true rfl⟩) ⟨fun a U g mk q => by obtain ⟨q0, q1, qP, qK, qD⟩ := q; exact ⟨q0, q1, qP, va_K.moved (u := U) (U := U.calling g mk a) (Vm.Alike.refl U.vm) qK, qD⟩, va_recv hKc hPc (ci := 3) (q0 := 0) rfl rfl, fun U hU hW => ⟨rfl, by rw [hU], by rw [hU]; exact hPc, va_K.moved hW.alike hKc, hDc.weaken (fun _ _ _ _ => trivial)⟩⟩ rfl rfl hl.1 rfl (lv_room (Nat.le_of_ble_eq_true rfl)) d_M_clear_4 ⟨Nat.le_of_ble_eq_true rfl, Nat.le_of_ble_eq_true rfl⟩) hS (fun q _ h => hFc q h) hFc (fun u_k_1 t_k_1 H_2 l_k_1 ht hvm hw_k_1 hB hz1 hk1 hS => ?_)
  obtain ⟨hP, hD⟩ := tx_rest (wc := [(cq, .inr (3, [(zcq 0), (zcq 1), (zcq 2), (zcq 3), (zcq 4), (zcq 5), Value.int 0]))]) (wr := [(x, .inr (0, [(zx 0), Value.ref f, Value.ref cq, (zx 3)])), (f, .inr (2, [(zf 0), (zf 1), (zf 2), (zf 3), (zf 4), (zf 5), (zf 6), (zf 7), (zf 8), Value.int 0, (zf 10), Value.ref v, (zf 12), (zf 13)])), (v, .inr (5, [(zv 0), (zv 1), (zv 2), (zv 3), (zv 4), (zv 5), (zv 6), Value.int 0]))]) hP hD [1] [0, 2, 3] rfl rfl (by decide) (by decide) hk1 hFc
  have hK := hK.sub (tys' := []) [] rfl
  refine lv_aload_n hx hb d_M_clear_7 rfl (lv_at hl 0 rfl) ?_
  refine va_get (D := (dC, dI)) (ci := 0) (v := Value.ref f) (C := kR_M) (T := kT_M) (N := 4) hx hb hg kin_M hown hK hP 0 rfl rfl 1 (by decide) (hg _ tw_284) (fun _ h9 => h9) rfl d_M_clear_8 ?_
  have hPc := hP.sub (ws' := [(f, .inr (2, [(zf 0), (zf 1), (zf 2), (zf 3), (zf 4), (zf 5), (zf 6), (zf 7), (zf 8), Value.int 0, (zf 10), Value.ref v, (zf 12), (zf 13)])), (v, .inr (5, [(zv 0), (zv 1), (zv 2), (zv 3), (zv 4), (zv 5), (zv 6), Value.int 0]))]) [1, 2] rfl
  have hKc := hK.sub (tys' := []) [] rfl
  have hDc := hD.sub (ws' := [(f, .inr (2, [(zf 0), (zf 1), (zf 2), (zf 3), (zf 4), (zf 5), (zf 6), (zf 7), (zf 8), Value.int 0, (zf 10), Value.ref v, (zf 12), (zf 13)])), (v, .inr (5, [(zv 0), (zv 1), (zv 2), (zv 3), (zv 4), (zv 5), (zv 6), Value.int 0]))]) [1, 2] (by decide) rfl
  have hFc := va_free (wc := [(f, .inr (2, [(zf 0), (zf 1), (zf 2), (zf 3), (zf 4), (zf 5), (zf 6), (zf 7), (zf 8), Value.int 0, (zf 10), Value.ref v, (zf 12), (zf 13)])), (v, .inr (5, [(zv 0), (zv 1), (zv 2), (zv 3), (zv 4), (zv 5), (zv 6), Value.int 0]))]) hD hS hA [1, 2] rfl
  refine va_calli (va_runV (As := []) (rest := []) ⟨hx, hb, hml, hown, hg⟩ (c_F_forget l dC dI H_2.size f v zf zv 0 0) (cwV 0 hg (gw_giV cin_F_forget tw_304 tw_305 tw_306 tw_6) rfl rfl rfl (by decide +kernel) ⟨Nat.le_of_ble_eq_true rfl, Nat.le_of_ble_eq_true rfl⟩) ⟨fun a U g mk q => by obtain ⟨q0, q1, qP, qK, qD⟩ := q; exact ⟨q0, q1, qP, va_K.moved (u := U) (U := U.calling g mk a) (Vm.Alike.refl U.vm) qK, qD⟩, va_recv hKc hPc (ci := 2) (q0 := 0) rfl rfl, fun U hU hW => ⟨rfl, by rw [hU], by rw [hU]; exact hPc, va_K.moved hW.alike hKc, hDc.weaken (fun _ _ _ _ => trivial)⟩⟩ rfl rfl hl.1 rfl (lv_room (Nat.le_of_ble_eq_true rfl)) d_M_clear_11 ⟨Nat.le_of_ble_eq_true rfl, Nat.le_of_ble_eq_true rfl⟩) hS (fun q _ h => hFc q h) hFc (fun r_k_3 u_k_3 t_k_3 H_4 l_k_3 ht hvm hw_k_3 hB hz1 hk1 hS => ?_)
  have hw_k_3 : 0 = r_k_3 := Eq.symm hw_k_3
  subst hw_k_3
  obtain ⟨hP, hD⟩ := tx_rest (wc := [(f, .inr (2, [(zf 0), (zf 1), (zf 2), (zf 3), (zf 4), (zf 5), (zf 6), (zf 7), (zf 8), Value.int 0, (zf 10), Value.ref v, (zf 12), (zf 13)])), (v, .inr (5, [(zv 0), (zv 1), (zv 2), (zv 3), (zv 4), (zv 5), (zv 6), Value.int 0]))]) (wr := [(x, .inr (0, [(zx 0), Value.ref f, Value.ref cq, (zx 3)]))]) hP hD [1, 2] [0] rfl rfl (by decide) (by decide) hk1 hFc
  have hK := hK.sub (tys' := []) [] rfl
  exact W.iret (v := 0) hx hb hr (fun t ht hW => ⟨⟨0, (), rfl, rfl, trivial⟩, hS.F ht⟩) hS.2.2 d_M_clear_14
