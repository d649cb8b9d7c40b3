set_option maxRecDepth 100000 in
theorem tw_314 : (Jvm.Cond.codeWith ({ cls := "TreeMatcherLaw", name := "operator", desc := "(LTreeMatcher;II[J)I" } : Jvm.MethodName) method_3_code (5 : Nat) (Option.some Jvm.ClassFile.FieldType.int) [((0 : Nat), (10 : Nat), (13 : Nat), (13 : Nat)), ((0 : Nat), (10 : Nat), (17 : Nat), (15 : Nat))]) ∈ gw := gw_of (List.mem_of_getElem? (i := 314) rfl) rfl
set_option maxRecDepth 100000 in
theorem tw_315 : (Jvm.Cond.classLink "TreeMatcherLaw" (13 : Nat) "java/lang/IllegalArgumentException") ∈ gw := gw_of (List.mem_of_getElem? (i := 315) rfl) rfl
set_option maxRecDepth 100000 in
theorem tw_316 : (Jvm.Cond.classLink "TreeMatcherLaw" (15 : Nat) "java/lang/IllegalStateException") ∈ gw := gw_of (List.mem_of_getElem? (i := 316) rfl) rfl
set_option maxRecDepth 100000 in
theorem tw_317 : (Jvm.Cond.methodLink "TreeMatcherLaw" (7 : Nat) ({ cls := "TreeMatcher", name := "operator", desc := "(II)I" } : Jvm.MethodName)) ∈ gw := gw_of (List.mem_of_getElem? (i := 317) rfl) rfl
set_option maxRecDepth 100000 in
theorem tw_318 : (Jvm.Cond.instanceMethod ({ cls := "TreeMatcher", name := "operator", desc := "(II)I" } : Jvm.MethodName)) ∈ gw := gw_of (List.mem_of_getElem? (i := 318) rfl) rfl
set_option maxRecDepth 100000 in
theorem tw_319 : (Jvm.Cond.selects "TreeMatcher" ({ cls := "TreeMatcher", name := "operator", desc := "(II)I" } : Jvm.MethodName) ({ cls := "TreeMatcher", name := "operator", desc := "(II)I" } : Jvm.MethodName)) ∈ gw := gw_of (List.mem_of_getElem? (i := 319) rfl) rfl
set_option maxRecDepth 100000 in
theorem tw_419 : (Jvm.Cond.codeWith ({ cls := "TreeMatcherLaw", name := "element", desc := "(LTreeMatcher;I[J)I" } : Jvm.MethodName) method_4_code (4 : Nat) (Option.some Jvm.ClassFile.FieldType.int) [((0 : Nat), (9 : Nat), (12 : Nat), (13 : Nat)), ((0 : Nat), (9 : Nat), (15 : Nat), (15 : Nat))]) ∈ gw := gw_of (List.mem_of_getElem? (i := 419) rfl) rfl
set_option maxRecDepth 100000 in
theorem tw_420 : (Jvm.Cond.methodLink "TreeMatcherLaw" (17 : Nat) ({ cls := "TreeMatcher", name := "element", desc := "(I)I" } : Jvm.MethodName)) ∈ gw := gw_of (List.mem_of_getElem? (i := 420) rfl) rfl
set_option maxRecDepth 100000 in
theorem tw_421 : (Jvm.Cond.instanceMethod ({ cls := "TreeMatcher", name := "element", desc := "(I)I" } : Jvm.MethodName)) ∈ gw := gw_of (List.mem_of_getElem? (i := 421) rfl) rfl
set_option maxRecDepth 100000 in
theorem tw_422 : (Jvm.Cond.selects "TreeMatcher" ({ cls := "TreeMatcher", name := "element", desc := "(I)I" } : Jvm.MethodName) ({ cls := "TreeMatcher", name := "element", desc := "(I)I" } : Jvm.MethodName)) ∈ gw := gw_of (List.mem_of_getElem? (i := 422) rfl) rfl
set_option maxRecDepth 100000 in
theorem tw_436 : (Jvm.Cond.codeWith ({ cls := "TreeMatcherLaw", name := "rule", desc := "(LTreeMatcher;IIII[J)I" } : Jvm.MethodName) method_5_code (7 : Nat) (Option.some Jvm.ClassFile.FieldType.int) [((0 : Nat), (14 : Nat), (17 : Nat), (15 : Nat)), ((0 : Nat), (14 : Nat), (21 : Nat), (13 : Nat))]) ∈ gw := gw_of (List.mem_of_getElem? (i := 436) rfl) rfl
set_option maxRecDepth 100000 in
theorem tw_437 : (Jvm.Cond.methodLink "TreeMatcherLaw" (21 : Nat) ({ cls := "TreeMatcher", name := "rule", desc := "(IIII)I" } : Jvm.MethodName)) ∈ gw := gw_of (List.mem_of_getElem? (i := 437) rfl) rfl
set_option maxRecDepth 100000 in
theorem tw_438 : (Jvm.Cond.instanceMethod ({ cls := "TreeMatcher", name := "rule", desc := "(IIII)I" } : Jvm.MethodName)) ∈ gw := gw_of (List.mem_of_getElem? (i := 438) rfl) rfl
set_option maxRecDepth 100000 in
theorem tw_439 : (Jvm.Cond.selects "TreeMatcher" ({ cls := "TreeMatcher", name := "rule", desc := "(IIII)I" } : Jvm.MethodName) ({ cls := "TreeMatcher", name := "rule", desc := "(IIII)I" } : Jvm.MethodName)) ∈ gw := gw_of (List.mem_of_getElem? (i := 439) rfl) rfl
set_option maxRecDepth 100000 in
theorem tw_486 : (Jvm.Cond.codeWith ({ cls := "TreeMatcherLaw", name := "node", desc := "(LTreeMatcher;IIII[J)I" } : Jvm.MethodName) method_6_code (7 : Nat) (Option.some Jvm.ClassFile.FieldType.int) [((0 : Nat), (14 : Nat), (17 : Nat), (13 : Nat)), ((0 : Nat), (14 : Nat), (21 : Nat), (15 : Nat))]) ∈ gw := gw_of (List.mem_of_getElem? (i := 486) rfl) rfl
set_option maxRecDepth 100000 in
theorem tw_487 : (Jvm.Cond.methodLink "TreeMatcherLaw" (25 : Nat) ({ cls := "TreeMatcher", name := "node", desc := "(IIII)I" } : Jvm.MethodName)) ∈ gw := gw_of (List.mem_of_getElem? (i := 487) rfl) rfl
set_option maxRecDepth 100000 in
theorem tw_488 : (Jvm.Cond.instanceMethod ({ cls := "TreeMatcher", name := "node", desc := "(IIII)I" } : Jvm.MethodName)) ∈ gw := gw_of (List.mem_of_getElem? (i := 488) rfl) rfl
set_option maxRecDepth 100000 in
theorem tw_489 : (Jvm.Cond.selects "TreeMatcher" ({ cls := "TreeMatcher", name := "node", desc := "(IIII)I" } : Jvm.MethodName) ({ cls := "TreeMatcher", name := "node", desc := "(IIII)I" } : Jvm.MethodName)) ∈ gw := gw_of (List.mem_of_getElem? (i := 489) rfl) rfl
set_option maxRecDepth 100000 in
theorem tw_655 : (Jvm.Cond.codeWith ({ cls := "TreeMatcherLaw", name := "cost", desc := "(LTreeMatcher;II[J)I" } : Jvm.MethodName) method_7_code (5 : Nat) (Option.some Jvm.ClassFile.FieldType.int) [((0 : Nat), (10 : Nat), (13 : Nat), (31 : Nat))]) ∈ gw := gw_of (List.mem_of_getElem? (i := 655) rfl) rfl
set_option maxRecDepth 100000 in
theorem tw_656 : (Jvm.Cond.classLink "TreeMatcherLaw" (31 : Nat) "java/lang/IndexOutOfBoundsException") ∈ gw := gw_of (List.mem_of_getElem? (i := 656) rfl) rfl
set_option maxRecDepth 100000 in
theorem tw_657 : (Jvm.Cond.methodLink "TreeMatcherLaw" (28 : Nat) ({ cls := "TreeMatcher", name := "cost", desc := "(II)I" } : Jvm.MethodName)) ∈ gw := gw_of (List.mem_of_getElem? (i := 657) rfl) rfl
set_option maxRecDepth 100000 in
theorem tw_658 : (Jvm.Cond.instanceMethod ({ cls := "TreeMatcher", name := "cost", desc := "(II)I" } : Jvm.MethodName)) ∈ gw := gw_of (List.mem_of_getElem? (i := 658) rfl) rfl
set_option maxRecDepth 100000 in
theorem tw_659 : (Jvm.Cond.selects "TreeMatcher" ({ cls := "TreeMatcher", name := "cost", desc := "(II)I" } : Jvm.MethodName) ({ cls := "TreeMatcher", name := "cost", desc := "(II)I" } : Jvm.MethodName)) ∈ gw := gw_of (List.mem_of_getElem? (i := 659) rfl) rfl
set_option maxRecDepth 100000 in
theorem tw_688 : (Jvm.Cond.codeWith ({ cls := "TreeMatcherLaw", name := "ruleAt", desc := "(LTreeMatcher;II[J)I" } : Jvm.MethodName) method_8_code (5 : Nat) (Option.some Jvm.ClassFile.FieldType.int) [((0 : Nat), (10 : Nat), (13 : Nat), (31 : Nat))]) ∈ gw := gw_of (List.mem_of_getElem? (i := 688) rfl) rfl
set_option maxRecDepth 100000 in
theorem tw_689 : (Jvm.Cond.methodLink "TreeMatcherLaw" (33 : Nat) ({ cls := "TreeMatcher", name := "ruleAt", desc := "(II)I" } : Jvm.MethodName)) ∈ gw := gw_of (List.mem_of_getElem? (i := 689) rfl) rfl
set_option maxRecDepth 100000 in
theorem tw_690 : (Jvm.Cond.instanceMethod ({ cls := "TreeMatcher", name := "ruleAt", desc := "(II)I" } : Jvm.MethodName)) ∈ gw := gw_of (List.mem_of_getElem? (i := 690) rfl) rfl
set_option maxRecDepth 100000 in
theorem tw_691 : (Jvm.Cond.selects "TreeMatcher" ({ cls := "TreeMatcher", name := "ruleAt", desc := "(II)I" } : Jvm.MethodName) ({ cls := "TreeMatcher", name := "ruleAt", desc := "(II)I" } : Jvm.MethodName)) ∈ gw := gw_of (List.mem_of_getElem? (i := 691) rfl) rfl
set_option maxRecDepth 100000 in
theorem tw_699 : (Jvm.Cond.codeWith ({ cls := "TreeMatcherLaw", name := "cover", desc := "(LTreeMatcher;II[J)I" } : Jvm.MethodName) method_9_code (5 : Nat) (Option.some Jvm.ClassFile.FieldType.int) [((0 : Nat), (10 : Nat), (13 : Nat), (31 : Nat)), ((0 : Nat), (10 : Nat), (17 : Nat), (15 : Nat))]) ∈ gw := gw_of (List.mem_of_getElem? (i := 699) rfl) rfl
set_option maxRecDepth 100000 in
theorem tw_700 : (Jvm.Cond.methodLink "TreeMatcherLaw" (36 : Nat) ({ cls := "TreeMatcher", name := "cover", desc := "(II)I" } : Jvm.MethodName)) ∈ gw := gw_of (List.mem_of_getElem? (i := 700) rfl) rfl
set_option maxRecDepth 100000 in
theorem tw_701 : (Jvm.Cond.instanceMethod ({ cls := "TreeMatcher", name := "cover", desc := "(II)I" } : Jvm.MethodName)) ∈ gw := gw_of (List.mem_of_getElem? (i := 701) rfl) rfl
set_option maxRecDepth 100000 in
theorem tw_702 : (Jvm.Cond.selects "TreeMatcher" ({ cls := "TreeMatcher", name := "cover", desc := "(II)I" } : Jvm.MethodName) ({ cls := "TreeMatcher", name := "cover", desc := "(II)I" } : Jvm.MethodName)) ∈ gw := gw_of (List.mem_of_getElem? (i := 702) rfl) rfl
set_option maxRecDepth 100000 in
theorem tw_735 : (Jvm.Cond.codeWith ({ cls := "TreeMatcherLaw", name := "pair", desc := "(LTreeMatcher;II[J)I" } : Jvm.MethodName) method_10_code (5 : Nat) (Option.some Jvm.ClassFile.FieldType.int) [((0 : Nat), (10 : Nat), (13 : Nat), (31 : Nat))]) ∈ gw := gw_of (List.mem_of_getElem? (i := 735) rfl) rfl
set_option maxRecDepth 100000 in
theorem tw_736 : (Jvm.Cond.methodLink "TreeMatcherLaw" (39 : Nat) ({ cls := "TreeMatcher", name := "pair", desc := "(II)I" } : Jvm.MethodName)) ∈ gw := gw_of (List.mem_of_getElem? (i := 736) rfl) rfl
set_option maxRecDepth 100000 in
theorem tw_737 : (Jvm.Cond.instanceMethod ({ cls := "TreeMatcher", name := "pair", desc := "(II)I" } : Jvm.MethodName)) ∈ gw := gw_of (List.mem_of_getElem? (i := 737) rfl) rfl
set_option maxRecDepth 100000 in
theorem tw_738 : (Jvm.Cond.selects "TreeMatcher" ({ cls := "TreeMatcher", name := "pair", desc := "(II)I" } : Jvm.MethodName) ({ cls := "TreeMatcher", name := "pair", desc := "(II)I" } : Jvm.MethodName)) ∈ gw := gw_of (List.mem_of_getElem? (i := 738) rfl) rfl
set_option maxRecDepth 100000 in
theorem tw_748 : (Jvm.Cond.codeWith ({ cls := "TreeMatcherLaw", name := "states", desc := "(LTreeMatcher;[J)I" } : Jvm.MethodName) method_11_code (3 : Nat) (Option.some Jvm.ClassFile.FieldType.int) [((0 : Nat), (8 : Nat), (11 : Nat), (15 : Nat))]) ∈ gw := gw_of (List.mem_of_getElem? (i := 748) rfl) rfl
set_option maxRecDepth 100000 in
theorem tw_749 : (Jvm.Cond.methodLink "TreeMatcherLaw" (42 : Nat) ({ cls := "TreeMatcher", name := "states", desc := "()I" } : Jvm.MethodName)) ∈ gw := gw_of (List.mem_of_getElem? (i := 749) rfl) rfl
set_option maxRecDepth 100000 in
theorem tw_750 : (Jvm.Cond.instanceMethod ({ cls := "TreeMatcher", name := "states", desc := "()I" } : Jvm.MethodName)) ∈ gw := gw_of (List.mem_of_getElem? (i := 750) rfl) rfl
set_option maxRecDepth 100000 in
theorem tw_751 : (Jvm.Cond.selects "TreeMatcher" ({ cls := "TreeMatcher", name := "states", desc := "()I" } : Jvm.MethodName) ({ cls := "TreeMatcher", name := "states", desc := "()I" } : Jvm.MethodName)) ∈ gw := gw_of (List.mem_of_getElem? (i := 751) rfl) rfl
set_option maxRecDepth 100000 in
theorem tw_785 : (Jvm.Cond.codeWith ({ cls := "TreeMatcherLaw", name := "same", desc := "(LTreeMatcher;II[J)I" } : Jvm.MethodName) method_12_code (5 : Nat) (Option.some Jvm.ClassFile.FieldType.int) [((0 : Nat), (17 : Nat), (20 : Nat), (31 : Nat))]) ∈ gw := gw_of (List.mem_of_getElem? (i := 785) rfl) rfl
set_option maxRecDepth 100000 in
theorem tw_786 : (Jvm.Cond.methodLink "TreeMatcherLaw" (46 : Nat) ({ cls := "TreeMatcher", name := "same", desc := "(II)Z" } : Jvm.MethodName)) ∈ gw := gw_of (List.mem_of_getElem? (i := 786) rfl) rfl
set_option maxRecDepth 100000 in
theorem tw_787 : (Jvm.Cond.instanceMethod ({ cls := "TreeMatcher", name := "same", desc := "(II)Z" } : Jvm.MethodName)) ∈ gw := gw_of (List.mem_of_getElem? (i := 787) rfl) rfl
set_option maxRecDepth 100000 in
theorem tw_788 : (Jvm.Cond.selects "TreeMatcher" ({ cls := "TreeMatcher", name := "same", desc := "(II)Z" } : Jvm.MethodName) ({ cls := "TreeMatcher", name := "same", desc := "(II)Z" } : Jvm.MethodName)) ∈ gw := gw_of (List.mem_of_getElem? (i := 788) rfl) rfl
set_option maxRecDepth 100000 in
theorem tw_797 : (Jvm.Cond.codeWith ({ cls := "TreeMatcherLaw", name := "count", desc := "(LTreeMatcher;I[J)I" } : Jvm.MethodName) method_13_code (4 : Nat) (Option.some Jvm.ClassFile.FieldType.int) [((0 : Nat), (9 : Nat), (12 : Nat), (31 : Nat))]) ∈ gw := gw_of (List.mem_of_getElem? (i := 797) rfl) rfl
set_option maxRecDepth 100000 in
theorem tw_798 : (Jvm.Cond.methodLink "TreeMatcherLaw" (50 : Nat) ({ cls := "TreeMatcher", name := "count", desc := "(I)I" } : Jvm.MethodName)) ∈ gw := gw_of (List.mem_of_getElem? (i := 798) rfl) rfl
set_option maxRecDepth 100000 in
theorem tw_799 : (Jvm.Cond.instanceMethod ({ cls := "TreeMatcher", name := "count", desc := "(I)I" } : Jvm.MethodName)) ∈ gw := gw_of (List.mem_of_getElem? (i := 799) rfl) rfl
set_option maxRecDepth 100000 in
theorem tw_800 : (Jvm.Cond.selects "TreeMatcher" ({ cls := "TreeMatcher", name := "count", desc := "(I)I" } : Jvm.MethodName) ({ cls := "TreeMatcher", name := "count", desc := "(I)I" } : Jvm.MethodName)) ∈ gw := gw_of (List.mem_of_getElem? (i := 800) rfl) rfl
abbrev b_Z_operator : ByteArray := method_3_code
def y_Z_operator : MethodName := ⟨"TreeMatcherLaw", "operator", "(LTreeMatcher;II[J)I"⟩
def ws_Z_operator : List Cond := Cond.codeWith y_Z_operator b_Z_operator 5 (Option.some Jvm.ClassFile.FieldType.int) [((0 : Nat), (10 : Nat), (13 : Nat), (13 : Nat)), ((0 : Nat), (10 : Nat), (17 : Nat), (15 : Nat))] :: gw
theorem cin_Z_operator : Cond.codeWith y_Z_operator b_Z_operator 5 (Option.some Jvm.ClassFile.FieldType.int) [((0 : Nat), (10 : Nat), (13 : Nat), (13 : Nat)), ((0 : Nat), (10 : Nat), (17 : Nat), (15 : Nat))] ∈ gw := tw_314
abbrev b_Z_element : ByteArray := method_4_code
def y_Z_element : MethodName := ⟨"TreeMatcherLaw", "element", "(LTreeMatcher;I[J)I"⟩
def ws_Z_element : List Cond := Cond.codeWith y_Z_element b_Z_element 4 (Option.some Jvm.ClassFile.FieldType.int) [((0 : Nat), (9 : Nat), (12 : Nat), (13 : Nat)), ((0 : Nat), (9 : Nat), (15 : Nat), (15 : Nat))] :: gw
theorem cin_Z_element : Cond.codeWith y_Z_element b_Z_element 4 (Option.some Jvm.ClassFile.FieldType.int) [((0 : Nat), (9 : Nat), (12 : Nat), (13 : Nat)), ((0 : Nat), (9 : Nat), (15 : Nat), (15 : Nat))] ∈ gw := tw_419
abbrev b_Z_rule : ByteArray := method_5_code
def y_Z_rule : MethodName := ⟨"TreeMatcherLaw", "rule", "(LTreeMatcher;IIII[J)I"⟩
def ws_Z_rule : List Cond := Cond.codeWith y_Z_rule b_Z_rule 7 (Option.some Jvm.ClassFile.FieldType.int) [((0 : Nat), (14 : Nat), (17 : Nat), (15 : Nat)), ((0 : Nat), (14 : Nat), (21 : Nat), (13 : Nat))] :: gw
theorem cin_Z_rule : Cond.codeWith y_Z_rule b_Z_rule 7 (Option.some Jvm.ClassFile.FieldType.int) [((0 : Nat), (14 : Nat), (17 : Nat), (15 : Nat)), ((0 : Nat), (14 : Nat), (21 : Nat), (13 : Nat))] ∈ gw := tw_436
abbrev b_Z_node : ByteArray := method_6_code
def y_Z_node : MethodName := ⟨"TreeMatcherLaw", "node", "(LTreeMatcher;IIII[J)I"⟩
def ws_Z_node : List Cond := Cond.codeWith y_Z_node b_Z_node 7 (Option.some Jvm.ClassFile.FieldType.int) [((0 : Nat), (14 : Nat), (17 : Nat), (13 : Nat)), ((0 : Nat), (14 : Nat), (21 : Nat), (15 : Nat))] :: gw
theorem cin_Z_node : Cond.codeWith y_Z_node b_Z_node 7 (Option.some Jvm.ClassFile.FieldType.int) [((0 : Nat), (14 : Nat), (17 : Nat), (13 : Nat)), ((0 : Nat), (14 : Nat), (21 : Nat), (15 : Nat))] ∈ gw := tw_486
abbrev b_Z_cost : ByteArray := method_7_code
def y_Z_cost : MethodName := ⟨"TreeMatcherLaw", "cost", "(LTreeMatcher;II[J)I"⟩
def ws_Z_cost : List Cond := Cond.codeWith y_Z_cost b_Z_cost 5 (Option.some Jvm.ClassFile.FieldType.int) [((0 : Nat), (10 : Nat), (13 : Nat), (31 : Nat))] :: gw
theorem cin_Z_cost : Cond.codeWith y_Z_cost b_Z_cost 5 (Option.some Jvm.ClassFile.FieldType.int) [((0 : Nat), (10 : Nat), (13 : Nat), (31 : Nat))] ∈ gw := tw_655
abbrev b_Z_ruleAt : ByteArray := method_8_code
def y_Z_ruleAt : MethodName := ⟨"TreeMatcherLaw", "ruleAt", "(LTreeMatcher;II[J)I"⟩
def ws_Z_ruleAt : List Cond := Cond.codeWith y_Z_ruleAt b_Z_ruleAt 5 (Option.some Jvm.ClassFile.FieldType.int) [((0 : Nat), (10 : Nat), (13 : Nat), (31 : Nat))] :: gw
theorem cin_Z_ruleAt : Cond.codeWith y_Z_ruleAt b_Z_ruleAt 5 (Option.some Jvm.ClassFile.FieldType.int) [((0 : Nat), (10 : Nat), (13 : Nat), (31 : Nat))] ∈ gw := tw_688
abbrev b_Z_cover : ByteArray := method_9_code
def y_Z_cover : MethodName := ⟨"TreeMatcherLaw", "cover", "(LTreeMatcher;II[J)I"⟩
def ws_Z_cover : List Cond := Cond.codeWith y_Z_cover b_Z_cover 5 (Option.some Jvm.ClassFile.FieldType.int) [((0 : Nat), (10 : Nat), (13 : Nat), (31 : Nat)), ((0 : Nat), (10 : Nat), (17 : Nat), (15 : Nat))] :: gw
theorem cin_Z_cover : Cond.codeWith y_Z_cover b_Z_cover 5 (Option.some Jvm.ClassFile.FieldType.int) [((0 : Nat), (10 : Nat), (13 : Nat), (31 : Nat)), ((0 : Nat), (10 : Nat), (17 : Nat), (15 : Nat))] ∈ gw := tw_699
abbrev b_Z_pair : ByteArray := method_10_code
def y_Z_pair : MethodName := ⟨"TreeMatcherLaw", "pair", "(LTreeMatcher;II[J)I"⟩
def ws_Z_pair : List Cond := Cond.codeWith y_Z_pair b_Z_pair 5 (Option.some Jvm.ClassFile.FieldType.int) [((0 : Nat), (10 : Nat), (13 : Nat), (31 : Nat))] :: gw
theorem cin_Z_pair : Cond.codeWith y_Z_pair b_Z_pair 5 (Option.some Jvm.ClassFile.FieldType.int) [((0 : Nat), (10 : Nat), (13 : Nat), (31 : Nat))] ∈ gw := tw_735
abbrev b_Z_states : ByteArray := method_11_code
def y_Z_states : MethodName := ⟨"TreeMatcherLaw", "states", "(LTreeMatcher;[J)I"⟩
def ws_Z_states : List Cond := Cond.codeWith y_Z_states b_Z_states 3 (Option.some Jvm.ClassFile.FieldType.int) [((0 : Nat), (8 : Nat), (11 : Nat), (15 : Nat))] :: gw
theorem cin_Z_states : Cond.codeWith y_Z_states b_Z_states 3 (Option.some Jvm.ClassFile.FieldType.int) [((0 : Nat), (8 : Nat), (11 : Nat), (15 : Nat))] ∈ gw := tw_748
abbrev b_Z_same : ByteArray := method_12_code
def y_Z_same : MethodName := ⟨"TreeMatcherLaw", "same", "(LTreeMatcher;II[J)I"⟩
def ws_Z_same : List Cond := Cond.codeWith y_Z_same b_Z_same 5 (Option.some Jvm.ClassFile.FieldType.int) [((0 : Nat), (17 : Nat), (20 : Nat), (31 : Nat))] :: gw
theorem cin_Z_same : Cond.codeWith y_Z_same b_Z_same 5 (Option.some Jvm.ClassFile.FieldType.int) [((0 : Nat), (17 : Nat), (20 : Nat), (31 : Nat))] ∈ gw := tw_785
abbrev b_Z_count : ByteArray := method_13_code
def y_Z_count : MethodName := ⟨"TreeMatcherLaw", "count", "(LTreeMatcher;I[J)I"⟩
def ws_Z_count : List Cond := Cond.codeWith y_Z_count b_Z_count 4 (Option.some Jvm.ClassFile.FieldType.int) [((0 : Nat), (9 : Nat), (12 : Nat), (31 : Nat))] :: gw
theorem cin_Z_count : Cond.codeWith y_Z_count b_Z_count 4 (Option.some Jvm.ClassFile.FieldType.int) [((0 : Nat), (9 : Nat), (12 : Nat), (31 : Nat))] ∈ gw := tw_797
theorem d_Z_operator_0 : decode b_Z_operator 0 = .ok (.aload_n 3, 1) := by decide +kernel
theorem d_Z_operator_1 : decode b_Z_operator 1 = .ok (.iconst 0, 1) := by decide +kernel
theorem d_Z_operator_2 : decode b_Z_operator 2 = .ok (.aload_n 0, 1) := by decide +kernel
theorem d_Z_operator_3 : decode b_Z_operator 3 = .ok (.iload_n 1, 1) := by decide +kernel
theorem d_Z_operator_4 : decode b_Z_operator 4 = .ok (.iload_n 2, 1) := by decide +kernel
theorem d_Z_operator_5 : decode b_Z_operator 5 = .ok (.invokevirtual 7, 3) := by decide +kernel
theorem d_Z_operator_8 : decode b_Z_operator 8 = .ok (.i2l, 1) := by decide +kernel
theorem d_Z_operator_9 : decode b_Z_operator 9 = .ok (.lastore, 1) := by decide +kernel
theorem d_Z_operator_10 : decode b_Z_operator 10 = .ok (.goto 11, 3) := by decide +kernel
theorem d_Z_operator_13 : decode b_Z_operator 13 = .ok (.astore 4, 2) := by decide +kernel
theorem d_Z_operator_15 : decode b_Z_operator 15 = .ok (.iconst 1, 1) := by decide +kernel
theorem d_Z_operator_16 : decode b_Z_operator 16 = .ok (.ireturn, 1) := by decide +kernel
theorem d_Z_operator_21 : decode b_Z_operator 21 = .ok (.iconst 0, 1) := by decide +kernel
theorem d_Z_operator_22 : decode b_Z_operator 22 = .ok (.ireturn, 1) := by decide +kernel
theorem d_Z_element_0 : decode b_Z_element 0 = .ok (.aload_n 2, 1) := by decide +kernel
theorem d_Z_element_1 : decode b_Z_element 1 = .ok (.iconst 0, 1) := by decide +kernel
theorem d_Z_element_2 : decode b_Z_element 2 = .ok (.aload_n 0, 1) := by decide +kernel
theorem d_Z_element_3 : decode b_Z_element 3 = .ok (.iload_n 1, 1) := by decide +kernel
theorem d_Z_element_4 : decode b_Z_element 4 = .ok (.invokevirtual 17, 3) := by decide +kernel
theorem d_Z_element_7 : decode b_Z_element 7 = .ok (.i2l, 1) := by decide +kernel
theorem d_Z_element_8 : decode b_Z_element 8 = .ok (.lastore, 1) := by decide +kernel
theorem d_Z_element_9 : decode b_Z_element 9 = .ok (.goto 9, 3) := by decide +kernel
theorem d_Z_element_12 : decode b_Z_element 12 = .ok (.astore_n 3, 1) := by decide +kernel
theorem d_Z_element_13 : decode b_Z_element 13 = .ok (.iconst 1, 1) := by decide +kernel
theorem d_Z_element_14 : decode b_Z_element 14 = .ok (.ireturn, 1) := by decide +kernel
theorem d_Z_element_18 : decode b_Z_element 18 = .ok (.iconst 0, 1) := by decide +kernel
theorem d_Z_element_19 : decode b_Z_element 19 = .ok (.ireturn, 1) := by decide +kernel
theorem d_Z_rule_0 : decode b_Z_rule 0 = .ok (.aload 5, 2) := by decide +kernel
theorem d_Z_rule_2 : decode b_Z_rule 2 = .ok (.iconst 0, 1) := by decide +kernel
theorem d_Z_rule_3 : decode b_Z_rule 3 = .ok (.aload_n 0, 1) := by decide +kernel
theorem d_Z_rule_4 : decode b_Z_rule 4 = .ok (.iload_n 1, 1) := by decide +kernel
theorem d_Z_rule_5 : decode b_Z_rule 5 = .ok (.iload_n 2, 1) := by decide +kernel
theorem d_Z_rule_6 : decode b_Z_rule 6 = .ok (.iload_n 3, 1) := by decide +kernel
theorem d_Z_rule_7 : decode b_Z_rule 7 = .ok (.iload 4, 2) := by decide +kernel
theorem d_Z_rule_9 : decode b_Z_rule 9 = .ok (.invokevirtual 21, 3) := by decide +kernel
theorem d_Z_rule_21 : decode b_Z_rule 21 = .ok (.astore 6, 2) := by decide +kernel
theorem d_Z_rule_23 : decode b_Z_rule 23 = .ok (.iconst 2, 1) := by decide +kernel
theorem d_Z_rule_24 : decode b_Z_rule 24 = .ok (.ireturn, 1) := by decide +kernel
theorem d_Z_node_0 : decode b_Z_node 0 = .ok (.aload 5, 2) := by decide +kernel
theorem d_Z_node_2 : decode b_Z_node 2 = .ok (.iconst 0, 1) := by decide +kernel
theorem d_Z_node_3 : decode b_Z_node 3 = .ok (.aload_n 0, 1) := by decide +kernel
theorem d_Z_node_4 : decode b_Z_node 4 = .ok (.iload_n 1, 1) := by decide +kernel
theorem d_Z_node_5 : decode b_Z_node 5 = .ok (.iload_n 2, 1) := by decide +kernel
theorem d_Z_node_6 : decode b_Z_node 6 = .ok (.iload_n 3, 1) := by decide +kernel
theorem d_Z_node_7 : decode b_Z_node 7 = .ok (.iload 4, 2) := by decide +kernel
theorem d_Z_node_9 : decode b_Z_node 9 = .ok (.invokevirtual 25, 3) := by decide +kernel
theorem d_Z_node_17 : decode b_Z_node 17 = .ok (.astore 6, 2) := by decide +kernel
theorem d_Z_node_19 : decode b_Z_node 19 = .ok (.iconst 1, 1) := by decide +kernel
theorem d_Z_node_20 : decode b_Z_node 20 = .ok (.ireturn, 1) := by decide +kernel
theorem d_Z_cost_0 : decode b_Z_cost 0 = .ok (.aload_n 3, 1) := by decide +kernel
theorem d_Z_cost_1 : decode b_Z_cost 1 = .ok (.iconst 0, 1) := by decide +kernel
theorem d_Z_cost_2 : decode b_Z_cost 2 = .ok (.aload_n 0, 1) := by decide +kernel
theorem d_Z_cost_3 : decode b_Z_cost 3 = .ok (.iload_n 1, 1) := by decide +kernel
theorem d_Z_cost_4 : decode b_Z_cost 4 = .ok (.iload_n 2, 1) := by decide +kernel
theorem d_Z_cost_5 : decode b_Z_cost 5 = .ok (.invokevirtual 28, 3) := by decide +kernel
theorem d_Z_cost_13 : decode b_Z_cost 13 = .ok (.astore 4, 2) := by decide +kernel
theorem d_Z_cost_15 : decode b_Z_cost 15 = .ok (.iconst 1, 1) := by decide +kernel
theorem d_Z_cost_16 : decode b_Z_cost 16 = .ok (.ireturn, 1) := by decide +kernel
theorem d_Z_ruleAt_0 : decode b_Z_ruleAt 0 = .ok (.aload_n 3, 1) := by decide +kernel
theorem d_Z_ruleAt_1 : decode b_Z_ruleAt 1 = .ok (.iconst 0, 1) := by decide +kernel
theorem d_Z_ruleAt_2 : decode b_Z_ruleAt 2 = .ok (.aload_n 0, 1) := by decide +kernel
theorem d_Z_ruleAt_3 : decode b_Z_ruleAt 3 = .ok (.iload_n 1, 1) := by decide +kernel
theorem d_Z_ruleAt_4 : decode b_Z_ruleAt 4 = .ok (.iload_n 2, 1) := by decide +kernel
theorem d_Z_ruleAt_5 : decode b_Z_ruleAt 5 = .ok (.invokevirtual 33, 3) := by decide +kernel
theorem d_Z_ruleAt_13 : decode b_Z_ruleAt 13 = .ok (.astore 4, 2) := by decide +kernel
theorem d_Z_ruleAt_15 : decode b_Z_ruleAt 15 = .ok (.iconst 1, 1) := by decide +kernel
theorem d_Z_ruleAt_16 : decode b_Z_ruleAt 16 = .ok (.ireturn, 1) := by decide +kernel
theorem d_Z_cover_0 : decode b_Z_cover 0 = .ok (.aload_n 3, 1) := by decide +kernel
theorem d_Z_cover_1 : decode b_Z_cover 1 = .ok (.iconst 0, 1) := by decide +kernel
theorem d_Z_cover_2 : decode b_Z_cover 2 = .ok (.aload_n 0, 1) := by decide +kernel
theorem d_Z_cover_3 : decode b_Z_cover 3 = .ok (.iload_n 1, 1) := by decide +kernel
theorem d_Z_cover_4 : decode b_Z_cover 4 = .ok (.iload_n 2, 1) := by decide +kernel
theorem d_Z_cover_5 : decode b_Z_cover 5 = .ok (.invokevirtual 36, 3) := by decide +kernel
theorem d_Z_cover_13 : decode b_Z_cover 13 = .ok (.astore 4, 2) := by decide +kernel
theorem d_Z_cover_15 : decode b_Z_cover 15 = .ok (.iconst 1, 1) := by decide +kernel
theorem d_Z_cover_16 : decode b_Z_cover 16 = .ok (.ireturn, 1) := by decide +kernel
theorem d_Z_pair_0 : decode b_Z_pair 0 = .ok (.aload_n 3, 1) := by decide +kernel
theorem d_Z_pair_1 : decode b_Z_pair 1 = .ok (.iconst 0, 1) := by decide +kernel
theorem d_Z_pair_2 : decode b_Z_pair 2 = .ok (.aload_n 0, 1) := by decide +kernel
theorem d_Z_pair_3 : decode b_Z_pair 3 = .ok (.iload_n 1, 1) := by decide +kernel
theorem d_Z_pair_4 : decode b_Z_pair 4 = .ok (.iload_n 2, 1) := by decide +kernel
theorem d_Z_pair_5 : decode b_Z_pair 5 = .ok (.invokevirtual 39, 3) := by decide +kernel
theorem d_Z_pair_13 : decode b_Z_pair 13 = .ok (.astore 4, 2) := by decide +kernel
theorem d_Z_pair_15 : decode b_Z_pair 15 = .ok (.iconst 1, 1) := by decide +kernel
theorem d_Z_pair_16 : decode b_Z_pair 16 = .ok (.ireturn, 1) := by decide +kernel
theorem d_Z_states_0 : decode b_Z_states 0 = .ok (.aload_n 1, 1) := by decide +kernel
theorem d_Z_states_1 : decode b_Z_states 1 = .ok (.iconst 0, 1) := by decide +kernel
theorem d_Z_states_2 : decode b_Z_states 2 = .ok (.aload_n 0, 1) := by decide +kernel
theorem d_Z_states_3 : decode b_Z_states 3 = .ok (.invokevirtual 42, 3) := by decide +kernel
theorem d_Z_states_6 : decode b_Z_states 6 = .ok (.i2l, 1) := by decide +kernel
theorem d_Z_states_7 : decode b_Z_states 7 = .ok (.lastore, 1) := by decide +kernel
theorem d_Z_states_8 : decode b_Z_states 8 = .ok (.goto 6, 3) := by decide +kernel
theorem d_Z_states_14 : decode b_Z_states 14 = .ok (.iconst 0, 1) := by decide +kernel
theorem d_Z_states_15 : decode b_Z_states 15 = .ok (.ireturn, 1) := by decide +kernel
theorem d_Z_same_0 : decode b_Z_same 0 = .ok (.aload_n 3, 1) := by decide +kernel
theorem d_Z_same_1 : decode b_Z_same 1 = .ok (.iconst 0, 1) := by decide +kernel
theorem d_Z_same_2 : decode b_Z_same 2 = .ok (.aload_n 0, 1) := by decide +kernel
theorem d_Z_same_3 : decode b_Z_same 3 = .ok (.iload_n 1, 1) := by decide +kernel
theorem d_Z_same_4 : decode b_Z_same 4 = .ok (.iload_n 2, 1) := by decide +kernel
theorem d_Z_same_5 : decode b_Z_same 5 = .ok (.invokevirtual 46, 3) := by decide +kernel
theorem d_Z_same_20 : decode b_Z_same 20 = .ok (.astore 4, 2) := by decide +kernel
theorem d_Z_same_22 : decode b_Z_same 22 = .ok (.iconst 1, 1) := by decide +kernel
theorem d_Z_same_23 : decode b_Z_same 23 = .ok (.ireturn, 1) := by decide +kernel
theorem d_Z_count_0 : decode b_Z_count 0 = .ok (.aload_n 2, 1) := by decide +kernel
theorem d_Z_count_1 : decode b_Z_count 1 = .ok (.iconst 0, 1) := by decide +kernel
theorem d_Z_count_2 : decode b_Z_count 2 = .ok (.aload_n 0, 1) := by decide +kernel
theorem d_Z_count_3 : decode b_Z_count 3 = .ok (.iload_n 1, 1) := by decide +kernel
theorem d_Z_count_4 : decode b_Z_count 4 = .ok (.invokevirtual 50, 3) := by decide +kernel
theorem d_Z_count_7 : decode b_Z_count 7 = .ok (.i2l, 1) := by decide +kernel
theorem d_Z_count_8 : decode b_Z_count 8 = .ok (.lastore, 1) := by decide +kernel
theorem d_Z_count_9 : decode b_Z_count 9 = .ok (.goto 6, 3) := by decide +kernel
theorem d_Z_count_12 : decode b_Z_count 12 = .ok (.astore_n 3, 1) := by decide +kernel
theorem d_Z_count_13 : decode b_Z_count 13 = .ok (.iconst 1, 1) := by decide +kernel
theorem d_Z_count_14 : decode b_Z_count 14 = .ok (.ireturn, 1) := by decide +kernel
theorem d_Z_count_15 : decode b_Z_count 15 = .ok (.iconst 0, 1) := by decide +kernel
theorem d_Z_count_16 : decode b_Z_count 16 = .ok (.ireturn, 1) := by decide +kernel
section TXA
variable {l : Launch}
/-- a method with handlers that always returns -/
theorem tx_metW {y : MethodName} {ws ws' : List Cond} {rm : Room} {Pc : Array Value → State → Prop} {Qc : Array Value → State → Outcome → State → Prop} {mc ms : Nat} {free : Addr → Prop} {cc : ByteArray} {maxL : Nat} {ret : Option FieldType} {hh : List (Nat × Nat × Nat × Nat)}
    (hy : plainName y.cls = true) (hw : ws = Cond.codeWith y cc maxL ret hh :: ws')
    (body : ∀ p e s m args below meth c s₁, BodyLoose p l y (headSpec ws rm) cc maxL ret e s m args below meth c s₁ → c.maxLocals = maxL → c.exceptionTable.toList.map (fun h => (h.startPc, h.endPc, h.handlerPc, h.catchType)) = hh → Pc args s →
      W p l e (headSpec ws rm).room s m args below meth c s.heap [] 0 0 (MQ below Qc args s mc ms free) (entryFrame m args maxL)) : Met l y ws rm Pc Qc mc ms free := by
  refine MetFree.of_bodyS (code := cc) (maxLocals := maxL) (ret := ret) hy ?_ ?_
  · intro args s m h hn
    obtain ⟨m9, meth, c, hn9, h1, h2, h3, h4, -, h5, h6, -⟩ := Cond.codeWith_spec (atoms_spec (ws := ws) h _ (by rw [hw]; exact List.mem_cons_self))
    cases hn.symm.trans hn9
    exact ⟨meth, c, h1, h2, h3, h4, h5, h6⟩
  · intro p e s m args below meth c s₁ B hml hP _
    have hh0 : s₁.heap = s.heap := by rw [B.state]; rfl
    have X := Stand.of_body B
    obtain ⟨m9, meth9, c9, hn9, h1, h2, -, -, htab, -⟩ := Cond.codeWith_spec (atoms_spec (ws := ws) B.pre _ (by rw [hw]; exact List.mem_cons_self))
    cases B.named.symm.trans hn9
    cases X.method.symm.trans h1
    cases h2.symm.trans X.code
    obtain ⟨t, a1, o, b1, b2, b3⟩ := body p e s m args below meth c s₁ B hml htab hP s₁ hh0 X
    exact ⟨t, o, a1, b1, b2, ⟨b3.1, b3.2⟩⟩
end TXA
section TXB
variable {p : Program} {l : Launch} {e : Env} {R : Room} {s : State} {m : MethodId} {args : Array Value} {below : List Frame} {meth : Method} {c : Code} {H : Heap} {locs : List Loc} {cells slots : Nat} {Q : State → Prop}
theorem tx_wcatch1 {pc : Nat} {ls : Array Slot} {st : List Value} {x : Addr} {own X : String} {a0 b0 hpc ix : Nat} {hh : List (Nat × Nat × Nat × Nat)} (hX : tx_X X x s H) (htab : c.exceptionTable.toList.map (fun h => (h.startPc, h.endPc, h.handlerPc, h.catchType)) = (a0, b0, hpc, ix) :: hh) (hcov : (decide (a0 ≤ pc) && decide (pc < b0)) = true) (hne : ix ≠ 0)
    (hown : s.vm.findClass own = some m.cls) (hlink : (Cond.classLink own ix X).before args s = true) (kk : W p l e R s m args below meth c H locs cells slots Q (F0 m hpc ls [.ref x])) : tx_WT p l e R s m args below meth c H locs cells slots Q (F0 m pc ls st) x := by
  intro T hT X0
  obtain ⟨ce, h1, h2, h3, h4⟩ := hX
  cases ht : c.exceptionTable.toList with
  | nil => rw [ht] at htab; cases htab
  | cons z zs =>
    rw [ht, List.map_cons] at htab
    have hz := List.head_eq_of_cons_eq htab
    obtain ⟨vm', hW, st'⟩ := tx_catch1 X0 (g := F0 m pc ls st) rfl ht (by show (decide (z.startPc ≤ pc) && decide (pc < z.endPc)) = true; rw [show z.startPc = a0 from congrArg (·.1) hz, show z.endPc = b0 from congrArg (·.2.1) hz]; exact hcov) (congrArg (·.2.2.2) hz) hne (congrArg (·.2.2.1) hz) hown hlink (a := x) (by rw [hT]; exact h1) h2 h3 h4
    obtain ⟨t, q1, q2⟩ := kk (T.setVm vm') hT (X0.noted hW)
    exact ⟨t, st' t q1, q2⟩
theorem tx_wcatch2 {pc : Nat} {ls : Array Slot} {st : List Value} {x : Addr} {own X X0s : String} {a0 b0 hp0 ix0 a1 b1 hpc ix : Nat} {hh : List (Nat × Nat × Nat × Nat)} (hX : tx_X X x s H) (htab : c.exceptionTable.toList.map (fun h => (h.startPc, h.endPc, h.handlerPc, h.catchType)) = (a0, b0, hp0, ix0) :: (a1, b1, hpc, ix) :: hh) (hcov0 : (decide (a0 ≤ pc) && decide (pc < b0)) = true) (hne0 : ix0 ≠ 0) (hcov : (decide (a1 ≤ pc) && decide (pc < b1)) = true) (hne : ix ≠ 0)
    (hown : s.vm.findClass own = some m.cls) (hlink0 : (Cond.classLink own ix0 X0s).before args s = true) (hlink : (Cond.classLink own ix X).before args s = true) {ca cb : ClassId} (hca : s.vm.findClass X = some ca) (hcb : s.vm.findClass X0s = some cb) (hnot : s.vm.assignable ca cb = false) (kk : W p l e R s m args below meth c H locs cells slots Q (F0 m hpc ls [.ref x])) : tx_WT p l e R s m args below meth c H locs cells slots Q (F0 m pc ls st) x := by
  intro T hT X0
  obtain ⟨ce, h1, h2, h3, h4⟩ := hX
  have hce : ce.cls = ca := Option.some.inj (h3.symm.trans hca)
  cases ht : c.exceptionTable.toList with
  | nil => rw [ht] at htab; cases htab
  | cons z zs =>
    cases zs with
    | nil => rw [ht] at htab; cases htab
    | cons z2 zs2 =>
      rw [ht, List.map_cons, List.map_cons] at htab
      have hz := List.head_eq_of_cons_eq htab
      have hz2 := List.head_eq_of_cons_eq (List.tail_eq_of_cons_eq htab)
      obtain ⟨vm', hW, st'⟩ := tx_catch2 X0 (g := F0 m pc ls st) rfl ht (by show (decide (z.startPc ≤ pc) && decide (pc < z.endPc)) = true; rw [show z.startPc = a0 from congrArg (·.1) hz, show z.endPc = b0 from congrArg (·.2.1) hz]; exact hcov0) (congrArg (·.2.2.2) hz) hne0 (by show (decide (z2.startPc ≤ pc) && decide (pc < z2.endPc)) = true; rw [show z2.startPc = a1 from congrArg (·.1) hz2, show z2.endPc = b1 from congrArg (·.2.1) hz2]; exact hcov) (congrArg (·.2.2.2) hz2) hne (congrArg (·.2.2.1) hz2) hown hlink0 hlink (a := x) (by rw [hT]; exact h1) h2 h3 h4 hcb (by rw [hce]; exact hnot)
      obtain ⟨t, q1, q2⟩ := kk (T.setVm vm') hT (X0.noted hW)
      exact ⟨t, st' t q1, q2⟩
variable {y : MethodName} {bytes cc : ByteArray} {maxL nL mc ms n index : Nat} {ret : Option FieldType} {hh : List (Nat × Nat × Nat × Nat)} {ws : List Cond} {rm : Room} {Pc : Array Value → State → Prop} {Qc : Array Value → State → Outcome → State → Prop} {free : Addr → Prop} {Ts : List Cond} {own : String} {As rest : List Value} {g : JFrame}
/-- a static call of a method with handlers -/
theorem tx_runSW (S : CallFix p m c cc nL s args Ts own) (hM : Met l y ws rm Pc Qc mc ms free) (hrc : rm.cells = mc) (hrs : rm.slots = ms) (hR : rm.frames + 1 ≤ R.frames ∧ 8 + (maxL + 11) + rm.locals ≤ R.locals) (hG : GoodIn Ts ws) (hcw : Cond.codeWith y bytes maxL ret hh ∈ ws) (hini : (Cond.initialized y.cls).before args s = true)
    (hd : y.cls ≠ "java/lang/invoke/MethodHandle" ∧ y.cls ≠ "java/lang/invoke/VarHandle" ∧ (parseMethodDescriptor y.desc).map (fun d => d.parameters.length) = some n) (hl : (Cond.methodLink own index y).before args s = true) (hst : (Cond.static y).before args s = true) (hp : PreS s H Pc As)
    (hg : g.method = m) (hn : As.length = n) (hsize : g.locals.size = nL) (hstack : g.stack = As.reverse ++ rest) (hW : 2 * g.monitorRoom + (rest.map fun v => v.category).sum ≤ 8) (hdg : decode cc g.pc = .ok (.invokestatic index, 3)) (hf : cells + mc ≤ R.cells ∧ slots + ms ≤ R.slots) :
    va_Run p l e R s m args below meth c H locs cells slots mc ms g rest (Qc As.toArray) (free) := by
  obtain ⟨hx, hb, hml, ho, ht⟩ := S
  have hK : Back l R p e below s args y 3 8 (PreOf R mc ms Pc) (PostOf Qc mc ms free) := va_backW (bytes := bytes) (maxL := maxL) (ret := ret) (hh := hh) hM hp.1 hrc hrs hR.1 hR.2 (pay_in ht hG) hcw (fun a' U hW => word_at hW (Or.inl (by first | rfl | simp [Cond.onTables, Cond.keeps, Cond.steady])) hini)
  intro T hT X
  obtain ⟨mk, methM, cM, hnamed, hmethM, -, -, -, -, -, -, hsigM⟩ := Cond.codeWith_spec (ht _ (hG _ hcw).1)
  have hstatic : methM.isStatic = true := Cond.static_spec hnamed hmethM hst
  obtain ⟨kP, hkP, -⟩ := className_of_methodNamed hnamed
  have hinitP : kP.init = .initialized := Cond.initialized_spec (findClass_of_methodNamed hnamed) hkP hini
  have hlen : As.length = methM.sig.parameters.length := by
    have h1 := hd.2.2
    rw [hsigM] at h1
    rw [hn]; exact (Option.some.inj h1).symm
  obtain ⟨vm₁, X₁, hstep₁⟩ := X.invokestatic hx ho hl hnamed hmethM hstatic hkP hinitP ⟨hd.1, hd.2.1⟩ (g := g) hg (argsL := As) (rest := rest) hlen hstack (by rw [hb]; exact hdg)
  obtain ⟨v, B, X', ⟨g', mk', t, L, e1, e2, hq, h1, hL, h2, h3⟩, hsteps⟩ := hK m meth c ⟨T.setVm vm₁, locs, cells, slots⟩ { g with stack := rest } (.invokestatic index) mk As.toArray X₁ hg (hsize.trans hml.symm) (by rw [hb]; exact hdg) hW (X₁.named hnamed) ⟨hf.1, hf.2, hp.2 (T.setVm vm₁) hT X₁.warmed⟩
  obtain ⟨U', l2, c2, s2⟩ := B
  dsimp only [Pt.U, Pt.locs, Pt.cells, Pt.slots] at X' e1 e2 h1 h2 h3 hsteps
  subst h1; subst h2; subst h3
  exact ⟨v, (T.setVm vm₁).calling g' mk' As.toArray, t, U', L, hT, X', hL, e1, e2, hq, fun target h => hstep₁ _ fun acts => by rw [doInvoke_state]; exact hsteps.trans h⟩
end TXB
/-- an IllegalArgumentException is no IllegalStateException -/
def tx_NC (U : State) : Prop := ∃ ca cb : ClassId, U.vm.findClass "java/lang/IllegalArgumentException" = some ca ∧ U.vm.findClass "java/lang/IllegalStateException" = some cb ∧ U.vm.assignable ca cb = false
theorem tx_NC.moved {u U : State} (hvm : u.vm.Alike U.vm) (h : tx_NC u) : tx_NC U := by
  obtain ⟨a, b, h1, h2, h3⟩ := h
  exact ⟨a, b, by rw [hvm.findClass]; exact h1, by rw [hvm.findClass]; exact h2, by rw [hvm.assignable]; exact h3⟩
def tx_H (A : Nat → Prop) (U : State) : Prop := tx_G A U ∧ tx_NC U
theorem tx_H.to {A B : Nat → Prop} {s U : State} (h : tx_H A s) (hW : s.WarmedH U.vm) (hq : ∀ a : Nat, a < s.heap.size → ¬ A a → U.heap[a]? = s.heap[a]?) (hAB : ∀ q, B q → A q) : tx_H B U := ⟨h.1.to hW hq hAB, h.2.moved hW.alike⟩
theorem tx_H.same {A : Nat → Prop} {u U : State} (hv : U.vm = u.vm) (hh : U.heap = u.heap) (h : tx_H A u) : tx_H A U := ⟨h.1.same hv hh, h.2.moved (by rw [hv]; exact Vm.Alike.refl _)⟩
theorem tx_in1 : vp_in 0 1 := by unfold vp_in; decide +kernel
set_option maxHeartbeats 4000000 in
set_option maxRecDepth 100000 in
theorem c_Z_operator (l : Launch) (hlf : l.flags = flags0) (dC : Nat → ClassId) (dI : Nat → Nat → Nat) (sz : Nat) (x g kq : Nat) (cA : ClassId) (zx : Nat → Value) (zg : Nat → Value) (f : Nat → Int32) (hf : ∀ j, j < 32 → f j = -1) (n k : Int32) (o : Nat) (cO : ClassId) (fo : Nat → Int64) : Met l y_Z_operator ws_Z_operator ({ frames := 7, cells := 1, slots := 6, locals := 112 }) (va_Pc [Value.ref x, Value.int n, Value.int k, Value.ref o] (fun U => U.heap.size = sz ∧ va_P (dC, dI) kcl [(x, .inr (0, [Value.ref g, (zx 1), (zx 2), (zx 3)])), (g, .inr (1, [Value.ref kq, Value.int 0, (zg 2), (zg 3), (zg 4), (zg 5), (zg 6), (zg 7), (zg 8), (zg 9), (zg 10), (zg 11), (zg 12), (zg 13)])), (kq, .inl (cA, 32, .inl f)), (o, .inl (cO, 1, .inr (.inl fo)))] U.heap ∧ va_K (dC, dI) kcl [(cA, .int), (cO, .long)] U ∧ va_D (fun _ => True) [(x, .inr (0, [Value.ref g, (zx 1), (zx 2), (zx 3)])), (g, .inr (1, [Value.ref kq, Value.int 0, (zg 2), (zg 3), (zg 4), (zg 5), (zg 6), (zg 7), (zg 8), (zg 9), (zg 10), (zg 11), (zg 12), (zg 13)])), (kq, .inl (cA, 32, .inl f)), (o, .inl (cO, 1, .inr (.inl fo)))] ∧ tx_H (va_A [(x, .inr (0, [Value.ref g, (zx 1), (zx 2), (zx 3)])), (g, .inr (1, [Value.ref kq, Value.int 0, (zg 2), (zg 3), (zg 4), (zg 5), (zg 6), (zg 7), (zg 8), (zg 9), (zg 10), (zg 11), (zg 12), (zg 13)])), (kq, .inl (cA, 32, .inl f)), (o, .inl (cO, 1, .inr (.inl fo)))] sz) U)) (va_Qi (fun (r : Int32) (u : Int64) => (((0 ≤ n ∧ n < 32) ∧ (0 ≤ k ∧ k < 3)) ∧ r = 0 ∧ u = (1 : Int32).toInt64) ∨ (¬ ((0 ≤ n ∧ n < 32) ∧ (0 ≤ k ∧ k < 3)) ∧ r = 1)) (fun (u : Int64) (t : State) => ∃ fo2 : Nat → Int64, fo2 0 = u ∧ va_P (dC, dI) kcl [(o, .inl (cO, 1, .inr (.inl fo2)))] t.heap ∧ va_K (dC, dI) kcl [(cO, .long)] t ∧ va_D (va_A [(x, .inr (0, [Value.ref g, (zx 1), (zx 2), (zx 3)])), (g, .inr (1, [Value.ref kq, Value.int 0, (zg 2), (zg 3), (zg 4), (zg 5), (zg 6), (zg 7), (zg 8), (zg 9), (zg 10), (zg 11), (zg 12), (zg 13)])), (kq, .inl (cA, 32, .inl f)), (o, .inl (cO, 1, .inr (.inl fo)))] sz) [(o, .inl (cO, 1, .inr (.inl fo2)))]) (va_A [(x, .inr (0, [Value.ref g, (zx 1), (zx 2), (zx 3)])), (g, .inr (1, [Value.ref kq, Value.int 0, (zg 2), (zg 3), (zg 4), (zg 5), (zg 6), (zg 7), (zg 8), (zg 9), (zg 10), (zg 11), (zg 12), (zg 13)])), (kq, .inl (cA, 32, .inl f)), (o, .inl (cO, 1, .inr (.inl fo)))] sz)) 1 6 (va_A [(x, .inr (0, [Value.ref g, (zx 1), (zx 2), (zx 3)])), (g, .inr (1, [Value.ref kq, Value.int 0, (zg 2), (zg 3), (zg 4), (zg 5), (zg 6), (zg 7), (zg 8), (zg 9), (zg 10), (zg 11), (zg 12), (zg 13)])), (kq, .inl (cA, 32, .inl f)), (o, .inl (cO, 1, .inr (.inl fo)))] sz) := by
  refine tx_metW (cc := b_Z_operator) (maxL := 5) (ret := (Option.some Jvm.ClassFile.FieldType.int)) (by decide) rfl ?_
  intro p e s m args below meth c s₁ B hml htab hv
  obtain ⟨rfl, hsz, hP, hK, hD0, hG⟩ := hv
  have hx := B.exec
  have hb := B.bytes
  have hr := B.returns
  have hlocks := B.notSynchronized
  have hg : ∀ w ∈ gw, w.before _ s = true := fun w h => atoms_spec (ws := ws_Z_operator) B.pre w (List.mem_cons_of_mem _ h)
  have hown : s.vm.findClass "TreeMatcherLaw" = some m.cls := findClass_of_methodNamed B.named
  subst hsz
  have hD := hD0.self (sz := s.heap.size)
  have hA : ∀ q : Nat, s.heap.size ≤ q → va_A [(x, .inr (0, [Value.ref g, (zx 1), (zx 2), (zx 3)])), (g, .inr (1, [Value.ref kq, Value.int 0, (zg 2), (zg 3), (zg 4), (zg 5), (zg 6), (zg 7), (zg 8), (zg 9), (zg 10), (zg 11), (zg 12), (zg 13)])), (kq, .inl (cA, 32, .inl f)), (o, .inl (cO, 1, .inr (.inl fo)))] s.heap.size q := fun q h => Or.inr h
  generalize hAe : va_A [(x, .inr (0, [Value.ref g, (zx 1), (zx 2), (zx 3)])), (g, .inr (1, [Value.ref kq, Value.int 0, (zg 2), (zg 3), (zg 4), (zg 5), (zg 6), (zg 7), (zg 8), (zg 9), (zg 10), (zg 11), (zg 12), (zg 13)])), (kq, .inl (cA, 32, .inl f)), (o, .inl (cO, 1, .inr (.inl fo)))] s.heap.size = A at hD hG hA ⊢
  have hN : tx_N s := hG.1.1
  have hS : va_S A s.heap s.heap [] := va_S.rf
  have hl := lv_entry ([Value.ref x, Value.int n, Value.int k, Value.ref o] : List Value) (n := 5) (Nat.le_of_ble_eq_true rfl)
  rw [lg_entry_eq]
  generalize (lg_sl ([Value.ref x, Value.int n, Value.int k, Value.ref o] : List Value) ++ List.replicate (5 - (lg_sl ([Value.ref x, Value.int n, Value.int k, Value.ref o] : List Value)).length) Slot.unset).toArray = ls at hl ⊢
  have hl : lv_has ls 5 [(0, Value.ref x), (1, Value.int n), (2, Value.int k), (3, Value.ref o)] := hl
  refine lv_aload_n hx hb d_Z_operator_0 rfl (lv_at hl 3 rfl) ?_
  refine lv_iconst (v := 0) hx hb d_Z_operator_1 (by decide) ?_
  refine lv_aload_n hx hb d_Z_operator_2 rfl (lv_at hl 0 rfl) ?_
  refine lv_iload_n hx hb d_Z_operator_3 rfl (lv_at hl 1 rfl) ?_
  refine lv_iload_n hx hb d_Z_operator_4 rfl (lv_at hl 2 rfl) ?_
  have hPc := hP.sub (ws' := [(x, .inr (0, [Value.ref g, (zx 1), (zx 2), (zx 3)])), (g, .inr (1, [Value.ref kq, Value.int 0, (zg 2), (zg 3), (zg 4), (zg 5), (zg 6), (zg 7), (zg 8), (zg 9), (zg 10), (zg 11), (zg 12), (zg 13)])), (kq, .inl (cA, 32, .inl f))]) [0, 1, 2] rfl
  have hKc := hK.sub (tys' := [(cA, .int)]) [0] rfl
  have hDc := hD.sub (ws' := [(x, .inr (0, [Value.ref g, (zx 1), (zx 2), (zx 3)])), (g, .inr (1, [Value.ref kq, Value.int 0, (zg 2), (zg 3), (zg 4), (zg 5), (zg 6), (zg 7), (zg 8), (zg 9), (zg 10), (zg 11), (zg 12), (zg 13)])), (kq, .inl (cA, 32, .inl f))]) [0, 1, 2] (by decide) rfl
  have hFc := va_free (wc := [(x, .inr (0, [Value.ref g, (zx 1), (zx 2), (zx 3)])), (g, .inr (1, [Value.ref kq, Value.int 0, (zg 2), (zg 3), (zg 4), (zg 5), (zg 6), (zg 7), (zg 8), (zg 9), (zg 10), (zg 11), (zg 12), (zg 13)])), (kq, .inl (cA, 32, .inl f))]) hD hS hA [0, 1, 2] rfl
  refine tx_call (tx_runV (As := [Value.int n, Value.int k]) (rest := [Value.int 0, Value.ref o]) ⟨hx, hb, hml, hown, hg⟩ (c_M_operator l hlf dC dI s.heap.size x g kq cA zx zg f hf n k) (cwV 2 hg (gw_giV cin_M_operator tw_317 tw_318 tw_319 tw_1) rfl rfl rfl (by decide +kernel) ⟨Nat.le_of_ble_eq_true rfl, Nat.le_of_ble_eq_true rfl⟩) ⟨fun a U g mk q => by obtain ⟨q0, q1, qP, qK, qD, qG⟩ := q; exact ⟨q0, q1, qP, va_K.moved (u := U) (U := U.calling g mk a) (Vm.Alike.refl U.vm) qK, qD, tx_G.same (U := U.calling g mk a) rfl rfl qG⟩, va_recv hKc hPc (ci := 0) (q0 := 0) rfl rfl, fun U hU hW => ⟨rfl, by rw [hU], by rw [hU]; exact hPc, va_K.moved hW.alike hKc, hDc.weaken (fun _ _ _ _ => trivial), hG.1.to hW (fun a h1 h2 => (congrArg (fun (h : Heap) => h[a]?) hU).trans (hS.2.1 a h1 h2)) hFc⟩⟩ rfl rfl hl.1 rfl (lv_room (Nat.le_of_ble_eq_true rfl)) d_Z_operator_5 ⟨Nat.le_of_ble_eq_true rfl, Nat.le_of_ble_eq_true rfl⟩) hS (fun q _ h => hFc q h) hFc (fun v_k_1 H_2 l_k_1 hv_k_1 hz1 hk1 hS => ?_) (fun x_k_1 X_k_1 H_2 l_k_1 hX_k_1 hx_k_1 hz1 hk1 hS => ?_)
  · obtain ⟨hok, rfl⟩ := hv_k_1
    obtain ⟨hP, hD⟩ := tx_rest (wc := [(x, .inr (0, [Value.ref g, (zx 1), (zx 2), (zx 3)])), (g, .inr (1, [Value.ref kq, Value.int 0, (zg 2), (zg 3), (zg 4), (zg 5), (zg 6), (zg 7), (zg 8), (zg 9), (zg 10), (zg 11), (zg 12), (zg 13)])), (kq, .inl (cA, 32, .inl f))]) (wr := [(o, .inl (cO, 1, .inr (.inl fo)))]) hP hD [0, 1, 2] [3] rfl rfl (by decide) (by decide) hk1 hFc
    have hK := hK.sub (tys' := [(cO, .long)]) [1] rfl
    refine W.eq (g2 := F0 m 8 ls [Value.int 1, Value.int 0, Value.ref o]) rfl ?_
    refine lv_i2l hx hb d_Z_operator_8 rfl ?_
    refine va_last hx hb hK hP hD hS 0 0 rfl rfl tx_in1 d_Z_operator_9 (fun H_3 lo_4 hP hD hS => ?_)
    have hP : va_P (dC, dI) kcl [(o, .inl (cO, 1, .inr (.inl (vp_updL fo (0 : Int32).toNatClampNeg (1).toInt64))))] H_3 := hP
    have hD : va_D A [(o, .inl (cO, 1, .inr (.inl (vp_updL fo (0 : Int32).toNatClampNeg (1).toInt64))))] := hD
    refine lv_goto (tgt := 21) hx hb d_Z_operator_10 (by decide) ?_
    refine lv_iconst (v := 0) hx hb d_Z_operator_21 (by decide) ?_
    have hP9 := hP.sub (ws' := [(o, .inl (cO, 1, .inr (.inl (vp_updL fo (0 : Int32).toNatClampNeg (1).toInt64))))]) [0] rfl
    have hD9 := hD.sub (ws' := [(o, .inl (cO, 1, .inr (.inl (vp_updL fo (0 : Int32).toNatClampNeg (1).toInt64))))]) [0] (by decide) rfl
    have hK9 := hK.sub (tys' := [(cO, .long)]) [0] rfl
    exact W.iret (v := 0) hx hb hr (fun t ht hW => ⟨⟨0, _, rfl, Or.inl ⟨hok, rfl, rfl⟩, ⟨_, rfl, by rw [ht]; exact hP9, va_K.moved hW.alike hK9, hD9⟩⟩, hS.F ht⟩) hS.2.2 d_Z_operator_22
  · obtain ⟨hP, hD⟩ := tx_rest (wc := [(x, .inr (0, [Value.ref g, (zx 1), (zx 2), (zx 3)])), (g, .inr (1, [Value.ref kq, Value.int 0, (zg 2), (zg 3), (zg 4), (zg 5), (zg 6), (zg 7), (zg 8), (zg 9), (zg 10), (zg 11), (zg 12), (zg 13)])), (kq, .inl (cA, 32, .inl f))]) (wr := [(o, .inl (cO, 1, .inr (.inl fo)))]) hP hD [0, 1, 2] [3] rfl rfl (by decide) (by decide) hk1 hFc
    have hK := hK.sub (tys' := [(cO, .long)]) [1] rfl
    obtain rfl : X_k_1 = "java/lang/IllegalArgumentException" := hX_k_1.2
    refine tx_wcatch1 hx_k_1 htab (by decide) (by decide) hown (hg _ tw_315) ?_
    refine lv_astore (lv' := [(4, Value.ref x_k_1), (0, Value.ref x), (1, Value.int n), (2, Value.int k), (3, Value.ref o)]) hx hb d_Z_operator_13 hl (by decide) rfl (fun ls hl => ?_)
    refine lv_iconst (v := 1) hx hb d_Z_operator_15 (by decide) ?_
    have hP9 := hP.sub (ws' := [(o, .inl (cO, 1, .inr (.inl fo)))]) [0] rfl
    have hD9 := hD.sub (ws' := [(o, .inl (cO, 1, .inr (.inl fo)))]) [0] (by decide) rfl
    have hK9 := hK.sub (tys' := [(cO, .long)]) [0] rfl
    exact W.iret (v := 1) hx hb hr (fun t ht hW => ⟨⟨1, _, rfl, Or.inr ⟨hX_k_1.1, rfl⟩, ⟨_, rfl, by rw [ht]; exact hP9, va_K.moved hW.alike hK9, hD9⟩⟩, hS.F ht⟩) hS.2.2 d_Z_operator_16
set_option maxHeartbeats 4000000 in
set_option maxRecDepth 100000 in
theorem c_Z_element (l : Launch) (hlf : l.flags = flags0) (dC : Nat → ClassId) (dI : Nat → Nat → Nat) (sz : Nat) (x g hq : Nat) (cA : ClassId) (zx : Nat → Value) (zg : Nat → Value) (f : Nat → Int32) (n : Int32) (o : Nat) (cO : ClassId) (fo : Nat → Int64) : Met l y_Z_element ws_Z_element ({ frames := 7, cells := 1, slots := 6, locals := 111 }) (va_Pc [Value.ref x, Value.int n, Value.ref o] (fun U => U.heap.size = sz ∧ va_P (dC, dI) kcl [(x, .inr (0, [Value.ref g, (zx 1), (zx 2), (zx 3)])), (g, .inr (1, [(zg 0), (zg 1), Value.ref hq, Value.int 0, (zg 4), (zg 5), (zg 6), (zg 7), (zg 8), (zg 9), (zg 10), (zg 11), (zg 12), (zg 13)])), (hq, .inl (cA, 12, .inl f)), (o, .inl (cO, 1, .inr (.inl fo)))] U.heap ∧ va_K (dC, dI) kcl [(cA, .int), (cO, .long)] U ∧ va_D (fun _ => True) [(x, .inr (0, [Value.ref g, (zx 1), (zx 2), (zx 3)])), (g, .inr (1, [(zg 0), (zg 1), Value.ref hq, Value.int 0, (zg 4), (zg 5), (zg 6), (zg 7), (zg 8), (zg 9), (zg 10), (zg 11), (zg 12), (zg 13)])), (hq, .inl (cA, 12, .inl f)), (o, .inl (cO, 1, .inr (.inl fo)))] ∧ tx_H (va_A [(x, .inr (0, [Value.ref g, (zx 1), (zx 2), (zx 3)])), (g, .inr (1, [(zg 0), (zg 1), Value.ref hq, Value.int 0, (zg 4), (zg 5), (zg 6), (zg 7), (zg 8), (zg 9), (zg 10), (zg 11), (zg 12), (zg 13)])), (hq, .inl (cA, 12, .inl f)), (o, .inl (cO, 1, .inr (.inl fo)))] sz) U)) (va_Qi (fun (r : Int32) (u : Int64) => ((0 ≤ n ∧ n < 48) ∧ r = 0 ∧ u = (1 : Int32).toInt64) ∨ (¬ (0 ≤ n ∧ n < 48) ∧ r = 1)) (fun (u : Int64) (t : State) => ∃ fo2 : Nat → Int64, fo2 0 = u ∧ va_P (dC, dI) kcl [(o, .inl (cO, 1, .inr (.inl fo2)))] t.heap ∧ va_K (dC, dI) kcl [(cO, .long)] t ∧ va_D (va_A [(x, .inr (0, [Value.ref g, (zx 1), (zx 2), (zx 3)])), (g, .inr (1, [(zg 0), (zg 1), Value.ref hq, Value.int 0, (zg 4), (zg 5), (zg 6), (zg 7), (zg 8), (zg 9), (zg 10), (zg 11), (zg 12), (zg 13)])), (hq, .inl (cA, 12, .inl f)), (o, .inl (cO, 1, .inr (.inl fo)))] sz) [(o, .inl (cO, 1, .inr (.inl fo2)))]) (va_A [(x, .inr (0, [Value.ref g, (zx 1), (zx 2), (zx 3)])), (g, .inr (1, [(zg 0), (zg 1), Value.ref hq, Value.int 0, (zg 4), (zg 5), (zg 6), (zg 7), (zg 8), (zg 9), (zg 10), (zg 11), (zg 12), (zg 13)])), (hq, .inl (cA, 12, .inl f)), (o, .inl (cO, 1, .inr (.inl fo)))] sz)) 1 6 (va_A [(x, .inr (0, [Value.ref g, (zx 1), (zx 2), (zx 3)])), (g, .inr (1, [(zg 0), (zg 1), Value.ref hq, Value.int 0, (zg 4), (zg 5), (zg 6), (zg 7), (zg 8), (zg 9), (zg 10), (zg 11), (zg 12), (zg 13)])), (hq, .inl (cA, 12, .inl f)), (o, .inl (cO, 1, .inr (.inl fo)))] sz) := by
  refine tx_metW (cc := b_Z_element) (maxL := 4) (ret := (Option.some Jvm.ClassFile.FieldType.int)) (by decide) rfl ?_
  intro p e s m args below meth c s₁ B hml htab hv
  obtain ⟨rfl, hsz, hP, hK, hD0, hG⟩ := hv
  have hx := B.exec
  have hb := B.bytes
  have hr := B.returns
  have hlocks := B.notSynchronized
  have hg : ∀ w ∈ gw, w.before _ s = true := fun w h => atoms_spec (ws := ws_Z_element) B.pre w (List.mem_cons_of_mem _ h)
  have hown : s.vm.findClass "TreeMatcherLaw" = some m.cls := findClass_of_methodNamed B.named
  subst hsz
  have hD := hD0.self (sz := s.heap.size)
  have hA : ∀ q : Nat, s.heap.size ≤ q → va_A [(x, .inr (0, [Value.ref g, (zx 1), (zx 2), (zx 3)])), (g, .inr (1, [(zg 0), (zg 1), Value.ref hq, Value.int 0, (zg 4), (zg 5), (zg 6), (zg 7), (zg 8), (zg 9), (zg 10), (zg 11), (zg 12), (zg 13)])), (hq, .inl (cA, 12, .inl f)), (o, .inl (cO, 1, .inr (.inl fo)))] s.heap.size q := fun q h => Or.inr h
  generalize hAe : va_A [(x, .inr (0, [Value.ref g, (zx 1), (zx 2), (zx 3)])), (g, .inr (1, [(zg 0), (zg 1), Value.ref hq, Value.int 0, (zg 4), (zg 5), (zg 6), (zg 7), (zg 8), (zg 9), (zg 10), (zg 11), (zg 12), (zg 13)])), (hq, .inl (cA, 12, .inl f)), (o, .inl (cO, 1, .inr (.inl fo)))] s.heap.size = A at hD hG hA ⊢
  have hN : tx_N s := hG.1.1
  have hS : va_S A s.heap s.heap [] := va_S.rf
  have hl := lv_entry ([Value.ref x, Value.int n, Value.ref o] : List Value) (n := 4) (Nat.le_of_ble_eq_true rfl)
  rw [lg_entry_eq]
  generalize (lg_sl ([Value.ref x, Value.int n, Value.ref o] : List Value) ++ List.replicate (4 - (lg_sl ([Value.ref x, Value.int n, Value.ref o] : List Value)).length) Slot.unset).toArray = ls at hl ⊢
  have hl : lv_has ls 4 [(0, Value.ref x), (1, Value.int n), (2, Value.ref o)] := hl
  refine lv_aload_n hx hb d_Z_element_0 rfl (lv_at hl 2 rfl) ?_
  refine lv_iconst (v := 0) hx hb d_Z_element_1 (by decide) ?_
  refine lv_aload_n hx hb d_Z_element_2 rfl (lv_at hl 0 rfl) ?_
  refine lv_iload_n hx hb d_Z_element_3 rfl (lv_at hl 1 rfl) ?_
  have hPc := hP.sub (ws' := [(x, .inr (0, [Value.ref g, (zx 1), (zx 2), (zx 3)])), (g, .inr (1, [(zg 0), (zg 1), Value.ref hq, Value.int 0, (zg 4), (zg 5), (zg 6), (zg 7), (zg 8), (zg 9), (zg 10), (zg 11), (zg 12), (zg 13)])), (hq, .inl (cA, 12, .inl f))]) [0, 1, 2] rfl
  have hKc := hK.sub (tys' := [(cA, .int)]) [0] rfl
  have hDc := hD.sub (ws' := [(x, .inr (0, [Value.ref g, (zx 1), (zx 2), (zx 3)])), (g, .inr (1, [(zg 0), (zg 1), Value.ref hq, Value.int 0, (zg 4), (zg 5), (zg 6), (zg 7), (zg 8), (zg 9), (zg 10), (zg 11), (zg 12), (zg 13)])), (hq, .inl (cA, 12, .inl f))]) [0, 1, 2] (by decide) rfl
  have hFc := va_free (wc := [(x, .inr (0, [Value.ref g, (zx 1), (zx 2), (zx 3)])), (g, .inr (1, [(zg 0), (zg 1), Value.ref hq, Value.int 0, (zg 4), (zg 5), (zg 6), (zg 7), (zg 8), (zg 9), (zg 10), (zg 11), (zg 12), (zg 13)])), (hq, .inl (cA, 12, .inl f))]) hD hS hA [0, 1, 2] rfl
  refine tx_call (tx_runV (As := [Value.int n]) (rest := [Value.int 0, Value.ref o]) ⟨hx, hb, hml, hown, hg⟩ (c_M_element l hlf dC dI s.heap.size x g hq cA zx zg f n) (cwV 1 hg (gw_giV cin_M_element tw_420 tw_421 tw_422 tw_1) rfl rfl rfl (by decide +kernel) ⟨Nat.le_of_ble_eq_true rfl, Nat.le_of_ble_eq_true rfl⟩) ⟨fun a U g mk q => by obtain ⟨q0, q1, qP, qK, qD, qG⟩ := q; exact ⟨q0, q1, qP, va_K.moved (u := U) (U := U.calling g mk a) (Vm.Alike.refl U.vm) qK, qD, tx_G.same (U := U.calling g mk a) rfl rfl qG⟩, va_recv hKc hPc (ci := 0) (q0 := 0) rfl rfl, fun U hU hW => ⟨rfl, by rw [hU], by rw [hU]; exact hPc, va_K.moved hW.alike hKc, hDc.weaken (fun _ _ _ _ => trivial), hG.1.to hW (fun a h1 h2 => (congrArg (fun (h : Heap) => h[a]?) hU).trans (hS.2.1 a h1 h2)) hFc⟩⟩ rfl rfl hl.1 rfl (lv_room (Nat.le_of_ble_eq_true rfl)) d_Z_element_4 ⟨Nat.le_of_ble_eq_true rfl, Nat.le_of_ble_eq_true rfl⟩) hS (fun q _ h => hFc q h) hFc (fun v_k_1 H_2 l_k_1 hv_k_1 hz1 hk1 hS => ?_) (fun x_k_1 X_k_1 H_2 l_k_1 hX_k_1 hx_k_1 hz1 hk1 hS => ?_)
  · obtain ⟨hok, rfl⟩ := hv_k_1
    obtain ⟨hP, hD⟩ := tx_rest (wc := [(x, .inr (0, [Value.ref g, (zx 1), (zx 2), (zx 3)])), (g, .inr (1, [(zg 0), (zg 1), Value.ref hq, Value.int 0, (zg 4), (zg 5), (zg 6), (zg 7), (zg 8), (zg 9), (zg 10), (zg 11), (zg 12), (zg 13)])), (hq, .inl (cA, 12, .inl f))]) (wr := [(o, .inl (cO, 1, .inr (.inl fo)))]) hP hD [0, 1, 2] [3] rfl rfl (by decide) (by decide) hk1 hFc
    have hK := hK.sub (tys' := [(cO, .long)]) [1] rfl
    refine W.eq (g2 := F0 m 7 ls [Value.int 1, Value.int 0, Value.ref o]) rfl ?_
    refine lv_i2l hx hb d_Z_element_7 rfl ?_
    refine va_last hx hb hK hP hD hS 0 0 rfl rfl tx_in1 d_Z_element_8 (fun H_3 lo_4 hP hD hS => ?_)
    have hP : va_P (dC, dI) kcl [(o, .inl (cO, 1, .inr (.inl (vp_updL fo (0 : Int32).toNatClampNeg (1).toInt64))))] H_3 := hP
    have hD : va_D A [(o, .inl (cO, 1, .inr (.inl (vp_updL fo (0 : Int32).toNatClampNeg (1).toInt64))))] := hD
    refine lv_goto (tgt := 18) hx hb d_Z_element_9 (by decide) ?_
    refine lv_iconst (v := 0) hx hb d_Z_element_18 (by decide) ?_
    have hP9 := hP.sub (ws' := [(o, .inl (cO, 1, .inr (.inl (vp_updL fo (0 : Int32).toNatClampNeg (1).toInt64))))]) [0] rfl
    have hD9 := hD.sub (ws' := [(o, .inl (cO, 1, .inr (.inl (vp_updL fo (0 : Int32).toNatClampNeg (1).toInt64))))]) [0] (by decide) rfl
    have hK9 := hK.sub (tys' := [(cO, .long)]) [0] rfl
    exact W.iret (v := 0) hx hb hr (fun t ht hW => ⟨⟨0, _, rfl, Or.inl ⟨hok, rfl, rfl⟩, ⟨_, rfl, by rw [ht]; exact hP9, va_K.moved hW.alike hK9, hD9⟩⟩, hS.F ht⟩) hS.2.2 d_Z_element_19
  · obtain ⟨hP, hD⟩ := tx_rest (wc := [(x, .inr (0, [Value.ref g, (zx 1), (zx 2), (zx 3)])), (g, .inr (1, [(zg 0), (zg 1), Value.ref hq, Value.int 0, (zg 4), (zg 5), (zg 6), (zg 7), (zg 8), (zg 9), (zg 10), (zg 11), (zg 12), (zg 13)])), (hq, .inl (cA, 12, .inl f))]) (wr := [(o, .inl (cO, 1, .inr (.inl fo)))]) hP hD [0, 1, 2] [3] rfl rfl (by decide) (by decide) hk1 hFc
    have hK := hK.sub (tys' := [(cO, .long)]) [1] rfl
    obtain rfl : X_k_1 = "java/lang/IllegalArgumentException" := hX_k_1.2
    refine tx_wcatch1 hx_k_1 htab (by decide) (by decide) hown (hg _ tw_315) ?_
    refine lv_astore_n (lv' := [(3, Value.ref x_k_1), (0, Value.ref x), (1, Value.int n), (2, Value.ref o)]) hx hb d_Z_element_12 rfl hl (by decide) rfl (fun ls hl => ?_)
    refine lv_iconst (v := 1) hx hb d_Z_element_13 (by decide) ?_
    have hP9 := hP.sub (ws' := [(o, .inl (cO, 1, .inr (.inl fo)))]) [0] rfl
    have hD9 := hD.sub (ws' := [(o, .inl (cO, 1, .inr (.inl fo)))]) [0] (by decide) rfl
    have hK9 := hK.sub (tys' := [(cO, .long)]) [0] rfl
    exact W.iret (v := 1) hx hb hr (fun t ht hW => ⟨⟨1, _, rfl, Or.inr ⟨hX_k_1.1, rfl⟩, ⟨_, rfl, by rw [ht]; exact hP9, va_K.moved hW.alike hK9, hD9⟩⟩, hS.F ht⟩) hS.2.2 d_Z_element_14
set_option maxHeartbeats 4000000 in
set_option maxRecDepth 100000 in
theorem c_Z_rule (l : Launch) (hlf : l.flags = flags0) (dC : Nat → ClassId) (dI : Nat → Nat → Nat) (sz : Nat) (x g f : Nat) (zx : Nat → Value) (zg : Nat → Value) (zf : Nat → Value) (n k lo hi : Int32) (o : Nat) (cO : ClassId) (fo : Nat → Int64) : Met l y_Z_rule ws_Z_rule ({ frames := 7, cells := 1, slots := 6, locals := 115 }) (va_Pc [Value.ref x, Value.int n, Value.int k, Value.int lo, Value.int hi, Value.ref o] (fun U => U.heap.size = sz ∧ va_P (dC, dI) kcl [(x, .inr (0, [Value.ref g, Value.ref f, (zx 2), (zx 3)])), (g, .inr (1, [(zg 0), (zg 1), (zg 2), Value.int 0, (zg 4), (zg 5), (zg 6), (zg 7), (zg 8), (zg 9), (zg 10), Value.int 0, (zg 12), (zg 13)])), (f, .inr (2, [(zf 0), (zf 1), (zf 2), (zf 3), (zf 4), (zf 5), (zf 6), (zf 7), (zf 8), Value.int 0, (zf 10), (zf 11), (zf 12), (zf 13)])), (o, .inl (cO, 1, .inr (.inl fo)))] U.heap ∧ va_K (dC, dI) kcl [(cO, .long)] U ∧ va_D (fun _ => True) [(x, .inr (0, [Value.ref g, Value.ref f, (zx 2), (zx 3)])), (g, .inr (1, [(zg 0), (zg 1), (zg 2), Value.int 0, (zg 4), (zg 5), (zg 6), (zg 7), (zg 8), (zg 9), (zg 10), Value.int 0, (zg 12), (zg 13)])), (f, .inr (2, [(zf 0), (zf 1), (zf 2), (zf 3), (zf 4), (zf 5), (zf 6), (zf 7), (zf 8), Value.int 0, (zf 10), (zf 11), (zf 12), (zf 13)])), (o, .inl (cO, 1, .inr (.inl fo)))] ∧ tx_H (va_A [(x, .inr (0, [Value.ref g, Value.ref f, (zx 2), (zx 3)])), (g, .inr (1, [(zg 0), (zg 1), (zg 2), Value.int 0, (zg 4), (zg 5), (zg 6), (zg 7), (zg 8), (zg 9), (zg 10), Value.int 0, (zg 12), (zg 13)])), (f, .inr (2, [(zf 0), (zf 1), (zf 2), (zf 3), (zf 4), (zf 5), (zf 6), (zf 7), (zf 8), Value.int 0, (zf 10), (zf 11), (zf 12), (zf 13)])), (o, .inl (cO, 1, .inr (.inl fo)))] sz) U)) (va_Qi (fun (r : Int32) (_ : Int64) => r = 2) (fun (u : Int64) (t : State) => ∃ fo2 : Nat → Int64, fo2 0 = u ∧ va_P (dC, dI) kcl [(o, .inl (cO, 1, .inr (.inl fo2)))] t.heap ∧ va_K (dC, dI) kcl [(cO, .long)] t ∧ va_D (va_A [(x, .inr (0, [Value.ref g, Value.ref f, (zx 2), (zx 3)])), (g, .inr (1, [(zg 0), (zg 1), (zg 2), Value.int 0, (zg 4), (zg 5), (zg 6), (zg 7), (zg 8), (zg 9), (zg 10), Value.int 0, (zg 12), (zg 13)])), (f, .inr (2, [(zf 0), (zf 1), (zf 2), (zf 3), (zf 4), (zf 5), (zf 6), (zf 7), (zf 8), Value.int 0, (zf 10), (zf 11), (zf 12), (zf 13)])), (o, .inl (cO, 1, .inr (.inl fo)))] sz) [(o, .inl (cO, 1, .inr (.inl fo2)))]) (va_A [(x, .inr (0, [Value.ref g, Value.ref f, (zx 2), (zx 3)])), (g, .inr (1, [(zg 0), (zg 1), (zg 2), Value.int 0, (zg 4), (zg 5), (zg 6), (zg 7), (zg 8), (zg 9), (zg 10), Value.int 0, (zg 12), (zg 13)])), (f, .inr (2, [(zf 0), (zf 1), (zf 2), (zf 3), (zf 4), (zf 5), (zf 6), (zf 7), (zf 8), Value.int 0, (zf 10), (zf 11), (zf 12), (zf 13)])), (o, .inl (cO, 1, .inr (.inl fo)))] sz)) 1 6 (va_A [(x, .inr (0, [Value.ref g, Value.ref f, (zx 2), (zx 3)])), (g, .inr (1, [(zg 0), (zg 1), (zg 2), Value.int 0, (zg 4), (zg 5), (zg 6), (zg 7), (zg 8), (zg 9), (zg 10), Value.int 0, (zg 12), (zg 13)])), (f, .inr (2, [(zf 0), (zf 1), (zf 2), (zf 3), (zf 4), (zf 5), (zf 6), (zf 7), (zf 8), Value.int 0, (zf 10), (zf 11), (zf 12), (zf 13)])), (o, .inl (cO, 1, .inr (.inl fo)))] sz) := by
  refine tx_metW (cc := b_Z_rule) (maxL := 7) (ret := (Option.some Jvm.ClassFile.FieldType.int)) (by decide) rfl ?_
  intro p e s m args below meth c s₁ B hml htab hv
  obtain ⟨rfl, hsz, hP, hK, hD0, hG⟩ := hv
  have hx := B.exec
  have hb := B.bytes
  have hr := B.returns
  have hlocks := B.notSynchronized
  have hg : ∀ w ∈ gw, w.before _ s = true := fun w h => atoms_spec (ws := ws_Z_rule) B.pre w (List.mem_cons_of_mem _ h)
  have hown : s.vm.findClass "TreeMatcherLaw" = some m.cls := findClass_of_methodNamed B.named
  subst hsz
  have hD := hD0.self (sz := s.heap.size)
  have hA : ∀ q : Nat, s.heap.size ≤ q → va_A [(x, .inr (0, [Value.ref g, Value.ref f, (zx 2), (zx 3)])), (g, .inr (1, [(zg 0), (zg 1), (zg 2), Value.int 0, (zg 4), (zg 5), (zg 6), (zg 7), (zg 8), (zg 9), (zg 10), Value.int 0, (zg 12), (zg 13)])), (f, .inr (2, [(zf 0), (zf 1), (zf 2), (zf 3), (zf 4), (zf 5), (zf 6), (zf 7), (zf 8), Value.int 0, (zf 10), (zf 11), (zf 12), (zf 13)])), (o, .inl (cO, 1, .inr (.inl fo)))] s.heap.size q := fun q h => Or.inr h
  generalize hAe : va_A [(x, .inr (0, [Value.ref g, Value.ref f, (zx 2), (zx 3)])), (g, .inr (1, [(zg 0), (zg 1), (zg 2), Value.int 0, (zg 4), (zg 5), (zg 6), (zg 7), (zg 8), (zg 9), (zg 10), Value.int 0, (zg 12), (zg 13)])), (f, .inr (2, [(zf 0), (zf 1), (zf 2), (zf 3), (zf 4), (zf 5), (zf 6), (zf 7), (zf 8), Value.int 0, (zf 10), (zf 11), (zf 12), (zf 13)])), (o, .inl (cO, 1, .inr (.inl fo)))] s.heap.size = A at hD hG hA ⊢
  have hN : tx_N s := hG.1.1
  have hS : va_S A s.heap s.heap [] := va_S.rf
  have hl := lv_entry ([Value.ref x, Value.int n, Value.int k, Value.int lo, Value.int hi, Value.ref o] : List Value) (n := 7) (Nat.le_of_ble_eq_true rfl)
  rw [lg_entry_eq]
  generalize (lg_sl ([Value.ref x, Value.int n, Value.int k, Value.int lo, Value.int hi, Value.ref o] : List Value) ++ List.replicate (7 - (lg_sl ([Value.ref x, Value.int n, Value.int k, Value.int lo, Value.int hi, Value.ref o] : List Value)).length) Slot.unset).toArray = ls at hl ⊢
  have hl : lv_has ls 7 [(0, Value.ref x), (1, Value.int n), (2, Value.int k), (3, Value.int lo), (4, Value.int hi), (5, Value.ref o)] := hl
  refine lv_aload hx hb d_Z_rule_0 (lv_at hl 5 rfl) ?_
  refine lv_iconst (v := 0) hx hb d_Z_rule_2 (by decide) ?_
  refine lv_aload_n hx hb d_Z_rule_3 rfl (lv_at hl 0 rfl) ?_
  refine lv_iload_n hx hb d_Z_rule_4 rfl (lv_at hl 1 rfl) ?_
  refine lv_iload_n hx hb d_Z_rule_5 rfl (lv_at hl 2 rfl) ?_
  refine lv_iload_n hx hb d_Z_rule_6 rfl (lv_at hl 3 rfl) ?_
  refine lv_iload hx hb d_Z_rule_7 (lv_at hl 4 rfl) ?_
  have hPc := hP.sub (ws' := [(x, .inr (0, [Value.ref g, Value.ref f, (zx 2), (zx 3)])), (g, .inr (1, [(zg 0), (zg 1), (zg 2), Value.int 0, (zg 4), (zg 5), (zg 6), (zg 7), (zg 8), (zg 9), (zg 10), Value.int 0, (zg 12), (zg 13)])), (f, .inr (2, [(zf 0), (zf 1), (zf 2), (zf 3), (zf 4), (zf 5), (zf 6), (zf 7), (zf 8), Value.int 0, (zf 10), (zf 11), (zf 12), (zf 13)]))]) [0, 1, 2] rfl
  have hKc := hK.sub (tys' := []) [] rfl
  have hDc := hD.sub (ws' := [(x, .inr (0, [Value.ref g, Value.ref f, (zx 2), (zx 3)])), (g, .inr (1, [(zg 0), (zg 1), (zg 2), Value.int 0, (zg 4), (zg 5), (zg 6), (zg 7), (zg 8), (zg 9), (zg 10), Value.int 0, (zg 12), (zg 13)])), (f, .inr (2, [(zf 0), (zf 1), (zf 2), (zf 3), (zf 4), (zf 5), (zf 6), (zf 7), (zf 8), Value.int 0, (zf 10), (zf 11), (zf 12), (zf 13)]))]) [0, 1, 2] (by decide) rfl
  have hFc := va_free (wc := [(x, .inr (0, [Value.ref g, Value.ref f, (zx 2), (zx 3)])), (g, .inr (1, [(zg 0), (zg 1), (zg 2), Value.int 0, (zg 4), (zg 5), (zg 6), (zg 7), (zg 8), (zg 9), (zg 10), Value.int 0, (zg 12), (zg 13)])), (f, .inr (2, [(zf 0), (zf 1), (zf 2), (zf 3), (zf 4), (zf 5), (zf 6), (zf 7), (zf 8), Value.int 0, (zf 10), (zf 11), (zf 12), (zf 13)]))]) hD hS hA [0, 1, 2] rfl
  refine tx_call (tx_runV (As := [Value.int n, Value.int k, Value.int lo, Value.int hi]) (rest := [Value.int 0, Value.ref o]) ⟨hx, hb, hml, hown, hg⟩ (c_M_rule l hlf dC dI s.heap.size x g f zx zg zf n k lo hi) (cwV 4 hg (gw_giV cin_M_rule tw_437 tw_438 tw_439 tw_1) rfl rfl rfl (by decide +kernel) ⟨Nat.le_of_ble_eq_true rfl, Nat.le_of_ble_eq_true rfl⟩) ⟨fun a U g mk q => by obtain ⟨q0, q1, qP, qK, qD, qG⟩ := q; exact ⟨q0, q1, qP, va_K.moved (u := U) (U := U.calling g mk a) (Vm.Alike.refl U.vm) qK, qD, tx_G.same (U := U.calling g mk a) rfl rfl qG⟩, va_recv hKc hPc (ci := 0) (q0 := 0) rfl rfl, fun U hU hW => ⟨rfl, by rw [hU], by rw [hU]; exact hPc, va_K.moved hW.alike hKc, hDc.weaken (fun _ _ _ _ => trivial), hG.1.to hW (fun a h1 h2 => (congrArg (fun (h : Heap) => h[a]?) hU).trans (hS.2.1 a h1 h2)) hFc⟩⟩ rfl rfl hl.1 rfl (lv_room (Nat.le_of_ble_eq_true rfl)) d_Z_rule_9 ⟨Nat.le_of_ble_eq_true rfl, Nat.le_of_ble_eq_true rfl⟩) hS (fun q _ h => hFc q h) hFc (fun v_k_1 H_2 l_k_1 hv_k_1 hz1 hk1 hS => ?_) (fun x_k_1 X_k_1 H_2 l_k_1 hX_k_1 hx_k_1 hz1 hk1 hS => ?_)
  · exact hv_k_1.elim
  · obtain ⟨hP, hD⟩ := tx_rest (wc := [(x, .inr (0, [Value.ref g, Value.ref f, (zx 2), (zx 3)])), (g, .inr (1, [(zg 0), (zg 1), (zg 2), Value.int 0, (zg 4), (zg 5), (zg 6), (zg 7), (zg 8), (zg 9), (zg 10), Value.int 0, (zg 12), (zg 13)])), (f, .inr (2, [(zf 0), (zf 1), (zf 2), (zf 3), (zf 4), (zf 5), (zf 6), (zf 7), (zf 8), Value.int 0, (zf 10), (zf 11), (zf 12), (zf 13)]))]) (wr := [(o, .inl (cO, 1, .inr (.inl fo)))]) hP hD [0, 1, 2] [3] rfl rfl (by decide) (by decide) hk1 hFc
    have hK := hK.sub (tys' := [(cO, .long)]) [0] rfl
    obtain rfl : X_k_1 = "java/lang/IllegalArgumentException" := hX_k_1
    obtain ⟨ca, cb, hca, hcb, hnot⟩ := hG.2
    refine tx_wcatch2 hx_k_1 htab (by decide) (by decide) (by decide) (by decide) hown (hg _ tw_316) (hg _ tw_315) hca hcb hnot ?_
    refine lv_astore (lv' := [(6, Value.ref x_k_1), (0, Value.ref x), (1, Value.int n), (2, Value.int k), (3, Value.int lo), (4, Value.int hi), (5, Value.ref o)]) hx hb d_Z_rule_21 hl (by decide) rfl (fun ls hl => ?_)
    refine lv_iconst (v := 2) hx hb d_Z_rule_23 (by decide) ?_
    have hP9 := hP.sub (ws' := [(o, .inl (cO, 1, .inr (.inl fo)))]) [0] rfl
    have hD9 := hD.sub (ws' := [(o, .inl (cO, 1, .inr (.inl fo)))]) [0] (by decide) rfl
    have hK9 := hK.sub (tys' := [(cO, .long)]) [0] rfl
    exact W.iret (v := 2) hx hb hr (fun t ht hW => ⟨⟨2, _, rfl, rfl, ⟨_, rfl, by rw [ht]; exact hP9, va_K.moved hW.alike hK9, hD9⟩⟩, hS.F ht⟩) hS.2.2 d_Z_rule_24
set_option maxHeartbeats 4000000 in
set_option maxRecDepth 100000 in
theorem c_Z_node (l : Launch) (hlf : l.flags = flags0) (dC : Nat → ClassId) (dI : Nat → Nat → Nat) (sz : Nat) (x g kq : Nat) (cA : ClassId) (zx : Nat → Value) (zg : Nat → Value) (f : Nat → Int32) (hf : ∀ j, j < 32 → f j = -1) (n k lo hi : Int32) (o : Nat) (cO : ClassId) (fo : Nat → Int64) : Met l y_Z_node ws_Z_node ({ frames := 7, cells := 1, slots := 6, locals := 114 }) (va_Pc [Value.ref x, Value.int n, Value.int k, Value.int lo, Value.int hi, Value.ref o] (fun U => U.heap.size = sz ∧ va_P (dC, dI) kcl [(x, .inr (0, [Value.ref g, (zx 1), (zx 2), (zx 3)])), (g, .inr (1, [Value.ref kq, (zg 1), (zg 2), (zg 3), (zg 4), (zg 5), (zg 6), (zg 7), (zg 8), (zg 9), (zg 10), (zg 11), (zg 12), (zg 13)])), (kq, .inl (cA, 32, .inl f)), (o, .inl (cO, 1, .inr (.inl fo)))] U.heap ∧ va_K (dC, dI) kcl [(cA, .int), (cO, .long)] U ∧ va_D (fun _ => True) [(x, .inr (0, [Value.ref g, (zx 1), (zx 2), (zx 3)])), (g, .inr (1, [Value.ref kq, (zg 1), (zg 2), (zg 3), (zg 4), (zg 5), (zg 6), (zg 7), (zg 8), (zg 9), (zg 10), (zg 11), (zg 12), (zg 13)])), (kq, .inl (cA, 32, .inl f)), (o, .inl (cO, 1, .inr (.inl fo)))] ∧ tx_H (va_A [(x, .inr (0, [Value.ref g, (zx 1), (zx 2), (zx 3)])), (g, .inr (1, [Value.ref kq, (zg 1), (zg 2), (zg 3), (zg 4), (zg 5), (zg 6), (zg 7), (zg 8), (zg 9), (zg 10), (zg 11), (zg 12), (zg 13)])), (kq, .inl (cA, 32, .inl f)), (o, .inl (cO, 1, .inr (.inl fo)))] sz) U)) (va_Qi (fun (r : Int32) (_ : Int64) => r = 1) (fun (u : Int64) (t : State) => ∃ fo2 : Nat → Int64, fo2 0 = u ∧ va_P (dC, dI) kcl [(o, .inl (cO, 1, .inr (.inl fo2)))] t.heap ∧ va_K (dC, dI) kcl [(cO, .long)] t ∧ va_D (va_A [(x, .inr (0, [Value.ref g, (zx 1), (zx 2), (zx 3)])), (g, .inr (1, [Value.ref kq, (zg 1), (zg 2), (zg 3), (zg 4), (zg 5), (zg 6), (zg 7), (zg 8), (zg 9), (zg 10), (zg 11), (zg 12), (zg 13)])), (kq, .inl (cA, 32, .inl f)), (o, .inl (cO, 1, .inr (.inl fo)))] sz) [(o, .inl (cO, 1, .inr (.inl fo2)))]) (va_A [(x, .inr (0, [Value.ref g, (zx 1), (zx 2), (zx 3)])), (g, .inr (1, [Value.ref kq, (zg 1), (zg 2), (zg 3), (zg 4), (zg 5), (zg 6), (zg 7), (zg 8), (zg 9), (zg 10), (zg 11), (zg 12), (zg 13)])), (kq, .inl (cA, 32, .inl f)), (o, .inl (cO, 1, .inr (.inl fo)))] sz)) 1 6 (va_A [(x, .inr (0, [Value.ref g, (zx 1), (zx 2), (zx 3)])), (g, .inr (1, [Value.ref kq, (zg 1), (zg 2), (zg 3), (zg 4), (zg 5), (zg 6), (zg 7), (zg 8), (zg 9), (zg 10), (zg 11), (zg 12), (zg 13)])), (kq, .inl (cA, 32, .inl f)), (o, .inl (cO, 1, .inr (.inl fo)))] sz) := by
  refine tx_metW (cc := b_Z_node) (maxL := 7) (ret := (Option.some Jvm.ClassFile.FieldType.int)) (by decide) rfl ?_
  intro p e s m args below meth c s₁ B hml htab hv
  obtain ⟨rfl, hsz, hP, hK, hD0, hG⟩ := hv
  have hx := B.exec
  have hb := B.bytes
  have hr := B.returns
  have hlocks := B.notSynchronized
  have hg : ∀ w ∈ gw, w.before _ s = true := fun w h => atoms_spec (ws := ws_Z_node) B.pre w (List.mem_cons_of_mem _ h)
  have hown : s.vm.findClass "TreeMatcherLaw" = some m.cls := findClass_of_methodNamed B.named
  subst hsz
  have hD := hD0.self (sz := s.heap.size)
  have hA : ∀ q : Nat, s.heap.size ≤ q → va_A [(x, .inr (0, [Value.ref g, (zx 1), (zx 2), (zx 3)])), (g, .inr (1, [Value.ref kq, (zg 1), (zg 2), (zg 3), (zg 4), (zg 5), (zg 6), (zg 7), (zg 8), (zg 9), (zg 10), (zg 11), (zg 12), (zg 13)])), (kq, .inl (cA, 32, .inl f)), (o, .inl (cO, 1, .inr (.inl fo)))] s.heap.size q := fun q h => Or.inr h
  generalize hAe : va_A [(x, .inr (0, [Value.ref g, (zx 1), (zx 2), (zx 3)])), (g, .inr (1, [Value.ref kq, (zg 1), (zg 2), (zg 3), (zg 4), (zg 5), (zg 6), (zg 7), (zg 8), (zg 9), (zg 10), (zg 11), (zg 12), (zg 13)])), (kq, .inl (cA, 32, .inl f)), (o, .inl (cO, 1, .inr (.inl fo)))] s.heap.size = A at hD hG hA ⊢
  have hN : tx_N s := hG.1.1
  have hS : va_S A s.heap s.heap [] := va_S.rf
  have hl := lv_entry ([Value.ref x, Value.int n, Value.int k, Value.int lo, Value.int hi, Value.ref o] : List Value) (n := 7) (Nat.le_of_ble_eq_true rfl)
  rw [lg_entry_eq]
  generalize (lg_sl ([Value.ref x, Value.int n, Value.int k, Value.int lo, Value.int hi, Value.ref o] : List Value) ++ List.replicate (7 - (lg_sl ([Value.ref x, Value.int n, Value.int k, Value.int lo, Value.int hi, Value.ref o] : List Value)).length) Slot.unset).toArray = ls at hl ⊢
  have hl : lv_has ls 7 [(0, Value.ref x), (1, Value.int n), (2, Value.int k), (3, Value.int lo), (4, Value.int hi), (5, Value.ref o)] := hl
  refine lv_aload hx hb d_Z_node_0 (lv_at hl 5 rfl) ?_
  refine lv_iconst (v := 0) hx hb d_Z_node_2 (by decide) ?_
  refine lv_aload_n hx hb d_Z_node_3 rfl (lv_at hl 0 rfl) ?_
  refine lv_iload_n hx hb d_Z_node_4 rfl (lv_at hl 1 rfl) ?_
  refine lv_iload_n hx hb d_Z_node_5 rfl (lv_at hl 2 rfl) ?_
  refine lv_iload_n hx hb d_Z_node_6 rfl (lv_at hl 3 rfl) ?_
  refine lv_iload hx hb d_Z_node_7 (lv_at hl 4 rfl) ?_
  have hPc := hP.sub (ws' := [(x, .inr (0, [Value.ref g, (zx 1), (zx 2), (zx 3)])), (g, .inr (1, [Value.ref kq, (zg 1), (zg 2), (zg 3), (zg 4), (zg 5), (zg 6), (zg 7), (zg 8), (zg 9), (zg 10), (zg 11), (zg 12), (zg 13)])), (kq, .inl (cA, 32, .inl f))]) [0, 1, 2] rfl
  have hKc := hK.sub (tys' := [(cA, .int)]) [0] rfl
  refine tx_call (tx_runV (As := [Value.int n, Value.int k, Value.int lo, Value.int hi]) (rest := [Value.int 0, Value.ref o]) ⟨hx, hb, hml, hown, hg⟩ (c_M_node l hlf dC dI s.heap.size x g kq cA zx zg f hf n k lo hi) (cwV 4 hg (gw_giV cin_M_node tw_487 tw_488 tw_489 tw_1) rfl rfl rfl (by decide +kernel) ⟨Nat.le_of_ble_eq_true rfl, Nat.le_of_ble_eq_true rfl⟩) ⟨fun a U g mk q => by obtain ⟨q0, q1, qP, qK, qG⟩ := q; exact ⟨q0, q1, qP, va_K.moved (u := U) (U := U.calling g mk a) (Vm.Alike.refl U.vm) qK, tx_G.same (U := U.calling g mk a) rfl rfl qG⟩, va_recv hKc hPc (ci := 0) (q0 := 0) rfl rfl, fun U hU hW => ⟨rfl, by rw [hU], by rw [hU]; exact hPc, va_K.moved hW.alike hKc, hG.1.to hW (fun a h1 h2 => (congrArg (fun (h : Heap) => h[a]?) hU).trans (hS.2.1 a h1 h2)) (tx_pF hS hA)⟩⟩ rfl rfl hl.1 rfl (lv_room (Nat.le_of_ble_eq_true rfl)) d_Z_node_9 ⟨Nat.le_of_ble_eq_true rfl, Nat.le_of_ble_eq_true rfl⟩) hS (fun q h1 h => (tx_pA h1 h).elim) (tx_pF hS hA) (fun v_k_1 H_2 l_k_1 hv_k_1 hz1 hk1 hS => ?_) (fun x_k_1 X_k_1 H_2 l_k_1 hX_k_1 hx_k_1 hz1 hk1 hS => ?_)
  · exact hv_k_1.elim
  · have hP := tx_keep hP hk1
    obtain rfl : X_k_1 = "java/lang/IllegalArgumentException" := hX_k_1
    refine tx_wcatch1 hx_k_1 htab (by decide) (by decide) hown (hg _ tw_315) ?_
    refine lv_astore (lv' := [(6, Value.ref x_k_1), (0, Value.ref x), (1, Value.int n), (2, Value.int k), (3, Value.int lo), (4, Value.int hi), (5, Value.ref o)]) hx hb d_Z_node_17 hl (by decide) rfl (fun ls hl => ?_)
    refine lv_iconst (v := 1) hx hb d_Z_node_19 (by decide) ?_
    have hP9 := hP.sub (ws' := [(o, .inl (cO, 1, .inr (.inl fo)))]) [3] rfl
    have hD9 := hD.sub (ws' := [(o, .inl (cO, 1, .inr (.inl fo)))]) [3] (by decide) rfl
    have hK9 := hK.sub (tys' := [(cO, .long)]) [1] rfl
    exact W.iret (v := 1) hx hb hr (fun t ht hW => ⟨⟨1, _, rfl, rfl, ⟨_, rfl, by rw [ht]; exact hP9, va_K.moved hW.alike hK9, hD9⟩⟩, hS.F ht⟩) hS.2.2 d_Z_node_20
set_option maxHeartbeats 4000000 in
set_option maxRecDepth 100000 in
theorem c_Z_cost (l : Launch) (hlf : l.flags = flags0) (dC : Nat → ClassId) (dI : Nat → Nat → Nat) (sz : Nat) (x f : Nat) (zx : Nat → Value) (zf : Nat → Value) (n k : Int32) (o : Nat) (cO : ClassId) (fo : Nat → Int64) : Met l y_Z_cost ws_Z_cost ({ frames := 8, cells := 1, slots := 6, locals := 134 }) (va_Pc [Value.ref x, Value.int n, Value.int k, Value.ref o] (fun U => U.heap.size = sz ∧ va_P (dC, dI) kcl [(x, .inr (0, [(zx 0), Value.ref f, (zx 2), (zx 3)])), (f, .inr (2, [(zf 0), (zf 1), (zf 2), (zf 3), (zf 4), (zf 5), (zf 6), (zf 7), (zf 8), Value.int 0, (zf 10), (zf 11), (zf 12), (zf 13)])), (o, .inl (cO, 1, .inr (.inl fo)))] U.heap ∧ va_K (dC, dI) kcl [(cO, .long)] U ∧ va_D (fun _ => True) [(x, .inr (0, [(zx 0), Value.ref f, (zx 2), (zx 3)])), (f, .inr (2, [(zf 0), (zf 1), (zf 2), (zf 3), (zf 4), (zf 5), (zf 6), (zf 7), (zf 8), Value.int 0, (zf 10), (zf 11), (zf 12), (zf 13)])), (o, .inl (cO, 1, .inr (.inl fo)))] ∧ tx_H (va_A [(x, .inr (0, [(zx 0), Value.ref f, (zx 2), (zx 3)])), (f, .inr (2, [(zf 0), (zf 1), (zf 2), (zf 3), (zf 4), (zf 5), (zf 6), (zf 7), (zf 8), Value.int 0, (zf 10), (zf 11), (zf 12), (zf 13)])), (o, .inl (cO, 1, .inr (.inl fo)))] sz) U)) (va_Qi (fun (r : Int32) (_ : Int64) => r = 1) (fun (u : Int64) (t : State) => ∃ fo2 : Nat → Int64, fo2 0 = u ∧ va_P (dC, dI) kcl [(o, .inl (cO, 1, .inr (.inl fo2)))] t.heap ∧ va_K (dC, dI) kcl [(cO, .long)] t ∧ va_D (va_A [(x, .inr (0, [(zx 0), Value.ref f, (zx 2), (zx 3)])), (f, .inr (2, [(zf 0), (zf 1), (zf 2), (zf 3), (zf 4), (zf 5), (zf 6), (zf 7), (zf 8), Value.int 0, (zf 10), (zf 11), (zf 12), (zf 13)])), (o, .inl (cO, 1, .inr (.inl fo)))] sz) [(o, .inl (cO, 1, .inr (.inl fo2)))]) (va_A [(x, .inr (0, [(zx 0), Value.ref f, (zx 2), (zx 3)])), (f, .inr (2, [(zf 0), (zf 1), (zf 2), (zf 3), (zf 4), (zf 5), (zf 6), (zf 7), (zf 8), Value.int 0, (zf 10), (zf 11), (zf 12), (zf 13)])), (o, .inl (cO, 1, .inr (.inl fo)))] sz)) 1 6 (va_A [(x, .inr (0, [(zx 0), Value.ref f, (zx 2), (zx 3)])), (f, .inr (2, [(zf 0), (zf 1), (zf 2), (zf 3), (zf 4), (zf 5), (zf 6), (zf 7), (zf 8), Value.int 0, (zf 10), (zf 11), (zf 12), (zf 13)])), (o, .inl (cO, 1, .inr (.inl fo)))] sz) := by
  refine tx_metW (cc := b_Z_cost) (maxL := 5) (ret := (Option.some Jvm.ClassFile.FieldType.int)) (by decide) rfl ?_
  intro p e s m args below meth c s₁ B hml htab hv
  obtain ⟨rfl, hsz, hP, hK, hD0, hG⟩ := hv
  have hx := B.exec
  have hb := B.bytes
  have hr := B.returns
  have hlocks := B.notSynchronized
  have hg : ∀ w ∈ gw, w.before _ s = true := fun w h => atoms_spec (ws := ws_Z_cost) B.pre w (List.mem_cons_of_mem _ h)
  have hown : s.vm.findClass "TreeMatcherLaw" = some m.cls := findClass_of_methodNamed B.named
  subst hsz
  have hD := hD0.self (sz := s.heap.size)
  have hA : ∀ q : Nat, s.heap.size ≤ q → va_A [(x, .inr (0, [(zx 0), Value.ref f, (zx 2), (zx 3)])), (f, .inr (2, [(zf 0), (zf 1), (zf 2), (zf 3), (zf 4), (zf 5), (zf 6), (zf 7), (zf 8), Value.int 0, (zf 10), (zf 11), (zf 12), (zf 13)])), (o, .inl (cO, 1, .inr (.inl fo)))] s.heap.size q := fun q h => Or.inr h
  generalize hAe : va_A [(x, .inr (0, [(zx 0), Value.ref f, (zx 2), (zx 3)])), (f, .inr (2, [(zf 0), (zf 1), (zf 2), (zf 3), (zf 4), (zf 5), (zf 6), (zf 7), (zf 8), Value.int 0, (zf 10), (zf 11), (zf 12), (zf 13)])), (o, .inl (cO, 1, .inr (.inl fo)))] s.heap.size = A at hD hG hA ⊢
  have hN : tx_N s := hG.1.1
  have hS : va_S A s.heap s.heap [] := va_S.rf
  have hl := lv_entry ([Value.ref x, Value.int n, Value.int k, Value.ref o] : List Value) (n := 5) (Nat.le_of_ble_eq_true rfl)
  rw [lg_entry_eq]
  generalize (lg_sl ([Value.ref x, Value.int n, Value.int k, Value.ref o] : List Value) ++ List.replicate (5 - (lg_sl ([Value.ref x, Value.int n, Value.int k, Value.ref o] : List Value)).length) Slot.unset).toArray = ls at hl ⊢
  have hl : lv_has ls 5 [(0, Value.ref x), (1, Value.int n), (2, Value.int k), (3, Value.ref o)] := hl
  refine lv_aload_n hx hb d_Z_cost_0 rfl (lv_at hl 3 rfl) ?_
  refine lv_iconst (v := 0) hx hb d_Z_cost_1 (by decide) ?_
  refine lv_aload_n hx hb d_Z_cost_2 rfl (lv_at hl 0 rfl) ?_
  refine lv_iload_n hx hb d_Z_cost_3 rfl (lv_at hl 1 rfl) ?_
  refine lv_iload_n hx hb d_Z_cost_4 rfl (lv_at hl 2 rfl) ?_
  have hPc := hP.sub (ws' := [(x, .inr (0, [(zx 0), Value.ref f, (zx 2), (zx 3)])), (f, .inr (2, [(zf 0), (zf 1), (zf 2), (zf 3), (zf 4), (zf 5), (zf 6), (zf 7), (zf 8), Value.int 0, (zf 10), (zf 11), (zf 12), (zf 13)]))]) [0, 1] rfl
  have hKc := hK.sub (tys' := []) [] rfl
  refine tx_call (tx_runV (As := [Value.int n, Value.int k]) (rest := [Value.int 0, Value.ref o]) ⟨hx, hb, hml, hown, hg⟩ (c_M_cost l hlf dC dI s.heap.size x f zx zf n k) (cwV 2 hg (gw_giV cin_M_cost tw_657 tw_658 tw_659 tw_1) rfl rfl rfl (by decide +kernel) ⟨Nat.le_of_ble_eq_true rfl, Nat.le_of_ble_eq_true rfl⟩) ⟨fun a U g mk q => by obtain ⟨q0, q1, qP, qK, qG⟩ := q; exact ⟨q0, q1, qP, va_K.moved (u := U) (U := U.calling g mk a) (Vm.Alike.refl U.vm) qK, tx_G.same (U := U.calling g mk a) rfl rfl qG⟩, va_recv hKc hPc (ci := 0) (q0 := 0) rfl rfl, fun U hU hW => ⟨rfl, by rw [hU], by rw [hU]; exact hPc, va_K.moved hW.alike hKc, hG.1.to hW (fun a h1 h2 => (congrArg (fun (h : Heap) => h[a]?) hU).trans (hS.2.1 a h1 h2)) (tx_pF hS hA)⟩⟩ rfl rfl hl.1 rfl (lv_room (Nat.le_of_ble_eq_true rfl)) d_Z_cost_5 ⟨Nat.le_of_ble_eq_true rfl, Nat.le_of_ble_eq_true rfl⟩) hS (fun q h1 h => (tx_pA h1 h).elim) (tx_pF hS hA) (fun v_k_1 H_2 l_k_1 hv_k_1 hz1 hk1 hS => ?_) (fun x_k_1 X_k_1 H_2 l_k_1 hX_k_1 hx_k_1 hz1 hk1 hS => ?_)
  · exact hv_k_1.elim
  · have hP := tx_keep hP hk1
    obtain rfl : X_k_1 = "java/lang/IndexOutOfBoundsException" := hX_k_1
    refine tx_wcatch1 hx_k_1 htab (by decide) (by decide) hown (hg _ tw_656) ?_
    refine lv_astore (lv' := [(4, Value.ref x_k_1), (0, Value.ref x), (1, Value.int n), (2, Value.int k), (3, Value.ref o)]) hx hb d_Z_cost_13 hl (by decide) rfl (fun ls hl => ?_)
    refine lv_iconst (v := 1) hx hb d_Z_cost_15 (by decide) ?_
    have hP9 := hP.sub (ws' := [(o, .inl (cO, 1, .inr (.inl fo)))]) [2] rfl
    have hD9 := hD.sub (ws' := [(o, .inl (cO, 1, .inr (.inl fo)))]) [2] (by decide) rfl
    have hK9 := hK.sub (tys' := [(cO, .long)]) [0] rfl
    exact W.iret (v := 1) hx hb hr (fun t ht hW => ⟨⟨1, _, rfl, rfl, ⟨_, rfl, by rw [ht]; exact hP9, va_K.moved hW.alike hK9, hD9⟩⟩, hS.F ht⟩) hS.2.2 d_Z_cost_16
set_option maxHeartbeats 4000000 in
set_option maxRecDepth 100000 in
theorem c_Z_ruleAt (l : Launch) (hlf : l.flags = flags0) (dC : Nat → ClassId) (dI : Nat → Nat → Nat) (sz : Nat) (x f : Nat) (zx : Nat → Value) (zf : Nat → Value) (n k : Int32) (o : Nat) (cO : ClassId) (fo : Nat → Int64) : Met l y_Z_ruleAt ws_Z_ruleAt ({ frames := 8, cells := 1, slots := 6, locals := 134 }) (va_Pc [Value.ref x, Value.int n, Value.int k, Value.ref o] (fun U => U.heap.size = sz ∧ va_P (dC, dI) kcl [(x, .inr (0, [(zx 0), Value.ref f, (zx 2), (zx 3)])), (f, .inr (2, [(zf 0), (zf 1), (zf 2), (zf 3), (zf 4), (zf 5), (zf 6), (zf 7), (zf 8), Value.int 0, (zf 10), (zf 11), (zf 12), (zf 13)])), (o, .inl (cO, 1, .inr (.inl fo)))] U.heap ∧ va_K (dC, dI) kcl [(cO, .long)] U ∧ va_D (fun _ => True) [(x, .inr (0, [(zx 0), Value.ref f, (zx 2), (zx 3)])), (f, .inr (2, [(zf 0), (zf 1), (zf 2), (zf 3), (zf 4), (zf 5), (zf 6), (zf 7), (zf 8), Value.int 0, (zf 10), (zf 11), (zf 12), (zf 13)])), (o, .inl (cO, 1, .inr (.inl fo)))] ∧ tx_H (va_A [(x, .inr (0, [(zx 0), Value.ref f, (zx 2), (zx 3)])), (f, .inr (2, [(zf 0), (zf 1), (zf 2), (zf 3), (zf 4), (zf 5), (zf 6), (zf 7), (zf 8), Value.int 0, (zf 10), (zf 11), (zf 12), (zf 13)])), (o, .inl (cO, 1, .inr (.inl fo)))] sz) U)) (va_Qi (fun (r : Int32) (_ : Int64) => r = 1) (fun (u : Int64) (t : State) => ∃ fo2 : Nat → Int64, fo2 0 = u ∧ va_P (dC, dI) kcl [(o, .inl (cO, 1, .inr (.inl fo2)))] t.heap ∧ va_K (dC, dI) kcl [(cO, .long)] t ∧ va_D (va_A [(x, .inr (0, [(zx 0), Value.ref f, (zx 2), (zx 3)])), (f, .inr (2, [(zf 0), (zf 1), (zf 2), (zf 3), (zf 4), (zf 5), (zf 6), (zf 7), (zf 8), Value.int 0, (zf 10), (zf 11), (zf 12), (zf 13)])), (o, .inl (cO, 1, .inr (.inl fo)))] sz) [(o, .inl (cO, 1, .inr (.inl fo2)))]) (va_A [(x, .inr (0, [(zx 0), Value.ref f, (zx 2), (zx 3)])), (f, .inr (2, [(zf 0), (zf 1), (zf 2), (zf 3), (zf 4), (zf 5), (zf 6), (zf 7), (zf 8), Value.int 0, (zf 10), (zf 11), (zf 12), (zf 13)])), (o, .inl (cO, 1, .inr (.inl fo)))] sz)) 1 6 (va_A [(x, .inr (0, [(zx 0), Value.ref f, (zx 2), (zx 3)])), (f, .inr (2, [(zf 0), (zf 1), (zf 2), (zf 3), (zf 4), (zf 5), (zf 6), (zf 7), (zf 8), Value.int 0, (zf 10), (zf 11), (zf 12), (zf 13)])), (o, .inl (cO, 1, .inr (.inl fo)))] sz) := by
  refine tx_metW (cc := b_Z_ruleAt) (maxL := 5) (ret := (Option.some Jvm.ClassFile.FieldType.int)) (by decide) rfl ?_
  intro p e s m args below meth c s₁ B hml htab hv
  obtain ⟨rfl, hsz, hP, hK, hD0, hG⟩ := hv
  have hx := B.exec
  have hb := B.bytes
  have hr := B.returns
  have hlocks := B.notSynchronized
  have hg : ∀ w ∈ gw, w.before _ s = true := fun w h => atoms_spec (ws := ws_Z_ruleAt) B.pre w (List.mem_cons_of_mem _ h)
  have hown : s.vm.findClass "TreeMatcherLaw" = some m.cls := findClass_of_methodNamed B.named
  subst hsz
  have hD := hD0.self (sz := s.heap.size)
  have hA : ∀ q : Nat, s.heap.size ≤ q → va_A [(x, .inr (0, [(zx 0), Value.ref f, (zx 2), (zx 3)])), (f, .inr (2, [(zf 0), (zf 1), (zf 2), (zf 3), (zf 4), (zf 5), (zf 6), (zf 7), (zf 8), Value.int 0, (zf 10), (zf 11), (zf 12), (zf 13)])), (o, .inl (cO, 1, .inr (.inl fo)))] s.heap.size q := fun q h => Or.inr h
  generalize hAe : va_A [(x, .inr (0, [(zx 0), Value.ref f, (zx 2), (zx 3)])), (f, .inr (2, [(zf 0), (zf 1), (zf 2), (zf 3), (zf 4), (zf 5), (zf 6), (zf 7), (zf 8), Value.int 0, (zf 10), (zf 11), (zf 12), (zf 13)])), (o, .inl (cO, 1, .inr (.inl fo)))] s.heap.size = A at hD hG hA ⊢
  have hN : tx_N s := hG.1.1
  have hS : va_S A s.heap s.heap [] := va_S.rf
  have hl := lv_entry ([Value.ref x, Value.int n, Value.int k, Value.ref o] : List Value) (n := 5) (Nat.le_of_ble_eq_true rfl)
  rw [lg_entry_eq]
  generalize (lg_sl ([Value.ref x, Value.int n, Value.int k, Value.ref o] : List Value) ++ List.replicate (5 - (lg_sl ([Value.ref x, Value.int n, Value.int k, Value.ref o] : List Value)).length) Slot.unset).toArray = ls at hl ⊢
  have hl : lv_has ls 5 [(0, Value.ref x), (1, Value.int n), (2, Value.int k), (3, Value.ref o)] := hl
  refine lv_aload_n hx hb d_Z_ruleAt_0 rfl (lv_at hl 3 rfl) ?_
  refine lv_iconst (v := 0) hx hb d_Z_ruleAt_1 (by decide) ?_
  refine lv_aload_n hx hb d_Z_ruleAt_2 rfl (lv_at hl 0 rfl) ?_
  refine lv_iload_n hx hb d_Z_ruleAt_3 rfl (lv_at hl 1 rfl) ?_
  refine lv_iload_n hx hb d_Z_ruleAt_4 rfl (lv_at hl 2 rfl) ?_
  have hPc := hP.sub (ws' := [(x, .inr (0, [(zx 0), Value.ref f, (zx 2), (zx 3)])), (f, .inr (2, [(zf 0), (zf 1), (zf 2), (zf 3), (zf 4), (zf 5), (zf 6), (zf 7), (zf 8), Value.int 0, (zf 10), (zf 11), (zf 12), (zf 13)]))]) [0, 1] rfl
  have hKc := hK.sub (tys' := []) [] rfl
  refine tx_call (tx_runV (As := [Value.int n, Value.int k]) (rest := [Value.int 0, Value.ref o]) ⟨hx, hb, hml, hown, hg⟩ (c_M_ruleAt l hlf dC dI s.heap.size x f zx zf n k) (cwV 2 hg (gw_giV cin_M_ruleAt tw_689 tw_690 tw_691 tw_1) rfl rfl rfl (by decide +kernel) ⟨Nat.le_of_ble_eq_true rfl, Nat.le_of_ble_eq_true rfl⟩) ⟨fun a U g mk q => by obtain ⟨q0, q1, qP, qK, qG⟩ := q; exact ⟨q0, q1, qP, va_K.moved (u := U) (U := U.calling g mk a) (Vm.Alike.refl U.vm) qK, tx_G.same (U := U.calling g mk a) rfl rfl qG⟩, va_recv hKc hPc (ci := 0) (q0 := 0) rfl rfl, fun U hU hW => ⟨rfl, by rw [hU], by rw [hU]; exact hPc, va_K.moved hW.alike hKc, hG.1.to hW (fun a h1 h2 => (congrArg (fun (h : Heap) => h[a]?) hU).trans (hS.2.1 a h1 h2)) (tx_pF hS hA)⟩⟩ rfl rfl hl.1 rfl (lv_room (Nat.le_of_ble_eq_true rfl)) d_Z_ruleAt_5 ⟨Nat.le_of_ble_eq_true rfl, Nat.le_of_ble_eq_true rfl⟩) hS (fun q h1 h => (tx_pA h1 h).elim) (tx_pF hS hA) (fun v_k_1 H_2 l_k_1 hv_k_1 hz1 hk1 hS => ?_) (fun x_k_1 X_k_1 H_2 l_k_1 hX_k_1 hx_k_1 hz1 hk1 hS => ?_)
  · exact hv_k_1.elim
  · have hP := tx_keep hP hk1
    obtain rfl : X_k_1 = "java/lang/IndexOutOfBoundsException" := hX_k_1
    refine tx_wcatch1 hx_k_1 htab (by decide) (by decide) hown (hg _ tw_656) ?_
    refine lv_astore (lv' := [(4, Value.ref x_k_1), (0, Value.ref x), (1, Value.int n), (2, Value.int k), (3, Value.ref o)]) hx hb d_Z_ruleAt_13 hl (by decide) rfl (fun ls hl => ?_)
    refine lv_iconst (v := 1) hx hb d_Z_ruleAt_15 (by decide) ?_
    have hP9 := hP.sub (ws' := [(o, .inl (cO, 1, .inr (.inl fo)))]) [2] rfl
    have hD9 := hD.sub (ws' := [(o, .inl (cO, 1, .inr (.inl fo)))]) [2] (by decide) rfl
    have hK9 := hK.sub (tys' := [(cO, .long)]) [0] rfl
    exact W.iret (v := 1) hx hb hr (fun t ht hW => ⟨⟨1, _, rfl, rfl, ⟨_, rfl, by rw [ht]; exact hP9, va_K.moved hW.alike hK9, hD9⟩⟩, hS.F ht⟩) hS.2.2 d_Z_ruleAt_16
set_option maxHeartbeats 4000000 in
set_option maxRecDepth 100000 in
theorem c_Z_cover (l : Launch) (hlf : l.flags = flags0) (dC : Nat → ClassId) (dI : Nat → Nat → Nat) (sz : Nat) (x f : Nat) (zx : Nat → Value) (zf : Nat → Value) (n k : Int32) (o : Nat) (cO : ClassId) (fo : Nat → Int64) : Met l y_Z_cover ws_Z_cover ({ frames := 8, cells := 1, slots := 6, locals := 135 }) (va_Pc [Value.ref x, Value.int n, Value.int k, Value.ref o] (fun U => U.heap.size = sz ∧ va_P (dC, dI) kcl [(x, .inr (0, [(zx 0), Value.ref f, (zx 2), (zx 3)])), (f, .inr (2, [(zf 0), (zf 1), (zf 2), (zf 3), (zf 4), (zf 5), (zf 6), (zf 7), (zf 8), Value.int 0, (zf 10), (zf 11), (zf 12), (zf 13)])), (o, .inl (cO, 1, .inr (.inl fo)))] U.heap ∧ va_K (dC, dI) kcl [(cO, .long)] U ∧ va_D (fun _ => True) [(x, .inr (0, [(zx 0), Value.ref f, (zx 2), (zx 3)])), (f, .inr (2, [(zf 0), (zf 1), (zf 2), (zf 3), (zf 4), (zf 5), (zf 6), (zf 7), (zf 8), Value.int 0, (zf 10), (zf 11), (zf 12), (zf 13)])), (o, .inl (cO, 1, .inr (.inl fo)))] ∧ tx_H (va_A [(x, .inr (0, [(zx 0), Value.ref f, (zx 2), (zx 3)])), (f, .inr (2, [(zf 0), (zf 1), (zf 2), (zf 3), (zf 4), (zf 5), (zf 6), (zf 7), (zf 8), Value.int 0, (zf 10), (zf 11), (zf 12), (zf 13)])), (o, .inl (cO, 1, .inr (.inl fo)))] sz) U)) (va_Qi (fun (r : Int32) (_ : Int64) => r = 1) (fun (u : Int64) (t : State) => ∃ fo2 : Nat → Int64, fo2 0 = u ∧ va_P (dC, dI) kcl [(o, .inl (cO, 1, .inr (.inl fo2)))] t.heap ∧ va_K (dC, dI) kcl [(cO, .long)] t ∧ va_D (va_A [(x, .inr (0, [(zx 0), Value.ref f, (zx 2), (zx 3)])), (f, .inr (2, [(zf 0), (zf 1), (zf 2), (zf 3), (zf 4), (zf 5), (zf 6), (zf 7), (zf 8), Value.int 0, (zf 10), (zf 11), (zf 12), (zf 13)])), (o, .inl (cO, 1, .inr (.inl fo)))] sz) [(o, .inl (cO, 1, .inr (.inl fo2)))]) (va_A [(x, .inr (0, [(zx 0), Value.ref f, (zx 2), (zx 3)])), (f, .inr (2, [(zf 0), (zf 1), (zf 2), (zf 3), (zf 4), (zf 5), (zf 6), (zf 7), (zf 8), Value.int 0, (zf 10), (zf 11), (zf 12), (zf 13)])), (o, .inl (cO, 1, .inr (.inl fo)))] sz)) 1 6 (va_A [(x, .inr (0, [(zx 0), Value.ref f, (zx 2), (zx 3)])), (f, .inr (2, [(zf 0), (zf 1), (zf 2), (zf 3), (zf 4), (zf 5), (zf 6), (zf 7), (zf 8), Value.int 0, (zf 10), (zf 11), (zf 12), (zf 13)])), (o, .inl (cO, 1, .inr (.inl fo)))] sz) := by
  refine tx_metW (cc := b_Z_cover) (maxL := 5) (ret := (Option.some Jvm.ClassFile.FieldType.int)) (by decide) rfl ?_
  intro p e s m args below meth c s₁ B hml htab hv
  obtain ⟨rfl, hsz, hP, hK, hD0, hG⟩ := hv
  have hx := B.exec
  have hb := B.bytes
  have hr := B.returns
  have hlocks := B.notSynchronized
  have hg : ∀ w ∈ gw, w.before _ s = true := fun w h => atoms_spec (ws := ws_Z_cover) B.pre w (List.mem_cons_of_mem _ h)
  have hown : s.vm.findClass "TreeMatcherLaw" = some m.cls := findClass_of_methodNamed B.named
  subst hsz
  have hD := hD0.self (sz := s.heap.size)
  have hA : ∀ q : Nat, s.heap.size ≤ q → va_A [(x, .inr (0, [(zx 0), Value.ref f, (zx 2), (zx 3)])), (f, .inr (2, [(zf 0), (zf 1), (zf 2), (zf 3), (zf 4), (zf 5), (zf 6), (zf 7), (zf 8), Value.int 0, (zf 10), (zf 11), (zf 12), (zf 13)])), (o, .inl (cO, 1, .inr (.inl fo)))] s.heap.size q := fun q h => Or.inr h
  generalize hAe : va_A [(x, .inr (0, [(zx 0), Value.ref f, (zx 2), (zx 3)])), (f, .inr (2, [(zf 0), (zf 1), (zf 2), (zf 3), (zf 4), (zf 5), (zf 6), (zf 7), (zf 8), Value.int 0, (zf 10), (zf 11), (zf 12), (zf 13)])), (o, .inl (cO, 1, .inr (.inl fo)))] s.heap.size = A at hD hG hA ⊢
  have hN : tx_N s := hG.1.1
  have hS : va_S A s.heap s.heap [] := va_S.rf
  have hl := lv_entry ([Value.ref x, Value.int n, Value.int k, Value.ref o] : List Value) (n := 5) (Nat.le_of_ble_eq_true rfl)
  rw [lg_entry_eq]
  generalize (lg_sl ([Value.ref x, Value.int n, Value.int k, Value.ref o] : List Value) ++ List.replicate (5 - (lg_sl ([Value.ref x, Value.int n, Value.int k, Value.ref o] : List Value)).length) Slot.unset).toArray = ls at hl ⊢
  have hl : lv_has ls 5 [(0, Value.ref x), (1, Value.int n), (2, Value.int k), (3, Value.ref o)] := hl
  refine lv_aload_n hx hb d_Z_cover_0 rfl (lv_at hl 3 rfl) ?_
  refine lv_iconst (v := 0) hx hb d_Z_cover_1 (by decide) ?_
  refine lv_aload_n hx hb d_Z_cover_2 rfl (lv_at hl 0 rfl) ?_
  refine lv_iload_n hx hb d_Z_cover_3 rfl (lv_at hl 1 rfl) ?_
  refine lv_iload_n hx hb d_Z_cover_4 rfl (lv_at hl 2 rfl) ?_
  have hPc := hP.sub (ws' := [(x, .inr (0, [(zx 0), Value.ref f, (zx 2), (zx 3)])), (f, .inr (2, [(zf 0), (zf 1), (zf 2), (zf 3), (zf 4), (zf 5), (zf 6), (zf 7), (zf 8), Value.int 0, (zf 10), (zf 11), (zf 12), (zf 13)]))]) [0, 1] rfl
  have hKc := hK.sub (tys' := []) [] rfl
  refine tx_call (tx_runV (As := [Value.int n, Value.int k]) (rest := [Value.int 0, Value.ref o]) ⟨hx, hb, hml, hown, hg⟩ (c_M_cover l hlf dC dI s.heap.size x f zx zf n k) (cwV 2 hg (gw_giV cin_M_cover tw_700 tw_701 tw_702 tw_1) rfl rfl rfl (by decide +kernel) ⟨Nat.le_of_ble_eq_true rfl, Nat.le_of_ble_eq_true rfl⟩) ⟨fun a U g mk q => by obtain ⟨q0, q1, qP, qK, qG⟩ := q; exact ⟨q0, q1, qP, va_K.moved (u := U) (U := U.calling g mk a) (Vm.Alike.refl U.vm) qK, tx_G.same (U := U.calling g mk a) rfl rfl qG⟩, va_recv hKc hPc (ci := 0) (q0 := 0) rfl rfl, fun U hU hW => ⟨rfl, by rw [hU], by rw [hU]; exact hPc, va_K.moved hW.alike hKc, hG.1.to hW (fun a h1 h2 => (congrArg (fun (h : Heap) => h[a]?) hU).trans (hS.2.1 a h1 h2)) (tx_pF hS hA)⟩⟩ rfl rfl hl.1 rfl (lv_room (Nat.le_of_ble_eq_true rfl)) d_Z_cover_5 ⟨Nat.le_of_ble_eq_true rfl, Nat.le_of_ble_eq_true rfl⟩) hS (fun q h1 h => (tx_pA h1 h).elim) (tx_pF hS hA) (fun v_k_1 H_2 l_k_1 hv_k_1 hz1 hk1 hS => ?_) (fun x_k_1 X_k_1 H_2 l_k_1 hX_k_1 hx_k_1 hz1 hk1 hS => ?_)
  · exact hv_k_1.elim
  · have hP := tx_keep hP hk1
    obtain rfl : X_k_1 = "java/lang/IndexOutOfBoundsException" := hX_k_1
    refine tx_wcatch1 hx_k_1 htab (by decide) (by decide) hown (hg _ tw_656) ?_
    refine lv_astore (lv' := [(4, Value.ref x_k_1), (0, Value.ref x), (1, Value.int n), (2, Value.int k), (3, Value.ref o)]) hx hb d_Z_cover_13 hl (by decide) rfl (fun ls hl => ?_)
    refine lv_iconst (v := 1) hx hb d_Z_cover_15 (by decide) ?_
    have hP9 := hP.sub (ws' := [(o, .inl (cO, 1, .inr (.inl fo)))]) [2] rfl
    have hD9 := hD.sub (ws' := [(o, .inl (cO, 1, .inr (.inl fo)))]) [2] (by decide) rfl
    have hK9 := hK.sub (tys' := [(cO, .long)]) [0] rfl
    exact W.iret (v := 1) hx hb hr (fun t ht hW => ⟨⟨1, _, rfl, rfl, ⟨_, rfl, by rw [ht]; exact hP9, va_K.moved hW.alike hK9, hD9⟩⟩, hS.F ht⟩) hS.2.2 d_Z_cover_16
set_option maxHeartbeats 4000000 in
set_option maxRecDepth 100000 in
theorem c_Z_same (l : Launch) (hlf : l.flags = flags0) (dC : Nat → ClassId) (dI : Nat → Nat → Nat) (sz : Nat) (x f : Nat) (zx : Nat → Value) (zf : Nat → Value) (n k : Int32) (o : Nat) (cO : ClassId) (fo : Nat → Int64) : Met l y_Z_same ws_Z_same ({ frames := 7, cells := 1, slots := 6, locals := 112 }) (va_Pc [Value.ref x, Value.int n, Value.int k, Value.ref o] (fun U => U.heap.size = sz ∧ va_P (dC, dI) kcl [(x, .inr (0, [(zx 0), Value.ref f, (zx 2), (zx 3)])), (f, .inr (2, [(zf 0), (zf 1), (zf 2), (zf 3), (zf 4), (zf 5), (zf 6), (zf 7), (zf 8), Value.int 0, (zf 10), (zf 11), (zf 12), (zf 13)])), (o, .inl (cO, 1, .inr (.inl fo)))] U.heap ∧ va_K (dC, dI) kcl [(cO, .long)] U ∧ va_D (fun _ => True) [(x, .inr (0, [(zx 0), Value.ref f, (zx 2), (zx 3)])), (f, .inr (2, [(zf 0), (zf 1), (zf 2), (zf 3), (zf 4), (zf 5), (zf 6), (zf 7), (zf 8), Value.int 0, (zf 10), (zf 11), (zf 12), (zf 13)])), (o, .inl (cO, 1, .inr (.inl fo)))] ∧ tx_H (va_A [(x, .inr (0, [(zx 0), Value.ref f, (zx 2), (zx 3)])), (f, .inr (2, [(zf 0), (zf 1), (zf 2), (zf 3), (zf 4), (zf 5), (zf 6), (zf 7), (zf 8), Value.int 0, (zf 10), (zf 11), (zf 12), (zf 13)])), (o, .inl (cO, 1, .inr (.inl fo)))] sz) U)) (va_Qi (fun (r : Int32) (_ : Int64) => r = 1) (fun (u : Int64) (t : State) => ∃ fo2 : Nat → Int64, fo2 0 = u ∧ va_P (dC, dI) kcl [(o, .inl (cO, 1, .inr (.inl fo2)))] t.heap ∧ va_K (dC, dI) kcl [(cO, .long)] t ∧ va_D (va_A [(x, .inr (0, [(zx 0), Value.ref f, (zx 2), (zx 3)])), (f, .inr (2, [(zf 0), (zf 1), (zf 2), (zf 3), (zf 4), (zf 5), (zf 6), (zf 7), (zf 8), Value.int 0, (zf 10), (zf 11), (zf 12), (zf 13)])), (o, .inl (cO, 1, .inr (.inl fo)))] sz) [(o, .inl (cO, 1, .inr (.inl fo2)))]) (va_A [(x, .inr (0, [(zx 0), Value.ref f, (zx 2), (zx 3)])), (f, .inr (2, [(zf 0), (zf 1), (zf 2), (zf 3), (zf 4), (zf 5), (zf 6), (zf 7), (zf 8), Value.int 0, (zf 10), (zf 11), (zf 12), (zf 13)])), (o, .inl (cO, 1, .inr (.inl fo)))] sz)) 1 6 (va_A [(x, .inr (0, [(zx 0), Value.ref f, (zx 2), (zx 3)])), (f, .inr (2, [(zf 0), (zf 1), (zf 2), (zf 3), (zf 4), (zf 5), (zf 6), (zf 7), (zf 8), Value.int 0, (zf 10), (zf 11), (zf 12), (zf 13)])), (o, .inl (cO, 1, .inr (.inl fo)))] sz) := by
  refine tx_metW (cc := b_Z_same) (maxL := 5) (ret := (Option.some Jvm.ClassFile.FieldType.int)) (by decide) rfl ?_
  intro p e s m args below meth c s₁ B hml htab hv
  obtain ⟨rfl, hsz, hP, hK, hD0, hG⟩ := hv
  have hx := B.exec
  have hb := B.bytes
  have hr := B.returns
  have hlocks := B.notSynchronized
  have hg : ∀ w ∈ gw, w.before _ s = true := fun w h => atoms_spec (ws := ws_Z_same) B.pre w (List.mem_cons_of_mem _ h)
  have hown : s.vm.findClass "TreeMatcherLaw" = some m.cls := findClass_of_methodNamed B.named
  subst hsz
  have hD := hD0.self (sz := s.heap.size)
  have hA : ∀ q : Nat, s.heap.size ≤ q → va_A [(x, .inr (0, [(zx 0), Value.ref f, (zx 2), (zx 3)])), (f, .inr (2, [(zf 0), (zf 1), (zf 2), (zf 3), (zf 4), (zf 5), (zf 6), (zf 7), (zf 8), Value.int 0, (zf 10), (zf 11), (zf 12), (zf 13)])), (o, .inl (cO, 1, .inr (.inl fo)))] s.heap.size q := fun q h => Or.inr h
  generalize hAe : va_A [(x, .inr (0, [(zx 0), Value.ref f, (zx 2), (zx 3)])), (f, .inr (2, [(zf 0), (zf 1), (zf 2), (zf 3), (zf 4), (zf 5), (zf 6), (zf 7), (zf 8), Value.int 0, (zf 10), (zf 11), (zf 12), (zf 13)])), (o, .inl (cO, 1, .inr (.inl fo)))] s.heap.size = A at hD hG hA ⊢
  have hN : tx_N s := hG.1.1
  have hS : va_S A s.heap s.heap [] := va_S.rf
  have hl := lv_entry ([Value.ref x, Value.int n, Value.int k, Value.ref o] : List Value) (n := 5) (Nat.le_of_ble_eq_true rfl)
  rw [lg_entry_eq]
  generalize (lg_sl ([Value.ref x, Value.int n, Value.int k, Value.ref o] : List Value) ++ List.replicate (5 - (lg_sl ([Value.ref x, Value.int n, Value.int k, Value.ref o] : List Value)).length) Slot.unset).toArray = ls at hl ⊢
  have hl : lv_has ls 5 [(0, Value.ref x), (1, Value.int n), (2, Value.int k), (3, Value.ref o)] := hl
  refine lv_aload_n hx hb d_Z_same_0 rfl (lv_at hl 3 rfl) ?_
  refine lv_iconst (v := 0) hx hb d_Z_same_1 (by decide) ?_
  refine lv_aload_n hx hb d_Z_same_2 rfl (lv_at hl 0 rfl) ?_
  refine lv_iload_n hx hb d_Z_same_3 rfl (lv_at hl 1 rfl) ?_
  refine lv_iload_n hx hb d_Z_same_4 rfl (lv_at hl 2 rfl) ?_
  have hPc := hP.sub (ws' := [(x, .inr (0, [(zx 0), Value.ref f, (zx 2), (zx 3)])), (f, .inr (2, [(zf 0), (zf 1), (zf 2), (zf 3), (zf 4), (zf 5), (zf 6), (zf 7), (zf 8), Value.int 0, (zf 10), (zf 11), (zf 12), (zf 13)]))]) [0, 1] rfl
  have hKc := hK.sub (tys' := []) [] rfl
  refine tx_call (tx_runV (As := [Value.int n, Value.int k]) (rest := [Value.int 0, Value.ref o]) ⟨hx, hb, hml, hown, hg⟩ (c_M_same l hlf dC dI s.heap.size x f zx zf n k) (cwV 2 hg (gw_giV cin_M_same tw_786 tw_787 tw_788 tw_1) rfl rfl rfl (by decide +kernel) ⟨Nat.le_of_ble_eq_true rfl, Nat.le_of_ble_eq_true rfl⟩) ⟨fun a U g mk q => by obtain ⟨q0, q1, qP, qK, qG⟩ := q; exact ⟨q0, q1, qP, va_K.moved (u := U) (U := U.calling g mk a) (Vm.Alike.refl U.vm) qK, tx_G.same (U := U.calling g mk a) rfl rfl qG⟩, va_recv hKc hPc (ci := 0) (q0 := 0) rfl rfl, fun U hU hW => ⟨rfl, by rw [hU], by rw [hU]; exact hPc, va_K.moved hW.alike hKc, hG.1.to hW (fun a h1 h2 => (congrArg (fun (h : Heap) => h[a]?) hU).trans (hS.2.1 a h1 h2)) (tx_pF hS hA)⟩⟩ rfl rfl hl.1 rfl (lv_room (Nat.le_of_ble_eq_true rfl)) d_Z_same_5 ⟨Nat.le_of_ble_eq_true rfl, Nat.le_of_ble_eq_true rfl⟩) hS (fun q h1 h => (tx_pA h1 h).elim) (tx_pF hS hA) (fun v_k_1 H_2 l_k_1 hv_k_1 hz1 hk1 hS => ?_) (fun x_k_1 X_k_1 H_2 l_k_1 hX_k_1 hx_k_1 hz1 hk1 hS => ?_)
  · exact hv_k_1.elim
  · have hP := tx_keep hP hk1
    obtain rfl : X_k_1 = "java/lang/IndexOutOfBoundsException" := hX_k_1
    refine tx_wcatch1 hx_k_1 htab (by decide) (by decide) hown (hg _ tw_656) ?_
    refine lv_astore (lv' := [(4, Value.ref x_k_1), (0, Value.ref x), (1, Value.int n), (2, Value.int k), (3, Value.ref o)]) hx hb d_Z_same_20 hl (by decide) rfl (fun ls hl => ?_)
    refine lv_iconst (v := 1) hx hb d_Z_same_22 (by decide) ?_
    have hP9 := hP.sub (ws' := [(o, .inl (cO, 1, .inr (.inl fo)))]) [2] rfl
    have hD9 := hD.sub (ws' := [(o, .inl (cO, 1, .inr (.inl fo)))]) [2] (by decide) rfl
    have hK9 := hK.sub (tys' := [(cO, .long)]) [0] rfl
    exact W.iret (v := 1) hx hb hr (fun t ht hW => ⟨⟨1, _, rfl, rfl, ⟨_, rfl, by rw [ht]; exact hP9, va_K.moved hW.alike hK9, hD9⟩⟩, hS.F ht⟩) hS.2.2 d_Z_same_23
set_option maxHeartbeats 4000000 in
set_option maxRecDepth 100000 in
theorem c_Z_pair (l : Launch) (hlf : l.flags = flags0) (dC : Nat → ClassId) (dI : Nat → Nat → Nat) (sz : Nat) (x cq : Nat) (zx : Nat → Value) (zcq : Nat → Value) (n k : Int32) (o : Nat) (cO : ClassId) (fo : Nat → Int64) : Met l y_Z_pair ws_Z_pair ({ frames := 7, cells := 1, slots := 6, locals := 113 }) (va_Pc [Value.ref x, Value.int n, Value.int k, Value.ref o] (fun U => U.heap.size = sz ∧ va_P (dC, dI) kcl [(x, .inr (0, [(zx 0), (zx 1), Value.ref cq, (zx 3)])), (cq, .inr (3, [(zcq 0), (zcq 1), (zcq 2), (zcq 3), (zcq 4), (zcq 5), Value.int 0])), (o, .inl (cO, 1, .inr (.inl fo)))] U.heap ∧ va_K (dC, dI) kcl [(cO, .long)] U ∧ va_D (fun _ => True) [(x, .inr (0, [(zx 0), (zx 1), Value.ref cq, (zx 3)])), (cq, .inr (3, [(zcq 0), (zcq 1), (zcq 2), (zcq 3), (zcq 4), (zcq 5), Value.int 0])), (o, .inl (cO, 1, .inr (.inl fo)))] ∧ tx_H (va_A [(x, .inr (0, [(zx 0), (zx 1), Value.ref cq, (zx 3)])), (cq, .inr (3, [(zcq 0), (zcq 1), (zcq 2), (zcq 3), (zcq 4), (zcq 5), Value.int 0])), (o, .inl (cO, 1, .inr (.inl fo)))] sz) U)) (va_Qi (fun (r : Int32) (_ : Int64) => r = 1) (fun (u : Int64) (t : State) => ∃ fo2 : Nat → Int64, fo2 0 = u ∧ va_P (dC, dI) kcl [(o, .inl (cO, 1, .inr (.inl fo2)))] t.heap ∧ va_K (dC, dI) kcl [(cO, .long)] t ∧ va_D (va_A [(x, .inr (0, [(zx 0), (zx 1), Value.ref cq, (zx 3)])), (cq, .inr (3, [(zcq 0), (zcq 1), (zcq 2), (zcq 3), (zcq 4), (zcq 5), Value.int 0])), (o, .inl (cO, 1, .inr (.inl fo)))] sz) [(o, .inl (cO, 1, .inr (.inl fo2)))]) (va_A [(x, .inr (0, [(zx 0), (zx 1), Value.ref cq, (zx 3)])), (cq, .inr (3, [(zcq 0), (zcq 1), (zcq 2), (zcq 3), (zcq 4), (zcq 5), Value.int 0])), (o, .inl (cO, 1, .inr (.inl fo)))] sz)) 1 6 (va_A [(x, .inr (0, [(zx 0), (zx 1), Value.ref cq, (zx 3)])), (cq, .inr (3, [(zcq 0), (zcq 1), (zcq 2), (zcq 3), (zcq 4), (zcq 5), Value.int 0])), (o, .inl (cO, 1, .inr (.inl fo)))] sz) := by
  refine tx_metW (cc := b_Z_pair) (maxL := 5) (ret := (Option.some Jvm.ClassFile.FieldType.int)) (by decide) rfl ?_
  intro p e s m args below meth c s₁ B hml htab hv
  obtain ⟨rfl, hsz, hP, hK, hD0, hG⟩ := hv
  have hx := B.exec
  have hb := B.bytes
  have hr := B.returns
  have hlocks := B.notSynchronized
  have hg : ∀ w ∈ gw, w.before _ s = true := fun w h => atoms_spec (ws := ws_Z_pair) B.pre w (List.mem_cons_of_mem _ h)
  have hown : s.vm.findClass "TreeMatcherLaw" = some m.cls := findClass_of_methodNamed B.named
  subst hsz
  have hD := hD0.self (sz := s.heap.size)
  have hA : ∀ q : Nat, s.heap.size ≤ q → va_A [(x, .inr (0, [(zx 0), (zx 1), Value.ref cq, (zx 3)])), (cq, .inr (3, [(zcq 0), (zcq 1), (zcq 2), (zcq 3), (zcq 4), (zcq 5), Value.int 0])), (o, .inl (cO, 1, .inr (.inl fo)))] s.heap.size q := fun q h => Or.inr h
  generalize hAe : va_A [(x, .inr (0, [(zx 0), (zx 1), Value.ref cq, (zx 3)])), (cq, .inr (3, [(zcq 0), (zcq 1), (zcq 2), (zcq 3), (zcq 4), (zcq 5), Value.int 0])), (o, .inl (cO, 1, .inr (.inl fo)))] s.heap.size = A at hD hG hA ⊢
  have hN : tx_N s := hG.1.1
  have hS : va_S A s.heap s.heap [] := va_S.rf
  have hl := lv_entry ([Value.ref x, Value.int n, Value.int k, Value.ref o] : List Value) (n := 5) (Nat.le_of_ble_eq_true rfl)
  rw [lg_entry_eq]
  generalize (lg_sl ([Value.ref x, Value.int n, Value.int k, Value.ref o] : List Value) ++ List.replicate (5 - (lg_sl ([Value.ref x, Value.int n, Value.int k, Value.ref o] : List Value)).length) Slot.unset).toArray = ls at hl ⊢
  have hl : lv_has ls 5 [(0, Value.ref x), (1, Value.int n), (2, Value.int k), (3, Value.ref o)] := hl
  refine lv_aload_n hx hb d_Z_pair_0 rfl (lv_at hl 3 rfl) ?_
  refine lv_iconst (v := 0) hx hb d_Z_pair_1 (by decide) ?_
  refine lv_aload_n hx hb d_Z_pair_2 rfl (lv_at hl 0 rfl) ?_
  refine lv_iload_n hx hb d_Z_pair_3 rfl (lv_at hl 1 rfl) ?_
  refine lv_iload_n hx hb d_Z_pair_4 rfl (lv_at hl 2 rfl) ?_
  have hPc := hP.sub (ws' := [(x, .inr (0, [(zx 0), (zx 1), Value.ref cq, (zx 3)])), (cq, .inr (3, [(zcq 0), (zcq 1), (zcq 2), (zcq 3), (zcq 4), (zcq 5), Value.int 0]))]) [0, 1] rfl
  have hKc := hK.sub (tys' := []) [] rfl
  refine tx_call (tx_runV (As := [Value.int n, Value.int k]) (rest := [Value.int 0, Value.ref o]) ⟨hx, hb, hml, hown, hg⟩ (c_M_pair l hlf dC dI s.heap.size x cq zx zcq n k) (cwV 2 hg (gw_giV cin_M_pair tw_736 tw_737 tw_738 tw_1) rfl rfl rfl (by decide +kernel) ⟨Nat.le_of_ble_eq_true rfl, Nat.le_of_ble_eq_true rfl⟩) ⟨fun a U g mk q => by obtain ⟨q0, q1, qP, qK, qG⟩ := q; exact ⟨q0, q1, qP, va_K.moved (u := U) (U := U.calling g mk a) (Vm.Alike.refl U.vm) qK, tx_G.same (U := U.calling g mk a) rfl rfl qG⟩, va_recv hKc hPc (ci := 0) (q0 := 0) rfl rfl, fun U hU hW => ⟨rfl, by rw [hU], by rw [hU]; exact hPc, va_K.moved hW.alike hKc, hG.1.to hW (fun a h1 h2 => (congrArg (fun (h : Heap) => h[a]?) hU).trans (hS.2.1 a h1 h2)) (tx_pF hS hA)⟩⟩ rfl rfl hl.1 rfl (lv_room (Nat.le_of_ble_eq_true rfl)) d_Z_pair_5 ⟨Nat.le_of_ble_eq_true rfl, Nat.le_of_ble_eq_true rfl⟩) hS (fun q h1 h => (tx_pA h1 h).elim) (tx_pF hS hA) (fun v_k_1 H_2 l_k_1 hv_k_1 hz1 hk1 hS => ?_) (fun x_k_1 X_k_1 H_2 l_k_1 hX_k_1 hx_k_1 hz1 hk1 hS => ?_)
  · exact hv_k_1.elim
  · have hP := tx_keep hP hk1
    obtain rfl : X_k_1 = "java/lang/IndexOutOfBoundsException" := hX_k_1
    refine tx_wcatch1 hx_k_1 htab (by decide) (by decide) hown (hg _ tw_656) ?_
    refine lv_astore (lv' := [(4, Value.ref x_k_1), (0, Value.ref x), (1, Value.int n), (2, Value.int k), (3, Value.ref o)]) hx hb d_Z_pair_13 hl (by decide) rfl (fun ls hl => ?_)
    refine lv_iconst (v := 1) hx hb d_Z_pair_15 (by decide) ?_
    have hP9 := hP.sub (ws' := [(o, .inl (cO, 1, .inr (.inl fo)))]) [2] rfl
    have hD9 := hD.sub (ws' := [(o, .inl (cO, 1, .inr (.inl fo)))]) [2] (by decide) rfl
    have hK9 := hK.sub (tys' := [(cO, .long)]) [0] rfl
    exact W.iret (v := 1) hx hb hr (fun t ht hW => ⟨⟨1, _, rfl, rfl, ⟨_, rfl, by rw [ht]; exact hP9, va_K.moved hW.alike hK9, hD9⟩⟩, hS.F ht⟩) hS.2.2 d_Z_pair_16
set_option maxHeartbeats 4000000 in
set_option maxRecDepth 100000 in
theorem c_Z_states (l : Launch) (hlf : l.flags = flags0) (dC : Nat → ClassId) (dI : Nat → Nat → Nat) (sz : Nat) (x g y v : Nat) (zx : Nat → Value) (zg : Nat → Value) (zy : Nat → Value) (zv : Nat → Value) (o : Nat) (cO : ClassId) (fo : Nat → Int64) : Met l y_Z_states ws_Z_states ({ frames := 3, cells := 0, slots := 0, locals := 62 }) (va_Pc [Value.ref x, Value.ref o] (fun U => U.heap.size = sz ∧ va_P (dC, dI) kcl [(x, .inr (0, [Value.ref g, (zx 1), (zx 2), Value.ref y])), (g, .inr (1, [(zg 0), Value.int 0, (zg 2), (zg 3), (zg 4), (zg 5), (zg 6), (zg 7), (zg 8), (zg 9), (zg 10), Value.int 0, Value.int 0, (zg 13)])), (y, .inr (4, [Value.ref g, Value.ref v, Value.int 0, Value.int 0])), (v, .inr (5, [(zv 0), (zv 1), (zv 2), (zv 3), (zv 4), (zv 5), (zv 6), Value.int 0])), (o, .inl (cO, 1, .inr (.inl fo)))] U.heap ∧ va_K (dC, dI) kcl [(cO, .long)] U ∧ va_D (fun _ => True) [(x, .inr (0, [Value.ref g, (zx 1), (zx 2), Value.ref y])), (g, .inr (1, [(zg 0), Value.int 0, (zg 2), (zg 3), (zg 4), (zg 5), (zg 6), (zg 7), (zg 8), (zg 9), (zg 10), Value.int 0, Value.int 0, (zg 13)])), (y, .inr (4, [Value.ref g, Value.ref v, Value.int 0, Value.int 0])), (v, .inr (5, [(zv 0), (zv 1), (zv 2), (zv 3), (zv 4), (zv 5), (zv 6), Value.int 0])), (o, .inl (cO, 1, .inr (.inl fo)))] ∧ tx_H (va_A [(x, .inr (0, [Value.ref g, (zx 1), (zx 2), Value.ref y])), (g, .inr (1, [(zg 0), Value.int 0, (zg 2), (zg 3), (zg 4), (zg 5), (zg 6), (zg 7), (zg 8), (zg 9), (zg 10), Value.int 0, Value.int 0, (zg 13)])), (y, .inr (4, [Value.ref g, Value.ref v, Value.int 0, Value.int 0])), (v, .inr (5, [(zv 0), (zv 1), (zv 2), (zv 3), (zv 4), (zv 5), (zv 6), Value.int 0])), (o, .inl (cO, 1, .inr (.inl fo)))] sz) U)) (va_Qi (fun (r : Int32) (u : Int64) => r = 0 ∧ u = (0 : Int32).toInt64) (fun (u : Int64) (t : State) => ∃ fo2 : Nat → Int64, fo2 0 = u ∧ va_P (dC, dI) kcl [(o, .inl (cO, 1, .inr (.inl fo2)))] t.heap ∧ va_K (dC, dI) kcl [(cO, .long)] t ∧ va_D (va_A [(x, .inr (0, [Value.ref g, (zx 1), (zx 2), Value.ref y])), (g, .inr (1, [(zg 0), Value.int 0, (zg 2), (zg 3), (zg 4), (zg 5), (zg 6), (zg 7), (zg 8), (zg 9), (zg 10), Value.int 0, Value.int 0, (zg 13)])), (y, .inr (4, [Value.ref g, Value.ref v, Value.int 0, Value.int 0])), (v, .inr (5, [(zv 0), (zv 1), (zv 2), (zv 3), (zv 4), (zv 5), (zv 6), Value.int 0])), (o, .inl (cO, 1, .inr (.inl fo)))] sz) [(o, .inl (cO, 1, .inr (.inl fo2)))]) (va_A [(x, .inr (0, [Value.ref g, (zx 1), (zx 2), Value.ref y])), (g, .inr (1, [(zg 0), Value.int 0, (zg 2), (zg 3), (zg 4), (zg 5), (zg 6), (zg 7), (zg 8), (zg 9), (zg 10), Value.int 0, Value.int 0, (zg 13)])), (y, .inr (4, [Value.ref g, Value.ref v, Value.int 0, Value.int 0])), (v, .inr (5, [(zv 0), (zv 1), (zv 2), (zv 3), (zv 4), (zv 5), (zv 6), Value.int 0])), (o, .inl (cO, 1, .inr (.inl fo)))] sz)) 0 0 (va_A [(x, .inr (0, [Value.ref g, (zx 1), (zx 2), Value.ref y])), (g, .inr (1, [(zg 0), Value.int 0, (zg 2), (zg 3), (zg 4), (zg 5), (zg 6), (zg 7), (zg 8), (zg 9), (zg 10), Value.int 0, Value.int 0, (zg 13)])), (y, .inr (4, [Value.ref g, Value.ref v, Value.int 0, Value.int 0])), (v, .inr (5, [(zv 0), (zv 1), (zv 2), (zv 3), (zv 4), (zv 5), (zv 6), Value.int 0])), (o, .inl (cO, 1, .inr (.inl fo)))] sz) := by
  refine tx_metW (cc := b_Z_states) (maxL := 3) (ret := (Option.some Jvm.ClassFile.FieldType.int)) (by decide) rfl ?_
  intro p e s m args below meth c s₁ B hml htab hv
  obtain ⟨rfl, hsz, hP, hK, hD0, hG⟩ := hv
  have hx := B.exec
  have hb := B.bytes
  have hr := B.returns
  have hlocks := B.notSynchronized
  have hg : ∀ w ∈ gw, w.before _ s = true := fun w h => atoms_spec (ws := ws_Z_states) B.pre w (List.mem_cons_of_mem _ h)
  have hown : s.vm.findClass "TreeMatcherLaw" = some m.cls := findClass_of_methodNamed B.named
  subst hsz
  have hD := hD0.self (sz := s.heap.size)
  have hA : ∀ q : Nat, s.heap.size ≤ q → va_A [(x, .inr (0, [Value.ref g, (zx 1), (zx 2), Value.ref y])), (g, .inr (1, [(zg 0), Value.int 0, (zg 2), (zg 3), (zg 4), (zg 5), (zg 6), (zg 7), (zg 8), (zg 9), (zg 10), Value.int 0, Value.int 0, (zg 13)])), (y, .inr (4, [Value.ref g, Value.ref v, Value.int 0, Value.int 0])), (v, .inr (5, [(zv 0), (zv 1), (zv 2), (zv 3), (zv 4), (zv 5), (zv 6), Value.int 0])), (o, .inl (cO, 1, .inr (.inl fo)))] s.heap.size q := fun q h => Or.inr h
  generalize hAe : va_A [(x, .inr (0, [Value.ref g, (zx 1), (zx 2), Value.ref y])), (g, .inr (1, [(zg 0), Value.int 0, (zg 2), (zg 3), (zg 4), (zg 5), (zg 6), (zg 7), (zg 8), (zg 9), (zg 10), Value.int 0, Value.int 0, (zg 13)])), (y, .inr (4, [Value.ref g, Value.ref v, Value.int 0, Value.int 0])), (v, .inr (5, [(zv 0), (zv 1), (zv 2), (zv 3), (zv 4), (zv 5), (zv 6), Value.int 0])), (o, .inl (cO, 1, .inr (.inl fo)))] s.heap.size = A at hD hG hA ⊢
  have hN : tx_N s := hG.1.1
  have hS : va_S A s.heap s.heap [] := va_S.rf
  have hl := lv_entry ([Value.ref x, Value.ref o] : List Value) (n := 3) (Nat.le_of_ble_eq_true rfl)
  rw [lg_entry_eq]
  generalize (lg_sl ([Value.ref x, Value.ref o] : List Value) ++ List.replicate (3 - (lg_sl ([Value.ref x, Value.ref o] : List Value)).length) Slot.unset).toArray = ls at hl ⊢
  have hl : lv_has ls 3 [(0, Value.ref x), (1, Value.ref o)] := hl
  refine lv_aload_n hx hb d_Z_states_0 rfl (lv_at hl 1 rfl) ?_
  refine lv_iconst (v := 0) hx hb d_Z_states_1 (by decide) ?_
  refine lv_aload_n hx hb d_Z_states_2 rfl (lv_at hl 0 rfl) ?_
  have hPc := hP.sub (ws' := [(x, .inr (0, [Value.ref g, (zx 1), (zx 2), Value.ref y])), (g, .inr (1, [(zg 0), Value.int 0, (zg 2), (zg 3), (zg 4), (zg 5), (zg 6), (zg 7), (zg 8), (zg 9), (zg 10), Value.int 0, Value.int 0, (zg 13)])), (y, .inr (4, [Value.ref g, Value.ref v, Value.int 0, Value.int 0])), (v, .inr (5, [(zv 0), (zv 1), (zv 2), (zv 3), (zv 4), (zv 5), (zv 6), Value.int 0]))]) [0, 1, 2, 3] rfl
  have hKc := hK.sub (tys' := []) [] rfl
  refine va_calli (va_runV (As := []) (rest := [Value.int 0, Value.ref o]) ⟨hx, hb, hml, hown, hg⟩ (c_M_states l dC dI s.heap.size x g y v zx zg zy zv) (cwV 0 hg (gw_giV cin_M_states tw_749 tw_750 tw_751 tw_1) rfl rfl rfl (by decide +kernel) ⟨Nat.le_of_ble_eq_true rfl, Nat.le_of_ble_eq_true rfl⟩) ⟨fun a U g mk q => by obtain ⟨q0, q1, qP, qK⟩ := q; exact ⟨q0, q1, qP, va_K.moved (u := U) (U := U.calling g mk a) (Vm.Alike.refl U.vm) qK⟩, va_recv hKc hPc (ci := 0) (q0 := 0) rfl rfl, fun U hU hW => ⟨rfl, by rw [hU], by rw [hU]; exact hPc, va_K.moved hW.alike hKc⟩⟩ rfl rfl hl.1 rfl (lv_room (Nat.le_of_ble_eq_true rfl)) d_Z_states_3 ⟨Nat.le_of_ble_eq_true rfl, Nat.le_of_ble_eq_true rfl⟩) hS (fun q h1 h => (tx_pA h1 h).elim) (tx_pF hS hA) (fun r_k_1 u_k_1 t_k_1 H_2 l_k_1 ht hvm hw_k_1 hB hz1 hk1 hS => ?_)
  have hw_k_1 : 0 = r_k_1 := Eq.symm hw_k_1
  subst hw_k_1
  have hP := tx_keep hP hk1
  refine lv_i2l hx hb d_Z_states_6 rfl ?_
  refine va_last hx hb hK hP hD hS 4 0 rfl rfl tx_in1 d_Z_states_7 (fun H_3 lo_4 hP hD hS => ?_)
  have hP : va_P (dC, dI) kcl [(x, .inr (0, [Value.ref g, (zx 1), (zx 2), Value.ref y])), (g, .inr (1, [(zg 0), Value.int 0, (zg 2), (zg 3), (zg 4), (zg 5), (zg 6), (zg 7), (zg 8), (zg 9), (zg 10), Value.int 0, Value.int 0, (zg 13)])), (y, .inr (4, [Value.ref g, Value.ref v, Value.int 0, Value.int 0])), (v, .inr (5, [(zv 0), (zv 1), (zv 2), (zv 3), (zv 4), (zv 5), (zv 6), Value.int 0])), (o, .inl (cO, 1, .inr (.inl (vp_updL fo (0 : Int32).toNatClampNeg (0).toInt64))))] H_3 := hP
  have hD : va_D A [(x, .inr (0, [Value.ref g, (zx 1), (zx 2), Value.ref y])), (g, .inr (1, [(zg 0), Value.int 0, (zg 2), (zg 3), (zg 4), (zg 5), (zg 6), (zg 7), (zg 8), (zg 9), (zg 10), Value.int 0, Value.int 0, (zg 13)])), (y, .inr (4, [Value.ref g, Value.ref v, Value.int 0, Value.int 0])), (v, .inr (5, [(zv 0), (zv 1), (zv 2), (zv 3), (zv 4), (zv 5), (zv 6), Value.int 0])), (o, .inl (cO, 1, .inr (.inl (vp_updL fo (0 : Int32).toNatClampNeg (0).toInt64))))] := hD
  refine lv_goto (tgt := 14) hx hb d_Z_states_8 (by decide) ?_
  refine lv_iconst (v := 0) hx hb d_Z_states_14 (by decide) ?_
  have hP9 := hP.sub (ws' := [(o, .inl (cO, 1, .inr (.inl (vp_updL fo (0 : Int32).toNatClampNeg (0).toInt64))))]) [4] rfl
  have hD9 := hD.sub (ws' := [(o, .inl (cO, 1, .inr (.inl (vp_updL fo (0 : Int32).toNatClampNeg (0).toInt64))))]) [4] (by decide) rfl
  have hK9 := hK.sub (tys' := [(cO, .long)]) [0] rfl
  exact W.iret (v := 0) hx hb hr (fun t ht hW => ⟨⟨0, _, rfl, ⟨rfl, rfl⟩, ⟨_, rfl, by rw [ht]; exact hP9, va_K.moved hW.alike hK9, hD9⟩⟩, hS.F ht⟩) hS.2.2 d_Z_states_15
set_option maxHeartbeats 4000000 in
set_option maxRecDepth 100000 in
theorem c_Z_count (l : Launch) (hlf : l.flags = flags0) (dC : Nat → ClassId) (dI : Nat → Nat → Nat) (sz : Nat) (x g f cq pq : Nat) (zx : Nat → Value) (zg : Nat → Value) (zf : Nat → Value) (zcq : Nat → Value) (zpq : Nat → Value) (n : Int32) (o : Nat) (cO : ClassId) (fo : Nat → Int64) : Met l y_Z_count ws_Z_count ({ frames := 7, cells := 1, slots := 6, locals := 111 }) (va_Pc [Value.ref x, Value.int n, Value.ref o] (fun U => U.heap.size = sz ∧ va_P (dC, dI) kcl [(x, .inr (0, [Value.ref g, Value.ref f, Value.ref cq, (zx 3)])), (g, .inr (1, [(zg 0), Value.int 0, (zg 2), Value.int 0, (zg 4), (zg 5), (zg 6), (zg 7), (zg 8), (zg 9), (zg 10), Value.int 0, (zg 12), Value.ref pq])), (f, .inr (2, [(zf 0), (zf 1), (zf 2), (zf 3), (zf 4), (zf 5), (zf 6), (zf 7), (zf 8), Value.int 0, (zf 10), (zf 11), (zf 12), (zf 13)])), (cq, .inr (3, [(zcq 0), (zcq 1), (zcq 2), (zcq 3), (zcq 4), (zcq 5), Value.int 0])), (pq, .inr (6, [(zpq 0), (zpq 1), (zpq 2), (zpq 3), (zpq 4), Value.int 16])), (o, .inl (cO, 1, .inr (.inl fo)))] U.heap ∧ va_K (dC, dI) kcl [(cO, .long)] U ∧ va_D (fun _ => True) [(x, .inr (0, [Value.ref g, Value.ref f, Value.ref cq, (zx 3)])), (g, .inr (1, [(zg 0), Value.int 0, (zg 2), Value.int 0, (zg 4), (zg 5), (zg 6), (zg 7), (zg 8), (zg 9), (zg 10), Value.int 0, (zg 12), Value.ref pq])), (f, .inr (2, [(zf 0), (zf 1), (zf 2), (zf 3), (zf 4), (zf 5), (zf 6), (zf 7), (zf 8), Value.int 0, (zf 10), (zf 11), (zf 12), (zf 13)])), (cq, .inr (3, [(zcq 0), (zcq 1), (zcq 2), (zcq 3), (zcq 4), (zcq 5), Value.int 0])), (pq, .inr (6, [(zpq 0), (zpq 1), (zpq 2), (zpq 3), (zpq 4), Value.int 16])), (o, .inl (cO, 1, .inr (.inl fo)))] ∧ tx_H (va_A [(x, .inr (0, [Value.ref g, Value.ref f, Value.ref cq, (zx 3)])), (g, .inr (1, [(zg 0), Value.int 0, (zg 2), Value.int 0, (zg 4), (zg 5), (zg 6), (zg 7), (zg 8), (zg 9), (zg 10), Value.int 0, (zg 12), Value.ref pq])), (f, .inr (2, [(zf 0), (zf 1), (zf 2), (zf 3), (zf 4), (zf 5), (zf 6), (zf 7), (zf 8), Value.int 0, (zf 10), (zf 11), (zf 12), (zf 13)])), (cq, .inr (3, [(zcq 0), (zcq 1), (zcq 2), (zcq 3), (zcq 4), (zcq 5), Value.int 0])), (pq, .inr (6, [(zpq 0), (zpq 1), (zpq 2), (zpq 3), (zpq 4), Value.int 16])), (o, .inl (cO, 1, .inr (.inl fo)))] sz) U)) (va_Qi (fun (r : Int32) (u : Int64) => ((0 ≤ n ∧ n < 6) ∧ r = 0 ∧ u = (if n = 4 then (16 : Int32) else 0).toInt64) ∨ (¬ (0 ≤ n ∧ n < 6) ∧ r = 1)) (fun (u : Int64) (t : State) => ∃ fo2 : Nat → Int64, fo2 0 = u ∧ va_P (dC, dI) kcl [(o, .inl (cO, 1, .inr (.inl fo2)))] t.heap ∧ va_K (dC, dI) kcl [(cO, .long)] t ∧ va_D (va_A [(x, .inr (0, [Value.ref g, Value.ref f, Value.ref cq, (zx 3)])), (g, .inr (1, [(zg 0), Value.int 0, (zg 2), Value.int 0, (zg 4), (zg 5), (zg 6), (zg 7), (zg 8), (zg 9), (zg 10), Value.int 0, (zg 12), Value.ref pq])), (f, .inr (2, [(zf 0), (zf 1), (zf 2), (zf 3), (zf 4), (zf 5), (zf 6), (zf 7), (zf 8), Value.int 0, (zf 10), (zf 11), (zf 12), (zf 13)])), (cq, .inr (3, [(zcq 0), (zcq 1), (zcq 2), (zcq 3), (zcq 4), (zcq 5), Value.int 0])), (pq, .inr (6, [(zpq 0), (zpq 1), (zpq 2), (zpq 3), (zpq 4), Value.int 16])), (o, .inl (cO, 1, .inr (.inl fo)))] sz) [(o, .inl (cO, 1, .inr (.inl fo2)))]) (va_A [(x, .inr (0, [Value.ref g, Value.ref f, Value.ref cq, (zx 3)])), (g, .inr (1, [(zg 0), Value.int 0, (zg 2), Value.int 0, (zg 4), (zg 5), (zg 6), (zg 7), (zg 8), (zg 9), (zg 10), Value.int 0, (zg 12), Value.ref pq])), (f, .inr (2, [(zf 0), (zf 1), (zf 2), (zf 3), (zf 4), (zf 5), (zf 6), (zf 7), (zf 8), Value.int 0, (zf 10), (zf 11), (zf 12), (zf 13)])), (cq, .inr (3, [(zcq 0), (zcq 1), (zcq 2), (zcq 3), (zcq 4), (zcq 5), Value.int 0])), (pq, .inr (6, [(zpq 0), (zpq 1), (zpq 2), (zpq 3), (zpq 4), Value.int 16])), (o, .inl (cO, 1, .inr (.inl fo)))] sz)) 1 6 (va_A [(x, .inr (0, [Value.ref g, Value.ref f, Value.ref cq, (zx 3)])), (g, .inr (1, [(zg 0), Value.int 0, (zg 2), Value.int 0, (zg 4), (zg 5), (zg 6), (zg 7), (zg 8), (zg 9), (zg 10), Value.int 0, (zg 12), Value.ref pq])), (f, .inr (2, [(zf 0), (zf 1), (zf 2), (zf 3), (zf 4), (zf 5), (zf 6), (zf 7), (zf 8), Value.int 0, (zf 10), (zf 11), (zf 12), (zf 13)])), (cq, .inr (3, [(zcq 0), (zcq 1), (zcq 2), (zcq 3), (zcq 4), (zcq 5), Value.int 0])), (pq, .inr (6, [(zpq 0), (zpq 1), (zpq 2), (zpq 3), (zpq 4), Value.int 16])), (o, .inl (cO, 1, .inr (.inl fo)))] sz) := by
  refine tx_metW (cc := b_Z_count) (maxL := 4) (ret := (Option.some Jvm.ClassFile.FieldType.int)) (by decide) rfl ?_
  intro p e s m args below meth c s₁ B hml htab hv
  obtain ⟨rfl, hsz, hP, hK, hD0, hG⟩ := hv
  have hx := B.exec
  have hb := B.bytes
  have hr := B.returns
  have hlocks := B.notSynchronized
  have hg : ∀ w ∈ gw, w.before _ s = true := fun w h => atoms_spec (ws := ws_Z_count) B.pre w (List.mem_cons_of_mem _ h)
  have hown : s.vm.findClass "TreeMatcherLaw" = some m.cls := findClass_of_methodNamed B.named
  subst hsz
  have hD := hD0.self (sz := s.heap.size)
  have hA : ∀ q : Nat, s.heap.size ≤ q → va_A [(x, .inr (0, [Value.ref g, Value.ref f, Value.ref cq, (zx 3)])), (g, .inr (1, [(zg 0), Value.int 0, (zg 2), Value.int 0, (zg 4), (zg 5), (zg 6), (zg 7), (zg 8), (zg 9), (zg 10), Value.int 0, (zg 12), Value.ref pq])), (f, .inr (2, [(zf 0), (zf 1), (zf 2), (zf 3), (zf 4), (zf 5), (zf 6), (zf 7), (zf 8), Value.int 0, (zf 10), (zf 11), (zf 12), (zf 13)])), (cq, .inr (3, [(zcq 0), (zcq 1), (zcq 2), (zcq 3), (zcq 4), (zcq 5), Value.int 0])), (pq, .inr (6, [(zpq 0), (zpq 1), (zpq 2), (zpq 3), (zpq 4), Value.int 16])), (o, .inl (cO, 1, .inr (.inl fo)))] s.heap.size q := fun q h => Or.inr h
  generalize hAe : va_A [(x, .inr (0, [Value.ref g, Value.ref f, Value.ref cq, (zx 3)])), (g, .inr (1, [(zg 0), Value.int 0, (zg 2), Value.int 0, (zg 4), (zg 5), (zg 6), (zg 7), (zg 8), (zg 9), (zg 10), Value.int 0, (zg 12), Value.ref pq])), (f, .inr (2, [(zf 0), (zf 1), (zf 2), (zf 3), (zf 4), (zf 5), (zf 6), (zf 7), (zf 8), Value.int 0, (zf 10), (zf 11), (zf 12), (zf 13)])), (cq, .inr (3, [(zcq 0), (zcq 1), (zcq 2), (zcq 3), (zcq 4), (zcq 5), Value.int 0])), (pq, .inr (6, [(zpq 0), (zpq 1), (zpq 2), (zpq 3), (zpq 4), Value.int 16])), (o, .inl (cO, 1, .inr (.inl fo)))] s.heap.size = A at hD hG hA ⊢
  have hN : tx_N s := hG.1.1
  have hS : va_S A s.heap s.heap [] := va_S.rf
  have hl := lv_entry ([Value.ref x, Value.int n, Value.ref o] : List Value) (n := 4) (Nat.le_of_ble_eq_true rfl)
  rw [lg_entry_eq]
  generalize (lg_sl ([Value.ref x, Value.int n, Value.ref o] : List Value) ++ List.replicate (4 - (lg_sl ([Value.ref x, Value.int n, Value.ref o] : List Value)).length) Slot.unset).toArray = ls at hl ⊢
  have hl : lv_has ls 4 [(0, Value.ref x), (1, Value.int n), (2, Value.ref o)] := hl
  refine lv_aload_n hx hb d_Z_count_0 rfl (lv_at hl 2 rfl) ?_
  refine lv_iconst (v := 0) hx hb d_Z_count_1 (by decide) ?_
  refine lv_aload_n hx hb d_Z_count_2 rfl (lv_at hl 0 rfl) ?_
  refine lv_iload_n hx hb d_Z_count_3 rfl (lv_at hl 1 rfl) ?_
  have hPc := hP.sub (ws' := [(x, .inr (0, [Value.ref g, Value.ref f, Value.ref cq, (zx 3)])), (g, .inr (1, [(zg 0), Value.int 0, (zg 2), Value.int 0, (zg 4), (zg 5), (zg 6), (zg 7), (zg 8), (zg 9), (zg 10), Value.int 0, (zg 12), Value.ref pq])), (f, .inr (2, [(zf 0), (zf 1), (zf 2), (zf 3), (zf 4), (zf 5), (zf 6), (zf 7), (zf 8), Value.int 0, (zf 10), (zf 11), (zf 12), (zf 13)])), (cq, .inr (3, [(zcq 0), (zcq 1), (zcq 2), (zcq 3), (zcq 4), (zcq 5), Value.int 0])), (pq, .inr (6, [(zpq 0), (zpq 1), (zpq 2), (zpq 3), (zpq 4), Value.int 16]))]) [0, 1, 2, 3, 4] rfl
  have hKc := hK.sub (tys' := []) [] rfl
  refine tx_call (tx_runV (As := [Value.int n]) (rest := [Value.int 0, Value.ref o]) ⟨hx, hb, hml, hown, hg⟩ (c_M_count l hlf dC dI s.heap.size x g f cq pq zx zg zf zcq zpq n) (cwV 1 hg (gw_giV cin_M_count tw_798 tw_799 tw_800 tw_1) rfl rfl rfl (by decide +kernel) ⟨Nat.le_of_ble_eq_true rfl, Nat.le_of_ble_eq_true rfl⟩) ⟨fun a U g mk q => by obtain ⟨q0, q1, qP, qK, qG⟩ := q; exact ⟨q0, q1, qP, va_K.moved (u := U) (U := U.calling g mk a) (Vm.Alike.refl U.vm) qK, tx_G.same (U := U.calling g mk a) rfl rfl qG⟩, va_recv hKc hPc (ci := 0) (q0 := 0) rfl rfl, fun U hU hW => ⟨rfl, by rw [hU], by rw [hU]; exact hPc, va_K.moved hW.alike hKc, hG.1.to hW (fun a h1 h2 => (congrArg (fun (h : Heap) => h[a]?) hU).trans (hS.2.1 a h1 h2)) (tx_pF hS hA)⟩⟩ rfl rfl hl.1 rfl (lv_room (Nat.le_of_ble_eq_true rfl)) d_Z_count_4 ⟨Nat.le_of_ble_eq_true rfl, Nat.le_of_ble_eq_true rfl⟩) hS (fun q h1 h => (tx_pA h1 h).elim) (tx_pF hS hA) (fun v_k_1 H_2 l_k_1 hv_k_1 hz1 hk1 hS => ?_) (fun x_k_1 X_k_1 H_2 l_k_1 hX_k_1 hx_k_1 hz1 hk1 hS => ?_)
  · obtain ⟨hok, rfl⟩ := hv_k_1
    have hP := tx_keep hP hk1
    refine W.eq (g2 := F0 m 7 ls [Value.int (if n = 4 then (16 : Int32) else 0), Value.int 0, Value.ref o]) rfl ?_
    refine lv_i2l hx hb d_Z_count_7 rfl ?_
    refine va_last hx hb hK hP hD hS 5 0 rfl rfl tx_in1 d_Z_count_8 (fun H_3 lo_4 hP hD hS => ?_)
    have hP : va_P (dC, dI) kcl [(x, .inr (0, [Value.ref g, Value.ref f, Value.ref cq, (zx 3)])), (g, .inr (1, [(zg 0), Value.int 0, (zg 2), Value.int 0, (zg 4), (zg 5), (zg 6), (zg 7), (zg 8), (zg 9), (zg 10), Value.int 0, (zg 12), Value.ref pq])), (f, .inr (2, [(zf 0), (zf 1), (zf 2), (zf 3), (zf 4), (zf 5), (zf 6), (zf 7), (zf 8), Value.int 0, (zf 10), (zf 11), (zf 12), (zf 13)])), (cq, .inr (3, [(zcq 0), (zcq 1), (zcq 2), (zcq 3), (zcq 4), (zcq 5), Value.int 0])), (pq, .inr (6, [(zpq 0), (zpq 1), (zpq 2), (zpq 3), (zpq 4), Value.int 16])), (o, .inl (cO, 1, .inr (.inl (vp_updL fo (0 : Int32).toNatClampNeg ((if n = 4 then (16 : Int32) else 0)).toInt64))))] H_3 := hP
    have hD : va_D A [(x, .inr (0, [Value.ref g, Value.ref f, Value.ref cq, (zx 3)])), (g, .inr (1, [(zg 0), Value.int 0, (zg 2), Value.int 0, (zg 4), (zg 5), (zg 6), (zg 7), (zg 8), (zg 9), (zg 10), Value.int 0, (zg 12), Value.ref pq])), (f, .inr (2, [(zf 0), (zf 1), (zf 2), (zf 3), (zf 4), (zf 5), (zf 6), (zf 7), (zf 8), Value.int 0, (zf 10), (zf 11), (zf 12), (zf 13)])), (cq, .inr (3, [(zcq 0), (zcq 1), (zcq 2), (zcq 3), (zcq 4), (zcq 5), Value.int 0])), (pq, .inr (6, [(zpq 0), (zpq 1), (zpq 2), (zpq 3), (zpq 4), Value.int 16])), (o, .inl (cO, 1, .inr (.inl (vp_updL fo (0 : Int32).toNatClampNeg ((if n = 4 then (16 : Int32) else 0)).toInt64))))] := hD
    refine lv_goto (tgt := 15) hx hb d_Z_count_9 (by decide) ?_
    refine lv_iconst (v := 0) hx hb d_Z_count_15 (by decide) ?_
    have hP9 := hP.sub (ws' := [(o, .inl (cO, 1, .inr (.inl (vp_updL fo (0 : Int32).toNatClampNeg ((if n = 4 then (16 : Int32) else 0)).toInt64))))]) [5] rfl
    have hD9 := hD.sub (ws' := [(o, .inl (cO, 1, .inr (.inl (vp_updL fo (0 : Int32).toNatClampNeg ((if n = 4 then (16 : Int32) else 0)).toInt64))))]) [5] (by decide) rfl
    have hK9 := hK.sub (tys' := [(cO, .long)]) [0] rfl
    exact W.iret (v := 0) hx hb hr (fun t ht hW => ⟨⟨0, _, rfl, Or.inl ⟨hok, rfl, rfl⟩, ⟨_, rfl, by rw [ht]; exact hP9, va_K.moved hW.alike hK9, hD9⟩⟩, hS.F ht⟩) hS.2.2 d_Z_count_16
  · have hP := tx_keep hP hk1
    obtain rfl : X_k_1 = "java/lang/IndexOutOfBoundsException" := hX_k_1.2
    refine tx_wcatch1 hx_k_1 htab (by decide) (by decide) hown (hg _ tw_656) ?_
    refine lv_astore_n (lv' := [(3, Value.ref x_k_1), (0, Value.ref x), (1, Value.int n), (2, Value.ref o)]) hx hb d_Z_count_12 rfl hl (by decide) rfl (fun ls hl => ?_)
    refine lv_iconst (v := 1) hx hb d_Z_count_13 (by decide) ?_
    have hP9 := hP.sub (ws' := [(o, .inl (cO, 1, .inr (.inl fo)))]) [5] rfl
    have hD9 := hD.sub (ws' := [(o, .inl (cO, 1, .inr (.inl fo)))]) [5] (by decide) rfl
    have hK9 := hK.sub (tys' := [(cO, .long)]) [0] rfl
    exact W.iret (v := 1) hx hb hr (fun t ht hW => ⟨⟨1, _, rfl, Or.inr ⟨hX_k_1.1, rfl⟩, ⟨_, rfl, by rw [ht]; exact hP9, va_K.moved hW.alike hK9, hD9⟩⟩, hS.F ht⟩) hS.2.2 d_Z_count_14
