-- ===== PART A: goes FIRST, ahead of the names: the tables' words, and 'selects' of the private methods out of them =====
/-- a private method of a class that the tables say can be made, by its rows of tables_1 -/
def lw_okq (q : MethodName × Nat) : Prop := (q.1.cls ≠ "java/lang/invoke/MethodHandle" ∧ q.1.cls ≠ "java/lang/invoke/VarHandle") ∧ Cond.instantiable q.1.cls q.2 ∈ tables_1 ∧ Cond.privateMethod q.1 ∈ tables_1 ∧ Cond.instanceMethod q.1 ∈ tables_1
theorem lw_p0 : lw_okq (⟨"java/lang/Throwable", "fillInStackTrace", "(I)Ljava/lang/Throwable;"⟩, 6) := ⟨⟨by decide +kernel, by decide +kernel⟩, List.mem_of_getElem? (i := 363) (by decide +kernel), List.mem_of_getElem? (i := 361) (by decide +kernel), List.mem_of_getElem? (i := 362) (by decide +kernel)⟩
theorem lw_p1 : lw_okq (⟨"TreeMatcher$Parts", "addPart", "(II)I"⟩, 6) := ⟨⟨by decide +kernel, by decide +kernel⟩, List.mem_of_getElem? (i := 52) (by decide +kernel), List.mem_of_getElem? (i := 479) (by decide +kernel), List.mem_of_getElem? (i := 480) (by decide +kernel)⟩
theorem lw_p2 : lw_okq (⟨"TreeMatcher$Forest", "isFree", "(I)Z"⟩, 14) := ⟨⟨by decide +kernel, by decide +kernel⟩, List.mem_of_getElem? (i := 125) (by decide +kernel), List.mem_of_getElem? (i := 500) (by decide +kernel), List.mem_of_getElem? (i := 501) (by decide +kernel)⟩
theorem lw_p3 : lw_okq (⟨"TreeMatcher$Forest", "adopt", "(I)I"⟩, 14) := ⟨⟨by decide +kernel, by decide +kernel⟩, List.mem_of_getElem? (i := 125) (by decide +kernel), List.mem_of_getElem? (i := 511) (by decide +kernel), List.mem_of_getElem? (i := 512) (by decide +kernel)⟩
theorem lw_p4 : lw_okq (⟨"TreeMatcher$Vectors", "compose", "(III)J"⟩, 8) := ⟨⟨by decide +kernel, by decide +kernel⟩, List.mem_of_getElem? (i := 149) (by decide +kernel), List.mem_of_getElem? (i := 519) (by decide +kernel), List.mem_of_getElem? (i := 520) (by decide +kernel)⟩
theorem lw_p5 : lw_okq (⟨"TreeMatcher$Vectors", "entry", "(II)J"⟩, 8) := ⟨⟨by decide +kernel, by decide +kernel⟩, List.mem_of_getElem? (i := 149) (by decide +kernel), List.mem_of_getElem? (i := 540) (by decide +kernel), List.mem_of_getElem? (i := 541) (by decide +kernel)⟩
theorem lw_p6 : lw_okq (⟨"TreeMatcher$Vectors", "subtract", "(IJ)V"⟩, 8) := ⟨⟨by decide +kernel, by decide +kernel⟩, List.mem_of_getElem? (i := 149) (by decide +kernel), List.mem_of_getElem? (i := 556) (by decide +kernel), List.mem_of_getElem? (i := 557) (by decide +kernel)⟩
theorem lw_p7 : lw_okq (⟨"TreeMatcher$Vectors", "isFresh", "(II)Z"⟩, 8) := ⟨⟨by decide +kernel, by decide +kernel⟩, List.mem_of_getElem? (i := 149) (by decide +kernel), List.mem_of_getElem? (i := 560) (by decide +kernel), List.mem_of_getElem? (i := 561) (by decide +kernel)⟩
theorem lw_p8 : lw_okq (⟨"TreeMatcher$Vectors", "keep", "(II)I"⟩, 8) := ⟨⟨by decide +kernel, by decide +kernel⟩, List.mem_of_getElem? (i := 149) (by decide +kernel), List.mem_of_getElem? (i := 564) (by decide +kernel), List.mem_of_getElem? (i := 565) (by decide +kernel)⟩
theorem lw_p9 : lw_okq (⟨"TreeMatcher$Vectors", "fill", "([JI)V"⟩, 8) := ⟨⟨by decide +kernel, by decide +kernel⟩, List.mem_of_getElem? (i := 149) (by decide +kernel), List.mem_of_getElem? (i := 572) (by decide +kernel), List.mem_of_getElem? (i := 573) (by decide +kernel)⟩
theorem lw_p10 : lw_okq (⟨"TreeMatcher$Forest", "label", "(I)V"⟩, 14) := ⟨⟨by decide +kernel, by decide +kernel⟩, List.mem_of_getElem? (i := 125) (by decide +kernel), List.mem_of_getElem? (i := 615) (by decide +kernel), List.mem_of_getElem? (i := 616) (by decide +kernel)⟩
theorem lw_p11 : lw_okq (⟨"TreeMatcher$Forest", "fit", "(II)I"⟩, 14) := ⟨⟨by decide +kernel, by decide +kernel⟩, List.mem_of_getElem? (i := 125) (by decide +kernel), List.mem_of_getElem? (i := 624) (by decide +kernel), List.mem_of_getElem? (i := 625) (by decide +kernel)⟩
theorem lw_p12 : lw_okq (⟨"TreeMatcher", "checkLabel", "(II)V"⟩, 4) := ⟨⟨by decide +kernel, by decide +kernel⟩, List.mem_of_getElem? (i := 21) (by decide +kernel), List.mem_of_getElem? (i := 662) (by decide +kernel), List.mem_of_getElem? (i := 663) (by decide +kernel)⟩
theorem lw_p13 : lw_okq (⟨"TreeMatcher$Covering", "push", "(I)V"⟩, 7) := ⟨⟨by decide +kernel, by decide +kernel⟩, List.mem_of_getElem? (i := 235) (by decide +kernel), List.mem_of_getElem? (i := 709) (by decide +kernel), List.mem_of_getElem? (i := 710) (by decide +kernel)⟩
theorem lw_p14 : lw_okq (⟨"TreeMatcher$Covering", "pushKids", "(I)V"⟩, 7) := ⟨⟨by decide +kernel, by decide +kernel⟩, List.mem_of_getElem? (i := 235) (by decide +kernel), List.mem_of_getElem? (i := 713) (by decide +kernel), List.mem_of_getElem? (i := 714) (by decide +kernel)⟩
theorem lw_p15 : lw_okq (⟨"TreeMatcher$Tally", "putAbove", "(II)V"⟩, 4) := ⟨⟨by decide +kernel, by decide +kernel⟩, List.mem_of_getElem? (i := 263) (by decide +kernel), List.mem_of_getElem? (i := 775) (by decide +kernel), List.mem_of_getElem? (i := 776) (by decide +kernel)⟩
def lw_privs_1 : List (MethodName × Nat) := [(⟨"java/lang/Throwable", "fillInStackTrace", "(I)Ljava/lang/Throwable;"⟩, 6), (⟨"TreeMatcher$Parts", "addPart", "(II)I"⟩, 6), (⟨"TreeMatcher$Forest", "isFree", "(I)Z"⟩, 14), (⟨"TreeMatcher$Forest", "adopt", "(I)I"⟩, 14), (⟨"TreeMatcher$Vectors", "compose", "(III)J"⟩, 8), (⟨"TreeMatcher$Vectors", "entry", "(II)J"⟩, 8), (⟨"TreeMatcher$Vectors", "subtract", "(IJ)V"⟩, 8), (⟨"TreeMatcher$Vectors", "isFresh", "(II)Z"⟩, 8), (⟨"TreeMatcher$Vectors", "keep", "(II)I"⟩, 8), (⟨"TreeMatcher$Vectors", "fill", "([JI)V"⟩, 8), (⟨"TreeMatcher$Forest", "label", "(I)V"⟩, 14), (⟨"TreeMatcher$Forest", "fit", "(II)I"⟩, 14), (⟨"TreeMatcher", "checkLabel", "(II)V"⟩, 4), (⟨"TreeMatcher$Covering", "push", "(I)V"⟩, 7), (⟨"TreeMatcher$Covering", "pushKids", "(I)V"⟩, 7), (⟨"TreeMatcher$Tally", "putAbove", "(II)V"⟩, 4)]
theorem lw_r1 : ∀ q ∈ lw_privs_1, lw_okq q := List.forall_mem_cons.mpr ⟨lw_p0, List.forall_mem_cons.mpr ⟨lw_p1, List.forall_mem_cons.mpr ⟨lw_p2, List.forall_mem_cons.mpr ⟨lw_p3, List.forall_mem_cons.mpr ⟨lw_p4, List.forall_mem_cons.mpr ⟨lw_p5, List.forall_mem_cons.mpr ⟨lw_p6, List.forall_mem_cons.mpr ⟨lw_p7, List.forall_mem_cons.mpr ⟨lw_p8, List.forall_mem_cons.mpr ⟨lw_p9, List.forall_mem_cons.mpr ⟨lw_p10, List.forall_mem_cons.mpr ⟨lw_p11, List.forall_mem_cons.mpr ⟨lw_p12, List.forall_mem_cons.mpr ⟨lw_p13, List.forall_mem_cons.mpr ⟨lw_p14, List.forall_mem_cons.mpr ⟨lw_p15, fun _ h => absurd h List.not_mem_nil⟩⟩⟩⟩⟩⟩⟩⟩⟩⟩⟩⟩⟩⟩⟩⟩
theorem lw_p16 : lw_okq (⟨"TreeMatcherModel", "fail", "(I)I"⟩, 42) := ⟨⟨by decide +kernel, by decide +kernel⟩, List.mem_of_getElem? (i := 810) (by decide +kernel), List.mem_of_getElem? (i := 956) (by decide +kernel), List.mem_of_getElem? (i := 957) (by decide +kernel)⟩
theorem lw_p17 : lw_okq (⟨"TreeMatcherModel", "isPattern", "()Z"⟩, 42) := ⟨⟨by decide +kernel, by decide +kernel⟩, List.mem_of_getElem? (i := 810) (by decide +kernel), List.mem_of_getElem? (i := 968) (by decide +kernel), List.mem_of_getElem? (i := 969) (by decide +kernel)⟩
theorem lw_p18 : lw_okq (⟨"TreeMatcherModel", "isFree", "(I)Z"⟩, 42) := ⟨⟨by decide +kernel, by decide +kernel⟩, List.mem_of_getElem? (i := 810) (by decide +kernel), List.mem_of_getElem? (i := 976) (by decide +kernel), List.mem_of_getElem? (i := 977) (by decide +kernel)⟩
theorem lw_p19 : lw_okq (⟨"TreeMatcherModel", "isChain", "(I)Z"⟩, 42) := ⟨⟨by decide +kernel, by decide +kernel⟩, List.mem_of_getElem? (i := 810) (by decide +kernel), List.mem_of_getElem? (i := 980) (by decide +kernel), List.mem_of_getElem? (i := 981) (by decide +kernel)⟩
theorem lw_p20 : lw_okq (⟨"TreeMatcherModel", "fits", "(II)I"⟩, 42) := ⟨⟨by decide +kernel, by decide +kernel⟩, List.mem_of_getElem? (i := 810) (by decide +kernel), List.mem_of_getElem? (i := 984) (by decide +kernel), List.mem_of_getElem? (i := 985) (by decide +kernel)⟩
theorem lw_p21 : lw_okq (⟨"TreeMatcherModel", "lay", "(II)Z"⟩, 42) := ⟨⟨by decide +kernel, by decide +kernel⟩, List.mem_of_getElem? (i := 810) (by decide +kernel), List.mem_of_getElem? (i := 988) (by decide +kernel), List.mem_of_getElem? (i := 989) (by decide +kernel)⟩
theorem lw_p22 : lw_okq (⟨"TreeMatcherModel", "close", "([II[III)V"⟩, 42) := ⟨⟨by decide +kernel, by decide +kernel⟩, List.mem_of_getElem? (i := 810) (by decide +kernel), List.mem_of_getElem? (i := 992) (by decide +kernel), List.mem_of_getElem? (i := 993) (by decide +kernel)⟩
theorem lw_p23 : lw_okq (⟨"TreeMatcherModel", "findParts", "()V"⟩, 42) := ⟨⟨by decide +kernel, by decide +kernel⟩, List.mem_of_getElem? (i := 810) (by decide +kernel), List.mem_of_getElem? (i := 1018) (by decide +kernel), List.mem_of_getElem? (i := 1019) (by decide +kernel)⟩
theorem lw_p24 : lw_okq (⟨"TreeMatcherModel", "partAt", "(II)I"⟩, 42) := ⟨⟨by decide +kernel, by decide +kernel⟩, List.mem_of_getElem? (i := 810) (by decide +kernel), List.mem_of_getElem? (i := 1022) (by decide +kernel), List.mem_of_getElem? (i := 1023) (by decide +kernel)⟩
theorem lw_p25 : lw_okq (⟨"TreeMatcherModel", "sizeFrom", "(II)I"⟩, 42) := ⟨⟨by decide +kernel, by decide +kernel⟩, List.mem_of_getElem? (i := 810) (by decide +kernel), List.mem_of_getElem? (i := 1026) (by decide +kernel), List.mem_of_getElem? (i := 1027) (by decide +kernel)⟩
theorem lw_p26 : lw_okq (⟨"TreeMatcherModel", "make", "([III[III)V"⟩, 42) := ⟨⟨by decide +kernel, by decide +kernel⟩, List.mem_of_getElem? (i := 810) (by decide +kernel), List.mem_of_getElem? (i := 1030) (by decide +kernel), List.mem_of_getElem? (i := 1031) (by decide +kernel)⟩
theorem lw_p27 : lw_okq (⟨"TreeMatcherModel", "isNew", "()Z"⟩, 42) := ⟨⟨by decide +kernel, by decide +kernel⟩, List.mem_of_getElem? (i := 810) (by decide +kernel), List.mem_of_getElem? (i := 1034) (by decide +kernel), List.mem_of_getElem? (i := 1035) (by decide +kernel)⟩
def lw_privs_2 : List (MethodName × Nat) := [(⟨"TreeMatcherModel", "fail", "(I)I"⟩, 42), (⟨"TreeMatcherModel", "isPattern", "()Z"⟩, 42), (⟨"TreeMatcherModel", "isFree", "(I)Z"⟩, 42), (⟨"TreeMatcherModel", "isChain", "(I)Z"⟩, 42), (⟨"TreeMatcherModel", "fits", "(II)I"⟩, 42), (⟨"TreeMatcherModel", "lay", "(II)Z"⟩, 42), (⟨"TreeMatcherModel", "close", "([II[III)V"⟩, 42), (⟨"TreeMatcherModel", "findParts", "()V"⟩, 42), (⟨"TreeMatcherModel", "partAt", "(II)I"⟩, 42), (⟨"TreeMatcherModel", "sizeFrom", "(II)I"⟩, 42), (⟨"TreeMatcherModel", "make", "([III[III)V"⟩, 42), (⟨"TreeMatcherModel", "isNew", "()Z"⟩, 42)]
theorem lw_r2 : ∀ q ∈ lw_privs_2, lw_okq q := List.forall_mem_cons.mpr ⟨lw_p16, List.forall_mem_cons.mpr ⟨lw_p17, List.forall_mem_cons.mpr ⟨lw_p18, List.forall_mem_cons.mpr ⟨lw_p19, List.forall_mem_cons.mpr ⟨lw_p20, List.forall_mem_cons.mpr ⟨lw_p21, List.forall_mem_cons.mpr ⟨lw_p22, List.forall_mem_cons.mpr ⟨lw_p23, List.forall_mem_cons.mpr ⟨lw_p24, List.forall_mem_cons.mpr ⟨lw_p25, List.forall_mem_cons.mpr ⟨lw_p26, List.forall_mem_cons.mpr ⟨lw_p27, fun _ h => absurd h List.not_mem_nil⟩⟩⟩⟩⟩⟩⟩⟩⟩⟩⟩⟩
def lw_privs : List (MethodName × Nat) := lw_privs_1 ++ (lw_privs_2)
def lw_tbl : List Cond := k2_sels lw_privs ++ tables_1
theorem lw_privs_ok : ∀ q ∈ lw_privs, lw_okq q := by
  show ∀ q ∈ lw_privs_1 ++ (lw_privs_2), lw_okq q
  exact List.forall_mem_append.mpr ⟨lw_r1, lw_r2⟩

/-- the words that a callee takes over as they stand -/
def gw : List Cond := lw_tbl.filter goodWord
theorem gw_of {w : Cond} (h : w ∈ tables_1) (hg : goodWord w = true) : w ∈ gw := List.mem_filter.mpr ⟨List.mem_append_right _ h, hg⟩
theorem gw_sel {w : Cond} (h : w ∈ k2_sels lw_privs) (hg : goodWord w = true) : w ∈ gw := List.mem_filter.mpr ⟨List.mem_append_left _ h, hg⟩
theorem gw_in {w : Cond} (h : w ∈ gw) : w ∈ lw_tbl := (List.mem_filter.mp h).1
theorem gw_ok {w : Cond} (h : w ∈ gw) : (w.onTables && w.keeps) = true ∨ ∃ ty, w = .arrayClass ty := good_of_word (List.mem_filter.mp h).2
theorem gw_gi {w : Cond} (h : w ∈ gw) : GoodIn gw (w :: gw) := fun v hv => (List.mem_cons.mp hv).elim (fun e => by rw [e]; exact ⟨h, gw_ok h⟩) (fun h => ⟨h, gw_ok h⟩)
theorem gw_giV {w w1 w2 w3 w4 : Cond} (h : w ∈ gw) (h1 : w1 ∈ gw) (h2 : w2 ∈ gw) (h3 : w3 ∈ gw) (h4 : w4 ∈ gw) : GoodIn gw (([w1, w2, w3, w4] : List Cond) ++ (w :: gw)) := fun v hv => by
  rcases List.mem_append.mp hv with hv | hv
  · rcases List.mem_cons.mp hv with e | hv
    · rw [e]; exact ⟨h1, gw_ok h1⟩
    rcases List.mem_cons.mp hv with e | hv
    · rw [e]; exact ⟨h2, gw_ok h2⟩
    rcases List.mem_cons.mp hv with e | hv
    · rw [e]; exact ⟨h3, gw_ok h3⟩
    rcases List.mem_cons.mp hv with e | hv
    · rw [e]; exact ⟨h4, gw_ok h4⟩
    cases hv
  · exact gw_gi h v hv
theorem gw_giS {w w1 w2 w3 : Cond} (h : w ∈ gw) (h1 : w1 ∈ gw) (h2 : w2 ∈ gw) (h3 : w3 ∈ gw) : GoodIn gw (([w1, w2, w3] : List Cond) ++ (w :: gw)) := fun v hv => by
  rcases List.mem_append.mp hv with hv | hv
  · rcases List.mem_cons.mp hv with e | hv
    · rw [e]; exact ⟨h1, gw_ok h1⟩
    rcases List.mem_cons.mp hv with e | hv
    · rw [e]; exact ⟨h2, gw_ok h2⟩
    rcases List.mem_cons.mp hv with e | hv
    · rw [e]; exact ⟨h3, gw_ok h3⟩
    cases hv
  · exact gw_gi h v hv
