set_option maxRecDepth 100000 in
theorem tw_20 : (Jvm.Cond.classLink "TreeMatcherLaw" (8 : Nat) "TreeMatcher") ∈ gw := gw_of (List.mem_of_getElem? (i := 20) rfl) rfl
set_option maxRecDepth 100000 in
theorem tw_21 : (Jvm.Cond.instantiable "TreeMatcher" (4 : Nat)) ∈ gw := gw_of (List.mem_of_getElem? (i := 21) rfl) rfl
set_option maxRecDepth 100000 in
theorem tw_22 : (Jvm.Cond.methodLink "TreeMatcherLaw" (53 : Nat) ({ cls := "TreeMatcher", name := "<init>", desc := "()V" } : Jvm.MethodName)) ∈ gw := gw_of (List.mem_of_getElem? (i := 22) rfl) rfl
set_option maxRecDepth 100000 in
theorem tw_23 : (Jvm.Cond.instanceMethod ({ cls := "TreeMatcher", name := "<init>", desc := "()V" } : Jvm.MethodName)) ∈ gw := gw_of (List.mem_of_getElem? (i := 23) rfl) rfl
set_option maxRecDepth 100000 in
theorem tw_809 : (Jvm.Cond.classLink "TreeMatcherLaw" (54 : Nat) "TreeMatcherModel") ∈ gw := gw_of (List.mem_of_getElem? (i := 809) rfl) rfl
set_option maxRecDepth 100000 in
theorem tw_810 : (Jvm.Cond.instantiable "TreeMatcherModel" (42 : Nat)) ∈ gw := gw_of (List.mem_of_getElem? (i := 810) rfl) rfl
set_option maxRecDepth 100000 in
theorem tw_811 : (Jvm.Cond.methodLink "TreeMatcherLaw" (56 : Nat) ({ cls := "TreeMatcherModel", name := "<init>", desc := "()V" } : Jvm.MethodName)) ∈ gw := gw_of (List.mem_of_getElem? (i := 811) rfl) rfl
set_option maxRecDepth 100000 in
theorem tw_812 : (Jvm.Cond.instanceMethod ({ cls := "TreeMatcherModel", name := "<init>", desc := "()V" } : Jvm.MethodName)) ∈ gw := gw_of (List.mem_of_getElem? (i := 812) rfl) rfl
theorem d_Z_law_0 : decode code 0 = .ok (.new 8, 3) := by decide +kernel
theorem d_Z_law_3 : decode code 3 = .ok (.dup, 1) := by decide +kernel
theorem d_Z_law_4 : decode code 4 = .ok (.invokespecial 53, 3) := by decide +kernel
theorem d_Z_law_7 : decode code 7 = .ok (.astore_n 1, 1) := by decide +kernel
theorem d_Z_law_8 : decode code 8 = .ok (.new 54, 3) := by decide +kernel
theorem d_Z_law_11 : decode code 11 = .ok (.dup, 1) := by decide +kernel
theorem d_Z_law_12 : decode code 12 = .ok (.invokespecial 56, 3) := by decide +kernel
theorem d_Z_law_15 : decode code 15 = .ok (.astore_n 2, 1) := by decide +kernel
theorem d_Z_law_16 : decode code 16 = .ok (.iconst 1, 1) := by decide +kernel
theorem d_Z_law_17 : decode code 17 = .ok (.newarray .long, 2) := by decide +kernel
theorem d_Z_law_19 : decode code 19 = .ok (.astore_n 3, 1) := by decide +kernel
theorem d_Z_law_20 : decode code 20 = .ok (.iconst 0, 1) := by decide +kernel
theorem d_Z_law_21 : decode code 21 = .ok (.istore 4, 2) := by decide +kernel
theorem d_Z_law_32 : decode code 32 = .ok (.aload_n 0, 1) := by decide +kernel
theorem d_Z_law_33 : decode code 33 = .ok (.iload 4, 2) := by decide +kernel
theorem d_Z_law_35 : decode code 35 = .ok (.iaload, 1) := by decide +kernel
theorem d_Z_law_36 : decode code 36 = .ok (.bipush 15, 2) := by decide +kernel
theorem d_Z_law_38 : decode code 38 = .ok (.iand, 1) := by decide +kernel
theorem d_Z_law_39 : decode code 39 = .ok (.tableswitch 829 0 11 #[61, 129, 185, 277, 369, 437, 505, 573, 641, 685, 760, 773], 61) := by decide +kernel
theorem tx_out12 {n : Int32} (h0 : ¬ n = 0) (h1 : ¬ n = 1) (h2 : ¬ n = 2) (h3 : ¬ n = 3) (h4 : ¬ n = 4) (h5 : ¬ n = 5) (h6 : ¬ n = 6) (h7 : ¬ n = 7) (h8 : ¬ n = 8) (h9 : ¬ n = 9) (h10 : ¬ n = 10) (h11 : ¬ n = 11) : n.toInt < 0 ∨ 11 < n.toInt := by
  have g0 := tx_i32 (z := 0) h0 (by decide)
  have g1 := tx_i32 (z := 1) h1 (by decide)
  have g2 := tx_i32 (z := 2) h2 (by decide)
  have g3 := tx_i32 (z := 3) h3 (by decide)
  have g4 := tx_i32 (z := 4) h4 (by decide)
  have g5 := tx_i32 (z := 5) h5 (by decide)
  have g6 := tx_i32 (z := 6) h6 (by decide)
  have g7 := tx_i32 (z := 7) h7 (by decide)
  have g8 := tx_i32 (z := 8) h8 (by decide)
  have g9 := tx_i32 (z := 9) h9 (by decide)
  have g10 := tx_i32 (z := 10) h10 (by decide)
  have g11 := tx_i32 (z := 11) h11 (by decide)
  omega
theorem ls_short {L : Nat} (h : L < 5) : Int32.ofNat L - 5 < 0 := by
  have : ∀ j, j < 5 → Int32.ofNat j - 5 < 0 := by decide
  exact this L h
set_option maxHeartbeats 4000000 in
theorem law_short {p : Program} {l : Launch} {e : Env} {s : State} {m : MethodId} {below : List Frame} {meth : Method} {c : Code} {b L : Nat} {xs : Nat → Int32} (hL : L < 5) (C0 : lw_At p s m meth c b L xs) {H : Heap} {locs : List Loc} (hS : va_S (fun q : Nat => s.heap.size ≤ q) s.heap H locs) {ls : Array Slot} (hl : lv_has ls 7 [(4, Value.int 0), (0, Value.ref b)]) : W p l e room_1 s m #[Value.ref b] below meth c H locs 600002 7302232 (lw_Z below #[Value.ref b] s) (F0 m 23 ls []) := by
  obtain ⟨hx, hb, hr, hml, hown, hts, hX, hbl, hlocks, hgv⟩ := id C0
  have hbA : ¬ (fun q : Nat => s.heap.size ≤ q) b := Nat.not_le.mpr hbl
  refine lv_iload hx hb d_Z_law_23 (lv_at hl 0 rfl) ?_
  refine lv_aload_n hx hb d_Z_law_25 rfl (lv_at hl 1 rfl) ?_
  refine va_slen hx hb hX hbl hbA hS d_Z_law_26 ?_
  refine lv_iconst (v := 5) hx hb d_Z_law_27 (by decide) ?_
  refine lv_isub hx hb d_Z_law_28 ?_
  refine lv_icmp_gt (tgt := 874) hx hb d_Z_law_29 (by decide) (fun c1 => ?_) (fun c1 => ?_)
  · refine lv_iconst (v := 1) hx hb d_Z_law_874 (by decide) ?_
    refine va_forget (fun q hq => hS.2.2 q hq) ?_
    exact lw_ret hx hb hr hlocks d_Z_law_875
  · exact absurd (ls_short hL) c1
theorem ls_str {s : State} {args : Array Value} (hts : ∀ w ∈ lw_tbl, w.before args s = true) {k : Nat} {t : String} (hm : Cond.stringRef "TreeMatcher" k t ∈ tables_1) (hc : ∃ cur, s.vm.findClass "TreeMatcher" = some cur) : ∃ q : Nat, vk_R "TreeMatcher" k t q s := by
  obtain ⟨cur, hcur⟩ := hc
  have h0 := hts _ (List.mem_append_right _ hm)
  obtain ⟨k, cf, i, a, -, -, -, -, -, hev⟩ := Cond.stringRef_spec hcur h0
  exact ⟨a, vk_R.of h0 hev⟩
theorem ls_nw {s : State} {args : Array Value} (hts : ∀ w ∈ lw_tbl, w.before args s = true) {w : Cond} (hm : w ∈ tables_1) (ht : w.onTables = true) : va_Nw w s := va_Nw.of ht (hts _ (List.mem_append_right _ hm))
theorem ls_nc {s : State} {args : Array Value} {x y : String} (h : (Cond.not (Cond.castable x y)).before args s = true) : ∃ a b : ClassId, s.vm.findClass x = some a ∧ s.vm.findClass y = some b ∧ s.vm.assignable a b = false := by
  simp only [Cond.before, Cond.holds, Cond.value] at h
  cases h1 : s.vm.findClass x with
  | none => simp [h1] at h
  | some a =>
    cases h2 : s.vm.findClass y with
    | none => simp [h1, h2] at h
    | some b =>
      simp [h1, h2] at h
      exact ⟨a, b, rfl, rfl, h⟩
set_option maxRecDepth 100000 in
theorem ls_facts {s : State} {b : Nat} (hts : ∀ w ∈ lw_tbl, w.before #[Value.ref b] s = true) (hgv : (Jvm.Cond.and given_1 narrow_1).before #[Value.ref b] s = true) : tx_C s ∧ tx_H (fun q : Nat => s.heap.size ≤ q) s := by
  have hfl := flat_of_before _ hgv
  have hM : ∃ cur, s.vm.findClass "TreeMatcher" = some cur := by
    obtain ⟨c1, k1, h1, -⟩ := Cond.instantiable_spec (hts (.instantiable "TreeMatcher" 4) (List.mem_append_right _ (List.mem_of_getElem? (i := 21) rfl)))
    exact ⟨c1, h1⟩
  have hN : tx_N s := ⟨ls_nw hts (List.mem_of_getElem? (i := 53) rfl) rfl, ls_nw hts (List.mem_of_getElem? (i := 396) rfl) rfl⟩
  have hS : tx_Str s := ⟨ls_str hts (List.mem_of_getElem? (i := 365) rfl) hM, ls_str hts (List.mem_of_getElem? (i := 424) rfl) hM, ls_str hts (List.mem_of_getElem? (i := 459) rfl) hM, ls_str hts (List.mem_of_getElem? (i := 504) rfl) hM, ls_str hts (List.mem_of_getElem? (i := 674) rfl) hM, ls_str hts (List.mem_of_getElem? (i := 740) rfl) hM, ls_str hts (List.mem_of_getElem? (i := 790) rfl) hM, ls_str hts (List.mem_of_getElem? (i := 808) rfl) hM⟩
  have hD : tx_D s := ⟨ls_nw hts (List.mem_of_getElem? (i := 328) rfl) rfl, ls_nw hts (List.mem_of_getElem? (i := 330) rfl) rfl, ls_nw hts (List.mem_of_getElem? (i := 332) rfl) rfl, ls_nw hts (List.mem_of_getElem? (i := 326) rfl) rfl, ls_nw hts (List.mem_of_getElem? (i := 667) rfl) rfl⟩
  have hA : ∀ a : Nat, a < s.heap.size → ¬ (fun q : Nat => s.heap.size ≤ q) a := fun a h => Nat.not_le.mpr h
  have hT : tx_Th (fun q : Nat => s.heap.size ≤ q) s s.heap := ⟨tx_Zs.of (hts (.laysStatic Bundle.tN "UNASSIGNED_STACK" Bundle.steD) (List.mem_append_right _ (List.mem_of_getElem? (i := 351) rfl))) (hfl (.isRef (.static Bundle.tN "UNASSIGNED_STACK" Bundle.steD)) (by decide +kernel)) hA, tx_Zs.of (hts (.laysStatic Bundle.tN "SUPPRESSED_SENTINEL" Bundle.listD) (List.mem_append_right _ (List.mem_of_getElem? (i := 353) rfl))) (hfl (.isRef (.static Bundle.tN "SUPPRESSED_SENTINEL" Bundle.listD)) (by decide +kernel)) hA⟩
  have hO : tx_AO s := hts (.arrayOver (.array .long)) (List.mem_append_right _ (List.mem_of_getElem? (i := 165) rfl))
  have hX : tx_NC s := ls_nc (hfl (.not (.castable "java/lang/IllegalArgumentException" "java/lang/IllegalStateException")) (by decide +kernel))
  exact ⟨⟨hN, hO⟩, ⟨hN, hS, hD, hT⟩, hX⟩
set_option maxHeartbeats 4000000 in
set_option maxRecDepth 100000 in
theorem law_head5 {p : Program} {l : Launch} {e : Env} {s : State} {m : MethodId} {below : List Frame} {meth : Method} {c : Code} {b : Nat} {xs : Nat → Int32} (hlf : l.flags = flags0) (C0 : lw_At p s m meth c b 5 xs) (hG : tx_H (fun q : Nat => s.heap.size ≤ q) s) {dC : Nat → ClassId} {dI : Nat → Nat → Nat} {x g kq hq pq bq f vF cq y vT : Nat} {cK cH : ClassId} {zg zpq zf zvF zcq zvT : Nat → Value} {fk fh : Nat → Int32} (hfk : ∀ j, j < 32 → fk j = -1) {d kd hd : Nat} {cKd cHd : ClassId} {zd : Nat → Value} {fkd fhd : Nat → Int32} (hfkd : ∀ j, j < 32 → fkd j = -1) {o : Nat} {cO : ClassId} {fo : Nat → Int64}  {H : Heap} {locs : List Loc} (hP : va_P (dC, dI) kcl [(x, .inr (0, [Value.ref g, Value.ref f, Value.ref cq, Value.ref y])), (g, .inr (1, [Value.ref kq, Value.int 0, Value.ref hq, Value.int 0, (zg 4), (zg 5), (zg 6), (zg 7), (zg 8), (zg 9), (zg 10), Value.int 0, Value.int 0, Value.ref pq])), (kq, .inl (cK, 32, .inl fk)), (hq, .inl (cH, 12, .inl fh)), (pq, .inr (6, [(zpq 0), (zpq 1), (zpq 2), (zpq 3), Value.ref bq, Value.int 16])), (f, .inr (2, [(zf 0), (zf 1), (zf 2), (zf 3), (zf 4), (zf 5), (zf 6), (zf 7), (zf 8), Value.int 0, (zf 10), Value.ref vF, (zf 12), (zf 13)])), (vF, .inr (5, [(zvF 0), (zvF 1), (zvF 2), (zvF 3), (zvF 4), (zvF 5), (zvF 6), Value.int 0])), (cq, .inr (3, [(zcq 0), (zcq 1), (zcq 2), (zcq 3), (zcq 4), (zcq 5), Value.int 0])), (y, .inr (4, [Value.ref g, Value.ref vT, Value.int 0, Value.int 0])), (vT, .inr (5, [(zvT 0), (zvT 1), (zvT 2), (zvT 3), (zvT 4), (zvT 5), (zvT 6), Value.int 0])), (d, .inr (9, [Value.int 0, Value.ref kd, Value.int 0, Value.ref hd, Value.int 0, Value.int 0, (zd 6), (zd 7), (zd 8), (zd 9), (zd 10), (zd 11), Value.int 0, (zd 13), (zd 14), (zd 15), (zd 16), (zd 17), (zd 18), (zd 19), Value.int 0, (zd 21), (zd 22), (zd 23), (zd 24), (zd 25), (zd 26), (zd 27), (zd 28), (zd 29), (zd 30), (zd 31), Value.int 0, (zd 33), (zd 34), (zd 35), (zd 36), (zd 37), (zd 38), (zd 39), (zd 40), Value.int 0])), (kd, .inl (cKd, 32, .inl fkd)), (hd, .inl (cHd, 12, .inl fhd)), (o, .inl (cO, 1, .inr (.inl fo)))] H) (hD : va_D (fun q : Nat => s.heap.size ≤ q) [(x, .inr (0, [Value.ref g, Value.ref f, Value.ref cq, Value.ref y])), (g, .inr (1, [Value.ref kq, Value.int 0, Value.ref hq, Value.int 0, (zg 4), (zg 5), (zg 6), (zg 7), (zg 8), (zg 9), (zg 10), Value.int 0, Value.int 0, Value.ref pq])), (kq, .inl (cK, 32, .inl fk)), (hq, .inl (cH, 12, .inl fh)), (pq, .inr (6, [(zpq 0), (zpq 1), (zpq 2), (zpq 3), Value.ref bq, Value.int 16])), (f, .inr (2, [(zf 0), (zf 1), (zf 2), (zf 3), (zf 4), (zf 5), (zf 6), (zf 7), (zf 8), Value.int 0, (zf 10), Value.ref vF, (zf 12), (zf 13)])), (vF, .inr (5, [(zvF 0), (zvF 1), (zvF 2), (zvF 3), (zvF 4), (zvF 5), (zvF 6), Value.int 0])), (cq, .inr (3, [(zcq 0), (zcq 1), (zcq 2), (zcq 3), (zcq 4), (zcq 5), Value.int 0])), (y, .inr (4, [Value.ref g, Value.ref vT, Value.int 0, Value.int 0])), (vT, .inr (5, [(zvT 0), (zvT 1), (zvT 2), (zvT 3), (zvT 4), (zvT 5), (zvT 6), Value.int 0])), (d, .inr (9, [Value.int 0, Value.ref kd, Value.int 0, Value.ref hd, Value.int 0, Value.int 0, (zd 6), (zd 7), (zd 8), (zd 9), (zd 10), (zd 11), Value.int 0, (zd 13), (zd 14), (zd 15), (zd 16), (zd 17), (zd 18), (zd 19), Value.int 0, (zd 21), (zd 22), (zd 23), (zd 24), (zd 25), (zd 26), (zd 27), (zd 28), (zd 29), (zd 30), (zd 31), Value.int 0, (zd 33), (zd 34), (zd 35), (zd 36), (zd 37), (zd 38), (zd 39), (zd 40), Value.int 0])), (kd, .inl (cKd, 32, .inl fkd)), (hd, .inl (cHd, 12, .inl fhd)), (o, .inl (cO, 1, .inr (.inl fo)))]) (hK : va_K (dC, dI) kcl [(cK, .int), (cH, .int), (cKd, .int), (cHd, .int), (cO, .long)] s) (hS : va_S (fun q : Nat => s.heap.size ≤ q) s.heap H locs) {ls : Array Slot} (hl : lv_has ls 7 [(4, Value.int 0), (3, Value.ref o), (2, Value.ref d), (1, Value.ref x), (0, Value.ref b)]) : W p l e room_1 s m #[Value.ref b] below meth c H locs 90 335809 (lw_Z below #[Value.ref b] s) (F0 m 23 ls []) := by
  obtain ⟨hx, hb, hr, hml, hown, hts, hX, hbl, hlocks, hgv⟩ := id C0
  have hown : s.vm.findClass "TreeMatcherLaw" = some m.cls := hown
  have hg : ∀ w ∈ gw, w.before #[Value.ref b] s = true := fun w h => hts w (gw_in h)
  have hA : ∀ q : Nat, s.heap.size ≤ q → (fun q : Nat => s.heap.size ≤ q) q := fun _ h => h
  have hbA : ¬ (fun q : Nat => s.heap.size ≤ q) b := Nat.not_le.mpr hbl
  refine lv_iload hx hb d_Z_law_23 (lv_at hl 0 rfl) ?_
  refine lv_aload_n hx hb d_Z_law_25 rfl (lv_at hl 4 rfl) ?_
  refine va_slen hx hb hX hbl hbA hS d_Z_law_26 ?_
  refine lv_iconst (v := 5) hx hb d_Z_law_27 (by decide) ?_
  refine lv_isub hx hb d_Z_law_28 ?_
  refine lv_icmp_gt (tgt := 874) hx hb d_Z_law_29 (by decide) (fun c_1 => ?_) (fun c_1 => ?_)
  · exact absurd c_1 (by decide)
  · refine lv_aload_n hx hb d_Z_law_32 rfl (lv_at hl 4 rfl) ?_
    refine lv_iload hx hb d_Z_law_33 (lv_at hl 0 rfl) ?_
    refine va_sld hx hb hX hbl hbA hS (by unfold vp_in; decide +kernel) d_Z_law_35 ?_
    refine lv_bipush (v := 15) hx hb d_Z_law_36 (by decide) ?_
    refine lv_iand hx hb d_Z_law_38 ?_
    refine lv_topi (fun v_2 ev_2 => ?_)
    by_cases hv_2_0 : v_2 = 0
    · subst hv_2_0
      refine lv_tableIn (tgt := 100) hx hb d_Z_law_39 (by decide) (by decide) rfl (by decide) ?_
      exact law_operator hlf C0 hG hfk hfkd hP hD hK hS (lv_sub hl [0, 1, 2, 3, 4] rfl)
    by_cases hv_2_1 : v_2 = 1
    · subst hv_2_1
      refine lv_tableIn (tgt := 168) hx hb d_Z_law_39 (by decide) (by decide) rfl (by decide) ?_
      exact law_element hlf C0 hG hfk hfkd hP hD hK hS (lv_sub hl [0, 1, 2, 3, 4] rfl)
    by_cases hv_2_2 : v_2 = 2
    · subst hv_2_2
      refine lv_tableIn (tgt := 224) hx hb d_Z_law_39 (by decide) (by decide) rfl (by decide) ?_
      exact law_rule hlf C0 hG hfk hfkd hP hD hK hS (lv_sub hl [0, 1, 2, 3, 4] rfl)
    by_cases hv_2_3 : v_2 = 3
    · subst hv_2_3
      refine lv_tableIn (tgt := 316) hx hb d_Z_law_39 (by decide) (by decide) rfl (by decide) ?_
      exact law_node hlf C0 hG hfk hfkd hP hD hK hS (lv_sub hl [0, 1, 2, 3, 4] rfl)
    by_cases hv_2_4 : v_2 = 4
    · subst hv_2_4
      refine lv_tableIn (tgt := 408) hx hb d_Z_law_39 (by decide) (by decide) rfl (by decide) ?_
      exact law_cost hlf C0 hG hfk hfkd hP hD hK hS (lv_sub hl [0, 1, 2, 3, 4] rfl)
    by_cases hv_2_5 : v_2 = 5
    · subst hv_2_5
      refine lv_tableIn (tgt := 476) hx hb d_Z_law_39 (by decide) (by decide) rfl (by decide) ?_
      exact law_ruleAt hlf C0 hG hfk hfkd hP hD hK hS (lv_sub hl [0, 1, 2, 3, 4] rfl)
    by_cases hv_2_6 : v_2 = 6
    · subst hv_2_6
      refine lv_tableIn (tgt := 544) hx hb d_Z_law_39 (by decide) (by decide) rfl (by decide) ?_
      exact law_cover hlf C0 hG hfk hfkd hP hD hK hS (lv_sub hl [0, 1, 2, 3, 4] rfl)
    by_cases hv_2_7 : v_2 = 7
    · subst hv_2_7
      refine lv_tableIn (tgt := 612) hx hb d_Z_law_39 (by decide) (by decide) rfl (by decide) ?_
      exact law_pair hlf C0 hG hfk hfkd hP hD hK hS (lv_sub hl [0, 1, 2, 3, 4] rfl)
    by_cases hv_2_8 : v_2 = 8
    · subst hv_2_8
      refine lv_tableIn (tgt := 680) hx hb d_Z_law_39 (by decide) (by decide) rfl (by decide) ?_
      exact law_states hlf C0 hG hfk hfkd hP hD hK hS (lv_sub hl [0, 1, 2, 3, 4] rfl)
    by_cases hv_2_9 : v_2 = 9
    · subst hv_2_9
      refine lv_tableIn (tgt := 724) hx hb d_Z_law_39 (by decide) (by decide) rfl (by decide) ?_
      exact law_same hlf C0 hG hfk hfkd hP hD hK hS (lv_sub hl [0, 1, 2, 3, 4] rfl)
    by_cases hv_2_10 : v_2 = 10
    · subst hv_2_10
      refine lv_tableIn (tgt := 799) hx hb d_Z_law_39 (by decide) (by decide) rfl (by decide) ?_
      exact law_clear hlf C0 hG hfk hfkd hP hD hK hS (lv_sub hl [0, 1, 2, 3, 4] rfl)
    by_cases hv_2_11 : v_2 = 11
    · subst hv_2_11
      refine lv_tableIn (tgt := 812) hx hb d_Z_law_39 (by decide) (by decide) rfl (by decide) ?_
      exact law_count hlf C0 hG hfk hfkd hP hD hK hS (lv_sub hl [0, 1, 2, 3, 4] rfl)
    refine lv_tableOut (tgt := 868) hx hb d_Z_law_39 (tx_out12 hv_2_0 hv_2_1 hv_2_2 hv_2_3 hv_2_4 hv_2_5 hv_2_6 hv_2_7 hv_2_8 hv_2_9 hv_2_10 hv_2_11) (by decide) ?_
    refine W.widen (k := 600002) (n := 7302232) (Nat.le_of_ble_eq_true rfl) (Nat.le_of_ble_eq_true rfl) ?_
    exact law_end C0 hS (lv_sub hl [0, 4] rfl)
set_option maxHeartbeats 4000000 in
set_option maxRecDepth 100000 in
theorem start5 {p : Program} {e : Env} {s : State} {m : MethodId} {below : List Frame} {meth : Method} {c : Code} (l : Launch) (hlf : l.flags = flags0) {b L : Nat} {xs : Nat → Int32} (hL : L ≤ 5) (C0 : lw_At p s m meth c b L xs) : W p l e room_1 s m #[Value.ref b] below meth c s.heap [] 0 0 (lw_Z below #[Value.ref b] s) (entryFrame m ([Value.ref b] : List Value).toArray 7) := by
  obtain ⟨hx, hb, hr, hml, hown, hts, hX, hbl, hlocks, hgv⟩ := id C0
  have hown : s.vm.findClass "TreeMatcherLaw" = some m.cls := hown
  have hg : ∀ w ∈ gw, w.before #[Value.ref b] s = true := fun w h => hts w (gw_in h)
  have hA : ∀ q : Nat, s.heap.size ≤ q → (fun q : Nat => s.heap.size ≤ q) q := fun _ h => h
  have hbA : ¬ (fun q : Nat => s.heap.size ≤ q) b := Nat.not_le.mpr hbl
  obtain ⟨hC, hG⟩ := ls_facts hts hgv
  obtain ⟨c0, iS0, hKn0⟩ := u_known (C := kR_M) (T := kT_M) (N := 4) (n := 4) hg kin_M (hg _ tw_21)
  obtain ⟨c1, iS1, hKn1⟩ := u_known (C := kR_G) (T := kT_G) (N := 14) (n := 14) hg kin_G (hg _ tw_29)
  obtain ⟨c2, iS2, hKn2⟩ := u_known (C := kR_F) (T := kT_F) (N := 14) (n := 14) hg kin_F (hg _ tw_125)
  obtain ⟨c3, iS3, hKn3⟩ := u_known (C := kR_C) (T := kT_C) (N := 7) (n := 7) hg kin_C (hg _ tw_235)
  obtain ⟨c4, iS4, hKn4⟩ := u_known (C := kR_Y) (T := kT_Y) (N := 4) (n := 4) hg kin_Y (hg _ tw_263)
  obtain ⟨c5, iS5, hKn5⟩ := u_known (C := kR_V) (T := kT_V) (N := 8) (n := 8) hg kin_V (hg _ tw_149)
  obtain ⟨c6, iS6, hKn6⟩ := u_known (C := kR_P) (T := kT_P) (N := 6) (n := 6) hg kin_P (hg _ tw_52)
  obtain ⟨c7, iS7, hKn7⟩ := u_known (C := kR_U) (T := kT_U) (N := 3) (n := 3) hg kin_U (hg _ tw_35)
  obtain ⟨c8, iS8, hKn8⟩ := u_known (C := kR_L) (T := kT_L) (N := 3) (n := 3) hg kin_L (hg _ tw_131)
  obtain ⟨c9, iS9, hKn9⟩ := u_known (C := kR_D) (T := kT_D) (N := 42) (n := 42) hg kin_D (hg _ tw_810)
  obtain ⟨dC, dI, hKc⟩ : ∃ (dC : Nat → ClassId) (dI : Nat → Nat → Nat), ∀ (k : Nat) (q : vw_C), kcl[k]? = some q → u_Kn s q.1 q.2.1 q.2.2 (dC k) (dI k) := by
    refine ⟨fun k => if k = 0 then c0 else if k = 1 then c1 else if k = 2 then c2 else if k = 3 then c3 else if k = 4 then c4 else if k = 5 then c5 else if k = 6 then c6 else if k = 7 then c7 else if k = 8 then c8 else c9, fun k => if k = 0 then iS0 else if k = 1 then iS1 else if k = 2 then iS2 else if k = 3 then iS3 else if k = 4 then iS4 else if k = 5 then iS5 else if k = 6 then iS6 else if k = 7 then iS7 else if k = 8 then iS8 else iS9, ?_⟩
    intro k q hq
    match k, hq with
    | 0, hq => cases hq; exact hKn0
    | 1, hq => cases hq; exact hKn1
    | 2, hq => cases hq; exact hKn2
    | 3, hq => cases hq; exact hKn3
    | 4, hq => cases hq; exact hKn4
    | 5, hq => cases hq; exact hKn5
    | 6, hq => cases hq; exact hKn6
    | 7, hq => cases hq; exact hKn7
    | 8, hq => cases hq; exact hKn8
    | 9, hq => cases hq; exact hKn9
    | k + 10, hq => simp [kcl] at hq
  have hS : va_S (fun q : Nat => s.heap.size ≤ q) s.heap s.heap [] := va_S.rf
  have hK : va_K (dC, dI) kcl [] s := ⟨hKc, fun k q h => by simp at h⟩
  have hP : va_P (dC, dI) kcl [] s.heap := fun k q h => by simp at h
  have hD : va_D (fun q : Nat => s.heap.size ≤ q) [] := ⟨fun i j p q h => by simp at h, fun k q h => by simp at h⟩
  have hl := lv_entry ([Value.ref b]) (n := 7) (Nat.le_of_ble_eq_true rfl)
  rw [lg_entry_eq]
  generalize (lg_sl ([Value.ref b]) ++ List.replicate (7 - (lg_sl ([Value.ref b])).length) Slot.unset).toArray = ls at hl ⊢
  have hl : lv_has ls 7 [(0, Value.ref b)] := hl
  refine va_new (ci := 0) (fs := [Value.null, Value.null, Value.null, Value.null]) (C := kR_M) (T := kT_M) (N := 4) hx hb hg kin_M kt_M kty_M hown (hg _ tw_20) (hg _ tw_21) (hg _ tw_1) hK hP hD hS hA rfl kdf_M (Nat.le_of_ble_eq_true rfl) (Nat.le_of_ble_eq_true rfl) d_Z_law_0 (fun x H_1 hP hD hS => ?_)
  have hP : va_P (dC, dI) kcl [(x, .inr (0, [Value.null, Value.null, Value.null, Value.null]))] H_1 := hP
  have hD : va_D (fun q : Nat => s.heap.size ≤ q) [(x, .inr (0, [Value.null, Value.null, Value.null, Value.null]))] := hD
  refine lv_dup hx hb d_Z_law_3 rfl ?_
  have hPc := hP.sub (ws' := [(x, .inr (0, [Value.null, Value.null, Value.null, Value.null]))]) [0] rfl
  have hKc := hK.sub (tys' := []) [] rfl
  have hDc := hD.sub (ws' := [(x, .inr (0, [Value.null, Value.null, Value.null, Value.null]))]) [0] (by decide) rfl
  have hFc := va_free (wc := [(x, .inr (0, [Value.null, Value.null, Value.null, Value.null]))]) hD hS hA [0] rfl
  refine va_callv (va_runI (As := []) (rest := [Value.ref x]) ⟨hx, hb, hml, hown, hg⟩ (c_M_init l dC dI H_1.size x) (cwI 0 hg (gw_gi cin_M_init) rfl rfl rfl (hg _ tw_1) (hg _ tw_22) (hg _ tw_23) rfl (by decide +kernel) ⟨Nat.le_of_ble_eq_true rfl, Nat.le_of_ble_eq_true rfl⟩) ⟨fun a U g mk q => by obtain ⟨q0, q1, qP, qK, qD, qG⟩ := q; exact ⟨q0, q1, qP, va_K.moved (u := U) (U := U.calling g mk a) (Vm.Alike.refl U.vm) qK, qD, tx_C.same (U := U.calling g mk a) rfl qG⟩, fun U hU hW => ⟨rfl, by rw [hU], by rw [hU]; exact hPc, va_K.moved hW.alike hKc, hDc.weaken (fun _ _ _ _ => trivial), hC.warm hW⟩⟩ rfl rfl hl.1 rfl (lv_room (Nat.le_of_ble_eq_true rfl)) d_Z_law_4 ⟨Nat.le_of_ble_eq_true rfl, Nat.le_of_ble_eq_true rfl⟩) hS (fun q _ h => hFc q h) hFc (fun u_k_2 t_k_2 H_3 l_k_2 ht hvm hw_k_2 hB hz1 hk1 hS => ?_)
  obtain ⟨g, kq, hq, pq, bq, f, vF, cq, y, vT, cK, cH, zg, zpq, zf, zvF, zcq, zvT, fk, fh, hfk, hP1, hK1, hD1⟩ := hB
  rw [ht] at hP1
  have hK1 := va_K.moved hvm.symm hK1
  obtain ⟨hP, hD⟩ := va_join (wr := []) (w1 := [(x, .inr (0, [Value.ref g, Value.ref f, Value.ref cq, Value.ref y])), (g, .inr (1, [Value.ref kq, Value.int 0, Value.ref hq, Value.int 0, (zg 4), (zg 5), (zg 6), (zg 7), (zg 8), (zg 9), (zg 10), Value.int 0, Value.int 0, Value.ref pq])), (kq, .inl (cK, 32, .inl fk)), (hq, .inl (cH, 12, .inl fh)), (pq, .inr (6, [(zpq 0), (zpq 1), (zpq 2), (zpq 3), Value.ref bq, Value.int 16])), (f, .inr (2, [(zf 0), (zf 1), (zf 2), (zf 3), (zf 4), (zf 5), (zf 6), (zf 7), (zf 8), Value.int 0, (zf 10), Value.ref vF, (zf 12), (zf 13)])), (vF, .inr (5, [(zvF 0), (zvF 1), (zvF 2), (zvF 3), (zvF 4), (zvF 5), (zvF 6), Value.int 0])), (cq, .inr (3, [(zcq 0), (zcq 1), (zcq 2), (zcq 3), (zcq 4), (zcq 5), Value.int 0])), (y, .inr (4, [Value.ref g, Value.ref vT, Value.int 0, Value.int 0])), (vT, .inr (5, [(zvT 0), (zvT 1), (zvT 2), (zvT 3), (zvT 4), (zvT 5), (zvT 6), Value.int 0]))]) hP hD [0] [] rfl rfl (by decide) (by decide) hk1 hFc hP1 hD1
  have hK := (hK.sub (tys' := []) [] rfl).app hK1
  have hP : va_P (dC, dI) kcl [(x, .inr (0, [Value.ref g, Value.ref f, Value.ref cq, Value.ref y])), (g, .inr (1, [Value.ref kq, Value.int 0, Value.ref hq, Value.int 0, (zg 4), (zg 5), (zg 6), (zg 7), (zg 8), (zg 9), (zg 10), Value.int 0, Value.int 0, Value.ref pq])), (kq, .inl (cK, 32, .inl fk)), (hq, .inl (cH, 12, .inl fh)), (pq, .inr (6, [(zpq 0), (zpq 1), (zpq 2), (zpq 3), Value.ref bq, Value.int 16])), (f, .inr (2, [(zf 0), (zf 1), (zf 2), (zf 3), (zf 4), (zf 5), (zf 6), (zf 7), (zf 8), Value.int 0, (zf 10), Value.ref vF, (zf 12), (zf 13)])), (vF, .inr (5, [(zvF 0), (zvF 1), (zvF 2), (zvF 3), (zvF 4), (zvF 5), (zvF 6), Value.int 0])), (cq, .inr (3, [(zcq 0), (zcq 1), (zcq 2), (zcq 3), (zcq 4), (zcq 5), Value.int 0])), (y, .inr (4, [Value.ref g, Value.ref vT, Value.int 0, Value.int 0])), (vT, .inr (5, [(zvT 0), (zvT 1), (zvT 2), (zvT 3), (zvT 4), (zvT 5), (zvT 6), Value.int 0]))] H_3 := hP
  have hD : va_D (fun q : Nat => s.heap.size ≤ q) [(x, .inr (0, [Value.ref g, Value.ref f, Value.ref cq, Value.ref y])), (g, .inr (1, [Value.ref kq, Value.int 0, Value.ref hq, Value.int 0, (zg 4), (zg 5), (zg 6), (zg 7), (zg 8), (zg 9), (zg 10), Value.int 0, Value.int 0, Value.ref pq])), (kq, .inl (cK, 32, .inl fk)), (hq, .inl (cH, 12, .inl fh)), (pq, .inr (6, [(zpq 0), (zpq 1), (zpq 2), (zpq 3), Value.ref bq, Value.int 16])), (f, .inr (2, [(zf 0), (zf 1), (zf 2), (zf 3), (zf 4), (zf 5), (zf 6), (zf 7), (zf 8), Value.int 0, (zf 10), Value.ref vF, (zf 12), (zf 13)])), (vF, .inr (5, [(zvF 0), (zvF 1), (zvF 2), (zvF 3), (zvF 4), (zvF 5), (zvF 6), Value.int 0])), (cq, .inr (3, [(zcq 0), (zcq 1), (zcq 2), (zcq 3), (zcq 4), (zcq 5), Value.int 0])), (y, .inr (4, [Value.ref g, Value.ref vT, Value.int 0, Value.int 0])), (vT, .inr (5, [(zvT 0), (zvT 1), (zvT 2), (zvT 3), (zvT 4), (zvT 5), (zvT 6), Value.int 0]))] := hD
  have hK : va_K (dC, dI) kcl [(cK, .int), (cH, .int)] s := hK
  refine lv_astore_n (lv' := [(1, Value.ref x), (0, Value.ref b)]) hx hb d_Z_law_7 rfl hl (by decide) rfl (fun ls hl => ?_)
  refine va_new (ci := 9) (fs := [Value.int 0, Value.null, Value.int 0, Value.null, Value.int 0, Value.int 0, Value.null, Value.null, Value.null, Value.null, Value.null, Value.null, Value.int 0, Value.null, Value.null, Value.null, Value.null, Value.null, Value.null, Value.null, Value.int 0, Value.null, Value.null, Value.null, Value.null, Value.null, Value.null, Value.null, Value.null, Value.null, Value.null, Value.null, Value.int 0, Value.null, Value.null, Value.null, Value.null, Value.null, Value.null, Value.null, Value.null, Value.int 0]) (C := kR_D) (T := kT_D) (N := 42) hx hb hg kin_D kt_D kty_D hown (hg _ tw_809) (hg _ tw_810) (hg _ tw_11) hK hP hD hS hA rfl kdf_D (Nat.le_of_ble_eq_true rfl) (Nat.le_of_ble_eq_true rfl) d_Z_law_8 (fun d H_4 hP hD hS => ?_)
  have hP : va_P (dC, dI) kcl [(x, .inr (0, [Value.ref g, Value.ref f, Value.ref cq, Value.ref y])), (g, .inr (1, [Value.ref kq, Value.int 0, Value.ref hq, Value.int 0, (zg 4), (zg 5), (zg 6), (zg 7), (zg 8), (zg 9), (zg 10), Value.int 0, Value.int 0, Value.ref pq])), (kq, .inl (cK, 32, .inl fk)), (hq, .inl (cH, 12, .inl fh)), (pq, .inr (6, [(zpq 0), (zpq 1), (zpq 2), (zpq 3), Value.ref bq, Value.int 16])), (f, .inr (2, [(zf 0), (zf 1), (zf 2), (zf 3), (zf 4), (zf 5), (zf 6), (zf 7), (zf 8), Value.int 0, (zf 10), Value.ref vF, (zf 12), (zf 13)])), (vF, .inr (5, [(zvF 0), (zvF 1), (zvF 2), (zvF 3), (zvF 4), (zvF 5), (zvF 6), Value.int 0])), (cq, .inr (3, [(zcq 0), (zcq 1), (zcq 2), (zcq 3), (zcq 4), (zcq 5), Value.int 0])), (y, .inr (4, [Value.ref g, Value.ref vT, Value.int 0, Value.int 0])), (vT, .inr (5, [(zvT 0), (zvT 1), (zvT 2), (zvT 3), (zvT 4), (zvT 5), (zvT 6), Value.int 0])), (d, .inr (9, [Value.int 0, Value.null, Value.int 0, Value.null, Value.int 0, Value.int 0, Value.null, Value.null, Value.null, Value.null, Value.null, Value.null, Value.int 0, Value.null, Value.null, Value.null, Value.null, Value.null, Value.null, Value.null, Value.int 0, Value.null, Value.null, Value.null, Value.null, Value.null, Value.null, Value.null, Value.null, Value.null, Value.null, Value.null, Value.int 0, Value.null, Value.null, Value.null, Value.null, Value.null, Value.null, Value.null, Value.null, Value.int 0]))] H_4 := hP
  have hD : va_D (fun q : Nat => s.heap.size ≤ q) [(x, .inr (0, [Value.ref g, Value.ref f, Value.ref cq, Value.ref y])), (g, .inr (1, [Value.ref kq, Value.int 0, Value.ref hq, Value.int 0, (zg 4), (zg 5), (zg 6), (zg 7), (zg 8), (zg 9), (zg 10), Value.int 0, Value.int 0, Value.ref pq])), (kq, .inl (cK, 32, .inl fk)), (hq, .inl (cH, 12, .inl fh)), (pq, .inr (6, [(zpq 0), (zpq 1), (zpq 2), (zpq 3), Value.ref bq, Value.int 16])), (f, .inr (2, [(zf 0), (zf 1), (zf 2), (zf 3), (zf 4), (zf 5), (zf 6), (zf 7), (zf 8), Value.int 0, (zf 10), Value.ref vF, (zf 12), (zf 13)])), (vF, .inr (5, [(zvF 0), (zvF 1), (zvF 2), (zvF 3), (zvF 4), (zvF 5), (zvF 6), Value.int 0])), (cq, .inr (3, [(zcq 0), (zcq 1), (zcq 2), (zcq 3), (zcq 4), (zcq 5), Value.int 0])), (y, .inr (4, [Value.ref g, Value.ref vT, Value.int 0, Value.int 0])), (vT, .inr (5, [(zvT 0), (zvT 1), (zvT 2), (zvT 3), (zvT 4), (zvT 5), (zvT 6), Value.int 0])), (d, .inr (9, [Value.int 0, Value.null, Value.int 0, Value.null, Value.int 0, Value.int 0, Value.null, Value.null, Value.null, Value.null, Value.null, Value.null, Value.int 0, Value.null, Value.null, Value.null, Value.null, Value.null, Value.null, Value.null, Value.int 0, Value.null, Value.null, Value.null, Value.null, Value.null, Value.null, Value.null, Value.null, Value.null, Value.null, Value.null, Value.int 0, Value.null, Value.null, Value.null, Value.null, Value.null, Value.null, Value.null, Value.null, Value.int 0]))] := hD
  refine lv_dup hx hb d_Z_law_11 rfl ?_
  have hPc := hP.sub (ws' := [(d, .inr (9, [Value.int 0, Value.null, Value.int 0, Value.null, Value.int 0, Value.int 0, Value.null, Value.null, Value.null, Value.null, Value.null, Value.null, Value.int 0, Value.null, Value.null, Value.null, Value.null, Value.null, Value.null, Value.null, Value.int 0, Value.null, Value.null, Value.null, Value.null, Value.null, Value.null, Value.null, Value.null, Value.null, Value.null, Value.null, Value.int 0, Value.null, Value.null, Value.null, Value.null, Value.null, Value.null, Value.null, Value.null, Value.int 0]))]) [10] rfl
  have hKc := hK.sub (tys' := []) [] rfl
  have hDc := hD.sub (ws' := [(d, .inr (9, [Value.int 0, Value.null, Value.int 0, Value.null, Value.int 0, Value.int 0, Value.null, Value.null, Value.null, Value.null, Value.null, Value.null, Value.int 0, Value.null, Value.null, Value.null, Value.null, Value.null, Value.null, Value.null, Value.int 0, Value.null, Value.null, Value.null, Value.null, Value.null, Value.null, Value.null, Value.null, Value.null, Value.null, Value.null, Value.int 0, Value.null, Value.null, Value.null, Value.null, Value.null, Value.null, Value.null, Value.null, Value.int 0]))]) [10] (by decide) rfl
  have hFc := va_free (wc := [(d, .inr (9, [Value.int 0, Value.null, Value.int 0, Value.null, Value.int 0, Value.int 0, Value.null, Value.null, Value.null, Value.null, Value.null, Value.null, Value.int 0, Value.null, Value.null, Value.null, Value.null, Value.null, Value.null, Value.null, Value.int 0, Value.null, Value.null, Value.null, Value.null, Value.null, Value.null, Value.null, Value.null, Value.null, Value.null, Value.null, Value.int 0, Value.null, Value.null, Value.null, Value.null, Value.null, Value.null, Value.null, Value.null, Value.int 0]))]) hD hS hA [10] rfl
  refine va_callv (va_runI (As := []) (rest := [Value.ref d]) ⟨hx, hb, hml, hown, hg⟩ (c_D_init l dC dI H_4.size d) (cwI 0 hg (gw_gi cin_D_init) rfl rfl rfl (hg _ tw_11) (hg _ tw_811) (hg _ tw_812) rfl (by decide +kernel) ⟨Nat.le_of_ble_eq_true rfl, Nat.le_of_ble_eq_true rfl⟩) ⟨fun a U g mk q => by obtain ⟨q0, q1, qP, qK, qD⟩ := q; exact ⟨q0, q1, qP, va_K.moved (u := U) (U := U.calling g mk a) (Vm.Alike.refl U.vm) qK, qD⟩, fun U hU hW => ⟨rfl, by rw [hU], by rw [hU]; exact hPc, va_K.moved hW.alike hKc, hDc.weaken (fun _ _ _ _ => trivial)⟩⟩ rfl rfl hl.1 rfl (lv_room (Nat.le_of_ble_eq_true rfl)) d_Z_law_12 ⟨Nat.le_of_ble_eq_true rfl, Nat.le_of_ble_eq_true rfl⟩) hS (fun q _ h => hFc q h) hFc (fun u_k_5 t_k_5 H_6 l_k_5 ht hvm hw_k_5 hB hz1 hk1 hS => ?_)
  obtain ⟨kd, hd, cKd, cHd, zd, fkd, fhd, hfkd, hP1, hK1, hD1⟩ := hB
  rw [ht] at hP1
  have hK1 := va_K.moved hvm.symm hK1
  obtain ⟨hP, hD⟩ := va_join (wr := [(x, .inr (0, [Value.ref g, Value.ref f, Value.ref cq, Value.ref y])), (g, .inr (1, [Value.ref kq, Value.int 0, Value.ref hq, Value.int 0, (zg 4), (zg 5), (zg 6), (zg 7), (zg 8), (zg 9), (zg 10), Value.int 0, Value.int 0, Value.ref pq])), (kq, .inl (cK, 32, .inl fk)), (hq, .inl (cH, 12, .inl fh)), (pq, .inr (6, [(zpq 0), (zpq 1), (zpq 2), (zpq 3), Value.ref bq, Value.int 16])), (f, .inr (2, [(zf 0), (zf 1), (zf 2), (zf 3), (zf 4), (zf 5), (zf 6), (zf 7), (zf 8), Value.int 0, (zf 10), Value.ref vF, (zf 12), (zf 13)])), (vF, .inr (5, [(zvF 0), (zvF 1), (zvF 2), (zvF 3), (zvF 4), (zvF 5), (zvF 6), Value.int 0])), (cq, .inr (3, [(zcq 0), (zcq 1), (zcq 2), (zcq 3), (zcq 4), (zcq 5), Value.int 0])), (y, .inr (4, [Value.ref g, Value.ref vT, Value.int 0, Value.int 0])), (vT, .inr (5, [(zvT 0), (zvT 1), (zvT 2), (zvT 3), (zvT 4), (zvT 5), (zvT 6), Value.int 0]))]) (w1 := [(d, .inr (9, [Value.int 0, Value.ref kd, Value.int 0, Value.ref hd, Value.int 0, Value.int 0, (zd 6), (zd 7), (zd 8), (zd 9), (zd 10), (zd 11), Value.int 0, (zd 13), (zd 14), (zd 15), (zd 16), (zd 17), (zd 18), (zd 19), Value.int 0, (zd 21), (zd 22), (zd 23), (zd 24), (zd 25), (zd 26), (zd 27), (zd 28), (zd 29), (zd 30), (zd 31), Value.int 0, (zd 33), (zd 34), (zd 35), (zd 36), (zd 37), (zd 38), (zd 39), (zd 40), Value.int 0])), (kd, .inl (cKd, 32, .inl fkd)), (hd, .inl (cHd, 12, .inl fhd))]) hP hD [10] [0, 1, 2, 3, 4, 5, 6, 7, 8, 9] rfl rfl (by decide) (by decide) hk1 hFc hP1 hD1
  have hK := (hK.sub (tys' := [(cK, .int), (cH, .int)]) [0, 1] rfl).app hK1
  have hP : va_P (dC, dI) kcl [(x, .inr (0, [Value.ref g, Value.ref f, Value.ref cq, Value.ref y])), (g, .inr (1, [Value.ref kq, Value.int 0, Value.ref hq, Value.int 0, (zg 4), (zg 5), (zg 6), (zg 7), (zg 8), (zg 9), (zg 10), Value.int 0, Value.int 0, Value.ref pq])), (kq, .inl (cK, 32, .inl fk)), (hq, .inl (cH, 12, .inl fh)), (pq, .inr (6, [(zpq 0), (zpq 1), (zpq 2), (zpq 3), Value.ref bq, Value.int 16])), (f, .inr (2, [(zf 0), (zf 1), (zf 2), (zf 3), (zf 4), (zf 5), (zf 6), (zf 7), (zf 8), Value.int 0, (zf 10), Value.ref vF, (zf 12), (zf 13)])), (vF, .inr (5, [(zvF 0), (zvF 1), (zvF 2), (zvF 3), (zvF 4), (zvF 5), (zvF 6), Value.int 0])), (cq, .inr (3, [(zcq 0), (zcq 1), (zcq 2), (zcq 3), (zcq 4), (zcq 5), Value.int 0])), (y, .inr (4, [Value.ref g, Value.ref vT, Value.int 0, Value.int 0])), (vT, .inr (5, [(zvT 0), (zvT 1), (zvT 2), (zvT 3), (zvT 4), (zvT 5), (zvT 6), Value.int 0])), (d, .inr (9, [Value.int 0, Value.ref kd, Value.int 0, Value.ref hd, Value.int 0, Value.int 0, (zd 6), (zd 7), (zd 8), (zd 9), (zd 10), (zd 11), Value.int 0, (zd 13), (zd 14), (zd 15), (zd 16), (zd 17), (zd 18), (zd 19), Value.int 0, (zd 21), (zd 22), (zd 23), (zd 24), (zd 25), (zd 26), (zd 27), (zd 28), (zd 29), (zd 30), (zd 31), Value.int 0, (zd 33), (zd 34), (zd 35), (zd 36), (zd 37), (zd 38), (zd 39), (zd 40), Value.int 0])), (kd, .inl (cKd, 32, .inl fkd)), (hd, .inl (cHd, 12, .inl fhd))] H_6 := hP
  have hD : va_D (fun q : Nat => s.heap.size ≤ q) [(x, .inr (0, [Value.ref g, Value.ref f, Value.ref cq, Value.ref y])), (g, .inr (1, [Value.ref kq, Value.int 0, Value.ref hq, Value.int 0, (zg 4), (zg 5), (zg 6), (zg 7), (zg 8), (zg 9), (zg 10), Value.int 0, Value.int 0, Value.ref pq])), (kq, .inl (cK, 32, .inl fk)), (hq, .inl (cH, 12, .inl fh)), (pq, .inr (6, [(zpq 0), (zpq 1), (zpq 2), (zpq 3), Value.ref bq, Value.int 16])), (f, .inr (2, [(zf 0), (zf 1), (zf 2), (zf 3), (zf 4), (zf 5), (zf 6), (zf 7), (zf 8), Value.int 0, (zf 10), Value.ref vF, (zf 12), (zf 13)])), (vF, .inr (5, [(zvF 0), (zvF 1), (zvF 2), (zvF 3), (zvF 4), (zvF 5), (zvF 6), Value.int 0])), (cq, .inr (3, [(zcq 0), (zcq 1), (zcq 2), (zcq 3), (zcq 4), (zcq 5), Value.int 0])), (y, .inr (4, [Value.ref g, Value.ref vT, Value.int 0, Value.int 0])), (vT, .inr (5, [(zvT 0), (zvT 1), (zvT 2), (zvT 3), (zvT 4), (zvT 5), (zvT 6), Value.int 0])), (d, .inr (9, [Value.int 0, Value.ref kd, Value.int 0, Value.ref hd, Value.int 0, Value.int 0, (zd 6), (zd 7), (zd 8), (zd 9), (zd 10), (zd 11), Value.int 0, (zd 13), (zd 14), (zd 15), (zd 16), (zd 17), (zd 18), (zd 19), Value.int 0, (zd 21), (zd 22), (zd 23), (zd 24), (zd 25), (zd 26), (zd 27), (zd 28), (zd 29), (zd 30), (zd 31), Value.int 0, (zd 33), (zd 34), (zd 35), (zd 36), (zd 37), (zd 38), (zd 39), (zd 40), Value.int 0])), (kd, .inl (cKd, 32, .inl fkd)), (hd, .inl (cHd, 12, .inl fhd))] := hD
  have hK : va_K (dC, dI) kcl [(cK, .int), (cH, .int), (cKd, .int), (cHd, .int)] s := hK
  refine lv_astore_n (lv' := [(2, Value.ref d), (1, Value.ref x), (0, Value.ref b)]) hx hb d_Z_law_15 rfl hl (by decide) rfl (fun ls hl => ?_)
  refine lv_iconst (v := 1) hx hb d_Z_law_16 (by decide) ?_
  refine va_newa (atype := .long) (ty := .long) (a0 := (1, .inr (.inl (fun _ => 0)))) (N' := 1) hx hb (hg _ tw_147) rfl hK hP hD hS hA (fun _ => rfl) (by decide) (by decide +kernel) (by decide) (Nat.le_of_ble_eq_true rfl) (Nat.le_of_ble_eq_true rfl) d_Z_law_17 (fun o co H_7 hK hP hD hS => ?_)
  have hP : va_P (dC, dI) kcl [(x, .inr (0, [Value.ref g, Value.ref f, Value.ref cq, Value.ref y])), (g, .inr (1, [Value.ref kq, Value.int 0, Value.ref hq, Value.int 0, (zg 4), (zg 5), (zg 6), (zg 7), (zg 8), (zg 9), (zg 10), Value.int 0, Value.int 0, Value.ref pq])), (kq, .inl (cK, 32, .inl fk)), (hq, .inl (cH, 12, .inl fh)), (pq, .inr (6, [(zpq 0), (zpq 1), (zpq 2), (zpq 3), Value.ref bq, Value.int 16])), (f, .inr (2, [(zf 0), (zf 1), (zf 2), (zf 3), (zf 4), (zf 5), (zf 6), (zf 7), (zf 8), Value.int 0, (zf 10), Value.ref vF, (zf 12), (zf 13)])), (vF, .inr (5, [(zvF 0), (zvF 1), (zvF 2), (zvF 3), (zvF 4), (zvF 5), (zvF 6), Value.int 0])), (cq, .inr (3, [(zcq 0), (zcq 1), (zcq 2), (zcq 3), (zcq 4), (zcq 5), Value.int 0])), (y, .inr (4, [Value.ref g, Value.ref vT, Value.int 0, Value.int 0])), (vT, .inr (5, [(zvT 0), (zvT 1), (zvT 2), (zvT 3), (zvT 4), (zvT 5), (zvT 6), Value.int 0])), (d, .inr (9, [Value.int 0, Value.ref kd, Value.int 0, Value.ref hd, Value.int 0, Value.int 0, (zd 6), (zd 7), (zd 8), (zd 9), (zd 10), (zd 11), Value.int 0, (zd 13), (zd 14), (zd 15), (zd 16), (zd 17), (zd 18), (zd 19), Value.int 0, (zd 21), (zd 22), (zd 23), (zd 24), (zd 25), (zd 26), (zd 27), (zd 28), (zd 29), (zd 30), (zd 31), Value.int 0, (zd 33), (zd 34), (zd 35), (zd 36), (zd 37), (zd 38), (zd 39), (zd 40), Value.int 0])), (kd, .inl (cKd, 32, .inl fkd)), (hd, .inl (cHd, 12, .inl fhd)), (o, .inl (co, 1, .inr (.inl (fun _ => 0))))] H_7 := hP
  have hD : va_D (fun q : Nat => s.heap.size ≤ q) [(x, .inr (0, [Value.ref g, Value.ref f, Value.ref cq, Value.ref y])), (g, .inr (1, [Value.ref kq, Value.int 0, Value.ref hq, Value.int 0, (zg 4), (zg 5), (zg 6), (zg 7), (zg 8), (zg 9), (zg 10), Value.int 0, Value.int 0, Value.ref pq])), (kq, .inl (cK, 32, .inl fk)), (hq, .inl (cH, 12, .inl fh)), (pq, .inr (6, [(zpq 0), (zpq 1), (zpq 2), (zpq 3), Value.ref bq, Value.int 16])), (f, .inr (2, [(zf 0), (zf 1), (zf 2), (zf 3), (zf 4), (zf 5), (zf 6), (zf 7), (zf 8), Value.int 0, (zf 10), Value.ref vF, (zf 12), (zf 13)])), (vF, .inr (5, [(zvF 0), (zvF 1), (zvF 2), (zvF 3), (zvF 4), (zvF 5), (zvF 6), Value.int 0])), (cq, .inr (3, [(zcq 0), (zcq 1), (zcq 2), (zcq 3), (zcq 4), (zcq 5), Value.int 0])), (y, .inr (4, [Value.ref g, Value.ref vT, Value.int 0, Value.int 0])), (vT, .inr (5, [(zvT 0), (zvT 1), (zvT 2), (zvT 3), (zvT 4), (zvT 5), (zvT 6), Value.int 0])), (d, .inr (9, [Value.int 0, Value.ref kd, Value.int 0, Value.ref hd, Value.int 0, Value.int 0, (zd 6), (zd 7), (zd 8), (zd 9), (zd 10), (zd 11), Value.int 0, (zd 13), (zd 14), (zd 15), (zd 16), (zd 17), (zd 18), (zd 19), Value.int 0, (zd 21), (zd 22), (zd 23), (zd 24), (zd 25), (zd 26), (zd 27), (zd 28), (zd 29), (zd 30), (zd 31), Value.int 0, (zd 33), (zd 34), (zd 35), (zd 36), (zd 37), (zd 38), (zd 39), (zd 40), Value.int 0])), (kd, .inl (cKd, 32, .inl fkd)), (hd, .inl (cHd, 12, .inl fhd)), (o, .inl (co, 1, .inr (.inl (fun _ => 0))))] := hD
  have hK : va_K (dC, dI) kcl [(cK, .int), (cH, .int), (cKd, .int), (cHd, .int), (co, .long)] s := hK
  refine lv_astore_n (lv' := [(3, Value.ref o), (2, Value.ref d), (1, Value.ref x), (0, Value.ref b)]) hx hb d_Z_law_19 rfl hl (by decide) rfl (fun ls hl => ?_)
  refine lv_iconst (v := 0) hx hb d_Z_law_20 (by decide) ?_
  refine lv_istore (lv' := [(4, Value.int 0), (3, Value.ref o), (2, Value.ref d), (1, Value.ref x), (0, Value.ref b)]) hx hb d_Z_law_21 hl (by decide) rfl (fun ls hl => ?_)
  rcases Nat.lt_or_eq_of_le hL with h5 | rfl
  · refine W.widen (k := 600002) (n := 7302232) (Nat.le_of_ble_eq_true rfl) (Nat.le_of_ble_eq_true rfl) ?_
    exact law_short h5 C0 hS (lv_sub hl [0, 4] rfl)
  · exact law_head5 hlf C0 hG hfk hfkd hP hD hK hS (lv_sub hl [0, 1, 2, 3, 4] rfl)
