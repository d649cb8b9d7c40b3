set_option maxRecDepth 100000 in
theorem tw_801 : (Jvm.Cond.code ({ cls := "TreeMatcher", name := "count", desc := "(I)I" } : Jvm.MethodName) prog_1_method_13_code (2 : Nat) (Option.some Jvm.ClassFile.FieldType.int)) ∈ gw := gw_of (List.mem_of_getElem? (i := 801) rfl) rfl
set_option maxRecDepth 100000 in
theorem tw_802 : (Jvm.Cond.methodLink "TreeMatcher" (160 : Nat) ({ cls := "TreeMatcher$Grammar", name := "operatorCount", desc := "()I" } : Jvm.MethodName)) ∈ gw := gw_of (List.mem_of_getElem? (i := 802) rfl) rfl
set_option maxRecDepth 100000 in
theorem tw_803 : (Jvm.Cond.methodLink "TreeMatcher" (163 : Nat) ({ cls := "TreeMatcher$Grammar", name := "partCount", desc := "()I" } : Jvm.MethodName)) ∈ gw := gw_of (List.mem_of_getElem? (i := 803) rfl) rfl
set_option maxRecDepth 100000 in
theorem tw_804 : (Jvm.Cond.instanceMethod ({ cls := "TreeMatcher$Grammar", name := "partCount", desc := "()I" } : Jvm.MethodName)) ∈ gw := gw_of (List.mem_of_getElem? (i := 804) rfl) rfl
set_option maxRecDepth 100000 in
theorem tw_805 : (Jvm.Cond.selects "TreeMatcher$Grammar" ({ cls := "TreeMatcher$Grammar", name := "partCount", desc := "()I" } : Jvm.MethodName) ({ cls := "TreeMatcher$Grammar", name := "partCount", desc := "()I" } : Jvm.MethodName)) ∈ gw := gw_of (List.mem_of_getElem? (i := 805) rfl) rfl
abbrev b_M_count : ByteArray := prog_1_method_13_code
def y_M_count : MethodName := ⟨"TreeMatcher", "count", "(I)I"⟩
def ws_M_count : List Cond := Cond.code y_M_count b_M_count 2 (Option.some Jvm.ClassFile.FieldType.int) :: gw
theorem cin_M_count : Cond.code y_M_count b_M_count 2 (Option.some Jvm.ClassFile.FieldType.int) ∈ gw := tw_801
theorem d_M_count_0 : decode b_M_count 0 = .ok (.iload_n 1, 1) := by decide +kernel
theorem d_M_count_1 : decode b_M_count 1 = .ok (.tableswitch 87 0 5 #[39, 47, 55, 63, 71, 79], 39) := by decide +kernel
theorem d_M_count_40 : decode b_M_count 40 = .ok (.aload_n 0, 1) := by decide +kernel
theorem d_M_count_41 : decode b_M_count 41 = .ok (.getfield 12, 3) := by decide +kernel
theorem d_M_count_44 : decode b_M_count 44 = .ok (.invokevirtual 160, 3) := by decide +kernel
theorem d_M_count_47 : decode b_M_count 47 = .ok (.ireturn, 1) := by decide +kernel
theorem d_M_count_48 : decode b_M_count 48 = .ok (.aload_n 0, 1) := by decide +kernel
theorem d_M_count_49 : decode b_M_count 49 = .ok (.getfield 12, 3) := by decide +kernel
theorem d_M_count_52 : decode b_M_count 52 = .ok (.invokevirtual 77, 3) := by decide +kernel
theorem d_M_count_55 : decode b_M_count 55 = .ok (.ireturn, 1) := by decide +kernel
theorem d_M_count_56 : decode b_M_count 56 = .ok (.aload_n 0, 1) := by decide +kernel
theorem d_M_count_57 : decode b_M_count 57 = .ok (.getfield 21, 3) := by decide +kernel
theorem d_M_count_60 : decode b_M_count 60 = .ok (.invokevirtual 80, 3) := by decide +kernel
theorem d_M_count_63 : decode b_M_count 63 = .ok (.ireturn, 1) := by decide +kernel
theorem d_M_count_64 : decode b_M_count 64 = .ok (.aload_n 0, 1) := by decide +kernel
theorem d_M_count_65 : decode b_M_count 65 = .ok (.getfield 12, 3) := by decide +kernel
theorem d_M_count_68 : decode b_M_count 68 = .ok (.invokevirtual 67, 3) := by decide +kernel
theorem d_M_count_71 : decode b_M_count 71 = .ok (.ireturn, 1) := by decide +kernel
theorem d_M_count_72 : decode b_M_count 72 = .ok (.aload_n 0, 1) := by decide +kernel
theorem d_M_count_73 : decode b_M_count 73 = .ok (.getfield 12, 3) := by decide +kernel
theorem d_M_count_76 : decode b_M_count 76 = .ok (.invokevirtual 163, 3) := by decide +kernel
theorem d_M_count_79 : decode b_M_count 79 = .ok (.ireturn, 1) := by decide +kernel
theorem d_M_count_80 : decode b_M_count 80 = .ok (.aload_n 0, 1) := by decide +kernel
theorem d_M_count_81 : decode b_M_count 81 = .ok (.getfield 30, 3) := by decide +kernel
theorem d_M_count_84 : decode b_M_count 84 = .ok (.invokevirtual 127, 3) := by decide +kernel
theorem d_M_count_87 : decode b_M_count 87 = .ok (.ireturn, 1) := by decide +kernel
theorem d_M_count_88 : decode b_M_count 88 = .ok (.new 128, 3) := by decide +kernel
theorem d_M_count_91 : decode b_M_count 91 = .ok (.dup, 1) := by decide +kernel
theorem d_M_count_92 : decode b_M_count 92 = .ok (.ldc 166, 2) := by decide +kernel
theorem d_M_count_94 : decode b_M_count 94 = .ok (.invokespecial 132, 3) := by decide +kernel
theorem d_M_count_97 : decode b_M_count 97 = .ok (.athrow, 1) := by decide +kernel
theorem tx_i32 {n : Int32} {k : Int32} {z : Int} (h : ¬ n = k) (hk : k.toInt = z) : ¬ n.toInt = z := fun e => h (Int32.toInt_inj.mp (e.trans hk.symm))
theorem tx_out6 {n : Int32} (h0 : ¬ n = 0) (h1 : ¬ n = 1) (h2 : ¬ n = 2) (h3 : ¬ n = 3) (h4 : ¬ n = 4) (h5 : ¬ n = 5) : n.toInt < 0 ∨ 5 < n.toInt := by
  have g0 := tx_i32 (z := 0) h0 (by decide)
  have g1 := tx_i32 (z := 1) h1 (by decide)
  have g2 := tx_i32 (z := 2) h2 (by decide)
  have g3 := tx_i32 (z := 3) h3 (by decide)
  have g4 := tx_i32 (z := 4) h4 (by decide)
  have g5 := tx_i32 (z := 5) h5 (by decide)
  omega
theorem tx_out6b {n : Int32} (h0 : ¬ n = 0) (h1 : ¬ n = 1) (h2 : ¬ n = 2) (h3 : ¬ n = 3) (h4 : ¬ n = 4) (h5 : ¬ n = 5) : ¬ (0 ≤ n ∧ n < 6) := by
  intro h
  have a := Int32.le_iff_toInt_le.mp h.1
  have b := Int32.lt_iff_toInt_lt.mp h.2
  have a' : (0 : Int) ≤ n.toInt := a
  have b' : n.toInt < 6 := b
  rcases tx_out6 h0 h1 h2 h3 h4 h5 with q | q <;> omega
set_option maxHeartbeats 4000000 in
set_option maxRecDepth 100000 in
theorem c_M_count (l : Launch) (hlf : l.flags = flags0) (dC : Nat → ClassId) (dI : Nat → Nat → Nat) (sz : Nat) (x g f cq pq : Nat) (zx : Nat → Value) (zg : Nat → Value) (zf : Nat → Value) (zcq : Nat → Value) (zpq : Nat → Value) (n : Int32) : tx_Met l y_M_count ws_M_count ({ frames := 6, cells := 1, slots := 6, locals := 90 }) (va_Pc [Value.ref x, Value.int n] (fun U => U.heap.size = sz ∧ va_P (dC, dI) kcl [(x, .inr (0, [Value.ref g, Value.ref f, Value.ref cq, (zx 3)])), (g, .inr (1, [(zg 0), Value.int 0, (zg 2), Value.int 0, (zg 4), (zg 5), (zg 6), (zg 7), (zg 8), (zg 9), (zg 10), Value.int 0, (zg 12), Value.ref pq])), (f, .inr (2, [(zf 0), (zf 1), (zf 2), (zf 3), (zf 4), (zf 5), (zf 6), (zf 7), (zf 8), Value.int 0, (zf 10), (zf 11), (zf 12), (zf 13)])), (cq, .inr (3, [(zcq 0), (zcq 1), (zcq 2), (zcq 3), (zcq 4), (zcq 5), Value.int 0])), (pq, .inr (6, [(zpq 0), (zpq 1), (zpq 2), (zpq 3), (zpq 4), Value.int 16]))] U.heap ∧ va_K (dC, dI) kcl [] U ∧ tx_G (va_A [] sz) U)) (tx_Q (fun v => (0 ≤ n ∧ n < 6) ∧ v = some (.int (if n = 4 then 16 else 0))) (fun X => ¬ (0 ≤ n ∧ n < 6) ∧ X = "java/lang/IndexOutOfBoundsException") (va_A [] sz)) 1 6 (va_A [] sz) := by
  refine tx_ofW (cc := b_M_count) (maxL := 2) (ret := (Option.some Jvm.ClassFile.FieldType.int)) (by decide) rfl ?_
  intro p e s m args below meth c s₁ B hml hout hadm hv
  obtain ⟨rfl, hsz, hP, hK, hG⟩ := hv
  have hP0 := hP
  have hx := B.exec
  have hb := B.bytes
  have hr := B.returns
  have hlocks := B.notSynchronized
  have hg : ∀ w ∈ gw, w.before _ s = true := fun w h => atoms_spec (ws := ws_M_count) B.pre w (List.mem_cons_of_mem _ h)
  have hown : s.vm.findClass "TreeMatcher" = some m.cls := findClass_of_methodNamed B.named
  subst hsz
  have hA : ∀ q : Nat, s.heap.size ≤ q → va_A ([] : va_W) s.heap.size q := fun q h => Or.inr h
  generalize hAe : va_A ([] : va_W) s.heap.size = A at hG hA ⊢
  have hN : tx_N s := hG.1
  have hS : va_S A s.heap s.heap [] := va_S.rf
  have hl := lv_entry ([Value.ref x, Value.int n] : List Value) (n := 2) (Nat.le_of_ble_eq_true rfl)
  rw [lg_entry_eq]
  generalize (lg_sl ([Value.ref x, Value.int n] : List Value) ++ List.replicate (2 - (lg_sl ([Value.ref x, Value.int n] : List Value)).length) Slot.unset).toArray = ls at hl ⊢
  have hl : lv_has ls 2 [(0, Value.ref x), (1, Value.int n)] := hl
  refine lv_iload_n hx hb d_M_count_0 rfl (lv_at hl 1 rfl) ?_
  by_cases hn_0 : n = 0
  · subst hn_0
    refine lv_tableIn (tgt := 40) hx hb d_M_count_1 (by decide) (by decide) rfl (by decide) ?_
    refine lv_aload_n hx hb d_M_count_40 rfl (lv_at hl 0 rfl) ?_
    refine va_get (D := (dC, dI)) (ci := 0) (v := Value.ref g) (C := kR_M) (T := kT_M) (N := 4) hx hb hg kin_M hown hK hP 0 rfl rfl 0 (by decide) (hg _ tw_283) (fun _ h9 => h9) rfl d_M_count_41 ?_
    have hPc := hP.sub (ws' := [(g, .inr (1, [(zg 0), Value.int 0, (zg 2), Value.int 0, (zg 4), (zg 5), (zg 6), (zg 7), (zg 8), (zg 9), (zg 10), Value.int 0, (zg 12), Value.ref pq]))]) [1] rfl
    have hKc := hK.sub (tys' := []) [] rfl
    refine va_calli (va_runV (As := []) (rest := []) ⟨hx, hb, hml, hown, hg⟩ (c_G_operatorCount l dC dI s.heap.size g (fun i => if i = 13 then Value.ref pq else if i = 11 then Value.int 0 else if i = 3 then Value.int 0 else zg i) 0) (cwV 0 hg (gw_giV cin_G_operatorCount tw_802 tw_763 tw_764 tw_2) rfl rfl rfl (by decide +kernel) ⟨Nat.le_of_ble_eq_true rfl, Nat.le_of_ble_eq_true rfl⟩) ⟨fun a U g mk q => by obtain ⟨q0, q1, qP, qK⟩ := q; exact ⟨q0, q1, qP, va_K.moved (u := U) (U := U.calling g mk a) (Vm.Alike.refl U.vm) qK⟩, va_recv hKc hPc (ci := 1) (q0 := 0) rfl rfl, fun U hU hW => ⟨rfl, by rw [hU], by rw [hU]; exact hPc, va_K.moved hW.alike hKc⟩⟩ rfl rfl hl.1 rfl (lv_room (Nat.le_of_ble_eq_true rfl)) d_M_count_44 ⟨Nat.le_of_ble_eq_true rfl, Nat.le_of_ble_eq_true rfl⟩) hS (fun q h1 h => (tx_pA h1 h).elim) (tx_pF hS hA) (fun r_k_1 u_k_1 t_k_1 H_2 l_k_1 ht hvm hw_k_1 hB hz1 hk1 hS => ?_)
    have hw_k_1 : 0 = r_k_1 := Eq.symm hw_k_1
    subst hw_k_1
    have hP := tx_keep hP hk1
    refine W.widen (k := 1) (n := 6) (Nat.le_of_ble_eq_true rfl) (Nat.le_of_ble_eq_true rfl) ?_
    exact tx_ret (W.iret (v := 0) hx hb hr (fun t ht hW => ⟨Or.inl ⟨_, rfl, ⟨⟨by decide, by decide⟩, rfl⟩⟩, hS.F ht⟩) hS.2.2 d_M_count_47)
  by_cases hn_1 : n = 1
  · subst hn_1
    refine lv_tableIn (tgt := 48) hx hb d_M_count_1 (by decide) (by decide) rfl (by decide) ?_
    refine lv_aload_n hx hb d_M_count_48 rfl (lv_at hl 0 rfl) ?_
    refine va_get (D := (dC, dI)) (ci := 0) (v := Value.ref g) (C := kR_M) (T := kT_M) (N := 4) hx hb hg kin_M hown hK hP 0 rfl rfl 0 (by decide) (hg _ tw_283) (fun _ h9 => h9) rfl d_M_count_49 ?_
    have hPc := hP.sub (ws' := [(g, .inr (1, [(zg 0), Value.int 0, (zg 2), Value.int 0, (zg 4), (zg 5), (zg 6), (zg 7), (zg 8), (zg 9), (zg 10), Value.int 0, (zg 12), Value.ref pq]))]) [1] rfl
    have hKc := hK.sub (tys' := []) [] rfl
    refine va_calli (va_runV (As := []) (rest := []) ⟨hx, hb, hml, hown, hg⟩ (c_G_ruleCount l dC dI s.heap.size g (fun i => if i = 13 then Value.ref pq else if i = 3 then Value.int 0 else if i = 1 then Value.int 0 else zg i) 0) (cwV 0 hg (gw_giV cin_G_ruleCount tw_441 tw_442 tw_443 tw_2) rfl rfl rfl (by decide +kernel) ⟨Nat.le_of_ble_eq_true rfl, Nat.le_of_ble_eq_true rfl⟩) ⟨fun a U g mk q => by obtain ⟨q0, q1, qP, qK⟩ := q; exact ⟨q0, q1, qP, va_K.moved (u := U) (U := U.calling g mk a) (Vm.Alike.refl U.vm) qK⟩, va_recv hKc hPc (ci := 1) (q0 := 0) rfl rfl, fun U hU hW => ⟨rfl, by rw [hU], by rw [hU]; exact hPc, va_K.moved hW.alike hKc⟩⟩ rfl rfl hl.1 rfl (lv_room (Nat.le_of_ble_eq_true rfl)) d_M_count_52 ⟨Nat.le_of_ble_eq_true rfl, Nat.le_of_ble_eq_true rfl⟩) hS (fun q h1 h => (tx_pA h1 h).elim) (tx_pF hS hA) (fun r_k_3 u_k_3 t_k_3 H_4 l_k_3 ht hvm hw_k_3 hB hz1 hk1 hS => ?_)
    have hw_k_3 : 0 = r_k_3 := Eq.symm hw_k_3
    subst hw_k_3
    have hP := tx_keep hP hk1
    refine W.widen (k := 1) (n := 6) (Nat.le_of_ble_eq_true rfl) (Nat.le_of_ble_eq_true rfl) ?_
    exact tx_ret (W.iret (v := 0) hx hb hr (fun t ht hW => ⟨Or.inl ⟨_, rfl, ⟨⟨by decide, by decide⟩, rfl⟩⟩, hS.F ht⟩) hS.2.2 d_M_count_55)
  by_cases hn_2 : n = 2
  · subst hn_2
    refine lv_tableIn (tgt := 56) hx hb d_M_count_1 (by decide) (by decide) rfl (by decide) ?_
    refine lv_aload_n hx hb d_M_count_56 rfl (lv_at hl 0 rfl) ?_
    refine va_get (D := (dC, dI)) (ci := 0) (v := Value.ref f) (C := kR_M) (T := kT_M) (N := 4) hx hb hg kin_M hown hK hP 0 rfl rfl 1 (by decide) (hg _ tw_284) (fun _ h9 => h9) rfl d_M_count_57 ?_
    have hPc := hP.sub (ws' := [(f, .inr (2, [(zf 0), (zf 1), (zf 2), (zf 3), (zf 4), (zf 5), (zf 6), (zf 7), (zf 8), Value.int 0, (zf 10), (zf 11), (zf 12), (zf 13)]))]) [2] rfl
    have hKc := hK.sub (tys' := []) [] rfl
    refine va_calli (va_runV (As := []) (rest := []) ⟨hx, hb, hml, hown, hg⟩ (c_F_size l dC dI s.heap.size f zf 0) (cwV 0 hg (gw_giV cin_F_size tw_445 tw_446 tw_447 tw_6) rfl rfl rfl (by decide +kernel) ⟨Nat.le_of_ble_eq_true rfl, Nat.le_of_ble_eq_true rfl⟩) ⟨fun a U g mk q => by obtain ⟨q0, q1, qP, qK⟩ := q; exact ⟨q0, q1, qP, va_K.moved (u := U) (U := U.calling g mk a) (Vm.Alike.refl U.vm) qK⟩, va_recv hKc hPc (ci := 2) (q0 := 0) rfl rfl, fun U hU hW => ⟨rfl, by rw [hU], by rw [hU]; exact hPc, va_K.moved hW.alike hKc⟩⟩ rfl rfl hl.1 rfl (lv_room (Nat.le_of_ble_eq_true rfl)) d_M_count_60 ⟨Nat.le_of_ble_eq_true rfl, Nat.le_of_ble_eq_true rfl⟩) hS (fun q h1 h => (tx_pA h1 h).elim) (tx_pF hS hA) (fun r_k_5 u_k_5 t_k_5 H_6 l_k_5 ht hvm hw_k_5 hB hz1 hk1 hS => ?_)
    have hw_k_5 : 0 = r_k_5 := Eq.symm hw_k_5
    subst hw_k_5
    have hP := tx_keep hP hk1
    refine W.widen (k := 1) (n := 6) (Nat.le_of_ble_eq_true rfl) (Nat.le_of_ble_eq_true rfl) ?_
    exact tx_ret (W.iret (v := 0) hx hb hr (fun t ht hW => ⟨Or.inl ⟨_, rfl, ⟨⟨by decide, by decide⟩, rfl⟩⟩, hS.F ht⟩) hS.2.2 d_M_count_63)
  by_cases hn_3 : n = 3
  · subst hn_3
    refine lv_tableIn (tgt := 64) hx hb d_M_count_1 (by decide) (by decide) rfl (by decide) ?_
    refine lv_aload_n hx hb d_M_count_64 rfl (lv_at hl 0 rfl) ?_
    refine va_get (D := (dC, dI)) (ci := 0) (v := Value.ref g) (C := kR_M) (T := kT_M) (N := 4) hx hb hg kin_M hown hK hP 0 rfl rfl 0 (by decide) (hg _ tw_283) (fun _ h9 => h9) rfl d_M_count_65 ?_
    have hPc := hP.sub (ws' := [(g, .inr (1, [(zg 0), Value.int 0, (zg 2), Value.int 0, (zg 4), (zg 5), (zg 6), (zg 7), (zg 8), (zg 9), (zg 10), Value.int 0, (zg 12), Value.ref pq]))]) [1] rfl
    have hKc := hK.sub (tys' := []) [] rfl
    refine va_calli (va_runV (As := []) (rest := []) ⟨hx, hb, hml, hown, hg⟩ (c_G_handSize l dC dI s.heap.size g (fun i => if i = 13 then Value.ref pq else if i = 11 then Value.int 0 else if i = 1 then Value.int 0 else zg i) 0) (cwV 0 hg (gw_giV cin_G_handSize tw_425 tw_426 tw_427 tw_2) rfl rfl rfl (by decide +kernel) ⟨Nat.le_of_ble_eq_true rfl, Nat.le_of_ble_eq_true rfl⟩) ⟨fun a U g mk q => by obtain ⟨q0, q1, qP, qK⟩ := q; exact ⟨q0, q1, qP, va_K.moved (u := U) (U := U.calling g mk a) (Vm.Alike.refl U.vm) qK⟩, va_recv hKc hPc (ci := 1) (q0 := 0) rfl rfl, fun U hU hW => ⟨rfl, by rw [hU], by rw [hU]; exact hPc, va_K.moved hW.alike hKc⟩⟩ rfl rfl hl.1 rfl (lv_room (Nat.le_of_ble_eq_true rfl)) d_M_count_68 ⟨Nat.le_of_ble_eq_true rfl, Nat.le_of_ble_eq_true rfl⟩) hS (fun q h1 h => (tx_pA h1 h).elim) (tx_pF hS hA) (fun r_k_7 u_k_7 t_k_7 H_8 l_k_7 ht hvm hw_k_7 hB hz1 hk1 hS => ?_)
    have hw_k_7 : 0 = r_k_7 := Eq.symm hw_k_7
    subst hw_k_7
    have hP := tx_keep hP hk1
    refine W.widen (k := 1) (n := 6) (Nat.le_of_ble_eq_true rfl) (Nat.le_of_ble_eq_true rfl) ?_
    exact tx_ret (W.iret (v := 0) hx hb hr (fun t ht hW => ⟨Or.inl ⟨_, rfl, ⟨⟨by decide, by decide⟩, rfl⟩⟩, hS.F ht⟩) hS.2.2 d_M_count_71)
  by_cases hn_4 : n = 4
  · subst hn_4
    refine lv_tableIn (tgt := 72) hx hb d_M_count_1 (by decide) (by decide) rfl (by decide) ?_
    refine lv_aload_n hx hb d_M_count_72 rfl (lv_at hl 0 rfl) ?_
    refine va_get (D := (dC, dI)) (ci := 0) (v := Value.ref g) (C := kR_M) (T := kT_M) (N := 4) hx hb hg kin_M hown hK hP 0 rfl rfl 0 (by decide) (hg _ tw_283) (fun _ h9 => h9) rfl d_M_count_73 ?_
    have hPc := hP.sub (ws' := [(g, .inr (1, [(zg 0), Value.int 0, (zg 2), Value.int 0, (zg 4), (zg 5), (zg 6), (zg 7), (zg 8), (zg 9), (zg 10), Value.int 0, (zg 12), Value.ref pq])), (pq, .inr (6, [(zpq 0), (zpq 1), (zpq 2), (zpq 3), (zpq 4), Value.int 16]))]) [1, 4] rfl
    have hKc := hK.sub (tys' := []) [] rfl
    refine va_calli (va_runV (As := []) (rest := []) ⟨hx, hb, hml, hown, hg⟩ (c_G_partCount l dC dI s.heap.size g pq (fun i => if i = 11 then Value.int 0 else if i = 3 then Value.int 0 else if i = 1 then Value.int 0 else zg i) zpq 16) (cwV 0 hg (gw_giV cin_G_partCount tw_803 tw_804 tw_805 tw_2) rfl rfl rfl (by decide +kernel) ⟨Nat.le_of_ble_eq_true rfl, Nat.le_of_ble_eq_true rfl⟩) ⟨fun a U g mk q => by obtain ⟨q0, q1, qP, qK⟩ := q; exact ⟨q0, q1, qP, va_K.moved (u := U) (U := U.calling g mk a) (Vm.Alike.refl U.vm) qK⟩, va_recv hKc hPc (ci := 1) (q0 := 0) rfl rfl, fun U hU hW => ⟨rfl, by rw [hU], by rw [hU]; exact hPc, va_K.moved hW.alike hKc⟩⟩ rfl rfl hl.1 rfl (lv_room (Nat.le_of_ble_eq_true rfl)) d_M_count_76 ⟨Nat.le_of_ble_eq_true rfl, Nat.le_of_ble_eq_true rfl⟩) hS (fun q h1 h => (tx_pA h1 h).elim) (tx_pF hS hA) (fun r_k_9 u_k_9 t_k_9 H_10 l_k_9 ht hvm hw_k_9 hB hz1 hk1 hS => ?_)
    have hw_k_9 : 16 = r_k_9 := Eq.symm hw_k_9
    subst hw_k_9
    have hP := tx_keep hP hk1
    refine W.widen (k := 1) (n := 6) (Nat.le_of_ble_eq_true rfl) (Nat.le_of_ble_eq_true rfl) ?_
    exact tx_ret (W.iret (v := 16) hx hb hr (fun t ht hW => ⟨Or.inl ⟨_, rfl, ⟨⟨by decide, by decide⟩, rfl⟩⟩, hS.F ht⟩) hS.2.2 d_M_count_79)
  by_cases hn_5 : n = 5
  · subst hn_5
    refine lv_tableIn (tgt := 80) hx hb d_M_count_1 (by decide) (by decide) rfl (by decide) ?_
    refine lv_aload_n hx hb d_M_count_80 rfl (lv_at hl 0 rfl) ?_
    refine va_get (D := (dC, dI)) (ci := 0) (v := Value.ref cq) (C := kR_M) (T := kT_M) (N := 4) hx hb hg kin_M hown hK hP 0 rfl rfl 2 (by decide) (hg _ tw_285) (fun _ h9 => h9) rfl d_M_count_81 ?_
    have hPc := hP.sub (ws' := [(cq, .inr (3, [(zcq 0), (zcq 1), (zcq 2), (zcq 3), (zcq 4), (zcq 5), Value.int 0]))]) [3] rfl
    have hKc := hK.sub (tys' := []) [] rfl
    refine va_calli (va_runV (As := []) (rest := []) ⟨hx, hb, hml, hown, hg⟩ (c_C_size l dC dI s.heap.size cq zcq 0) (cwV 0 hg (gw_giV cin_C_size tw_729 tw_730 tw_731 tw_9) rfl rfl rfl (by decide +kernel) ⟨Nat.le_of_ble_eq_true rfl, Nat.le_of_ble_eq_true rfl⟩) ⟨fun a U g mk q => by obtain ⟨q0, q1, qP, qK⟩ := q; exact ⟨q0, q1, qP, va_K.moved (u := U) (U := U.calling g mk a) (Vm.Alike.refl U.vm) qK⟩, va_recv hKc hPc (ci := 3) (q0 := 0) rfl rfl, fun U hU hW => ⟨rfl, by rw [hU], by rw [hU]; exact hPc, va_K.moved hW.alike hKc⟩⟩ rfl rfl hl.1 rfl (lv_room (Nat.le_of_ble_eq_true rfl)) d_M_count_84 ⟨Nat.le_of_ble_eq_true rfl, Nat.le_of_ble_eq_true rfl⟩) hS (fun q h1 h => (tx_pA h1 h).elim) (tx_pF hS hA) (fun r_k_11 u_k_11 t_k_11 H_12 l_k_11 ht hvm hw_k_11 hB hz1 hk1 hS => ?_)
    have hw_k_11 : 0 = r_k_11 := Eq.symm hw_k_11
    subst hw_k_11
    have hP := tx_keep hP hk1
    refine W.widen (k := 1) (n := 6) (Nat.le_of_ble_eq_true rfl) (Nat.le_of_ble_eq_true rfl) ?_
    exact tx_ret (W.iret (v := 0) hx hb hr (fun t ht hW => ⟨Or.inl ⟨_, rfl, ⟨⟨by decide, by decide⟩, rfl⟩⟩, hS.F ht⟩) hS.2.2 d_M_count_87)
  refine lv_tableOut (tgt := 88) hx hb d_M_count_1 (tx_out6 hn_0 hn_1 hn_2 hn_3 hn_4 hn_5) (by decide) ?_
  obtain ⟨qs, hqs⟩ := tx_str166 hG.2.1
  exact tx_throwNew (names := tx_nm) hx hb hlf hout hlocks hown (hg _ tw_665) (hg _ tw_666) (hg _ tw_19) (tx_ownIOB hg hG) (by decide +kernel) (by decide +kernel) hqs (fun x h => by cases h) (hl.1.trans hml.symm) hS (Nat.le_of_ble_eq_true rfl) (Nat.le_of_ble_eq_true rfl) (Nat.le_of_ble_eq_true rfl) (Nat.le_of_ble_eq_true rfl) d_M_count_88 d_M_count_91 d_M_count_92 d_M_count_94 d_M_count_97 ⟨tx_out6b hn_0 hn_1 hn_2 hn_3 hn_4 hn_5, rfl⟩
