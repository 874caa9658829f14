theorem tw_172 : (Cond.methodLink "ScanRowsLaw" (134 : Nat) ({ cls := "ScanRows", name := "state", desc := "()I" } : Jvm.MethodName)) ∈ ALLG := al_t (i := 172) (by decide +kernel) (by decide +kernel)
theorem tw_173 : (Cond.instanceMethod ({ cls := "ScanRows", name := "state", desc := "()I" } : Jvm.MethodName)) ∈ ALLG := al_t (i := 173) (by decide +kernel) (by decide +kernel)
theorem tw_174 : (Cond.selects "ScanRows" ({ cls := "ScanRows", name := "state", desc := "()I" } : Jvm.MethodName) ({ cls := "ScanRows", name := "state", desc := "()I" } : Jvm.MethodName)) ∈ ALLG := al_t (i := 174) (by decide +kernel) (by decide +kernel)
theorem tw_175 : (Cond.code ({ cls := "ScanRows", name := "state", desc := "()I" } : Jvm.MethodName) prog_1_method_16_code (1 : Nat) (Option.some FieldType.int)) ∈ ALLG := al_t (i := 175) (by decide +kernel) (by decide +kernel)
theorem tw_457 : (Cond.methodLink "ScanRowsLaw" (131 : Nat) ({ cls := "ScanRowsLaw", name := "tick", desc := "(LScanRows;II[J)I" } : Jvm.MethodName)) ∈ ALLG := al_t (i := 457) (by decide +kernel) (by decide +kernel)
theorem tw_458 : (Cond.static ({ cls := "ScanRowsLaw", name := "tick", desc := "(LScanRows;II[J)I" } : Jvm.MethodName)) ∈ ALLG := al_t (i := 458) (by decide +kernel) (by decide +kernel)
theorem tw_459 : (Cond.codeWith ({ cls := "ScanRowsLaw", name := "tick", desc := "(LScanRows;II[J)I" } : Jvm.MethodName) method_14_code (5 : Nat) (Option.some FieldType.int) [((0 : Nat), (10 : Nat), (13 : Nat), (15 : Nat))]) ∈ ALLG := al_t (i := 459) (by decide +kernel) (by decide +kernel)
theorem tw_519 : (Cond.methodLink "ScanRowsLaw" (138 : Nat) ({ cls := "ScanRowsLaw", name := "go", desc := "(LScanRows;I[J)I" } : Jvm.MethodName)) ∈ ALLG := al_t (i := 519) (by decide +kernel) (by decide +kernel)
theorem tw_520 : (Cond.static ({ cls := "ScanRowsLaw", name := "go", desc := "(LScanRows;I[J)I" } : Jvm.MethodName)) ∈ ALLG := al_t (i := 520) (by decide +kernel) (by decide +kernel)
theorem tw_521 : (Cond.codeWith ({ cls := "ScanRowsLaw", name := "go", desc := "(LScanRows;I[J)I" } : Jvm.MethodName) method_15_code (4 : Nat) (Option.some FieldType.int) [((0 : Nat), (9 : Nat), (12 : Nat), (15 : Nat))]) ∈ ALLG := al_t (i := 521) (by decide +kernel) (by decide +kernel)
theorem tw_543 : (Cond.methodLink "ScanRowsLaw" (141 : Nat) ({ cls := "ScanRowsLaw", name := "boundary", desc := "(LScanRows;I[J)I" } : Jvm.MethodName)) ∈ ALLG := al_t (i := 543) (by decide +kernel) (by decide +kernel)
theorem tw_544 : (Cond.static ({ cls := "ScanRowsLaw", name := "boundary", desc := "(LScanRows;I[J)I" } : Jvm.MethodName)) ∈ ALLG := al_t (i := 544) (by decide +kernel) (by decide +kernel)
theorem tw_545 : (Cond.codeWith ({ cls := "ScanRowsLaw", name := "boundary", desc := "(LScanRows;I[J)I" } : Jvm.MethodName) method_16_code (4 : Nat) (Option.some FieldType.int) [((0 : Nat), (9 : Nat), (12 : Nat), (25 : Nat))]) ∈ ALLG := al_t (i := 545) (by decide +kernel) (by decide +kernel)
theorem tw_554 : (Cond.methodLink "ScanRowsLaw" (144 : Nat) ({ cls := "ScanRowsLaw", name := "count", desc := "(LScanRows;I[J)I" } : Jvm.MethodName)) ∈ ALLG := al_t (i := 554) (by decide +kernel) (by decide +kernel)
theorem tw_555 : (Cond.static ({ cls := "ScanRowsLaw", name := "count", desc := "(LScanRows;I[J)I" } : Jvm.MethodName)) ∈ ALLG := al_t (i := 555) (by decide +kernel) (by decide +kernel)
theorem tw_556 : (Cond.codeWith ({ cls := "ScanRowsLaw", name := "count", desc := "(LScanRows;I[J)I" } : Jvm.MethodName) method_17_code (4 : Nat) (Option.some FieldType.int) [((0 : Nat), (9 : Nat), (12 : Nat), (25 : Nat))]) ∈ ALLG := al_t (i := 556) (by decide +kernel) (by decide +kernel)
theorem tw_739 : (Cond.methodLink "ScanRowsLaw" (143 : Nat) ({ cls := "ScanRowsModel", name := "boundary", desc := "(I)I" } : Jvm.MethodName)) ∈ ALLG := al_t (i := 739) (by decide +kernel) (by decide +kernel)
theorem tw_740 : (Cond.instanceMethod ({ cls := "ScanRowsModel", name := "boundary", desc := "(I)I" } : Jvm.MethodName)) ∈ ALLG := al_t (i := 740) (by decide +kernel) (by decide +kernel)
theorem tw_741 : (Cond.selects "ScanRowsModel" ({ cls := "ScanRowsModel", name := "boundary", desc := "(I)I" } : Jvm.MethodName) ({ cls := "ScanRowsModel", name := "boundary", desc := "(I)I" } : Jvm.MethodName)) ∈ ALLG := al_t (i := 741) (by decide +kernel) (by decide +kernel)
theorem tw_742 : (Cond.code ({ cls := "ScanRowsModel", name := "boundary", desc := "(I)I" } : Jvm.MethodName) prog_6_method_26_code (2 : Nat) (Option.some FieldType.int)) ∈ ALLG := al_t (i := 742) (by decide +kernel) (by decide +kernel)
theorem tw_743 : (Cond.methodLink "ScanRowsLaw" (133 : Nat) ({ cls := "ScanRowsModel", name := "tick", desc := "(II)I" } : Jvm.MethodName)) ∈ ALLG := al_t (i := 743) (by decide +kernel) (by decide +kernel)
theorem tw_744 : (Cond.instanceMethod ({ cls := "ScanRowsModel", name := "tick", desc := "(II)I" } : Jvm.MethodName)) ∈ ALLG := al_t (i := 744) (by decide +kernel) (by decide +kernel)
theorem tw_745 : (Cond.selects "ScanRowsModel" ({ cls := "ScanRowsModel", name := "tick", desc := "(II)I" } : Jvm.MethodName) ({ cls := "ScanRowsModel", name := "tick", desc := "(II)I" } : Jvm.MethodName)) ∈ ALLG := al_t (i := 745) (by decide +kernel) (by decide +kernel)
theorem tw_746 : (Cond.code ({ cls := "ScanRowsModel", name := "tick", desc := "(II)I" } : Jvm.MethodName) prog_6_method_32_code (3 : Nat) (Option.some FieldType.int)) ∈ ALLG := al_t (i := 746) (by decide +kernel) (by decide +kernel)
theorem tw_766 : (Cond.methodLink "ScanRowsLaw" (137 : Nat) ({ cls := "ScanRowsModel", name := "state", desc := "()I" } : Jvm.MethodName)) ∈ ALLG := al_t (i := 766) (by decide +kernel) (by decide +kernel)
theorem tw_767 : (Cond.instanceMethod ({ cls := "ScanRowsModel", name := "state", desc := "()I" } : Jvm.MethodName)) ∈ ALLG := al_t (i := 767) (by decide +kernel) (by decide +kernel)
theorem tw_768 : (Cond.selects "ScanRowsModel" ({ cls := "ScanRowsModel", name := "state", desc := "()I" } : Jvm.MethodName) ({ cls := "ScanRowsModel", name := "state", desc := "()I" } : Jvm.MethodName)) ∈ ALLG := al_t (i := 768) (by decide +kernel) (by decide +kernel)
theorem tw_769 : (Cond.code ({ cls := "ScanRowsModel", name := "state", desc := "()I" } : Jvm.MethodName) prog_6_method_33_code (1 : Nat) (Option.some FieldType.int)) ∈ ALLG := al_t (i := 769) (by decide +kernel) (by decide +kernel)
theorem tw_770 : (Cond.methodLink "ScanRowsLaw" (140 : Nat) ({ cls := "ScanRowsModel", name := "go", desc := "(I)I" } : Jvm.MethodName)) ∈ ALLG := al_t (i := 770) (by decide +kernel) (by decide +kernel)
theorem tw_771 : (Cond.instanceMethod ({ cls := "ScanRowsModel", name := "go", desc := "(I)I" } : Jvm.MethodName)) ∈ ALLG := al_t (i := 771) (by decide +kernel) (by decide +kernel)
theorem tw_772 : (Cond.selects "ScanRowsModel" ({ cls := "ScanRowsModel", name := "go", desc := "(I)I" } : Jvm.MethodName) ({ cls := "ScanRowsModel", name := "go", desc := "(I)I" } : Jvm.MethodName)) ∈ ALLG := al_t (i := 772) (by decide +kernel) (by decide +kernel)
theorem tw_773 : (Cond.code ({ cls := "ScanRowsModel", name := "go", desc := "(I)I" } : Jvm.MethodName) prog_6_method_34_code (5 : Nat) (Option.some FieldType.int)) ∈ ALLG := al_t (i := 773) (by decide +kernel) (by decide +kernel)
theorem tw_774 : (Cond.methodLink "ScanRowsLaw" (146 : Nat) ({ cls := "ScanRowsModel", name := "count", desc := "(I)I" } : Jvm.MethodName)) ∈ ALLG := al_t (i := 774) (by decide +kernel) (by decide +kernel)
theorem tw_775 : (Cond.instanceMethod ({ cls := "ScanRowsModel", name := "count", desc := "(I)I" } : Jvm.MethodName)) ∈ ALLG := al_t (i := 775) (by decide +kernel) (by decide +kernel)
theorem tw_776 : (Cond.selects "ScanRowsModel" ({ cls := "ScanRowsModel", name := "count", desc := "(I)I" } : Jvm.MethodName) ({ cls := "ScanRowsModel", name := "count", desc := "(I)I" } : Jvm.MethodName)) ∈ ALLG := al_t (i := 776) (by decide +kernel) (by decide +kernel)
theorem tw_777 : (Cond.code ({ cls := "ScanRowsModel", name := "count", desc := "(I)I" } : Jvm.MethodName) prog_6_method_35_code (4 : Nat) (Option.some FieldType.int)) ∈ ALLG := al_t (i := 777) (by decide +kernel) (by decide +kernel)
set_option maxHeartbeats 4000000 in
set_option maxRecDepth 100000 in
theorem op_tick {p : Program} {e : Env} {s : State} {m : MethodId} {below : List Frame} {meth : Method} {c : Code} (l : Launch) (hl0 : l.stackTraces = false) {b L : Nat} {xs : Nat → Int32} (hL : L ≤ 3073) (C0 : lw_At p s m meth c b L xs) (A : Nat → Prop) (hA : ∀ q : Nat, s.heap.size ≤ q → A q) (hbA : ¬ A b) (dC : Nat → ClassId) (dI : Nat → Nat → Nat) (qx qm : Nat → Nat) (cI cZ cJ : ClassId) (ao tN : Nat) (hK : va_K (dC, dI) vwCl [(cI, .int), (cZ, .boolean), (cJ, .long)] s) (hE : eX tN A s s.heap) (i : Nat) (hi : i + 5 < L) (ce sl : Nat) (hce : ce + 1 ≤ 1072) (hsl : sl + 6 ≤ 9025) (r : RS) (k : CS) (a : AS) (y : MS) (o : OS) (hR : Rel r k a y) (H : Heap) (locs : List Loc) (hP : va_P (dC, dI) vwCl (wZ qx qm cI cZ cJ ao r k a y o) H) (hD : va_D A (wZ qx qm cI cZ cJ ao r k a y o)) (hS : va_S A s.heap H locs) (ls : Array Slot) (hl : lv_has ls 7 [(4, .int (nI i)), (3, .ref ao), (2, .ref (qm 0)), (1, .ref (qx 17)), (0, .ref b)]) (hend : ∀ (r : RS) (k : CS) (a : AS) (y : MS) (o : OS), Rel r k a y → ∀ (H : Heap) (locs : List Loc), va_P (dC, dI) vwCl (wZ qx qm cI cZ cJ ao r k a y o) H → va_D A (wZ qx qm cI cZ cJ ao r k a y o) → va_S A s.heap H locs → ∀ ls : Array Slot, lv_has ls 7 [(4, .int (nI i)), (3, .ref ao), (2, .ref (qm 0)), (1, .ref (qx 17)), (0, .ref b)] → W p l e room_1 s m #[Value.ref b] below meth c H locs (ce + 1) (sl + 6) (lw_Z below #[Value.ref b] s) (F0 m 1190 ls [])) : W p l e room_1 s m #[Value.ref b] below meth c H locs (ce) (sl) (lw_Z below #[Value.ref b] s) (F0 m 941 ls []) := by
  obtain ⟨hx, hb, hr, hml, hown, hts0, hX, hbl, hlocks, hgv⟩ := id C0
  have hown : s.vm.findClass "ScanRowsLaw" = some m.cls := hown
  have hts : ∀ w ∈ ALLG, w.before #[Value.ref b] s = true := fun w h => hts0 w (List.mem_filter.mp h).1
  have b_n : r.n ≤ 32 := hR.1.1.1
  have b_c : r.c ≤ 8 := hR.1.1.2.1
  have b_p : r.p ≤ r.n := hR.1.1.2.2.1
  have k_n : k.n ≤ 20 := hR.1.2.1.1
  have hB : RB r := hR.1.1
  have hM : MB y := hR.2.1
  have hmo : mono y := Rel_mono hR
  have hC : RC r := PI_RC hR.2.2.1
  have e_n : y.n = r.n := hR.2.2.2.2.1.1
  have e_c : y.c = r.c := hR.2.2.2.2.1.2.1
  have e_p : y.p = r.p := hR.2.2.2.2.1.2.2.1
  have e_vb : y.vb = r.vb := hR.2.2.2.2.1.2.2.2.1
  have e_fl : y.fl = r.fl := hR.2.2.2.2.1.2.2.2.2.2.2.2.1
  have e_st : y.st = r.st := hR.2.2.2.2.1.2.2.2.2.2.2.2.2.2
  have e_k : toK y = k := hR.2.2.2.2.2.1
  have e_cn : y.cn = k.n := congrArg CS.n e_k
  have e_co : y.co = a.co := hR.2.2.2.2.2.2.2.1
  have a_co : a.co < 16 := hR.1.2.2.2.1
  have e_sa : y.sa = a.st := hR.2.2.2.2.2.2.1
  rcases ti_cs (xs (i + 1)) (xs (i + 2)) with h1 | ⟨m0, b0, h1, h2, e1, e2⟩
  · refine lv_aload_n hx hb dL_law_941 rfl (lv_at hl 3 rfl) ?_
    refine lv_aload_n hx hb dL_law_942 rfl (lv_at hl 4 rfl) ?_
    refine lv_iload hx hb dL_law_943 (lv_at hl 0 rfl) ?_
    refine lv_iconst (v := nI 1) hx hb dL_law_945 (by decide) ?_
    refine xn_add hx hb dL_law_946 ?_
    refine va_sld hx hb hX hbl hbA hS (vp_in_nI (show i + 1 < L by omega) (by omega)) dL_law_947 ?_
    refine xt_i (show xs (nI (i + 1)).toNatClampNeg = (xs (i + 1)) from (congrArg xs (nI_clamp (by omega))).trans (rfl)) ?_
    refine lv_aload_n hx hb dL_law_948 rfl (lv_at hl 4 rfl) ?_
    refine lv_iload hx hb dL_law_949 (lv_at hl 0 rfl) ?_
    refine lv_iconst (v := nI 2) hx hb dL_law_951 (by decide) ?_
    refine xn_add hx hb dL_law_952 ?_
    refine va_sld hx hb hX hbl hbA hS (vp_in_nI (show i + 2 < L by omega) (by omega)) dL_law_953 ?_
    refine xt_i (show xs (nI (i + 2)).toNatClampNeg = (xs (i + 2)) from (congrArg xs (nI_clamp (by omega))).trans (rfl)) ?_
    refine lv_aload_n hx hb dL_law_954 rfl (lv_at hl 1 rfl) ?_
    refine xw_Si (As := [.ref (qx 17), .int (xs (i + 1)), .int (xs (i + 2)), .ref ao]) (wr := wM qm cI cZ y) ⟨hx, hb, hml, hown, hts⟩ (hx_tick l hl0 dC dI qx cI cZ cJ ao H.size r k a o tN _ _ h1) (vx_cwSW 4 hts (gSW tw_457 tw_458 tw_0 tw_459) rfl rfl rfl (by decide +kernel) ⟨Nat.le_of_ble_eq_true rfl, Nat.le_of_ble_eq_true rfl⟩) rfl hl.1 rfl (Nat.le_of_ble_eq_true rfl) dL_law_955 ⟨by show ce + 1 ≤ 1072; omega, by show sl + 6 ≤ 9025; omega⟩ hP hD hK hS hA [0, 1, 2, 3, 4, 5, 6, 7, 8, 9, 10, 11, 12, 13, 14, 15, 16, 17, 32] [18, 19, 20, 21, 22, 23, 24, 25, 26, 27, 28, 29, 30, 31] rfl rfl (by decide) (by decide) (by decide) [0, 1, 2] rfl (eX_W _ _) (eX_kn hE hS (va_free (wc := wH qx cI cZ cJ ao r k a o) hD hS hA [0, 1, 2, 3, 4, 5, 6, 7, 8, 9, 10, 11, 12, 13, 14, 15, 16, 17, 32] rfl)) (fun r_1 u_2 H locs w_3 hP hD hS => ?_)
    obtain ⟨rfl, rfl⟩ := w_3
    have hP : va_P (dC, dI) vwCl (wZ qx qm cI cZ cJ ao r k a y o) H := hP.sub [14, 15, 16, 17, 18, 19, 20, 21, 22, 23, 24, 25, 26, 27, 28, 29, 30, 31, 0, 1, 2, 3, 4, 5, 6, 7, 8, 9, 10, 11, 12, 13, 32] rfl
    have hD : va_D A (wZ qx qm cI cZ cJ ao r k a y o) := hD.sub [14, 15, 16, 17, 18, 19, 20, 21, 22, 23, 24, 25, 26, 27, 28, 29, 30, 31, 0, 1, 2, 3, 4, 5, 6, 7, 8, 9, 10, 11, 12, 13, 32] (by decide) rfl
    refine lv_istore (lv' := [(5, .int (nI 1)), (4, .int (nI i)), (3, .ref ao), (2, .ref (qm 0)), (1, .ref (qx 17)), (0, .ref b)]) hx hb dL_law_958 hl (by decide) rfl (fun ls hl => ?_)
    refine lv_aload_n hx hb dL_law_960 rfl (lv_at hl 3 rfl) ?_
    refine lv_aload_n hx hb dL_law_961 rfl (lv_at hl 5 rfl) ?_
    refine lv_iload hx hb dL_law_962 (lv_at hl 1 rfl) ?_
    refine lv_iconst (v := nI 1) hx hb dL_law_964 (by decide) ?_
    refine xn_add hx hb dL_law_965 ?_
    refine va_sld hx hb hX hbl hbA hS (vp_in_nI (show i + 1 < L by omega) (by omega)) dL_law_966 ?_
    refine xt_i (show xs (nI (i + 1)).toNatClampNeg = (xs (i + 1)) from (congrArg xs (nI_clamp (by omega))).trans (rfl)) ?_
    refine lv_aload_n hx hb dL_law_967 rfl (lv_at hl 5 rfl) ?_
    refine lv_iload hx hb dL_law_968 (lv_at hl 1 rfl) ?_
    refine lv_iconst (v := nI 2) hx hb dL_law_970 (by decide) ?_
    refine xn_add hx hb dL_law_971 ?_
    refine va_sld hx hb hX hbl hbA hS (vp_in_nI (show i + 2 < L by omega) (by omega)) dL_law_972 ?_
    refine xt_i (show xs (nI (i + 2)).toNatClampNeg = (xs (i + 2)) from (congrArg xs (nI_clamp (by omega))).trans (rfl)) ?_
    refine xc_Vi (As := [.int (xs (i + 1)), .int (xs (i + 2))]) (wr := wX qx cI cZ r k a ++ wO cJ ao o) ⟨hx, hb, hml, hown, hts⟩ (c_M_tick1 l dC dI qm cI cZ H.size y _ _ h1) (cwV 2 hts (gV tw_743 tw_744 tw_745 tw_5 tw_746) rfl rfl rfl (by decide +kernel) ⟨Nat.le_of_ble_eq_true rfl, Nat.le_of_ble_eq_true rfl⟩) rfl hl.1 rfl (Nat.le_of_ble_eq_true rfl) dL_law_973 ⟨by show _ ≤ 1072; omega, by show _ ≤ 9025; omega⟩ hP hD hK hS hA [18, 19, 20, 21, 22, 23, 24, 25, 26, 27, 28, 29, 30, 31] [0, 1, 2, 3, 4, 5, 6, 7, 8, 9, 10, 11, 12, 13, 14, 15, 16, 17, 32] rfl rfl (by decide) (by decide) (by decide) [0, 1] rfl (q0 := 0) rfl rfl rfl eT_M (trivial) (fun r_4 u_5 H locs w_6 hP hD hS => ?_)
    obtain ⟨rfl, rfl⟩ := w_6
    have hP : va_P (dC, dI) vwCl (wZ qx qm cI cZ cJ ao r k a (MS.s_th y 1) o) H := hP.sub [0, 1, 2, 3, 4, 5, 6, 7, 8, 9, 10, 11, 12, 13, 14, 15, 16, 17, 19, 20, 21, 22, 23, 24, 25, 26, 27, 28, 29, 30, 31, 32, 18] rfl
    have hD : va_D A (wZ qx qm cI cZ cJ ao r k a (MS.s_th y 1) o) := hD.sub [0, 1, 2, 3, 4, 5, 6, 7, 8, 9, 10, 11, 12, 13, 14, 15, 16, 17, 19, 20, 21, 22, 23, 24, 25, 26, 27, 28, 29, 30, 31, 32, 18] (by decide) rfl
    refine lv_istore (lv' := [(6, .int (nI 0)), (5, .int (nI 1)), (4, .int (nI i)), (3, .ref ao), (2, .ref (qm 0)), (1, .ref (qx 17)), (0, .ref b)]) hx hb dL_law_976 hl (by decide) rfl (fun ls hl => ?_)
    refine lv_aload_n hx hb dL_law_978 rfl (lv_at hl 4 rfl) ?_
    refine xc_Vi (As := []) (wr := wX qx cI cZ r k a ++ wO cJ ao o) ⟨hx, hb, hml, hown, hts⟩ (c_ScanRowsModel_thrown l dC dI qm cI cZ H.size (MS.s_th y 1)) (cwV 0 hts (gV tw_642 tw_643 tw_644 tw_5 tw_645) rfl rfl rfl (by decide +kernel) ⟨Nat.le_of_ble_eq_true rfl, Nat.le_of_ble_eq_true rfl⟩) rfl hl.1 rfl (Nat.le_of_ble_eq_true rfl) dL_law_979 ⟨by show _ ≤ 1072; omega, by show _ ≤ 9025; omega⟩ hP hD hK hS hA [18, 19, 20, 21, 22, 23, 24, 25, 26, 27, 28, 29, 30, 31] [0, 1, 2, 3, 4, 5, 6, 7, 8, 9, 10, 11, 12, 13, 14, 15, 16, 17, 32] rfl rfl (by decide) (by decide) (by decide) [0, 1] rfl (q0 := 0) rfl rfl rfl eT_M (trivial) (fun r_7 u_8 H locs w_9 hP hD hS => ?_)
    obtain rfl := w_9
    have hP : va_P (dC, dI) vwCl (wZ qx qm cI cZ cJ ao r k a (MS.s_th y 1) o) H := hP.sub [0, 1, 2, 3, 4, 5, 6, 7, 8, 9, 10, 11, 12, 13, 14, 15, 16, 17, 19, 20, 21, 22, 23, 24, 25, 26, 27, 28, 29, 30, 31, 32, 18] rfl
    have hD : va_D A (wZ qx qm cI cZ cJ ao r k a (MS.s_th y 1) o) := hD.sub [0, 1, 2, 3, 4, 5, 6, 7, 8, 9, 10, 11, 12, 13, 14, 15, 16, 17, 19, 20, 21, 22, 23, 24, 25, 26, 27, 28, 29, 30, 31, 32, 18] (by decide) rfl
    refine xt_i (show nI (MS.th (MS.s_th y 1)) = nI 1 from congrArg nI (rfl)) ?_
    refine lv_iload hx hb dL_law_982 (lv_at hl 1 rfl) ?_
    refine xn_ceq (tgt := 989) hx hb (by omega) (by omega) dL_law_984 (by decide) (fun c_10 => ?_) (fun c_10 => ?_)
    · refine lv_iload hx hb dL_law_989 (lv_at hl 1 rfl) ?_
      refine xn_zne (tgt := 1006) hx hb (by omega) dL_law_991 (by decide) (fun c_11 => ?_) (fun c_11 => ?_)
      · refine lv_goto (tgt := 1190) hx hb dL_law_1006 (by decide) ?_
        refine W.widen (k := ce + 1) (n := sl + 6) (by omega) (by omega) ?_
        exact hend r k a (MS.s_th y 1) o (Rel_th hR 1) H locs hP hD hS ls (lv_sub hl [2, 3, 4, 5, 6] rfl)
        
      · exact absurd (show False by omega) id
    · exact absurd (show False by omega) id
  · refine lv_aload_n hx hb dL_law_941 rfl (lv_at hl 3 rfl) ?_
    refine lv_aload_n hx hb dL_law_942 rfl (lv_at hl 4 rfl) ?_
    refine lv_iload hx hb dL_law_943 (lv_at hl 0 rfl) ?_
    refine lv_iconst (v := nI 1) hx hb dL_law_945 (by decide) ?_
    refine xn_add hx hb dL_law_946 ?_
    refine va_sld hx hb hX hbl hbA hS (vp_in_nI (show i + 1 < L by omega) (by omega)) dL_law_947 ?_
    refine xt_i (show xs (nI (i + 1)).toNatClampNeg = nI m0 from (congrArg xs (nI_clamp (by omega))).trans (e1)) ?_
    refine lv_aload_n hx hb dL_law_948 rfl (lv_at hl 4 rfl) ?_
    refine lv_iload hx hb dL_law_949 (lv_at hl 0 rfl) ?_
    refine lv_iconst (v := nI 2) hx hb dL_law_951 (by decide) ?_
    refine xn_add hx hb dL_law_952 ?_
    refine va_sld hx hb hX hbl hbA hS (vp_in_nI (show i + 2 < L by omega) (by omega)) dL_law_953 ?_
    refine xt_i (show xs (nI (i + 2)).toNatClampNeg = nI b0 from (congrArg xs (nI_clamp (by omega))).trans (e2)) ?_
    refine lv_aload_n hx hb dL_law_954 rfl (lv_at hl 1 rfl) ?_
    refine xw_Si (As := [.ref (qx 17), .int (nI m0), .int (nI b0), .ref ao]) (wr := wM qm cI cZ y) ⟨hx, hb, hml, hown, hts⟩ (h_tick l dC dI qx cI cZ cJ ao H.size r k a o tN m0 b0 hR.1 h1 h2) (vx_cwSW 4 hts (gSW tw_457 tw_458 tw_0 tw_459) rfl rfl rfl (by decide +kernel) ⟨Nat.le_of_ble_eq_true rfl, Nat.le_of_ble_eq_true rfl⟩) rfl hl.1 rfl (Nat.le_of_ble_eq_true rfl) dL_law_955 ⟨by show ce + 0 ≤ 1072; omega, by show sl + 0 ≤ 9025; omega⟩ hP hD hK hS hA [0, 1, 2, 3, 4, 5, 6, 7, 8, 9, 10, 11, 12, 13, 14, 15, 16, 17, 32] [18, 19, 20, 21, 22, 23, 24, 25, 26, 27, 28, 29, 30, 31] rfl rfl (by decide) (by decide) (by decide) [0, 1, 2] rfl (eW_of (eN_M _ _)) (eN_kn hE.1 hS (va_free (wc := wH qx cI cZ cJ ao r k a o) hD hS hA [0, 1, 2, 3, 4, 5, 6, 7, 8, 9, 10, 11, 12, 13, 14, 15, 16, 17, 32] rfl)) (fun r_1 u_2 H locs w_3 hP hD hS => ?_)
    obtain ⟨rfl, hu1, hu2⟩ := w_3
    have hP : va_P (dC, dI) vwCl (wZ qx qm cI cZ cJ ao u_2.1.1 u_2.1.2.1 u_2.1.2.2 y u_2.2) H := hP.sub [14, 15, 16, 17, 18, 19, 20, 21, 22, 23, 24, 25, 26, 27, 28, 29, 30, 31, 0, 1, 2, 3, 4, 5, 6, 7, 8, 9, 10, 11, 12, 13, 32] rfl
    have hD : va_D A (wZ qx qm cI cZ cJ ao u_2.1.1 u_2.1.2.1 u_2.1.2.2 y u_2.2) := hD.sub [14, 15, 16, 17, 18, 19, 20, 21, 22, 23, 24, 25, 26, 27, 28, 29, 30, 31, 0, 1, 2, 3, 4, 5, 6, 7, 8, 9, 10, 11, 12, 13, 32] (by decide) rfl
    refine lv_istore (lv' := [(5, .int (nI 0)), (4, .int (nI i)), (3, .ref ao), (2, .ref (qm 0)), (1, .ref (qx 17)), (0, .ref b)]) hx hb dL_law_958 hl (by decide) rfl (fun ls hl => ?_)
    refine lv_aload_n hx hb dL_law_960 rfl (lv_at hl 3 rfl) ?_
    refine lv_aload_n hx hb dL_law_961 rfl (lv_at hl 5 rfl) ?_
    refine lv_iload hx hb dL_law_962 (lv_at hl 1 rfl) ?_
    refine lv_iconst (v := nI 1) hx hb dL_law_964 (by decide) ?_
    refine xn_add hx hb dL_law_965 ?_
    refine va_sld hx hb hX hbl hbA hS (vp_in_nI (show i + 1 < L by omega) (by omega)) dL_law_966 ?_
    refine xt_i (show xs (nI (i + 1)).toNatClampNeg = nI m0 from (congrArg xs (nI_clamp (by omega))).trans (e1)) ?_
    refine lv_aload_n hx hb dL_law_967 rfl (lv_at hl 5 rfl) ?_
    refine lv_iload hx hb dL_law_968 (lv_at hl 1 rfl) ?_
    refine lv_iconst (v := nI 2) hx hb dL_law_970 (by decide) ?_
    refine xn_add hx hb dL_law_971 ?_
    refine va_sld hx hb hX hbl hbA hS (vp_in_nI (show i + 2 < L by omega) (by omega)) dL_law_972 ?_
    refine xt_i (show xs (nI (i + 2)).toNatClampNeg = nI b0 from (congrArg xs (nI_clamp (by omega))).trans (e2)) ?_
    refine xc_Vi (As := [.int (nI m0), .int (nI b0)]) (wr := wX qx cI cZ u_2.1.1 u_2.1.2.1 u_2.1.2.2 ++ wO cJ ao u_2.2) ⟨hx, hb, hml, hown, hts⟩ (c_ScanRowsModel_tick l dC dI qm cI cZ H.size y m0 b0 hM h1 h2) (cwV 2 hts (gV tw_743 tw_744 tw_745 tw_5 tw_746) rfl rfl rfl (by decide +kernel) ⟨Nat.le_of_ble_eq_true rfl, Nat.le_of_ble_eq_true rfl⟩) rfl hl.1 rfl (Nat.le_of_ble_eq_true rfl) dL_law_973 ⟨by show _ ≤ 1072; omega, by show _ ≤ 9025; omega⟩ hP hD hK hS hA [18, 19, 20, 21, 22, 23, 24, 25, 26, 27, 28, 29, 30, 31] [0, 1, 2, 3, 4, 5, 6, 7, 8, 9, 10, 11, 12, 13, 14, 15, 16, 17, 32] rfl rfl (by decide) (by decide) (by decide) [0, 1] rfl (q0 := 0) rfl rfl rfl eT_M (trivial) (fun r_4 u_5 H locs w_6 hP hD hS => ?_)
    obtain ⟨rfl, rfl⟩ := w_6
    have hP : va_P (dC, dI) vwCl (wZ qx qm cI cZ cJ ao u_2.1.1 u_2.1.2.1 u_2.1.2.2 ((mTick (MS.s_th y 0) m0 b0).2) u_2.2) H := hP.sub [0, 1, 2, 3, 4, 5, 6, 7, 8, 9, 10, 11, 12, 13, 14, 15, 16, 17, 19, 20, 21, 22, 23, 24, 25, 26, 27, 28, 29, 30, 31, 32, 18] rfl
    have hD : va_D A (wZ qx qm cI cZ cJ ao u_2.1.1 u_2.1.2.1 u_2.1.2.2 ((mTick (MS.s_th y 0) m0 b0).2) u_2.2) := hD.sub [0, 1, 2, 3, 4, 5, 6, 7, 8, 9, 10, 11, 12, 13, 14, 15, 16, 17, 19, 20, 21, 22, 23, 24, 25, 26, 27, 28, 29, 30, 31, 32, 18] (by decide) rfl
    refine lv_istore (lv' := [(6, .int (zI ((mTick (y.s_th 0) m0 b0).1))), (5, .int (nI 0)), (4, .int (nI i)), (3, .ref ao), (2, .ref (qm 0)), (1, .ref (qx 17)), (0, .ref b)]) hx hb dL_law_976 hl (by decide) rfl (fun ls hl => ?_)
    refine lv_aload_n hx hb dL_law_978 rfl (lv_at hl 4 rfl) ?_
    refine xc_Vi (As := []) (wr := wX qx cI cZ u_2.1.1 u_2.1.2.1 u_2.1.2.2 ++ wO cJ ao u_2.2) ⟨hx, hb, hml, hown, hts⟩ (c_ScanRowsModel_thrown l dC dI qm cI cZ H.size ((mTick (MS.s_th y 0) m0 b0).2)) (cwV 0 hts (gV tw_642 tw_643 tw_644 tw_5 tw_645) rfl rfl rfl (by decide +kernel) ⟨Nat.le_of_ble_eq_true rfl, Nat.le_of_ble_eq_true rfl⟩) rfl hl.1 rfl (Nat.le_of_ble_eq_true rfl) dL_law_979 ⟨by show _ ≤ 1072; omega, by show _ ≤ 9025; omega⟩ hP hD hK hS hA [18, 19, 20, 21, 22, 23, 24, 25, 26, 27, 28, 29, 30, 31] [0, 1, 2, 3, 4, 5, 6, 7, 8, 9, 10, 11, 12, 13, 14, 15, 16, 17, 32] rfl rfl (by decide) (by decide) (by decide) [0, 1] rfl (q0 := 0) rfl rfl rfl eT_M (trivial) (fun r_7 u_8 H locs w_9 hP hD hS => ?_)
    obtain rfl := w_9
    have hP : va_P (dC, dI) vwCl (wZ qx qm cI cZ cJ ao u_2.1.1 u_2.1.2.1 u_2.1.2.2 ((mTick (MS.s_th y 0) m0 b0).2) u_2.2) H := hP.sub [0, 1, 2, 3, 4, 5, 6, 7, 8, 9, 10, 11, 12, 13, 14, 15, 16, 17, 19, 20, 21, 22, 23, 24, 25, 26, 27, 28, 29, 30, 31, 32, 18] rfl
    have hD : va_D A (wZ qx qm cI cZ cJ ao u_2.1.1 u_2.1.2.1 u_2.1.2.2 ((mTick (MS.s_th y 0) m0 b0).2) u_2.2) := hD.sub [0, 1, 2, 3, 4, 5, 6, 7, 8, 9, 10, 11, 12, 13, 14, 15, 16, 17, 19, 20, 21, 22, 23, 24, 25, 26, 27, 28, 29, 30, 31, 32, 18] (by decide) rfl
    refine xt_i (show nI (MS.th ((mTick (MS.s_th y 0) m0 b0).2)) = nI 0 from congrArg nI (mTick_th _ _ _)) ?_
    refine lv_iload hx hb dL_law_982 (lv_at hl 1 rfl) ?_
    refine xn_ceq (tgt := 989) hx hb (by omega) (by omega) dL_law_984 (by decide) (fun c_10 => ?_) (fun c_10 => ?_)
    · refine lv_iload hx hb dL_law_989 (lv_at hl 1 rfl) ?_
      refine xn_zne (tgt := 1006) hx hb (by omega) dL_law_991 (by decide) (fun c_11 => ?_) (fun c_11 => ?_)
      · refine lv_goto (tgt := 1190) hx hb dL_law_1006 (by decide) ?_
        refine W.widen (k := ce + 1) (n := sl + 6) (by omega) (by omega) ?_
        exact hend u_2.1.1 u_2.1.2.1 u_2.1.2.2 ((mTick (MS.s_th y 0) m0 b0).2) u_2.2 (by rw [hu1]; exact (step_eq h2 (Rel_th hR 0)).2) H locs hP hD hS ls (lv_sub hl [2, 3, 4, 5, 6] rfl)
        
      · refine lv_aload_n hx hb dL_law_994 rfl (lv_at hl 3 rfl) ?_
        refine lv_iconst (v := nI 0) hx hb dL_law_995 (by decide) ?_
        refine va_lald hx hb hK hP 32 2 rfl rfl (vp_in_nI (show 0 < 1 by decide) (by decide)) dL_law_996 ?_
        refine xt_l (show u_2.2 (nI 0).toNatClampNeg = (zI (stepF r k a m0 b0).1).toInt64 from (congrArg u_2.2 (show (nI 0).toNatClampNeg = 0 by decide)).trans hu2) ?_
        refine lv_iload hx hb dL_law_997 (lv_at hl 0 rfl) ?_
        refine lv_i2l hx hb dL_law_999 rfl ?_
        refine W.lcmp hx hb dL_law_1000 ?_
        refine xt_i (show (lg_cmp ((zI (stepF r k a m0 b0).1).toInt64) ((zI ((mTick (y.s_th 0) m0 b0).1)).toInt64)) = nI 0 from lg_eq (by rw [(step_eq (m := m0) h2 (Rel_th hR 0)).1])) ?_
        refine xn_zeq (tgt := 1006) hx hb (by omega) dL_law_1001 (by decide) (fun c_12 => ?_) (fun c_12 => ?_)
        · refine lv_goto (tgt := 1190) hx hb dL_law_1006 (by decide) ?_
          refine W.widen (k := ce + 1) (n := sl + 6) (by omega) (by omega) ?_
          exact hend u_2.1.1 u_2.1.2.1 u_2.1.2.2 ((mTick (MS.s_th y 0) m0 b0).2) u_2.2 (by rw [hu1]; exact (step_eq h2 (Rel_th hR 0)).2) H locs hP hD hS ls (lv_sub hl [2, 3, 4, 5, 6] rfl)
          
        · exact absurd (show False by omega) id
    · exact absurd (show False by omega) id
set_option maxHeartbeats 4000000 in
set_option maxRecDepth 100000 in
theorem op_state {p : Program} {e : Env} {s : State} {m : MethodId} {below : List Frame} {meth : Method} {c : Code} (l : Launch) (hl0 : l.stackTraces = false) {b L : Nat} {xs : Nat → Int32} (hL : L ≤ 3073) (C0 : lw_At p s m meth c b L xs) (A : Nat → Prop) (hA : ∀ q : Nat, s.heap.size ≤ q → A q) (hbA : ¬ A b) (dC : Nat → ClassId) (dI : Nat → Nat → Nat) (qx qm : Nat → Nat) (cI cZ cJ : ClassId) (ao tN : Nat) (hK : va_K (dC, dI) vwCl [(cI, .int), (cZ, .boolean), (cJ, .long)] s) (hE : eX tN A s s.heap) (i : Nat) (hi : i + 5 < L) (ce sl : Nat) (hce : ce + 1 ≤ 1072) (hsl : sl + 6 ≤ 9025) (r : RS) (k : CS) (a : AS) (y : MS) (o : OS) (hR : Rel r k a y) (H : Heap) (locs : List Loc) (hP : va_P (dC, dI) vwCl (wZ qx qm cI cZ cJ ao r k a y o) H) (hD : va_D A (wZ qx qm cI cZ cJ ao r k a y o)) (hS : va_S A s.heap H locs) (ls : Array Slot) (hl : lv_has ls 7 [(4, .int (nI i)), (3, .ref ao), (2, .ref (qm 0)), (1, .ref (qx 17)), (0, .ref b)]) (hend : ∀ (r : RS) (k : CS) (a : AS) (y : MS) (o : OS), Rel r k a y → ∀ (H : Heap) (locs : List Loc), va_P (dC, dI) vwCl (wZ qx qm cI cZ cJ ao r k a y o) H → va_D A (wZ qx qm cI cZ cJ ao r k a y o) → va_S A s.heap H locs → ∀ ls : Array Slot, lv_has ls 7 [(4, .int (nI i)), (3, .ref ao), (2, .ref (qm 0)), (1, .ref (qx 17)), (0, .ref b)] → W p l e room_1 s m #[Value.ref b] below meth c H locs (ce + 1) (sl + 6) (lw_Z below #[Value.ref b] s) (F0 m 1190 ls [])) : W p l e room_1 s m #[Value.ref b] below meth c H locs (ce) (sl) (lw_Z below #[Value.ref b] s) (F0 m 1009 ls []) := by
  obtain ⟨hx, hb, hr, hml, hown, hts0, hX, hbl, hlocks, hgv⟩ := id C0
  have hown : s.vm.findClass "ScanRowsLaw" = some m.cls := hown
  have hts : ∀ w ∈ ALLG, w.before #[Value.ref b] s = true := fun w h => hts0 w (List.mem_filter.mp h).1
  have b_n : r.n ≤ 32 := hR.1.1.1
  have b_c : r.c ≤ 8 := hR.1.1.2.1
  have b_p : r.p ≤ r.n := hR.1.1.2.2.1
  have k_n : k.n ≤ 20 := hR.1.2.1.1
  have hB : RB r := hR.1.1
  have hM : MB y := hR.2.1
  have hmo : mono y := Rel_mono hR
  have hC : RC r := PI_RC hR.2.2.1
  have e_n : y.n = r.n := hR.2.2.2.2.1.1
  have e_c : y.c = r.c := hR.2.2.2.2.1.2.1
  have e_p : y.p = r.p := hR.2.2.2.2.1.2.2.1
  have e_vb : y.vb = r.vb := hR.2.2.2.2.1.2.2.2.1
  have e_fl : y.fl = r.fl := hR.2.2.2.2.1.2.2.2.2.2.2.2.1
  have e_st : y.st = r.st := hR.2.2.2.2.1.2.2.2.2.2.2.2.2.2
  have e_k : toK y = k := hR.2.2.2.2.2.1
  have e_cn : y.cn = k.n := congrArg CS.n e_k
  have e_co : y.co = a.co := hR.2.2.2.2.2.2.2.1
  have a_co : a.co < 16 := hR.1.2.2.2.1
  have e_sa : y.sa = a.st := hR.2.2.2.2.2.2.1
  have a_s : a.st < 16 := hR.1.2.2.1
  refine lv_aload_n hx hb dL_law_1009 rfl (lv_at hl 3 rfl) ?_
  refine xc_Vi (As := []) (wr := wM qm cI cZ y ++ wO cJ ao o) ⟨hx, hb, hml, hown, hts⟩ (c_ScanRows_state l dC dI qx cI cZ H.size r k a) (cwV 0 hts (gV tw_172 tw_173 tw_174 tw_1 tw_175) rfl rfl rfl (by decide +kernel) ⟨Nat.le_of_ble_eq_true rfl, Nat.le_of_ble_eq_true rfl⟩) rfl hl.1 rfl (Nat.le_of_ble_eq_true rfl) dL_law_1010 ⟨by show _ ≤ 1072; omega, by show _ ≤ 9025; omega⟩ hP hD hK hS hA [0, 1, 2, 3, 4, 5, 6, 7, 8, 9, 10, 11, 12, 13, 14, 15, 16, 17] [18, 19, 20, 21, 22, 23, 24, 25, 26, 27, 28, 29, 30, 31, 32] rfl rfl (by decide) (by decide) (by decide) [0, 1] rfl (q0 := 17) rfl rfl rfl eT_M (trivial) (fun r_1 u_2 H locs w_3 hP hD hS => ?_)
  obtain rfl := w_3
  have hP : va_P (dC, dI) vwCl (wZ qx qm cI cZ cJ ao r k a y o) H := hP.sub [15, 16, 17, 18, 19, 20, 21, 22, 23, 24, 25, 26, 27, 28, 29, 30, 31, 32, 0, 1, 2, 3, 4, 5, 6, 7, 8, 9, 10, 11, 12, 13, 14] rfl
  have hD : va_D A (wZ qx qm cI cZ cJ ao r k a y o) := hD.sub [15, 16, 17, 18, 19, 20, 21, 22, 23, 24, 25, 26, 27, 28, 29, 30, 31, 32, 0, 1, 2, 3, 4, 5, 6, 7, 8, 9, 10, 11, 12, 13, 14] (by decide) rfl
  refine lv_aload_n hx hb dL_law_1013 rfl (lv_at hl 2 rfl) ?_
  refine xc_Vi (As := []) (wr := wX qx cI cZ r k a ++ wO cJ ao o) ⟨hx, hb, hml, hown, hts⟩ (c_ScanRowsModel_state l dC dI qm cI cZ H.size y) (cwV 0 hts (gV tw_766 tw_767 tw_768 tw_5 tw_769) rfl rfl rfl (by decide +kernel) ⟨Nat.le_of_ble_eq_true rfl, Nat.le_of_ble_eq_true rfl⟩) rfl hl.1 rfl (Nat.le_of_ble_eq_true rfl) dL_law_1014 ⟨by show _ ≤ 1072; omega, by show _ ≤ 9025; omega⟩ hP hD hK hS hA [18, 19, 20, 21, 22, 23, 24, 25, 26, 27, 28, 29, 30, 31] [0, 1, 2, 3, 4, 5, 6, 7, 8, 9, 10, 11, 12, 13, 14, 15, 16, 17, 32] rfl rfl (by decide) (by decide) (by decide) [0, 1] rfl (q0 := 0) rfl rfl rfl eT_M (trivial) (fun r_4 u_5 H locs w_6 hP hD hS => ?_)
  obtain ⟨rfl, rfl⟩ := w_6
  have hP : va_P (dC, dI) vwCl (wZ qx qm cI cZ cJ ao r k a (MS.s_th y 0) o) H := hP.sub [0, 1, 2, 3, 4, 5, 6, 7, 8, 9, 10, 11, 12, 13, 14, 15, 16, 17, 19, 20, 21, 22, 23, 24, 25, 26, 27, 28, 29, 30, 31, 32, 18] rfl
  have hD : va_D A (wZ qx qm cI cZ cJ ao r k a (MS.s_th y 0) o) := hD.sub [0, 1, 2, 3, 4, 5, 6, 7, 8, 9, 10, 11, 12, 13, 14, 15, 16, 17, 19, 20, 21, 22, 23, 24, 25, 26, 27, 28, 29, 30, 31, 32, 18] (by decide) rfl
  refine xn_ceq (tgt := 1190) hx hb (by omega) (by omega) dL_law_1017 (by decide) (fun c_7 => ?_) (fun c_7 => ?_)
  · refine W.widen (k := ce + 1) (n := sl + 6) (by omega) (by omega) ?_
    exact hend r k a (MS.s_th y 0) o (Rel_th hR 0) H locs hP hD hS ls (lv_sub hl [0, 1, 2, 3, 4] rfl)
    
  · exact absurd (show False by omega) id
set_option maxHeartbeats 4000000 in
set_option maxRecDepth 100000 in
theorem op_go {p : Program} {e : Env} {s : State} {m : MethodId} {below : List Frame} {meth : Method} {c : Code} (l : Launch) (hl0 : l.stackTraces = false) {b L : Nat} {xs : Nat → Int32} (hL : L ≤ 3073) (C0 : lw_At p s m meth c b L xs) (A : Nat → Prop) (hA : ∀ q : Nat, s.heap.size ≤ q → A q) (hbA : ¬ A b) (dC : Nat → ClassId) (dI : Nat → Nat → Nat) (qx qm : Nat → Nat) (cI cZ cJ : ClassId) (ao tN : Nat) (hK : va_K (dC, dI) vwCl [(cI, .int), (cZ, .boolean), (cJ, .long)] s) (hE : eX tN A s s.heap) (i : Nat) (hi : i + 5 < L) (ce sl : Nat) (hce : ce + 1 ≤ 1072) (hsl : sl + 6 ≤ 9025) (r : RS) (k : CS) (a : AS) (y : MS) (o : OS) (hR : Rel r k a y) (H : Heap) (locs : List Loc) (hP : va_P (dC, dI) vwCl (wZ qx qm cI cZ cJ ao r k a y o) H) (hD : va_D A (wZ qx qm cI cZ cJ ao r k a y o)) (hS : va_S A s.heap H locs) (ls : Array Slot) (hl : lv_has ls 7 [(4, .int (nI i)), (3, .ref ao), (2, .ref (qm 0)), (1, .ref (qx 17)), (0, .ref b)]) (hend : ∀ (r : RS) (k : CS) (a : AS) (y : MS) (o : OS), Rel r k a y → ∀ (H : Heap) (locs : List Loc), va_P (dC, dI) vwCl (wZ qx qm cI cZ cJ ao r k a y o) H → va_D A (wZ qx qm cI cZ cJ ao r k a y o) → va_S A s.heap H locs → ∀ ls : Array Slot, lv_has ls 7 [(4, .int (nI i)), (3, .ref ao), (2, .ref (qm 0)), (1, .ref (qx 17)), (0, .ref b)] → W p l e room_1 s m #[Value.ref b] below meth c H locs (ce + 1) (sl + 6) (lw_Z below #[Value.ref b] s) (F0 m 1190 ls [])) : W p l e room_1 s m #[Value.ref b] below meth c H locs (ce) (sl) (lw_Z below #[Value.ref b] s) (F0 m 1022 ls []) := by
  obtain ⟨hx, hb, hr, hml, hown, hts0, hX, hbl, hlocks, hgv⟩ := id C0
  have hown : s.vm.findClass "ScanRowsLaw" = some m.cls := hown
  have hts : ∀ w ∈ ALLG, w.before #[Value.ref b] s = true := fun w h => hts0 w (List.mem_filter.mp h).1
  have b_n : r.n ≤ 32 := hR.1.1.1
  have b_c : r.c ≤ 8 := hR.1.1.2.1
  have b_p : r.p ≤ r.n := hR.1.1.2.2.1
  have k_n : k.n ≤ 20 := hR.1.2.1.1
  have hB : RB r := hR.1.1
  have hM : MB y := hR.2.1
  have hmo : mono y := Rel_mono hR
  have hC : RC r := PI_RC hR.2.2.1
  have e_n : y.n = r.n := hR.2.2.2.2.1.1
  have e_c : y.c = r.c := hR.2.2.2.2.1.2.1
  have e_p : y.p = r.p := hR.2.2.2.2.1.2.2.1
  have e_vb : y.vb = r.vb := hR.2.2.2.2.1.2.2.2.1
  have e_fl : y.fl = r.fl := hR.2.2.2.2.1.2.2.2.2.2.2.2.1
  have e_st : y.st = r.st := hR.2.2.2.2.1.2.2.2.2.2.2.2.2.2
  have e_k : toK y = k := hR.2.2.2.2.2.1
  have e_cn : y.cn = k.n := congrArg CS.n e_k
  have e_co : y.co = a.co := hR.2.2.2.2.2.2.2.1
  have a_co : a.co < 16 := hR.1.2.2.2.1
  have e_sa : y.sa = a.st := hR.2.2.2.2.2.2.1
  rcases rg (lo := 0) (hi := 15) (by decide) (by decide) (xs (i + 1)) with h1 | ⟨gl, -, h2, e1⟩
  · refine lv_aload_n hx hb dL_law_1022 rfl (lv_at hl 3 rfl) ?_
    refine lv_aload_n hx hb dL_law_1023 rfl (lv_at hl 4 rfl) ?_
    refine lv_iload hx hb dL_law_1024 (lv_at hl 0 rfl) ?_
    refine lv_iconst (v := nI 1) hx hb dL_law_1026 (by decide) ?_
    refine xn_add hx hb dL_law_1027 ?_
    refine va_sld hx hb hX hbl hbA hS (vp_in_nI (show i + 1 < L by omega) (by omega)) dL_law_1028 ?_
    refine xt_i (show xs (nI (i + 1)).toNatClampNeg = (xs (i + 1)) from (congrArg xs (nI_clamp (by omega))).trans (rfl)) ?_
    refine lv_aload_n hx hb dL_law_1029 rfl (lv_at hl 1 rfl) ?_
    refine xw_Si (As := [.ref (qx 17), .int (xs (i + 1)), .ref ao]) (wr := wM qm cI cZ y) ⟨hx, hb, hml, hown, hts⟩ (hx_go l hl0 dC dI qx cI cZ cJ ao H.size r k a o tN _ h1) (vx_cwSW 3 hts (gSW tw_519 tw_520 tw_0 tw_521) rfl rfl rfl (by decide +kernel) ⟨Nat.le_of_ble_eq_true rfl, Nat.le_of_ble_eq_true rfl⟩) rfl hl.1 rfl (Nat.le_of_ble_eq_true rfl) dL_law_1030 ⟨by show ce + 1 ≤ 1072; omega, by show sl + 6 ≤ 9025; omega⟩ hP hD hK hS hA [0, 1, 2, 3, 4, 5, 6, 7, 8, 9, 10, 11, 12, 13, 14, 15, 16, 17, 32] [18, 19, 20, 21, 22, 23, 24, 25, 26, 27, 28, 29, 30, 31] rfl rfl (by decide) (by decide) (by decide) [0, 1, 2] rfl (eX_W _ _) (eX_kn hE hS (va_free (wc := wH qx cI cZ cJ ao r k a o) hD hS hA [0, 1, 2, 3, 4, 5, 6, 7, 8, 9, 10, 11, 12, 13, 14, 15, 16, 17, 32] rfl)) (fun r_1 u_2 H locs w_3 hP hD hS => ?_)
    obtain ⟨rfl, rfl⟩ := w_3
    have hP : va_P (dC, dI) vwCl (wZ qx qm cI cZ cJ ao r k a y o) H := hP.sub [14, 15, 16, 17, 18, 19, 20, 21, 22, 23, 24, 25, 26, 27, 28, 29, 30, 31, 0, 1, 2, 3, 4, 5, 6, 7, 8, 9, 10, 11, 12, 13, 32] rfl
    have hD : va_D A (wZ qx qm cI cZ cJ ao r k a y o) := hD.sub [14, 15, 16, 17, 18, 19, 20, 21, 22, 23, 24, 25, 26, 27, 28, 29, 30, 31, 0, 1, 2, 3, 4, 5, 6, 7, 8, 9, 10, 11, 12, 13, 32] (by decide) rfl
    refine lv_istore (lv' := [(5, .int (nI 1)), (4, .int (nI i)), (3, .ref ao), (2, .ref (qm 0)), (1, .ref (qx 17)), (0, .ref b)]) hx hb dL_law_1033 hl (by decide) rfl (fun ls hl => ?_)
    refine lv_aload_n hx hb dL_law_1035 rfl (lv_at hl 3 rfl) ?_
    refine lv_aload_n hx hb dL_law_1036 rfl (lv_at hl 5 rfl) ?_
    refine lv_iload hx hb dL_law_1037 (lv_at hl 1 rfl) ?_
    refine lv_iconst (v := nI 1) hx hb dL_law_1039 (by decide) ?_
    refine xn_add hx hb dL_law_1040 ?_
    refine va_sld hx hb hX hbl hbA hS (vp_in_nI (show i + 1 < L by omega) (by omega)) dL_law_1041 ?_
    refine xt_i (show xs (nI (i + 1)).toNatClampNeg = (xs (i + 1)) from (congrArg xs (nI_clamp (by omega))).trans (rfl)) ?_
    refine xc_Vi (As := [.int (xs (i + 1))]) (wr := wX qx cI cZ r k a ++ wO cJ ao o) ⟨hx, hb, hml, hown, hts⟩ (c_M_go1 l dC dI qm cI cZ H.size y _ h1) (cwV 1 hts (gV tw_770 tw_771 tw_772 tw_5 tw_773) rfl rfl rfl (by decide +kernel) ⟨Nat.le_of_ble_eq_true rfl, Nat.le_of_ble_eq_true rfl⟩) rfl hl.1 rfl (Nat.le_of_ble_eq_true rfl) dL_law_1042 ⟨by show _ ≤ 1072; omega, by show _ ≤ 9025; omega⟩ hP hD hK hS hA [18, 19, 20, 21, 22, 23, 24, 25, 26, 27, 28, 29, 30, 31] [0, 1, 2, 3, 4, 5, 6, 7, 8, 9, 10, 11, 12, 13, 14, 15, 16, 17, 32] rfl rfl (by decide) (by decide) (by decide) [0, 1] rfl (q0 := 0) rfl rfl rfl eT_M (trivial) (fun r_4 u_5 H locs w_6 hP hD hS => ?_)
    obtain ⟨rfl, rfl⟩ := w_6
    have hP : va_P (dC, dI) vwCl (wZ qx qm cI cZ cJ ao r k a (MS.s_th y 1) o) H := hP.sub [0, 1, 2, 3, 4, 5, 6, 7, 8, 9, 10, 11, 12, 13, 14, 15, 16, 17, 19, 20, 21, 22, 23, 24, 25, 26, 27, 28, 29, 30, 31, 32, 18] rfl
    have hD : va_D A (wZ qx qm cI cZ cJ ao r k a (MS.s_th y 1) o) := hD.sub [0, 1, 2, 3, 4, 5, 6, 7, 8, 9, 10, 11, 12, 13, 14, 15, 16, 17, 19, 20, 21, 22, 23, 24, 25, 26, 27, 28, 29, 30, 31, 32, 18] (by decide) rfl
    refine lv_istore (lv' := [(6, .int (nI 0)), (5, .int (nI 1)), (4, .int (nI i)), (3, .ref ao), (2, .ref (qm 0)), (1, .ref (qx 17)), (0, .ref b)]) hx hb dL_law_1045 hl (by decide) rfl (fun ls hl => ?_)
    refine lv_aload_n hx hb dL_law_1047 rfl (lv_at hl 4 rfl) ?_
    refine xc_Vi (As := []) (wr := wX qx cI cZ r k a ++ wO cJ ao o) ⟨hx, hb, hml, hown, hts⟩ (c_ScanRowsModel_thrown l dC dI qm cI cZ H.size (MS.s_th y 1)) (cwV 0 hts (gV tw_642 tw_643 tw_644 tw_5 tw_645) rfl rfl rfl (by decide +kernel) ⟨Nat.le_of_ble_eq_true rfl, Nat.le_of_ble_eq_true rfl⟩) rfl hl.1 rfl (Nat.le_of_ble_eq_true rfl) dL_law_1048 ⟨by show _ ≤ 1072; omega, by show _ ≤ 9025; omega⟩ hP hD hK hS hA [18, 19, 20, 21, 22, 23, 24, 25, 26, 27, 28, 29, 30, 31] [0, 1, 2, 3, 4, 5, 6, 7, 8, 9, 10, 11, 12, 13, 14, 15, 16, 17, 32] rfl rfl (by decide) (by decide) (by decide) [0, 1] rfl (q0 := 0) rfl rfl rfl eT_M (trivial) (fun r_7 u_8 H locs w_9 hP hD hS => ?_)
    obtain rfl := w_9
    have hP : va_P (dC, dI) vwCl (wZ qx qm cI cZ cJ ao r k a (MS.s_th y 1) o) H := hP.sub [0, 1, 2, 3, 4, 5, 6, 7, 8, 9, 10, 11, 12, 13, 14, 15, 16, 17, 19, 20, 21, 22, 23, 24, 25, 26, 27, 28, 29, 30, 31, 32, 18] rfl
    have hD : va_D A (wZ qx qm cI cZ cJ ao r k a (MS.s_th y 1) o) := hD.sub [0, 1, 2, 3, 4, 5, 6, 7, 8, 9, 10, 11, 12, 13, 14, 15, 16, 17, 19, 20, 21, 22, 23, 24, 25, 26, 27, 28, 29, 30, 31, 32, 18] (by decide) rfl
    refine xt_i (show nI (MS.th (MS.s_th y 1)) = nI 1 from congrArg nI (rfl)) ?_
    refine lv_iload hx hb dL_law_1051 (lv_at hl 1 rfl) ?_
    refine xn_ceq (tgt := 1058) hx hb (by omega) (by omega) dL_law_1053 (by decide) (fun c_10 => ?_) (fun c_10 => ?_)
    · refine lv_iload hx hb dL_law_1058 (lv_at hl 1 rfl) ?_
      refine xn_zne (tgt := 1075) hx hb (by omega) dL_law_1060 (by decide) (fun c_11 => ?_) (fun c_11 => ?_)
      · refine lv_goto (tgt := 1190) hx hb dL_law_1075 (by decide) ?_
        refine W.widen (k := ce + 1) (n := sl + 6) (by omega) (by omega) ?_
        exact hend r k a (MS.s_th y 1) o (Rel_th hR 1) H locs hP hD hS ls (lv_sub hl [2, 3, 4, 5, 6] rfl)
        
      · exact absurd (show False by omega) id
    · exact absurd (show False by omega) id
  · refine lv_aload_n hx hb dL_law_1022 rfl (lv_at hl 3 rfl) ?_
    refine lv_aload_n hx hb dL_law_1023 rfl (lv_at hl 4 rfl) ?_
    refine lv_iload hx hb dL_law_1024 (lv_at hl 0 rfl) ?_
    refine lv_iconst (v := nI 1) hx hb dL_law_1026 (by decide) ?_
    refine xn_add hx hb dL_law_1027 ?_
    refine va_sld hx hb hX hbl hbA hS (vp_in_nI (show i + 1 < L by omega) (by omega)) dL_law_1028 ?_
    refine xt_i (show xs (nI (i + 1)).toNatClampNeg = nI gl from (congrArg xs (nI_clamp (by omega))).trans (e1)) ?_
    refine lv_aload_n hx hb dL_law_1029 rfl (lv_at hl 1 rfl) ?_
    refine xw_Si (As := [.ref (qx 17), .int (nI gl), .ref ao]) (wr := wM qm cI cZ y) ⟨hx, hb, hml, hown, hts⟩ (h_go l dC dI qx cI cZ cJ ao H.size r k a o tN gl hR.1 (by omega)) (vx_cwSW 3 hts (gSW tw_519 tw_520 tw_0 tw_521) rfl rfl rfl (by decide +kernel) ⟨Nat.le_of_ble_eq_true rfl, Nat.le_of_ble_eq_true rfl⟩) rfl hl.1 rfl (Nat.le_of_ble_eq_true rfl) dL_law_1030 ⟨by show ce + 0 ≤ 1072; omega, by show sl + 0 ≤ 9025; omega⟩ hP hD hK hS hA [0, 1, 2, 3, 4, 5, 6, 7, 8, 9, 10, 11, 12, 13, 14, 15, 16, 17, 32] [18, 19, 20, 21, 22, 23, 24, 25, 26, 27, 28, 29, 30, 31] rfl rfl (by decide) (by decide) (by decide) [0, 1, 2] rfl (eW_of (eN_M _ _)) (eN_kn hE.1 hS (va_free (wc := wH qx cI cZ cJ ao r k a o) hD hS hA [0, 1, 2, 3, 4, 5, 6, 7, 8, 9, 10, 11, 12, 13, 14, 15, 16, 17, 32] rfl)) (fun r_1 u_2 H locs w_3 hP hD hS => ?_)
    obtain ⟨rfl, hu1, hu2⟩ := w_3
    have hP : va_P (dC, dI) vwCl (wZ qx qm cI cZ cJ ao u_2.1.1 u_2.1.2.1 u_2.1.2.2 y u_2.2) H := hP.sub [14, 15, 16, 17, 18, 19, 20, 21, 22, 23, 24, 25, 26, 27, 28, 29, 30, 31, 0, 1, 2, 3, 4, 5, 6, 7, 8, 9, 10, 11, 12, 13, 32] rfl
    have hD : va_D A (wZ qx qm cI cZ cJ ao u_2.1.1 u_2.1.2.1 u_2.1.2.2 y u_2.2) := hD.sub [14, 15, 16, 17, 18, 19, 20, 21, 22, 23, 24, 25, 26, 27, 28, 29, 30, 31, 0, 1, 2, 3, 4, 5, 6, 7, 8, 9, 10, 11, 12, 13, 32] (by decide) rfl
    refine lv_istore (lv' := [(5, .int (nI 0)), (4, .int (nI i)), (3, .ref ao), (2, .ref (qm 0)), (1, .ref (qx 17)), (0, .ref b)]) hx hb dL_law_1033 hl (by decide) rfl (fun ls hl => ?_)
    refine lv_aload_n hx hb dL_law_1035 rfl (lv_at hl 3 rfl) ?_
    refine lv_aload_n hx hb dL_law_1036 rfl (lv_at hl 5 rfl) ?_
    refine lv_iload hx hb dL_law_1037 (lv_at hl 1 rfl) ?_
    refine lv_iconst (v := nI 1) hx hb dL_law_1039 (by decide) ?_
    refine xn_add hx hb dL_law_1040 ?_
    refine va_sld hx hb hX hbl hbA hS (vp_in_nI (show i + 1 < L by omega) (by omega)) dL_law_1041 ?_
    refine xt_i (show xs (nI (i + 1)).toNatClampNeg = nI gl from (congrArg xs (nI_clamp (by omega))).trans (e1)) ?_
    refine xc_Vi (As := [.int (nI gl)]) (wr := wX qx cI cZ u_2.1.1 u_2.1.2.1 u_2.1.2.2 ++ wO cJ ao u_2.2) ⟨hx, hb, hml, hown, hts⟩ (c_ScanRowsModel_go l dC dI qm cI cZ H.size y gl hM (by omega)) (cwV 1 hts (gV tw_770 tw_771 tw_772 tw_5 tw_773) rfl rfl rfl (by decide +kernel) ⟨Nat.le_of_ble_eq_true rfl, Nat.le_of_ble_eq_true rfl⟩) rfl hl.1 rfl (Nat.le_of_ble_eq_true rfl) dL_law_1042 ⟨by show _ ≤ 1072; omega, by show _ ≤ 9025; omega⟩ hP hD hK hS hA [18, 19, 20, 21, 22, 23, 24, 25, 26, 27, 28, 29, 30, 31] [0, 1, 2, 3, 4, 5, 6, 7, 8, 9, 10, 11, 12, 13, 14, 15, 16, 17, 32] rfl rfl (by decide) (by decide) (by decide) [0, 1] rfl (q0 := 0) rfl rfl rfl eT_M (trivial) (fun r_4 u_5 H locs w_6 hP hD hS => ?_)
    obtain ⟨rfl, rfl⟩ := w_6
    have hP : va_P (dC, dI) vwCl (wZ qx qm cI cZ cJ ao u_2.1.1 u_2.1.2.1 u_2.1.2.2 (mgoIt (MS.s_fa (MS.s_th y 0) (mgF gl y.fa)) (DT gl y.sa)) u_2.2) H := hP.sub [0, 1, 2, 3, 4, 5, 6, 7, 8, 9, 10, 11, 12, 13, 14, 15, 16, 17, 19, 20, 21, 22, 23, 24, 25, 26, 27, 28, 29, 30, 31, 32, 18] rfl
    have hD : va_D A (wZ qx qm cI cZ cJ ao u_2.1.1 u_2.1.2.1 u_2.1.2.2 (mgoIt (MS.s_fa (MS.s_th y 0) (mgF gl y.fa)) (DT gl y.sa)) u_2.2) := hD.sub [0, 1, 2, 3, 4, 5, 6, 7, 8, 9, 10, 11, 12, 13, 14, 15, 16, 17, 19, 20, 21, 22, 23, 24, 25, 26, 27, 28, 29, 30, 31, 32, 18] (by decide) rfl
    refine lv_istore (lv' := [(6, .int (nI (DT gl y.sa))), (5, .int (nI 0)), (4, .int (nI i)), (3, .ref ao), (2, .ref (qm 0)), (1, .ref (qx 17)), (0, .ref b)]) hx hb dL_law_1045 hl (by decide) rfl (fun ls hl => ?_)
    refine lv_aload_n hx hb dL_law_1047 rfl (lv_at hl 4 rfl) ?_
    refine xc_Vi (As := []) (wr := wX qx cI cZ u_2.1.1 u_2.1.2.1 u_2.1.2.2 ++ wO cJ ao u_2.2) ⟨hx, hb, hml, hown, hts⟩ (c_ScanRowsModel_thrown l dC dI qm cI cZ H.size (mgoIt (MS.s_fa (MS.s_th y 0) (mgF gl y.fa)) (DT gl y.sa))) (cwV 0 hts (gV tw_642 tw_643 tw_644 tw_5 tw_645) rfl rfl rfl (by decide +kernel) ⟨Nat.le_of_ble_eq_true rfl, Nat.le_of_ble_eq_true rfl⟩) rfl hl.1 rfl (Nat.le_of_ble_eq_true rfl) dL_law_1048 ⟨by show _ ≤ 1072; omega, by show _ ≤ 9025; omega⟩ hP hD hK hS hA [18, 19, 20, 21, 22, 23, 24, 25, 26, 27, 28, 29, 30, 31] [0, 1, 2, 3, 4, 5, 6, 7, 8, 9, 10, 11, 12, 13, 14, 15, 16, 17, 32] rfl rfl (by decide) (by decide) (by decide) [0, 1] rfl (q0 := 0) rfl rfl rfl eT_M (trivial) (fun r_7 u_8 H locs w_9 hP hD hS => ?_)
    obtain rfl := w_9
    have hP : va_P (dC, dI) vwCl (wZ qx qm cI cZ cJ ao u_2.1.1 u_2.1.2.1 u_2.1.2.2 (mgoIt (MS.s_fa (MS.s_th y 0) (mgF gl y.fa)) (DT gl y.sa)) u_2.2) H := hP.sub [0, 1, 2, 3, 4, 5, 6, 7, 8, 9, 10, 11, 12, 13, 14, 15, 16, 17, 19, 20, 21, 22, 23, 24, 25, 26, 27, 28, 29, 30, 31, 32, 18] rfl
    have hD : va_D A (wZ qx qm cI cZ cJ ao u_2.1.1 u_2.1.2.1 u_2.1.2.2 (mgoIt (MS.s_fa (MS.s_th y 0) (mgF gl y.fa)) (DT gl y.sa)) u_2.2) := hD.sub [0, 1, 2, 3, 4, 5, 6, 7, 8, 9, 10, 11, 12, 13, 14, 15, 16, 17, 19, 20, 21, 22, 23, 24, 25, 26, 27, 28, 29, 30, 31, 32, 18] (by decide) rfl
    refine xt_i (show nI (MS.th (mgoIt (MS.s_fa (MS.s_th y 0) (mgF gl y.fa)) (DT gl y.sa))) = nI 0 from congrArg nI (mgoIt_th _ _)) ?_
    refine lv_iload hx hb dL_law_1051 (lv_at hl 1 rfl) ?_
    refine xn_ceq (tgt := 1058) hx hb (by omega) (by omega) dL_law_1053 (by decide) (fun c_10 => ?_) (fun c_10 => ?_)
    · refine lv_iload hx hb dL_law_1058 (lv_at hl 1 rfl) ?_
      refine xn_zne (tgt := 1075) hx hb (by omega) dL_law_1060 (by decide) (fun c_11 => ?_) (fun c_11 => ?_)
      · refine lv_goto (tgt := 1190) hx hb dL_law_1075 (by decide) ?_
        refine W.widen (k := ce + 1) (n := sl + 6) (by omega) (by omega) ?_
        exact hend u_2.1.1 u_2.1.2.1 u_2.1.2.2 (mgoIt (MS.s_fa (MS.s_th y 0) (mgF gl y.fa)) (DT gl y.sa)) u_2.2 (by rw [hu1]; exact (Rel_go hR (by omega)).2) H locs hP hD hS ls (lv_sub hl [2, 3, 4, 5, 6] rfl)
        
      · refine lv_aload_n hx hb dL_law_1063 rfl (lv_at hl 3 rfl) ?_
        refine lv_iconst (v := nI 0) hx hb dL_law_1064 (by decide) ?_
        refine va_lald hx hb hK hP 32 2 rfl rfl (vp_in_nI (show 0 < 1 by decide) (by decide)) dL_law_1065 ?_
        refine xt_l (show u_2.2 (nI 0).toNatClampNeg = (nI (mtF gl a.tk a.st)).toInt64 from (congrArg u_2.2 (show (nI 0).toNatClampNeg = 0 by decide)).trans hu2) ?_
        refine lv_iload hx hb dL_law_1066 (lv_at hl 0 rfl) ?_
        refine lv_i2l hx hb dL_law_1068 rfl ?_
        refine W.lcmp hx hb dL_law_1069 ?_
        refine xt_i (show (lg_cmp ((nI (mtF gl a.tk a.st)).toInt64) ((nI (DT gl y.sa)).toInt64)) = nI 0 from lg_eq (by rw [(Rel_go hR (show gl < 16 by omega)).1])) ?_
        refine xn_zeq (tgt := 1075) hx hb (by omega) dL_law_1070 (by decide) (fun c_12 => ?_) (fun c_12 => ?_)
        · refine lv_goto (tgt := 1190) hx hb dL_law_1075 (by decide) ?_
          refine W.widen (k := ce + 1) (n := sl + 6) (by omega) (by omega) ?_
          exact hend u_2.1.1 u_2.1.2.1 u_2.1.2.2 (mgoIt (MS.s_fa (MS.s_th y 0) (mgF gl y.fa)) (DT gl y.sa)) u_2.2 (by rw [hu1]; exact (Rel_go hR (by omega)).2) H locs hP hD hS ls (lv_sub hl [2, 3, 4, 5, 6] rfl)
          
        · exact absurd (show False by omega) id
    · exact absurd (show False by omega) id
set_option maxHeartbeats 4000000 in
set_option maxRecDepth 100000 in
theorem op_boundary {p : Program} {e : Env} {s : State} {m : MethodId} {below : List Frame} {meth : Method} {c : Code} (l : Launch) (hl0 : l.stackTraces = false) {b L : Nat} {xs : Nat → Int32} (hL : L ≤ 3073) (C0 : lw_At p s m meth c b L xs) (A : Nat → Prop) (hA : ∀ q : Nat, s.heap.size ≤ q → A q) (hbA : ¬ A b) (dC : Nat → ClassId) (dI : Nat → Nat → Nat) (qx qm : Nat → Nat) (cI cZ cJ : ClassId) (ao tN : Nat) (hK : va_K (dC, dI) vwCl [(cI, .int), (cZ, .boolean), (cJ, .long)] s) (hE : eX tN A s s.heap) (i : Nat) (hi : i + 5 < L) (ce sl : Nat) (hce : ce + 1 ≤ 1072) (hsl : sl + 6 ≤ 9025) (r : RS) (k : CS) (a : AS) (y : MS) (o : OS) (hR : Rel r k a y) (H : Heap) (locs : List Loc) (hP : va_P (dC, dI) vwCl (wZ qx qm cI cZ cJ ao r k a y o) H) (hD : va_D A (wZ qx qm cI cZ cJ ao r k a y o)) (hS : va_S A s.heap H locs) (ls : Array Slot) (hl : lv_has ls 7 [(4, .int (nI i)), (3, .ref ao), (2, .ref (qm 0)), (1, .ref (qx 17)), (0, .ref b)]) (hend : ∀ (r : RS) (k : CS) (a : AS) (y : MS) (o : OS), Rel r k a y → ∀ (H : Heap) (locs : List Loc), va_P (dC, dI) vwCl (wZ qx qm cI cZ cJ ao r k a y o) H → va_D A (wZ qx qm cI cZ cJ ao r k a y o) → va_S A s.heap H locs → ∀ ls : Array Slot, lv_has ls 7 [(4, .int (nI i)), (3, .ref ao), (2, .ref (qm 0)), (1, .ref (qx 17)), (0, .ref b)] → W p l e room_1 s m #[Value.ref b] below meth c H locs (ce + 1) (sl + 6) (lw_Z below #[Value.ref b] s) (F0 m 1190 ls [])) : W p l e room_1 s m #[Value.ref b] below meth c H locs (ce) (sl) (lw_Z below #[Value.ref b] s) (F0 m 1078 ls []) := by
  obtain ⟨hx, hb, hr, hml, hown, hts0, hX, hbl, hlocks, hgv⟩ := id C0
  have hown : s.vm.findClass "ScanRowsLaw" = some m.cls := hown
  have hts : ∀ w ∈ ALLG, w.before #[Value.ref b] s = true := fun w h => hts0 w (List.mem_filter.mp h).1
  have b_n : r.n ≤ 32 := hR.1.1.1
  have b_c : r.c ≤ 8 := hR.1.1.2.1
  have b_p : r.p ≤ r.n := hR.1.1.2.2.1
  have k_n : k.n ≤ 20 := hR.1.2.1.1
  have hB : RB r := hR.1.1
  have hM : MB y := hR.2.1
  have hmo : mono y := Rel_mono hR
  have hC : RC r := PI_RC hR.2.2.1
  have e_n : y.n = r.n := hR.2.2.2.2.1.1
  have e_c : y.c = r.c := hR.2.2.2.2.1.2.1
  have e_p : y.p = r.p := hR.2.2.2.2.1.2.2.1
  have e_vb : y.vb = r.vb := hR.2.2.2.2.1.2.2.2.1
  have e_fl : y.fl = r.fl := hR.2.2.2.2.1.2.2.2.2.2.2.2.1
  have e_st : y.st = r.st := hR.2.2.2.2.1.2.2.2.2.2.2.2.2.2
  have e_k : toK y = k := hR.2.2.2.2.2.1
  have e_cn : y.cn = k.n := congrArg CS.n e_k
  have e_co : y.co = a.co := hR.2.2.2.2.2.2.2.1
  have a_co : a.co < 16 := hR.1.2.2.2.1
  have e_sa : y.sa = a.st := hR.2.2.2.2.2.2.1
  rcases hc_cs (xs (i + 1)) (show k.n ≤ 32 by omega) with h1 | ⟨ix, h1, e1⟩
  · refine lv_aload_n hx hb dL_law_1078 rfl (lv_at hl 3 rfl) ?_
    refine lv_aload_n hx hb dL_law_1079 rfl (lv_at hl 4 rfl) ?_
    refine lv_iload hx hb dL_law_1080 (lv_at hl 0 rfl) ?_
    refine lv_iconst (v := nI 1) hx hb dL_law_1082 (by decide) ?_
    refine xn_add hx hb dL_law_1083 ?_
    refine va_sld hx hb hX hbl hbA hS (vp_in_nI (show i + 1 < L by omega) (by omega)) dL_law_1084 ?_
    refine xt_i (show xs (nI (i + 1)).toNatClampNeg = (xs (i + 1)) from (congrArg xs (nI_clamp (by omega))).trans (rfl)) ?_
    refine lv_aload_n hx hb dL_law_1085 rfl (lv_at hl 1 rfl) ?_
    refine xw_Si (As := [.ref (qx 17), .int (xs (i + 1)), .ref ao]) (wr := wM qm cI cZ y) ⟨hx, hb, hml, hown, hts⟩ (hx_boundary l hl0 dC dI qx cI cZ cJ ao H.size r k a o tN _ h1) (vx_cwSW 3 hts (gSW tw_543 tw_544 tw_0 tw_545) rfl rfl rfl (by decide +kernel) ⟨Nat.le_of_ble_eq_true rfl, Nat.le_of_ble_eq_true rfl⟩) rfl hl.1 rfl (Nat.le_of_ble_eq_true rfl) dL_law_1086 ⟨by show ce + 1 ≤ 1072; omega, by show sl + 6 ≤ 9025; omega⟩ hP hD hK hS hA [0, 1, 2, 3, 4, 5, 6, 7, 8, 9, 10, 11, 12, 13, 14, 15, 16, 17, 32] [18, 19, 20, 21, 22, 23, 24, 25, 26, 27, 28, 29, 30, 31] rfl rfl (by decide) (by decide) (by decide) [0, 1, 2] rfl (eX_W _ _) (eX_kn hE hS (va_free (wc := wH qx cI cZ cJ ao r k a o) hD hS hA [0, 1, 2, 3, 4, 5, 6, 7, 8, 9, 10, 11, 12, 13, 14, 15, 16, 17, 32] rfl)) (fun r_1 u_2 H locs w_3 hP hD hS => ?_)
    obtain ⟨rfl, rfl⟩ := w_3
    have hP : va_P (dC, dI) vwCl (wZ qx qm cI cZ cJ ao r k a y o) H := hP.sub [14, 15, 16, 17, 18, 19, 20, 21, 22, 23, 24, 25, 26, 27, 28, 29, 30, 31, 0, 1, 2, 3, 4, 5, 6, 7, 8, 9, 10, 11, 12, 13, 32] rfl
    have hD : va_D A (wZ qx qm cI cZ cJ ao r k a y o) := hD.sub [14, 15, 16, 17, 18, 19, 20, 21, 22, 23, 24, 25, 26, 27, 28, 29, 30, 31, 0, 1, 2, 3, 4, 5, 6, 7, 8, 9, 10, 11, 12, 13, 32] (by decide) rfl
    refine lv_istore (lv' := [(5, .int (nI 1)), (4, .int (nI i)), (3, .ref ao), (2, .ref (qm 0)), (1, .ref (qx 17)), (0, .ref b)]) hx hb dL_law_1089 hl (by decide) rfl (fun ls hl => ?_)
    refine lv_aload_n hx hb dL_law_1091 rfl (lv_at hl 3 rfl) ?_
    refine lv_aload_n hx hb dL_law_1092 rfl (lv_at hl 5 rfl) ?_
    refine lv_iload hx hb dL_law_1093 (lv_at hl 1 rfl) ?_
    refine lv_iconst (v := nI 1) hx hb dL_law_1095 (by decide) ?_
    refine xn_add hx hb dL_law_1096 ?_
    refine va_sld hx hb hX hbl hbA hS (vp_in_nI (show i + 1 < L by omega) (by omega)) dL_law_1097 ?_
    refine xt_i (show xs (nI (i + 1)).toNatClampNeg = (xs (i + 1)) from (congrArg xs (nI_clamp (by omega))).trans (rfl)) ?_
    refine xc_Vi (As := [.int (xs (i + 1))]) (wr := wX qx cI cZ r k a ++ wO cJ ao o) ⟨hx, hb, hml, hown, hts⟩ (c_M_boundary1 l dC dI qm cI cZ H.size y _ (by rw [e_cn]; exact h1)) (cwV 1 hts (gV tw_739 tw_740 tw_741 tw_5 tw_742) rfl rfl rfl (by decide +kernel) ⟨Nat.le_of_ble_eq_true rfl, Nat.le_of_ble_eq_true rfl⟩) rfl hl.1 rfl (Nat.le_of_ble_eq_true rfl) dL_law_1098 ⟨by show _ ≤ 1072; omega, by show _ ≤ 9025; omega⟩ hP hD hK hS hA [18, 19, 20, 21, 22, 23, 24, 25, 26, 27, 28, 29, 30, 31] [0, 1, 2, 3, 4, 5, 6, 7, 8, 9, 10, 11, 12, 13, 14, 15, 16, 17, 32] rfl rfl (by decide) (by decide) (by decide) [0, 1] rfl (q0 := 0) rfl rfl rfl eT_M (trivial) (fun r_4 u_5 H locs w_6 hP hD hS => ?_)
    obtain ⟨rfl, rfl⟩ := w_6
    have hP : va_P (dC, dI) vwCl (wZ qx qm cI cZ cJ ao r k a (MS.s_th y 1) o) H := hP.sub [0, 1, 2, 3, 4, 5, 6, 7, 8, 9, 10, 11, 12, 13, 14, 15, 16, 17, 19, 20, 21, 22, 23, 24, 25, 26, 27, 28, 29, 30, 31, 32, 18] rfl
    have hD : va_D A (wZ qx qm cI cZ cJ ao r k a (MS.s_th y 1) o) := hD.sub [0, 1, 2, 3, 4, 5, 6, 7, 8, 9, 10, 11, 12, 13, 14, 15, 16, 17, 19, 20, 21, 22, 23, 24, 25, 26, 27, 28, 29, 30, 31, 32, 18] (by decide) rfl
    refine lv_istore (lv' := [(6, .int (nI 0)), (5, .int (nI 1)), (4, .int (nI i)), (3, .ref ao), (2, .ref (qm 0)), (1, .ref (qx 17)), (0, .ref b)]) hx hb dL_law_1101 hl (by decide) rfl (fun ls hl => ?_)
    refine lv_aload_n hx hb dL_law_1103 rfl (lv_at hl 4 rfl) ?_
    refine xc_Vi (As := []) (wr := wX qx cI cZ r k a ++ wO cJ ao o) ⟨hx, hb, hml, hown, hts⟩ (c_ScanRowsModel_thrown l dC dI qm cI cZ H.size (MS.s_th y 1)) (cwV 0 hts (gV tw_642 tw_643 tw_644 tw_5 tw_645) rfl rfl rfl (by decide +kernel) ⟨Nat.le_of_ble_eq_true rfl, Nat.le_of_ble_eq_true rfl⟩) rfl hl.1 rfl (Nat.le_of_ble_eq_true rfl) dL_law_1104 ⟨by show _ ≤ 1072; omega, by show _ ≤ 9025; omega⟩ hP hD hK hS hA [18, 19, 20, 21, 22, 23, 24, 25, 26, 27, 28, 29, 30, 31] [0, 1, 2, 3, 4, 5, 6, 7, 8, 9, 10, 11, 12, 13, 14, 15, 16, 17, 32] rfl rfl (by decide) (by decide) (by decide) [0, 1] rfl (q0 := 0) rfl rfl rfl eT_M (trivial) (fun r_7 u_8 H locs w_9 hP hD hS => ?_)
    obtain rfl := w_9
    have hP : va_P (dC, dI) vwCl (wZ qx qm cI cZ cJ ao r k a (MS.s_th y 1) o) H := hP.sub [0, 1, 2, 3, 4, 5, 6, 7, 8, 9, 10, 11, 12, 13, 14, 15, 16, 17, 19, 20, 21, 22, 23, 24, 25, 26, 27, 28, 29, 30, 31, 32, 18] rfl
    have hD : va_D A (wZ qx qm cI cZ cJ ao r k a (MS.s_th y 1) o) := hD.sub [0, 1, 2, 3, 4, 5, 6, 7, 8, 9, 10, 11, 12, 13, 14, 15, 16, 17, 19, 20, 21, 22, 23, 24, 25, 26, 27, 28, 29, 30, 31, 32, 18] (by decide) rfl
    refine xt_i (show nI (MS.th (MS.s_th y 1)) = nI 1 from congrArg nI (rfl)) ?_
    refine lv_iload hx hb dL_law_1107 (lv_at hl 1 rfl) ?_
    refine xn_ceq (tgt := 1114) hx hb (by omega) (by omega) dL_law_1109 (by decide) (fun c_10 => ?_) (fun c_10 => ?_)
    · refine lv_iload hx hb dL_law_1114 (lv_at hl 1 rfl) ?_
      refine xn_zne (tgt := 1131) hx hb (by omega) dL_law_1116 (by decide) (fun c_11 => ?_) (fun c_11 => ?_)
      · refine lv_goto (tgt := 1190) hx hb dL_law_1131 (by decide) ?_
        refine W.widen (k := ce + 1) (n := sl + 6) (by omega) (by omega) ?_
        exact hend r k a (MS.s_th y 1) o (Rel_th hR 1) H locs hP hD hS ls (lv_sub hl [2, 3, 4, 5, 6] rfl)
        
      · exact absurd (show False by omega) id
    · exact absurd (show False by omega) id
  · refine lv_aload_n hx hb dL_law_1078 rfl (lv_at hl 3 rfl) ?_
    refine lv_aload_n hx hb dL_law_1079 rfl (lv_at hl 4 rfl) ?_
    refine lv_iload hx hb dL_law_1080 (lv_at hl 0 rfl) ?_
    refine lv_iconst (v := nI 1) hx hb dL_law_1082 (by decide) ?_
    refine xn_add hx hb dL_law_1083 ?_
    refine va_sld hx hb hX hbl hbA hS (vp_in_nI (show i + 1 < L by omega) (by omega)) dL_law_1084 ?_
    refine xt_i (show xs (nI (i + 1)).toNatClampNeg = nI ix from (congrArg xs (nI_clamp (by omega))).trans (e1)) ?_
    refine lv_aload_n hx hb dL_law_1085 rfl (lv_at hl 1 rfl) ?_
    refine xw_Si (As := [.ref (qx 17), .int (nI ix), .ref ao]) (wr := wM qm cI cZ y) ⟨hx, hb, hml, hown, hts⟩ (h_boundary l dC dI qx cI cZ cJ ao H.size r k a o ix h1 k_n (hR.1.2.1.2.2.1 ix) a_co) (vx_cwSW 3 hts (gSW tw_543 tw_544 tw_0 tw_545) rfl rfl rfl (by decide +kernel) ⟨Nat.le_of_ble_eq_true rfl, Nat.le_of_ble_eq_true rfl⟩) rfl hl.1 rfl (Nat.le_of_ble_eq_true rfl) dL_law_1086 ⟨by show ce + 0 ≤ 1072; omega, by show sl + 0 ≤ 9025; omega⟩ hP hD hK hS hA [0, 1, 2, 3, 4, 5, 6, 7, 8, 9, 10, 11, 12, 13, 14, 15, 16, 17, 32] [18, 19, 20, 21, 22, 23, 24, 25, 26, 27, 28, 29, 30, 31] rfl rfl (by decide) (by decide) (by decide) [0, 1, 2] rfl (eW_of eT_M) trivial (fun r_1 u_2 H locs w_3 hP hD hS => ?_)
    obtain ⟨rfl, hu1, hu2⟩ := w_3
    have hP : va_P (dC, dI) vwCl (wZ qx qm cI cZ cJ ao u_2.1.1 u_2.1.2.1 u_2.1.2.2 y u_2.2) H := hP.sub [14, 15, 16, 17, 18, 19, 20, 21, 22, 23, 24, 25, 26, 27, 28, 29, 30, 31, 0, 1, 2, 3, 4, 5, 6, 7, 8, 9, 10, 11, 12, 13, 32] rfl
    have hD : va_D A (wZ qx qm cI cZ cJ ao u_2.1.1 u_2.1.2.1 u_2.1.2.2 y u_2.2) := hD.sub [14, 15, 16, 17, 18, 19, 20, 21, 22, 23, 24, 25, 26, 27, 28, 29, 30, 31, 0, 1, 2, 3, 4, 5, 6, 7, 8, 9, 10, 11, 12, 13, 32] (by decide) rfl
    refine lv_istore (lv' := [(5, .int (nI 0)), (4, .int (nI i)), (3, .ref ao), (2, .ref (qm 0)), (1, .ref (qx 17)), (0, .ref b)]) hx hb dL_law_1089 hl (by decide) rfl (fun ls hl => ?_)
    refine lv_aload_n hx hb dL_law_1091 rfl (lv_at hl 3 rfl) ?_
    refine lv_aload_n hx hb dL_law_1092 rfl (lv_at hl 5 rfl) ?_
    refine lv_iload hx hb dL_law_1093 (lv_at hl 1 rfl) ?_
    refine lv_iconst (v := nI 1) hx hb dL_law_1095 (by decide) ?_
    refine xn_add hx hb dL_law_1096 ?_
    refine va_sld hx hb hX hbl hbA hS (vp_in_nI (show i + 1 < L by omega) (by omega)) dL_law_1097 ?_
    refine xt_i (show xs (nI (i + 1)).toNatClampNeg = nI ix from (congrArg xs (nI_clamp (by omega))).trans (e1)) ?_
    refine xc_Vi (As := [.int (nI ix)]) (wr := wX qx cI cZ u_2.1.1 u_2.1.2.1 u_2.1.2.2 ++ wO cJ ao u_2.2) ⟨hx, hb, hml, hown, hts⟩ (c_ScanRowsModel_boundary l dC dI qm cI cZ H.size y ix (by omega) (by omega) (hM.2.1.2.2.1 ix) (by omega)) (cwV 1 hts (gV tw_739 tw_740 tw_741 tw_5 tw_742) rfl rfl rfl (by decide +kernel) ⟨Nat.le_of_ble_eq_true rfl, Nat.le_of_ble_eq_true rfl⟩) rfl hl.1 rfl (Nat.le_of_ble_eq_true rfl) dL_law_1098 ⟨by show _ ≤ 1072; omega, by show _ ≤ 9025; omega⟩ hP hD hK hS hA [18, 19, 20, 21, 22, 23, 24, 25, 26, 27, 28, 29, 30, 31] [0, 1, 2, 3, 4, 5, 6, 7, 8, 9, 10, 11, 12, 13, 14, 15, 16, 17, 32] rfl rfl (by decide) (by decide) (by decide) [0, 1] rfl (q0 := 0) rfl rfl rfl eT_M (trivial) (fun r_4 u_5 H locs w_6 hP hD hS => ?_)
    obtain ⟨rfl, rfl⟩ := w_6
    have hP : va_P (dC, dI) vwCl (wZ qx qm cI cZ cJ ao u_2.1.1 u_2.1.2.1 u_2.1.2.2 (MS.s_th y 0) u_2.2) H := hP.sub [0, 1, 2, 3, 4, 5, 6, 7, 8, 9, 10, 11, 12, 13, 14, 15, 16, 17, 19, 20, 21, 22, 23, 24, 25, 26, 27, 28, 29, 30, 31, 32, 18] rfl
    have hD : va_D A (wZ qx qm cI cZ cJ ao u_2.1.1 u_2.1.2.1 u_2.1.2.2 (MS.s_th y 0) u_2.2) := hD.sub [0, 1, 2, 3, 4, 5, 6, 7, 8, 9, 10, 11, 12, 13, 14, 15, 16, 17, 19, 20, 21, 22, 23, 24, 25, 26, 27, 28, 29, 30, 31, 32, 18] (by decide) rfl
    refine lv_istore (lv' := [(6, .int (nI (drv (toK y) ix (if y.co = 0 then 1 else 0)))), (5, .int (nI 0)), (4, .int (nI i)), (3, .ref ao), (2, .ref (qm 0)), (1, .ref (qx 17)), (0, .ref b)]) hx hb dL_law_1101 hl (by decide) rfl (fun ls hl => ?_)
    refine lv_aload_n hx hb dL_law_1103 rfl (lv_at hl 4 rfl) ?_
    refine xc_Vi (As := []) (wr := wX qx cI cZ u_2.1.1 u_2.1.2.1 u_2.1.2.2 ++ wO cJ ao u_2.2) ⟨hx, hb, hml, hown, hts⟩ (c_ScanRowsModel_thrown l dC dI qm cI cZ H.size (MS.s_th y 0)) (cwV 0 hts (gV tw_642 tw_643 tw_644 tw_5 tw_645) rfl rfl rfl (by decide +kernel) ⟨Nat.le_of_ble_eq_true rfl, Nat.le_of_ble_eq_true rfl⟩) rfl hl.1 rfl (Nat.le_of_ble_eq_true rfl) dL_law_1104 ⟨by show _ ≤ 1072; omega, by show _ ≤ 9025; omega⟩ hP hD hK hS hA [18, 19, 20, 21, 22, 23, 24, 25, 26, 27, 28, 29, 30, 31] [0, 1, 2, 3, 4, 5, 6, 7, 8, 9, 10, 11, 12, 13, 14, 15, 16, 17, 32] rfl rfl (by decide) (by decide) (by decide) [0, 1] rfl (q0 := 0) rfl rfl rfl eT_M (trivial) (fun r_7 u_8 H locs w_9 hP hD hS => ?_)
    obtain rfl := w_9
    have hP : va_P (dC, dI) vwCl (wZ qx qm cI cZ cJ ao u_2.1.1 u_2.1.2.1 u_2.1.2.2 (MS.s_th y 0) u_2.2) H := hP.sub [0, 1, 2, 3, 4, 5, 6, 7, 8, 9, 10, 11, 12, 13, 14, 15, 16, 17, 19, 20, 21, 22, 23, 24, 25, 26, 27, 28, 29, 30, 31, 32, 18] rfl
    have hD : va_D A (wZ qx qm cI cZ cJ ao u_2.1.1 u_2.1.2.1 u_2.1.2.2 (MS.s_th y 0) u_2.2) := hD.sub [0, 1, 2, 3, 4, 5, 6, 7, 8, 9, 10, 11, 12, 13, 14, 15, 16, 17, 19, 20, 21, 22, 23, 24, 25, 26, 27, 28, 29, 30, 31, 32, 18] (by decide) rfl
    refine xt_i (show nI (MS.th (MS.s_th y 0)) = nI 0 from congrArg nI (rfl)) ?_
    refine lv_iload hx hb dL_law_1107 (lv_at hl 1 rfl) ?_
    refine xn_ceq (tgt := 1114) hx hb (by omega) (by omega) dL_law_1109 (by decide) (fun c_10 => ?_) (fun c_10 => ?_)
    · refine lv_iload hx hb dL_law_1114 (lv_at hl 1 rfl) ?_
      refine xn_zne (tgt := 1131) hx hb (by omega) dL_law_1116 (by decide) (fun c_11 => ?_) (fun c_11 => ?_)
      · refine lv_goto (tgt := 1190) hx hb dL_law_1131 (by decide) ?_
        refine W.widen (k := ce + 1) (n := sl + 6) (by omega) (by omega) ?_
        exact hend u_2.1.1 u_2.1.2.1 u_2.1.2.2 (MS.s_th y 0) u_2.2 (by rw [hu1]; exact Rel_th hR 0) H locs hP hD hS ls (lv_sub hl [2, 3, 4, 5, 6] rfl)
        
      · refine lv_aload_n hx hb dL_law_1119 rfl (lv_at hl 3 rfl) ?_
        refine lv_iconst (v := nI 0) hx hb dL_law_1120 (by decide) ?_
        refine va_lald hx hb hK hP 32 2 rfl rfl (vp_in_nI (show 0 < 1 by decide) (by decide)) dL_law_1121 ?_
        refine xt_l (show u_2.2 (nI 0).toNatClampNeg = (nI (drv k ix (if a.co = 0 then 1 else 0))).toInt64 from (congrArg u_2.2 (show (nI 0).toNatClampNeg = 0 by decide)).trans hu2) ?_
        refine lv_iload hx hb dL_law_1122 (lv_at hl 0 rfl) ?_
        refine lv_i2l hx hb dL_law_1124 rfl ?_
        refine W.lcmp hx hb dL_law_1125 ?_
        refine xt_i (show (lg_cmp ((nI (drv k ix (if a.co = 0 then 1 else 0))).toInt64) ((nI (drv (toK y) ix (if y.co = 0 then 1 else 0))).toInt64)) = nI 0 from lg_eq (by rw [Rel_bd hR])) ?_
        refine xn_zeq (tgt := 1131) hx hb (by omega) dL_law_1126 (by decide) (fun c_12 => ?_) (fun c_12 => ?_)
        · refine lv_goto (tgt := 1190) hx hb dL_law_1131 (by decide) ?_
          refine W.widen (k := ce + 1) (n := sl + 6) (by omega) (by omega) ?_
          exact hend u_2.1.1 u_2.1.2.1 u_2.1.2.2 (MS.s_th y 0) u_2.2 (by rw [hu1]; exact Rel_th hR 0) H locs hP hD hS ls (lv_sub hl [2, 3, 4, 5, 6] rfl)
          
        · exact absurd (show False by omega) id
    · exact absurd (show False by omega) id
set_option maxHeartbeats 4000000 in
set_option maxRecDepth 100000 in
theorem op_count {p : Program} {e : Env} {s : State} {m : MethodId} {below : List Frame} {meth : Method} {c : Code} (l : Launch) (hl0 : l.stackTraces = false) {b L : Nat} {xs : Nat → Int32} (hL : L ≤ 3073) (C0 : lw_At p s m meth c b L xs) (A : Nat → Prop) (hA : ∀ q : Nat, s.heap.size ≤ q → A q) (hbA : ¬ A b) (dC : Nat → ClassId) (dI : Nat → Nat → Nat) (qx qm : Nat → Nat) (cI cZ cJ : ClassId) (ao tN : Nat) (hK : va_K (dC, dI) vwCl [(cI, .int), (cZ, .boolean), (cJ, .long)] s) (hE : eX tN A s s.heap) (i : Nat) (hi : i + 5 < L) (ce sl : Nat) (hce : ce + 1 ≤ 1072) (hsl : sl + 6 ≤ 9025) (r : RS) (k : CS) (a : AS) (y : MS) (o : OS) (hR : Rel r k a y) (H : Heap) (locs : List Loc) (hP : va_P (dC, dI) vwCl (wZ qx qm cI cZ cJ ao r k a y o) H) (hD : va_D A (wZ qx qm cI cZ cJ ao r k a y o)) (hS : va_S A s.heap H locs) (ls : Array Slot) (hl : lv_has ls 7 [(4, .int (nI i)), (3, .ref ao), (2, .ref (qm 0)), (1, .ref (qx 17)), (0, .ref b)]) (hend : ∀ (r : RS) (k : CS) (a : AS) (y : MS) (o : OS), Rel r k a y → ∀ (H : Heap) (locs : List Loc), va_P (dC, dI) vwCl (wZ qx qm cI cZ cJ ao r k a y o) H → va_D A (wZ qx qm cI cZ cJ ao r k a y o) → va_S A s.heap H locs → ∀ ls : Array Slot, lv_has ls 7 [(4, .int (nI i)), (3, .ref ao), (2, .ref (qm 0)), (1, .ref (qx 17)), (0, .ref b)] → W p l e room_1 s m #[Value.ref b] below meth c H locs (ce + 1) (sl + 6) (lw_Z below #[Value.ref b] s) (F0 m 1190 ls [])) : W p l e room_1 s m #[Value.ref b] below meth c H locs (ce) (sl) (lw_Z below #[Value.ref b] s) (F0 m 1134 ls []) := by
  obtain ⟨hx, hb, hr, hml, hown, hts0, hX, hbl, hlocks, hgv⟩ := id C0
  have hown : s.vm.findClass "ScanRowsLaw" = some m.cls := hown
  have hts : ∀ w ∈ ALLG, w.before #[Value.ref b] s = true := fun w h => hts0 w (List.mem_filter.mp h).1
  have b_n : r.n ≤ 32 := hR.1.1.1
  have b_c : r.c ≤ 8 := hR.1.1.2.1
  have b_p : r.p ≤ r.n := hR.1.1.2.2.1
  have k_n : k.n ≤ 20 := hR.1.2.1.1
  have hB : RB r := hR.1.1
  have hM : MB y := hR.2.1
  have hmo : mono y := Rel_mono hR
  have hC : RC r := PI_RC hR.2.2.1
  have e_n : y.n = r.n := hR.2.2.2.2.1.1
  have e_c : y.c = r.c := hR.2.2.2.2.1.2.1
  have e_p : y.p = r.p := hR.2.2.2.2.1.2.2.1
  have e_vb : y.vb = r.vb := hR.2.2.2.2.1.2.2.2.1
  have e_fl : y.fl = r.fl := hR.2.2.2.2.1.2.2.2.2.2.2.2.1
  have e_st : y.st = r.st := hR.2.2.2.2.1.2.2.2.2.2.2.2.2.2
  have e_k : toK y = k := hR.2.2.2.2.2.1
  have e_cn : y.cn = k.n := congrArg CS.n e_k
  have e_co : y.co = a.co := hR.2.2.2.2.2.2.2.1
  have a_co : a.co < 16 := hR.1.2.2.2.1
  have e_sa : y.sa = a.st := hR.2.2.2.2.2.2.1
  rcases rg (lo := 0) (hi := 4) (by decide) (by decide) (xs (i + 1)) with h1 | ⟨w0, -, h2, e1⟩
  · refine lv_aload_n hx hb dL_law_1134 rfl (lv_at hl 3 rfl) ?_
    refine lv_aload_n hx hb dL_law_1135 rfl (lv_at hl 4 rfl) ?_
    refine lv_iload hx hb dL_law_1136 (lv_at hl 0 rfl) ?_
    refine lv_iconst (v := nI 1) hx hb dL_law_1138 (by decide) ?_
    refine xn_add hx hb dL_law_1139 ?_
    refine va_sld hx hb hX hbl hbA hS (vp_in_nI (show i + 1 < L by omega) (by omega)) dL_law_1140 ?_
    refine xt_i (show xs (nI (i + 1)).toNatClampNeg = (xs (i + 1)) from (congrArg xs (nI_clamp (by omega))).trans (rfl)) ?_
    refine lv_aload_n hx hb dL_law_1141 rfl (lv_at hl 1 rfl) ?_
    refine xw_Si (As := [.ref (qx 17), .int (xs (i + 1)), .ref ao]) (wr := wM qm cI cZ y) ⟨hx, hb, hml, hown, hts⟩ (hx_count l hl0 dC dI qx cI cZ cJ ao H.size r k a o tN _ h1) (vx_cwSW 3 hts (gSW tw_554 tw_555 tw_0 tw_556) rfl rfl rfl (by decide +kernel) ⟨Nat.le_of_ble_eq_true rfl, Nat.le_of_ble_eq_true rfl⟩) rfl hl.1 rfl (Nat.le_of_ble_eq_true rfl) dL_law_1142 ⟨by show ce + 1 ≤ 1072; omega, by show sl + 6 ≤ 9025; omega⟩ hP hD hK hS hA [0, 1, 2, 3, 4, 5, 6, 7, 8, 9, 10, 11, 12, 13, 14, 15, 16, 17, 32] [18, 19, 20, 21, 22, 23, 24, 25, 26, 27, 28, 29, 30, 31] rfl rfl (by decide) (by decide) (by decide) [0, 1, 2] rfl (eX_W _ _) (eX_kn hE hS (va_free (wc := wH qx cI cZ cJ ao r k a o) hD hS hA [0, 1, 2, 3, 4, 5, 6, 7, 8, 9, 10, 11, 12, 13, 14, 15, 16, 17, 32] rfl)) (fun r_1 u_2 H locs w_3 hP hD hS => ?_)
    obtain ⟨rfl, rfl⟩ := w_3
    have hP : va_P (dC, dI) vwCl (wZ qx qm cI cZ cJ ao r k a y o) H := hP.sub [14, 15, 16, 17, 18, 19, 20, 21, 22, 23, 24, 25, 26, 27, 28, 29, 30, 31, 0, 1, 2, 3, 4, 5, 6, 7, 8, 9, 10, 11, 12, 13, 32] rfl
    have hD : va_D A (wZ qx qm cI cZ cJ ao r k a y o) := hD.sub [14, 15, 16, 17, 18, 19, 20, 21, 22, 23, 24, 25, 26, 27, 28, 29, 30, 31, 0, 1, 2, 3, 4, 5, 6, 7, 8, 9, 10, 11, 12, 13, 32] (by decide) rfl
    refine lv_istore (lv' := [(5, .int (nI 1)), (4, .int (nI i)), (3, .ref ao), (2, .ref (qm 0)), (1, .ref (qx 17)), (0, .ref b)]) hx hb dL_law_1145 hl (by decide) rfl (fun ls hl => ?_)
    refine lv_aload_n hx hb dL_law_1147 rfl (lv_at hl 3 rfl) ?_
    refine lv_aload_n hx hb dL_law_1148 rfl (lv_at hl 5 rfl) ?_
    refine lv_iload hx hb dL_law_1149 (lv_at hl 1 rfl) ?_
    refine lv_iconst (v := nI 1) hx hb dL_law_1151 (by decide) ?_
    refine xn_add hx hb dL_law_1152 ?_
    refine va_sld hx hb hX hbl hbA hS (vp_in_nI (show i + 1 < L by omega) (by omega)) dL_law_1153 ?_
    refine xt_i (show xs (nI (i + 1)).toNatClampNeg = (xs (i + 1)) from (congrArg xs (nI_clamp (by omega))).trans (rfl)) ?_
    refine xc_Vi (As := [.int (xs (i + 1))]) (wr := wX qx cI cZ r k a ++ wO cJ ao o) ⟨hx, hb, hml, hown, hts⟩ (c_M_count1 l dC dI qm cI cZ H.size y _ h1) (cwV 1 hts (gV tw_774 tw_775 tw_776 tw_5 tw_777) rfl rfl rfl (by decide +kernel) ⟨Nat.le_of_ble_eq_true rfl, Nat.le_of_ble_eq_true rfl⟩) rfl hl.1 rfl (Nat.le_of_ble_eq_true rfl) dL_law_1154 ⟨by show _ ≤ 1072; omega, by show _ ≤ 9025; omega⟩ hP hD hK hS hA [18, 19, 20, 21, 22, 23, 24, 25, 26, 27, 28, 29, 30, 31] [0, 1, 2, 3, 4, 5, 6, 7, 8, 9, 10, 11, 12, 13, 14, 15, 16, 17, 32] rfl rfl (by decide) (by decide) (by decide) [0, 1] rfl (q0 := 0) rfl rfl rfl eT_M (trivial) (fun r_4 u_5 H locs w_6 hP hD hS => ?_)
    obtain ⟨rfl, rfl⟩ := w_6
    have hP : va_P (dC, dI) vwCl (wZ qx qm cI cZ cJ ao r k a (MS.s_th y 1) o) H := hP.sub [0, 1, 2, 3, 4, 5, 6, 7, 8, 9, 10, 11, 12, 13, 14, 15, 16, 17, 19, 20, 21, 22, 23, 24, 25, 26, 27, 28, 29, 30, 31, 32, 18] rfl
    have hD : va_D A (wZ qx qm cI cZ cJ ao r k a (MS.s_th y 1) o) := hD.sub [0, 1, 2, 3, 4, 5, 6, 7, 8, 9, 10, 11, 12, 13, 14, 15, 16, 17, 19, 20, 21, 22, 23, 24, 25, 26, 27, 28, 29, 30, 31, 32, 18] (by decide) rfl
    refine lv_istore (lv' := [(6, .int (nI 0)), (5, .int (nI 1)), (4, .int (nI i)), (3, .ref ao), (2, .ref (qm 0)), (1, .ref (qx 17)), (0, .ref b)]) hx hb dL_law_1157 hl (by decide) rfl (fun ls hl => ?_)
    refine lv_aload_n hx hb dL_law_1159 rfl (lv_at hl 4 rfl) ?_
    refine xc_Vi (As := []) (wr := wX qx cI cZ r k a ++ wO cJ ao o) ⟨hx, hb, hml, hown, hts⟩ (c_ScanRowsModel_thrown l dC dI qm cI cZ H.size (MS.s_th y 1)) (cwV 0 hts (gV tw_642 tw_643 tw_644 tw_5 tw_645) rfl rfl rfl (by decide +kernel) ⟨Nat.le_of_ble_eq_true rfl, Nat.le_of_ble_eq_true rfl⟩) rfl hl.1 rfl (Nat.le_of_ble_eq_true rfl) dL_law_1160 ⟨by show _ ≤ 1072; omega, by show _ ≤ 9025; omega⟩ hP hD hK hS hA [18, 19, 20, 21, 22, 23, 24, 25, 26, 27, 28, 29, 30, 31] [0, 1, 2, 3, 4, 5, 6, 7, 8, 9, 10, 11, 12, 13, 14, 15, 16, 17, 32] rfl rfl (by decide) (by decide) (by decide) [0, 1] rfl (q0 := 0) rfl rfl rfl eT_M (trivial) (fun r_7 u_8 H locs w_9 hP hD hS => ?_)
    obtain rfl := w_9
    have hP : va_P (dC, dI) vwCl (wZ qx qm cI cZ cJ ao r k a (MS.s_th y 1) o) H := hP.sub [0, 1, 2, 3, 4, 5, 6, 7, 8, 9, 10, 11, 12, 13, 14, 15, 16, 17, 19, 20, 21, 22, 23, 24, 25, 26, 27, 28, 29, 30, 31, 32, 18] rfl
    have hD : va_D A (wZ qx qm cI cZ cJ ao r k a (MS.s_th y 1) o) := hD.sub [0, 1, 2, 3, 4, 5, 6, 7, 8, 9, 10, 11, 12, 13, 14, 15, 16, 17, 19, 20, 21, 22, 23, 24, 25, 26, 27, 28, 29, 30, 31, 32, 18] (by decide) rfl
    refine xt_i (show nI (MS.th (MS.s_th y 1)) = nI 1 from congrArg nI (rfl)) ?_
    refine lv_iload hx hb dL_law_1163 (lv_at hl 1 rfl) ?_
    refine xn_ceq (tgt := 1170) hx hb (by omega) (by omega) dL_law_1165 (by decide) (fun c_10 => ?_) (fun c_10 => ?_)
    · refine lv_iload hx hb dL_law_1170 (lv_at hl 1 rfl) ?_
      refine xn_zne (tgt := 1187) hx hb (by omega) dL_law_1172 (by decide) (fun c_11 => ?_) (fun c_11 => ?_)
      · refine lv_goto (tgt := 1190) hx hb dL_law_1187 (by decide) ?_
        refine W.widen (k := ce + 1) (n := sl + 6) (by omega) (by omega) ?_
        exact hend r k a (MS.s_th y 1) o (Rel_th hR 1) H locs hP hD hS ls (lv_sub hl [2, 3, 4, 5, 6] rfl)
        
      · exact absurd (show False by omega) id
    · exact absurd (show False by omega) id
  · refine lv_aload_n hx hb dL_law_1134 rfl (lv_at hl 3 rfl) ?_
    refine lv_aload_n hx hb dL_law_1135 rfl (lv_at hl 4 rfl) ?_
    refine lv_iload hx hb dL_law_1136 (lv_at hl 0 rfl) ?_
    refine lv_iconst (v := nI 1) hx hb dL_law_1138 (by decide) ?_
    refine xn_add hx hb dL_law_1139 ?_
    refine va_sld hx hb hX hbl hbA hS (vp_in_nI (show i + 1 < L by omega) (by omega)) dL_law_1140 ?_
    refine xt_i (show xs (nI (i + 1)).toNatClampNeg = nI w0 from (congrArg xs (nI_clamp (by omega))).trans (e1)) ?_
    refine lv_aload_n hx hb dL_law_1141 rfl (lv_at hl 1 rfl) ?_
    refine xw_Si (As := [.ref (qx 17), .int (nI w0), .ref ao]) (wr := wM qm cI cZ y) ⟨hx, hb, hml, hown, hts⟩ (h_count l dC dI qx cI cZ cJ ao H.size r k a o w0 a_co k_n (by omega) (by omega)) (vx_cwSW 3 hts (gSW tw_554 tw_555 tw_0 tw_556) rfl rfl rfl (by decide +kernel) ⟨Nat.le_of_ble_eq_true rfl, Nat.le_of_ble_eq_true rfl⟩) rfl hl.1 rfl (Nat.le_of_ble_eq_true rfl) dL_law_1142 ⟨by show ce + 0 ≤ 1072; omega, by show sl + 0 ≤ 9025; omega⟩ hP hD hK hS hA [0, 1, 2, 3, 4, 5, 6, 7, 8, 9, 10, 11, 12, 13, 14, 15, 16, 17, 32] [18, 19, 20, 21, 22, 23, 24, 25, 26, 27, 28, 29, 30, 31] rfl rfl (by decide) (by decide) (by decide) [0, 1, 2] rfl (eW_of eT_M) trivial (fun r_1 u_2 H locs w_3 hP hD hS => ?_)
    obtain ⟨rfl, hu1, hu2⟩ := w_3
    have hP : va_P (dC, dI) vwCl (wZ qx qm cI cZ cJ ao u_2.1.1 u_2.1.2.1 u_2.1.2.2 y u_2.2) H := hP.sub [14, 15, 16, 17, 18, 19, 20, 21, 22, 23, 24, 25, 26, 27, 28, 29, 30, 31, 0, 1, 2, 3, 4, 5, 6, 7, 8, 9, 10, 11, 12, 13, 32] rfl
    have hD : va_D A (wZ qx qm cI cZ cJ ao u_2.1.1 u_2.1.2.1 u_2.1.2.2 y u_2.2) := hD.sub [14, 15, 16, 17, 18, 19, 20, 21, 22, 23, 24, 25, 26, 27, 28, 29, 30, 31, 0, 1, 2, 3, 4, 5, 6, 7, 8, 9, 10, 11, 12, 13, 32] (by decide) rfl
    refine lv_istore (lv' := [(5, .int (nI 0)), (4, .int (nI i)), (3, .ref ao), (2, .ref (qm 0)), (1, .ref (qx 17)), (0, .ref b)]) hx hb dL_law_1145 hl (by decide) rfl (fun ls hl => ?_)
    refine lv_aload_n hx hb dL_law_1147 rfl (lv_at hl 3 rfl) ?_
    refine lv_aload_n hx hb dL_law_1148 rfl (lv_at hl 5 rfl) ?_
    refine lv_iload hx hb dL_law_1149 (lv_at hl 1 rfl) ?_
    refine lv_iconst (v := nI 1) hx hb dL_law_1151 (by decide) ?_
    refine xn_add hx hb dL_law_1152 ?_
    refine va_sld hx hb hX hbl hbA hS (vp_in_nI (show i + 1 < L by omega) (by omega)) dL_law_1153 ?_
    refine xt_i (show xs (nI (i + 1)).toNatClampNeg = nI w0 from (congrArg xs (nI_clamp (by omega))).trans (e1)) ?_
    refine xc_Vi (As := [.int (nI w0)]) (wr := wX qx cI cZ u_2.1.1 u_2.1.2.1 u_2.1.2.2 ++ wO cJ ao u_2.2) ⟨hx, hb, hml, hown, hts⟩ (c_ScanRowsModel_count l dC dI qm cI cZ H.size y w0 hM (by omega)) (cwV 1 hts (gV tw_774 tw_775 tw_776 tw_5 tw_777) rfl rfl rfl (by decide +kernel) ⟨Nat.le_of_ble_eq_true rfl, Nat.le_of_ble_eq_true rfl⟩) rfl hl.1 rfl (Nat.le_of_ble_eq_true rfl) dL_law_1154 ⟨by show _ ≤ 1072; omega, by show _ ≤ 9025; omega⟩ hP hD hK hS hA [18, 19, 20, 21, 22, 23, 24, 25, 26, 27, 28, 29, 30, 31] [0, 1, 2, 3, 4, 5, 6, 7, 8, 9, 10, 11, 12, 13, 14, 15, 16, 17, 32] rfl rfl (by decide) (by decide) (by decide) [0, 1] rfl (q0 := 0) rfl rfl rfl eT_M (trivial) (fun r_4 u_5 H locs w_6 hP hD hS => ?_)
    obtain ⟨rfl, rfl⟩ := w_6
    have hP : va_P (dC, dI) vwCl (wZ qx qm cI cZ cJ ao u_2.1.1 u_2.1.2.1 u_2.1.2.2 (MS.s_th y 0) u_2.2) H := hP.sub [0, 1, 2, 3, 4, 5, 6, 7, 8, 9, 10, 11, 12, 13, 14, 15, 16, 17, 19, 20, 21, 22, 23, 24, 25, 26, 27, 28, 29, 30, 31, 32, 18] rfl
    have hD : va_D A (wZ qx qm cI cZ cJ ao u_2.1.1 u_2.1.2.1 u_2.1.2.2 (MS.s_th y 0) u_2.2) := hD.sub [0, 1, 2, 3, 4, 5, 6, 7, 8, 9, 10, 11, 12, 13, 14, 15, 16, 17, 19, 20, 21, 22, 23, 24, 25, 26, 27, 28, 29, 30, 31, 32, 18] (by decide) rfl
    refine lv_istore (lv' := [(6, .int (nI (mCnt y w0))), (5, .int (nI 0)), (4, .int (nI i)), (3, .ref ao), (2, .ref (qm 0)), (1, .ref (qx 17)), (0, .ref b)]) hx hb dL_law_1157 hl (by decide) rfl (fun ls hl => ?_)
    refine lv_aload_n hx hb dL_law_1159 rfl (lv_at hl 4 rfl) ?_
    refine xc_Vi (As := []) (wr := wX qx cI cZ u_2.1.1 u_2.1.2.1 u_2.1.2.2 ++ wO cJ ao u_2.2) ⟨hx, hb, hml, hown, hts⟩ (c_ScanRowsModel_thrown l dC dI qm cI cZ H.size (MS.s_th y 0)) (cwV 0 hts (gV tw_642 tw_643 tw_644 tw_5 tw_645) rfl rfl rfl (by decide +kernel) ⟨Nat.le_of_ble_eq_true rfl, Nat.le_of_ble_eq_true rfl⟩) rfl hl.1 rfl (Nat.le_of_ble_eq_true rfl) dL_law_1160 ⟨by show _ ≤ 1072; omega, by show _ ≤ 9025; omega⟩ hP hD hK hS hA [18, 19, 20, 21, 22, 23, 24, 25, 26, 27, 28, 29, 30, 31] [0, 1, 2, 3, 4, 5, 6, 7, 8, 9, 10, 11, 12, 13, 14, 15, 16, 17, 32] rfl rfl (by decide) (by decide) (by decide) [0, 1] rfl (q0 := 0) rfl rfl rfl eT_M (trivial) (fun r_7 u_8 H locs w_9 hP hD hS => ?_)
    obtain rfl := w_9
    have hP : va_P (dC, dI) vwCl (wZ qx qm cI cZ cJ ao u_2.1.1 u_2.1.2.1 u_2.1.2.2 (MS.s_th y 0) u_2.2) H := hP.sub [0, 1, 2, 3, 4, 5, 6, 7, 8, 9, 10, 11, 12, 13, 14, 15, 16, 17, 19, 20, 21, 22, 23, 24, 25, 26, 27, 28, 29, 30, 31, 32, 18] rfl
    have hD : va_D A (wZ qx qm cI cZ cJ ao u_2.1.1 u_2.1.2.1 u_2.1.2.2 (MS.s_th y 0) u_2.2) := hD.sub [0, 1, 2, 3, 4, 5, 6, 7, 8, 9, 10, 11, 12, 13, 14, 15, 16, 17, 19, 20, 21, 22, 23, 24, 25, 26, 27, 28, 29, 30, 31, 32, 18] (by decide) rfl
    refine xt_i (show nI (MS.th (MS.s_th y 0)) = nI 0 from congrArg nI (rfl)) ?_
    refine lv_iload hx hb dL_law_1163 (lv_at hl 1 rfl) ?_
    refine xn_ceq (tgt := 1170) hx hb (by omega) (by omega) dL_law_1165 (by decide) (fun c_10 => ?_) (fun c_10 => ?_)
    · refine lv_iload hx hb dL_law_1170 (lv_at hl 1 rfl) ?_
      refine xn_zne (tgt := 1187) hx hb (by omega) dL_law_1172 (by decide) (fun c_11 => ?_) (fun c_11 => ?_)
      · refine lv_goto (tgt := 1190) hx hb dL_law_1187 (by decide) ?_
        refine W.widen (k := ce + 1) (n := sl + 6) (by omega) (by omega) ?_
        exact hend u_2.1.1 u_2.1.2.1 u_2.1.2.2 (MS.s_th y 0) u_2.2 (by rw [hu1]; exact Rel_th hR 0) H locs hP hD hS ls (lv_sub hl [2, 3, 4, 5, 6] rfl)
        
      · refine lv_aload_n hx hb dL_law_1175 rfl (lv_at hl 3 rfl) ?_
        refine lv_iconst (v := nI 0) hx hb dL_law_1176 (by decide) ?_
        refine va_lald hx hb hK hP 32 2 rfl rfl (vp_in_nI (show 0 < 1 by decide) (by decide)) dL_law_1177 ?_
        refine xt_l (show u_2.2 (nI 0).toNatClampNeg = (nI (cntF r k a w0)).toInt64 from (congrArg u_2.2 (show (nI 0).toNatClampNeg = 0 by decide)).trans hu2) ?_
        refine lv_iload hx hb dL_law_1178 (lv_at hl 0 rfl) ?_
        refine lv_i2l hx hb dL_law_1180 rfl ?_
        refine W.lcmp hx hb dL_law_1181 ?_
        refine xt_i (show (lg_cmp ((nI (cntF r k a w0)).toInt64) ((nI (mCnt y w0)).toInt64)) = nI 0 from lg_eq (by rw [Rel_cnt hR])) ?_
        refine xn_zeq (tgt := 1187) hx hb (by omega) dL_law_1182 (by decide) (fun c_12 => ?_) (fun c_12 => ?_)
        · refine lv_goto (tgt := 1190) hx hb dL_law_1187 (by decide) ?_
          refine W.widen (k := ce + 1) (n := sl + 6) (by omega) (by omega) ?_
          exact hend u_2.1.1 u_2.1.2.1 u_2.1.2.2 (MS.s_th y 0) u_2.2 (by rw [hu1]; exact Rel_th hR 0) H locs hP hD hS ls (lv_sub hl [2, 3, 4, 5, 6] rfl)
          
        · exact absurd (show False by omega) id
    · exact absurd (show False by omega) id
