theorem tw_0 : (Cond.initialized "ScanRowsLaw") ∈ ALLG := al_t (i := 0) (by decide +kernel) (by decide +kernel)
theorem tw_141 : (Cond.methodLink "ScanRowsLaw" (99 : Nat) ({ cls := "ScanRows", name := "travel", desc := "()J" } : Jvm.MethodName)) ∈ ALLG := al_t (i := 141) (by decide +kernel) (by decide +kernel)
theorem tw_142 : (Cond.instanceMethod ({ cls := "ScanRows", name := "travel", desc := "()J" } : Jvm.MethodName)) ∈ ALLG := al_t (i := 142) (by decide +kernel) (by decide +kernel)
theorem tw_143 : (Cond.selects "ScanRows" ({ cls := "ScanRows", name := "travel", desc := "()J" } : Jvm.MethodName) ({ cls := "ScanRows", name := "travel", desc := "()J" } : Jvm.MethodName)) ∈ ALLG := al_t (i := 143) (by decide +kernel) (by decide +kernel)
theorem tw_144 : (Cond.code ({ cls := "ScanRows", name := "travel", desc := "()J" } : Jvm.MethodName) prog_1_method_6_code (1 : Nat) (Option.some FieldType.long)) ∈ ALLG := al_t (i := 144) (by decide +kernel) (by decide +kernel)
theorem tw_179 : (Cond.methodLink "ScanRowsLaw" (80 : Nat) ({ cls := "ScanRowsLaw", name := "latch", desc := "(LScanRows;IJJ[J)I" } : Jvm.MethodName)) ∈ ALLG := al_t (i := 179) (by decide +kernel) (by decide +kernel)
theorem tw_180 : (Cond.static ({ cls := "ScanRowsLaw", name := "latch", desc := "(LScanRows;IJJ[J)I" } : Jvm.MethodName)) ∈ ALLG := al_t (i := 180) (by decide +kernel) (by decide +kernel)
theorem tw_181 : (Cond.codeWith ({ cls := "ScanRowsLaw", name := "latch", desc := "(LScanRows;IJJ[J)I" } : Jvm.MethodName) method_3_code (8 : Nat) (Option.some FieldType.int) [((0 : Nat), (13 : Nat), (16 : Nat), (13 : Nat)), ((0 : Nat), (13 : Nat), (20 : Nat), (15 : Nat))]) ∈ ALLG := al_t (i := 181) (by decide +kernel) (by decide +kernel)
theorem tw_279 : (Cond.methodLink "ScanRowsLaw" (88 : Nat) ({ cls := "ScanRowsLaw", name := "make", desc := "(LScanRows;I[J)I" } : Jvm.MethodName)) ∈ ALLG := al_t (i := 279) (by decide +kernel) (by decide +kernel)
theorem tw_280 : (Cond.static ({ cls := "ScanRowsLaw", name := "make", desc := "(LScanRows;I[J)I" } : Jvm.MethodName)) ∈ ALLG := al_t (i := 280) (by decide +kernel) (by decide +kernel)
theorem tw_281 : (Cond.codeWith ({ cls := "ScanRowsLaw", name := "make", desc := "(LScanRows;I[J)I" } : Jvm.MethodName) method_4_code (4 : Nat) (Option.some FieldType.int) [((0 : Nat), (9 : Nat), (12 : Nat), (15 : Nat))]) ∈ ALLG := al_t (i := 281) (by decide +kernel) (by decide +kernel)
theorem tw_307 : (Cond.methodLink "ScanRowsLaw" (92 : Nat) ({ cls := "ScanRowsLaw", name := "at", desc := "(LScanRows;II[J)I" } : Jvm.MethodName)) ∈ ALLG := al_t (i := 307) (by decide +kernel) (by decide +kernel)
theorem tw_308 : (Cond.static ({ cls := "ScanRowsLaw", name := "at", desc := "(LScanRows;II[J)I" } : Jvm.MethodName)) ∈ ALLG := al_t (i := 308) (by decide +kernel) (by decide +kernel)
theorem tw_309 : (Cond.codeWith ({ cls := "ScanRowsLaw", name := "at", desc := "(LScanRows;II[J)I" } : Jvm.MethodName) method_5_code (5 : Nat) (Option.some FieldType.int) [((0 : Nat), (10 : Nat), (13 : Nat), (25 : Nat))]) ∈ ALLG := al_t (i := 309) (by decide +kernel) (by decide +kernel)
theorem tw_340 : (Cond.methodLink "ScanRowsLaw" (96 : Nat) ({ cls := "ScanRowsLaw", name := "lockUp", desc := "(LScanRows;II[J)I" } : Jvm.MethodName)) ∈ ALLG := al_t (i := 340) (by decide +kernel) (by decide +kernel)
theorem tw_341 : (Cond.static ({ cls := "ScanRowsLaw", name := "lockUp", desc := "(LScanRows;II[J)I" } : Jvm.MethodName)) ∈ ALLG := al_t (i := 341) (by decide +kernel) (by decide +kernel)
theorem tw_342 : (Cond.codeWith ({ cls := "ScanRowsLaw", name := "lockUp", desc := "(LScanRows;II[J)I" } : Jvm.MethodName) method_6_code (5 : Nat) (Option.some FieldType.int) [((0 : Nat), (17 : Nat), (20 : Nat), (25 : Nat))]) ∈ ALLG := al_t (i := 342) (by decide +kernel) (by decide +kernel)
theorem tw_351 : (Cond.methodLink "ScanRowsLaw" (104 : Nat) ({ cls := "ScanRowsLaw", name := "improve", desc := "(LScanRows;I[J)I" } : Jvm.MethodName)) ∈ ALLG := al_t (i := 351) (by decide +kernel) (by decide +kernel)
theorem tw_352 : (Cond.static ({ cls := "ScanRowsLaw", name := "improve", desc := "(LScanRows;I[J)I" } : Jvm.MethodName)) ∈ ALLG := al_t (i := 352) (by decide +kernel) (by decide +kernel)
theorem tw_353 : (Cond.codeWith ({ cls := "ScanRowsLaw", name := "improve", desc := "(LScanRows;I[J)I" } : Jvm.MethodName) method_7_code (4 : Nat) (Option.some FieldType.int) [((0 : Nat), (9 : Nat), (12 : Nat), (15 : Nat))]) ∈ ALLG := al_t (i := 353) (by decide +kernel) (by decide +kernel)
theorem tw_383 : (Cond.methodLink "ScanRowsLaw" (107 : Nat) ({ cls := "ScanRowsLaw", name := "rule", desc := "(LScanRows;II[J)I" } : Jvm.MethodName)) ∈ ALLG := al_t (i := 383) (by decide +kernel) (by decide +kernel)
theorem tw_384 : (Cond.static ({ cls := "ScanRowsLaw", name := "rule", desc := "(LScanRows;II[J)I" } : Jvm.MethodName)) ∈ ALLG := al_t (i := 384) (by decide +kernel) (by decide +kernel)
theorem tw_385 : (Cond.codeWith ({ cls := "ScanRowsLaw", name := "rule", desc := "(LScanRows;II[J)I" } : Jvm.MethodName) method_8_code (5 : Nat) (Option.some FieldType.int) [((0 : Nat), (10 : Nat), (13 : Nat), (25 : Nat))]) ∈ ALLG := al_t (i := 385) (by decide +kernel) (by decide +kernel)
theorem tw_642 : (Cond.methodLink "ScanRowsLaw" (84 : Nat) ({ cls := "ScanRowsModel", name := "thrown", desc := "()I" } : Jvm.MethodName)) ∈ ALLG := al_t (i := 642) (by decide +kernel) (by decide +kernel)
theorem tw_643 : (Cond.instanceMethod ({ cls := "ScanRowsModel", name := "thrown", desc := "()I" } : Jvm.MethodName)) ∈ ALLG := al_t (i := 643) (by decide +kernel) (by decide +kernel)
theorem tw_644 : (Cond.selects "ScanRowsModel" ({ cls := "ScanRowsModel", name := "thrown", desc := "()I" } : Jvm.MethodName) ({ cls := "ScanRowsModel", name := "thrown", desc := "()I" } : Jvm.MethodName)) ∈ ALLG := al_t (i := 644) (by decide +kernel) (by decide +kernel)
theorem tw_645 : (Cond.code ({ cls := "ScanRowsModel", name := "thrown", desc := "()I" } : Jvm.MethodName) prog_6_method_2_code (1 : Nat) (Option.some FieldType.int)) ∈ ALLG := al_t (i := 645) (by decide +kernel) (by decide +kernel)
theorem tw_646 : (Cond.methodLink "ScanRowsLaw" (83 : Nat) ({ cls := "ScanRowsModel", name := "latch", desc := "(IJJ)I" } : Jvm.MethodName)) ∈ ALLG := al_t (i := 646) (by decide +kernel) (by decide +kernel)
theorem tw_647 : (Cond.instanceMethod ({ cls := "ScanRowsModel", name := "latch", desc := "(IJJ)I" } : Jvm.MethodName)) ∈ ALLG := al_t (i := 647) (by decide +kernel) (by decide +kernel)
theorem tw_648 : (Cond.selects "ScanRowsModel" ({ cls := "ScanRowsModel", name := "latch", desc := "(IJJ)I" } : Jvm.MethodName) ({ cls := "ScanRowsModel", name := "latch", desc := "(IJJ)I" } : Jvm.MethodName)) ∈ ALLG := al_t (i := 648) (by decide +kernel) (by decide +kernel)
theorem tw_649 : (Cond.code ({ cls := "ScanRowsModel", name := "latch", desc := "(IJJ)I" } : Jvm.MethodName) prog_6_method_6_code (7 : Nat) (Option.some FieldType.int)) ∈ ALLG := al_t (i := 649) (by decide +kernel) (by decide +kernel)
theorem tw_652 : (Cond.methodLink "ScanRowsLaw" (91 : Nat) ({ cls := "ScanRowsModel", name := "make", desc := "(I)I" } : Jvm.MethodName)) ∈ ALLG := al_t (i := 652) (by decide +kernel) (by decide +kernel)
theorem tw_653 : (Cond.instanceMethod ({ cls := "ScanRowsModel", name := "make", desc := "(I)I" } : Jvm.MethodName)) ∈ ALLG := al_t (i := 653) (by decide +kernel) (by decide +kernel)
theorem tw_654 : (Cond.selects "ScanRowsModel" ({ cls := "ScanRowsModel", name := "make", desc := "(I)I" } : Jvm.MethodName) ({ cls := "ScanRowsModel", name := "make", desc := "(I)I" } : Jvm.MethodName)) ∈ ALLG := al_t (i := 654) (by decide +kernel) (by decide +kernel)
theorem tw_655 : (Cond.code ({ cls := "ScanRowsModel", name := "make", desc := "(I)I" } : Jvm.MethodName) prog_6_method_8_code (5 : Nat) (Option.some FieldType.int)) ∈ ALLG := al_t (i := 655) (by decide +kernel) (by decide +kernel)
theorem tw_660 : (Cond.methodLink "ScanRowsLaw" (95 : Nat) ({ cls := "ScanRowsModel", name := "at", desc := "(II)I" } : Jvm.MethodName)) ∈ ALLG := al_t (i := 660) (by decide +kernel) (by decide +kernel)
theorem tw_661 : (Cond.instanceMethod ({ cls := "ScanRowsModel", name := "at", desc := "(II)I" } : Jvm.MethodName)) ∈ ALLG := al_t (i := 661) (by decide +kernel) (by decide +kernel)
theorem tw_662 : (Cond.selects "ScanRowsModel" ({ cls := "ScanRowsModel", name := "at", desc := "(II)I" } : Jvm.MethodName) ({ cls := "ScanRowsModel", name := "at", desc := "(II)I" } : Jvm.MethodName)) ∈ ALLG := al_t (i := 662) (by decide +kernel) (by decide +kernel)
theorem tw_663 : (Cond.code ({ cls := "ScanRowsModel", name := "at", desc := "(II)I" } : Jvm.MethodName) prog_6_method_9_code (3 : Nat) (Option.some FieldType.int)) ∈ ALLG := al_t (i := 663) (by decide +kernel) (by decide +kernel)
theorem tw_668 : (Cond.methodLink "ScanRowsLaw" (98 : Nat) ({ cls := "ScanRowsModel", name := "lockUp", desc := "(II)Z" } : Jvm.MethodName)) ∈ ALLG := al_t (i := 668) (by decide +kernel) (by decide +kernel)
theorem tw_669 : (Cond.instanceMethod ({ cls := "ScanRowsModel", name := "lockUp", desc := "(II)Z" } : Jvm.MethodName)) ∈ ALLG := al_t (i := 669) (by decide +kernel) (by decide +kernel)
theorem tw_670 : (Cond.selects "ScanRowsModel" ({ cls := "ScanRowsModel", name := "lockUp", desc := "(II)Z" } : Jvm.MethodName) ({ cls := "ScanRowsModel", name := "lockUp", desc := "(II)Z" } : Jvm.MethodName)) ∈ ALLG := al_t (i := 670) (by decide +kernel) (by decide +kernel)
theorem tw_671 : (Cond.code ({ cls := "ScanRowsModel", name := "lockUp", desc := "(II)Z" } : Jvm.MethodName) prog_6_method_10_code (4 : Nat) (Option.some FieldType.boolean)) ∈ ALLG := al_t (i := 671) (by decide +kernel) (by decide +kernel)
theorem tw_672 : (Cond.methodLink "ScanRowsLaw" (103 : Nat) ({ cls := "ScanRowsModel", name := "travel", desc := "()J" } : Jvm.MethodName)) ∈ ALLG := al_t (i := 672) (by decide +kernel) (by decide +kernel)
theorem tw_673 : (Cond.instanceMethod ({ cls := "ScanRowsModel", name := "travel", desc := "()J" } : Jvm.MethodName)) ∈ ALLG := al_t (i := 673) (by decide +kernel) (by decide +kernel)
theorem tw_674 : (Cond.selects "ScanRowsModel" ({ cls := "ScanRowsModel", name := "travel", desc := "()J" } : Jvm.MethodName) ({ cls := "ScanRowsModel", name := "travel", desc := "()J" } : Jvm.MethodName)) ∈ ALLG := al_t (i := 674) (by decide +kernel) (by decide +kernel)
theorem tw_675 : (Cond.code ({ cls := "ScanRowsModel", name := "travel", desc := "()J" } : Jvm.MethodName) prog_6_method_13_code (1 : Nat) (Option.some FieldType.long)) ∈ ALLG := al_t (i := 675) (by decide +kernel) (by decide +kernel)
theorem tw_683 : (Cond.methodLink "ScanRowsLaw" (106 : Nat) ({ cls := "ScanRowsModel", name := "improve", desc := "(I)I" } : Jvm.MethodName)) ∈ ALLG := al_t (i := 683) (by decide +kernel) (by decide +kernel)
theorem tw_684 : (Cond.instanceMethod ({ cls := "ScanRowsModel", name := "improve", desc := "(I)I" } : Jvm.MethodName)) ∈ ALLG := al_t (i := 684) (by decide +kernel) (by decide +kernel)
theorem tw_685 : (Cond.selects "ScanRowsModel" ({ cls := "ScanRowsModel", name := "improve", desc := "(I)I" } : Jvm.MethodName) ({ cls := "ScanRowsModel", name := "improve", desc := "(I)I" } : Jvm.MethodName)) ∈ ALLG := al_t (i := 685) (by decide +kernel) (by decide +kernel)
theorem tw_686 : (Cond.code ({ cls := "ScanRowsModel", name := "improve", desc := "(I)I" } : Jvm.MethodName) prog_6_method_17_code (4 : Nat) (Option.some FieldType.int)) ∈ ALLG := al_t (i := 686) (by decide +kernel) (by decide +kernel)
theorem tw_699 : (Cond.methodLink "ScanRowsLaw" (109 : Nat) ({ cls := "ScanRowsModel", name := "rule", desc := "(II)I" } : Jvm.MethodName)) ∈ ALLG := al_t (i := 699) (by decide +kernel) (by decide +kernel)
theorem tw_700 : (Cond.instanceMethod ({ cls := "ScanRowsModel", name := "rule", desc := "(II)I" } : Jvm.MethodName)) ∈ ALLG := al_t (i := 700) (by decide +kernel) (by decide +kernel)
theorem tw_701 : (Cond.selects "ScanRowsModel" ({ cls := "ScanRowsModel", name := "rule", desc := "(II)I" } : Jvm.MethodName) ({ cls := "ScanRowsModel", name := "rule", desc := "(II)I" } : Jvm.MethodName)) ∈ ALLG := al_t (i := 701) (by decide +kernel) (by decide +kernel)
theorem tw_702 : (Cond.code ({ cls := "ScanRowsModel", name := "rule", desc := "(II)I" } : Jvm.MethodName) prog_6_method_18_code (7 : Nat) (Option.some FieldType.int)) ∈ ALLG := al_t (i := 702) (by decide +kernel) (by decide +kernel)
theorem tw_778 : (Cond.constantLong "ScanRowsLaw" (78 : Nat) (4294967295 : Int64)) ∈ ALLG := al_t (i := 778) (by decide +kernel) (by decide +kernel)
set_option maxHeartbeats 4000000 in
set_option maxRecDepth 100000 in
theorem op_latch {p : Program} {e : Env} {s : State} {m : MethodId} {below : List Frame} {meth : Method} {c : Code} (l : Launch) (hl0 : l.stackTraces = false) {b L : Nat} {xs : Nat → Int32} (hL : L ≤ 3073) (C0 : lw_At p s m meth c b L xs) (A : Nat → Prop) (hA : ∀ q : Nat, s.heap.size ≤ q → A q) (hbA : ¬ A b) (dC : Nat → ClassId) (dI : Nat → Nat → Nat) (qx qm : Nat → Nat) (cI cZ cJ : ClassId) (ao tN : Nat) (hK : va_K (dC, dI) vwCl [(cI, .int), (cZ, .boolean), (cJ, .long)] s) (hE : eX tN A s s.heap) (i : Nat) (hi : i + 5 < L) (ce sl : Nat) (hce : ce + 1 ≤ 1072) (hsl : sl + 6 ≤ 9025) (r : RS) (k : CS) (a : AS) (y : MS) (o : OS) (hR : Rel r k a y) (H : Heap) (locs : List Loc) (hP : va_P (dC, dI) vwCl (wZ qx qm cI cZ cJ ao r k a y o) H) (hD : va_D A (wZ qx qm cI cZ cJ ao r k a y o)) (hS : va_S A s.heap H locs) (ls : Array Slot) (hl : lv_has ls 7 [(4, .int (nI i)), (3, .ref ao), (2, .ref (qm 0)), (1, .ref (qx 17)), (0, .ref b)]) (hend : ∀ (r : RS) (k : CS) (a : AS) (y : MS) (o : OS), Rel r k a y → ∀ (H : Heap) (locs : List Loc), va_P (dC, dI) vwCl (wZ qx qm cI cZ cJ ao r k a y o) H → va_D A (wZ qx qm cI cZ cJ ao r k a y o) → va_S A s.heap H locs → ∀ ls : Array Slot, lv_has ls 7 [(4, .int (nI i)), (3, .ref ao), (2, .ref (qm 0)), (1, .ref (qx 17)), (0, .ref b)] → W p l e room_1 s m #[Value.ref b] below meth c H locs (ce + 1) (sl + 6) (lw_Z below #[Value.ref b] s) (F0 m 1190 ls [])) : W p l e room_1 s m #[Value.ref b] below meth c H locs (ce) (sl) (lw_Z below #[Value.ref b] s) (F0 m 136 ls []) := by
  obtain ⟨hx, hb, hr, hml, hown, hts0, hX, hbl, hlocks, hgv⟩ := id C0
  have hown : s.vm.findClass "ScanRowsLaw" = some m.cls := hown
  have hts : ∀ w ∈ ALLG, w.before #[Value.ref b] s = true := fun w h => hts0 w (List.mem_filter.mp h).1
  have b_n : r.n ≤ 32 := hR.1.1.1
  have b_c : r.c ≤ 8 := hR.1.1.2.1
  have b_p : r.p ≤ r.n := hR.1.1.2.2.1
  have k_n : k.n ≤ 20 := hR.1.2.1.1
  have hB : RB r := hR.1.1
  have hM : MB y := hR.2.1
  have hmo : mono y := Rel_mono hR
  have hC : RC r := PI_RC hR.2.2.1
  have e_n : y.n = r.n := hR.2.2.2.2.1.1
  have e_c : y.c = r.c := hR.2.2.2.2.1.2.1
  have e_p : y.p = r.p := hR.2.2.2.2.1.2.2.1
  have e_vb : y.vb = r.vb := hR.2.2.2.2.1.2.2.2.1
  have e_fl : y.fl = r.fl := hR.2.2.2.2.1.2.2.2.2.2.2.2.1
  have e_st : y.st = r.st := hR.2.2.2.2.1.2.2.2.2.2.2.2.2.2
  have e_k : toK y = k := hR.2.2.2.2.2.1
  have e_cn : y.cn = k.n := congrArg CS.n e_k
  have e_co : y.co = a.co := hR.2.2.2.2.2.2.2.1
  have a_co : a.co < 16 := hR.1.2.2.2.1
  have e_sa : y.sa = a.st := hR.2.2.2.2.2.2.1
  rcases la_cs (xs (i + 1)) (((xs (i + 2)).toInt64 <<< ((nI 32).toInt64 &&& 63)) ||| ((xs (i + 3)).toInt64 &&& (4294967295 : Int64))) (((xs (i + 4)).toInt64 <<< ((nI 32).toInt64 &&& 63)) ||| ((xs (i + 5)).toInt64 &&& (4294967295 : Int64))) b_n with h1 | ⟨h1, h2⟩ | ⟨h1, ck, xx, yy, h2, h3, h4, e1, e2, e3⟩
  · refine lv_aload_n hx hb dL_law_136 rfl (lv_at hl 3 rfl) ?_
    refine lv_aload_n hx hb dL_law_137 rfl (lv_at hl 4 rfl) ?_
    refine lv_iload hx hb dL_law_138 (lv_at hl 0 rfl) ?_
    refine lv_iconst (v := nI 1) hx hb dL_law_140 (by decide) ?_
    refine xn_add hx hb dL_law_141 ?_
    refine va_sld hx hb hX hbl hbA hS (vp_in_nI (show i + 1 < L by omega) (by omega)) dL_law_142 ?_
    refine xt_i (show xs (nI (i + 1)).toNatClampNeg = (xs (i + 1)) from (congrArg xs (nI_clamp (by omega))).trans (rfl)) ?_
    refine lv_aload_n hx hb dL_law_143 rfl (lv_at hl 4 rfl) ?_
    refine lv_iload hx hb dL_law_144 (lv_at hl 0 rfl) ?_
    refine lv_iconst (v := nI 2) hx hb dL_law_146 (by decide) ?_
    refine xn_add hx hb dL_law_147 ?_
    refine va_sld hx hb hX hbl hbA hS (vp_in_nI (show i + 2 < L by omega) (by omega)) dL_law_148 ?_
    refine xt_i (show xs (nI (i + 2)).toNatClampNeg = (xs (i + 2)) from (congrArg xs (nI_clamp (by omega))).trans (rfl)) ?_
    refine lv_i2l hx hb dL_law_149 rfl ?_
    refine lv_bipush (v := nI 32) hx hb dL_law_150 (by decide) ?_
    refine lv_lshl hx hb dL_law_152 rfl ?_
    refine lv_aload_n hx hb dL_law_153 rfl (lv_at hl 4 rfl) ?_
    refine lv_iload hx hb dL_law_154 (lv_at hl 0 rfl) ?_
    refine lv_iconst (v := nI 3) hx hb dL_law_156 (by decide) ?_
    refine xn_add hx hb dL_law_157 ?_
    refine va_sld hx hb hX hbl hbA hS (vp_in_nI (show i + 3 < L by omega) (by omega)) dL_law_158 ?_
    refine xt_i (show xs (nI (i + 3)).toNatClampNeg = (xs (i + 3)) from (congrArg xs (nI_clamp (by omega))).trans (rfl)) ?_
    refine lv_i2l hx hb dL_law_159 rfl ?_
    refine lv_ldc2 (v := (4294967295 : Int64)) hx hb hown (hts _ tw_778) dL_law_160 ?_
    refine lv_land hx hb dL_law_163 ?_
    refine lv_lor hx hb dL_law_164 ?_
    refine lv_aload_n hx hb dL_law_165 rfl (lv_at hl 4 rfl) ?_
    refine lv_iload hx hb dL_law_166 (lv_at hl 0 rfl) ?_
    refine lv_iconst (v := nI 4) hx hb dL_law_168 (by decide) ?_
    refine xn_add hx hb dL_law_169 ?_
    refine va_sld hx hb hX hbl hbA hS (vp_in_nI (show i + 4 < L by omega) (by omega)) dL_law_170 ?_
    refine xt_i (show xs (nI (i + 4)).toNatClampNeg = (xs (i + 4)) from (congrArg xs (nI_clamp (by omega))).trans (rfl)) ?_
    refine lv_i2l hx hb dL_law_171 rfl ?_
    refine lv_bipush (v := nI 32) hx hb dL_law_172 (by decide) ?_
    refine lv_lshl hx hb dL_law_174 rfl ?_
    refine lv_aload_n hx hb dL_law_175 rfl (lv_at hl 4 rfl) ?_
    refine lv_iload hx hb dL_law_176 (lv_at hl 0 rfl) ?_
    refine lv_iconst (v := nI 5) hx hb dL_law_178 (by decide) ?_
    refine xn_add hx hb dL_law_179 ?_
    refine va_sld hx hb hX hbl hbA hS (vp_in_nI (show i + 5 < L by omega) (by omega)) dL_law_180 ?_
    refine xt_i (show xs (nI (i + 5)).toNatClampNeg = (xs (i + 5)) from (congrArg xs (nI_clamp (by omega))).trans (rfl)) ?_
    refine lv_i2l hx hb dL_law_181 rfl ?_
    refine lv_ldc2 (v := (4294967295 : Int64)) hx hb hown (hts _ tw_778) dL_law_182 ?_
    refine lv_land hx hb dL_law_185 ?_
    refine lv_lor hx hb dL_law_186 ?_
    refine lv_aload_n hx hb dL_law_187 rfl (lv_at hl 1 rfl) ?_
    refine xw_Si (As := [.ref (qx 17), .int (xs (i + 1)), .long ((((xs (i + 2)).toInt64) <<< ((nI 32).toInt64 &&& 63)) ||| (((xs (i + 3)).toInt64) &&& (4294967295 : Int64))), .long ((((xs (i + 4)).toInt64) <<< ((nI 32).toInt64 &&& 63)) ||| (((xs (i + 5)).toInt64) &&& (4294967295 : Int64))), .ref ao]) (wr := wM qm cI cZ y) ⟨hx, hb, hml, hown, hts⟩ (hx_latch1 l hl0 dC dI qx cI cZ cJ ao H.size r k a o tN _ _ _ h1) (vx_cwSW 5 hts (gSW tw_179 tw_180 tw_0 tw_181) rfl rfl rfl (by decide +kernel) ⟨Nat.le_of_ble_eq_true rfl, Nat.le_of_ble_eq_true rfl⟩) rfl hl.1 rfl (Nat.le_of_ble_eq_true rfl) dL_law_188 ⟨by show ce + 1 ≤ 1072; omega, by show sl + 6 ≤ 9025; omega⟩ hP hD hK hS hA [0, 1, 2, 3, 4, 5, 6, 7, 8, 9, 10, 11, 12, 13, 14, 15, 16, 17, 32] [18, 19, 20, 21, 22, 23, 24, 25, 26, 27, 28, 29, 30, 31] rfl rfl (by decide) (by decide) (by decide) [0, 1, 2] rfl (eX_W _ _) (eX_kn hE hS (va_free (wc := wH qx cI cZ cJ ao r k a o) hD hS hA [0, 1, 2, 3, 4, 5, 6, 7, 8, 9, 10, 11, 12, 13, 14, 15, 16, 17, 32] rfl)) (fun r_1 u_2 H locs w_3 hP hD hS => ?_)
    obtain ⟨rfl, rfl⟩ := w_3
    have hP : va_P (dC, dI) vwCl (wZ qx qm cI cZ cJ ao r k a y o) H := hP.sub [14, 15, 16, 17, 18, 19, 20, 21, 22, 23, 24, 25, 26, 27, 28, 29, 30, 31, 0, 1, 2, 3, 4, 5, 6, 7, 8, 9, 10, 11, 12, 13, 32] rfl
    have hD : va_D A (wZ qx qm cI cZ cJ ao r k a y o) := hD.sub [14, 15, 16, 17, 18, 19, 20, 21, 22, 23, 24, 25, 26, 27, 28, 29, 30, 31, 0, 1, 2, 3, 4, 5, 6, 7, 8, 9, 10, 11, 12, 13, 32] (by decide) rfl
    refine lv_istore (lv' := [(5, .int (nI 1)), (4, .int (nI i)), (3, .ref ao), (2, .ref (qm 0)), (1, .ref (qx 17)), (0, .ref b)]) hx hb dL_law_191 hl (by decide) rfl (fun ls hl => ?_)
    refine lv_aload_n hx hb dL_law_193 rfl (lv_at hl 3 rfl) ?_
    refine lv_aload_n hx hb dL_law_194 rfl (lv_at hl 5 rfl) ?_
    refine lv_iload hx hb dL_law_195 (lv_at hl 1 rfl) ?_
    refine lv_iconst (v := nI 1) hx hb dL_law_197 (by decide) ?_
    refine xn_add hx hb dL_law_198 ?_
    refine va_sld hx hb hX hbl hbA hS (vp_in_nI (show i + 1 < L by omega) (by omega)) dL_law_199 ?_
    refine xt_i (show xs (nI (i + 1)).toNatClampNeg = (xs (i + 1)) from (congrArg xs (nI_clamp (by omega))).trans (rfl)) ?_
    refine lv_aload_n hx hb dL_law_200 rfl (lv_at hl 5 rfl) ?_
    refine lv_iload hx hb dL_law_201 (lv_at hl 1 rfl) ?_
    refine lv_iconst (v := nI 2) hx hb dL_law_203 (by decide) ?_
    refine xn_add hx hb dL_law_204 ?_
    refine va_sld hx hb hX hbl hbA hS (vp_in_nI (show i + 2 < L by omega) (by omega)) dL_law_205 ?_
    refine xt_i (show xs (nI (i + 2)).toNatClampNeg = (xs (i + 2)) from (congrArg xs (nI_clamp (by omega))).trans (rfl)) ?_
    refine lv_i2l hx hb dL_law_206 rfl ?_
    refine lv_bipush (v := nI 32) hx hb dL_law_207 (by decide) ?_
    refine lv_lshl hx hb dL_law_209 rfl ?_
    refine lv_aload_n hx hb dL_law_210 rfl (lv_at hl 5 rfl) ?_
    refine lv_iload hx hb dL_law_211 (lv_at hl 1 rfl) ?_
    refine lv_iconst (v := nI 3) hx hb dL_law_213 (by decide) ?_
    refine xn_add hx hb dL_law_214 ?_
    refine va_sld hx hb hX hbl hbA hS (vp_in_nI (show i + 3 < L by omega) (by omega)) dL_law_215 ?_
    refine xt_i (show xs (nI (i + 3)).toNatClampNeg = (xs (i + 3)) from (congrArg xs (nI_clamp (by omega))).trans (rfl)) ?_
    refine lv_i2l hx hb dL_law_216 rfl ?_
    refine lv_ldc2 (v := (4294967295 : Int64)) hx hb hown (hts _ tw_778) dL_law_217 ?_
    refine lv_land hx hb dL_law_220 ?_
    refine lv_lor hx hb dL_law_221 ?_
    refine lv_aload_n hx hb dL_law_222 rfl (lv_at hl 5 rfl) ?_
    refine lv_iload hx hb dL_law_223 (lv_at hl 1 rfl) ?_
    refine lv_iconst (v := nI 4) hx hb dL_law_225 (by decide) ?_
    refine xn_add hx hb dL_law_226 ?_
    refine va_sld hx hb hX hbl hbA hS (vp_in_nI (show i + 4 < L by omega) (by omega)) dL_law_227 ?_
    refine xt_i (show xs (nI (i + 4)).toNatClampNeg = (xs (i + 4)) from (congrArg xs (nI_clamp (by omega))).trans (rfl)) ?_
    refine lv_i2l hx hb dL_law_228 rfl ?_
    refine lv_bipush (v := nI 32) hx hb dL_law_229 (by decide) ?_
    refine lv_lshl hx hb dL_law_231 rfl ?_
    refine lv_aload_n hx hb dL_law_232 rfl (lv_at hl 5 rfl) ?_
    refine lv_iload hx hb dL_law_233 (lv_at hl 1 rfl) ?_
    refine lv_iconst (v := nI 5) hx hb dL_law_235 (by decide) ?_
    refine xn_add hx hb dL_law_236 ?_
    refine va_sld hx hb hX hbl hbA hS (vp_in_nI (show i + 5 < L by omega) (by omega)) dL_law_237 ?_
    refine xt_i (show xs (nI (i + 5)).toNatClampNeg = (xs (i + 5)) from (congrArg xs (nI_clamp (by omega))).trans (rfl)) ?_
    refine lv_i2l hx hb dL_law_238 rfl ?_
    refine lv_ldc2 (v := (4294967295 : Int64)) hx hb hown (hts _ tw_778) dL_law_239 ?_
    refine lv_land hx hb dL_law_242 ?_
    refine lv_lor hx hb dL_law_243 ?_
    refine xc_Vi (As := [.int (xs (i + 1)), .long ((((xs (i + 2)).toInt64) <<< ((nI 32).toInt64 &&& 63)) ||| (((xs (i + 3)).toInt64) &&& (4294967295 : Int64))), .long ((((xs (i + 4)).toInt64) <<< ((nI 32).toInt64 &&& 63)) ||| (((xs (i + 5)).toInt64) &&& (4294967295 : Int64)))]) (wr := wX qx cI cZ r k a ++ wO cJ ao o) ⟨hx, hb, hml, hown, hts⟩ (c_M_latch1 l dC dI qm cI cZ H.size y _ _ _ (by omega)) (cwV 3 hts (gV tw_646 tw_647 tw_648 tw_5 tw_649) rfl rfl rfl (by decide +kernel) ⟨Nat.le_of_ble_eq_true rfl, Nat.le_of_ble_eq_true rfl⟩) rfl hl.1 rfl (Nat.le_of_ble_eq_true rfl) dL_law_244 ⟨by show _ ≤ 1072; omega, by show _ ≤ 9025; omega⟩ hP hD hK hS hA [18, 19, 20, 21, 22, 23, 24, 25, 26, 27, 28, 29, 30, 31] [0, 1, 2, 3, 4, 5, 6, 7, 8, 9, 10, 11, 12, 13, 14, 15, 16, 17, 32] rfl rfl (by decide) (by decide) (by decide) [0, 1] rfl (q0 := 0) rfl rfl rfl eT_M (trivial) (fun r_4 u_5 H locs w_6 hP hD hS => ?_)
    obtain ⟨rfl, rfl⟩ := w_6
    have hP : va_P (dC, dI) vwCl (wZ qx qm cI cZ cJ ao r k a (MS.s_th y 1) o) H := hP.sub [0, 1, 2, 3, 4, 5, 6, 7, 8, 9, 10, 11, 12, 13, 14, 15, 16, 17, 19, 20, 21, 22, 23, 24, 25, 26, 27, 28, 29, 30, 31, 32, 18] rfl
    have hD : va_D A (wZ qx qm cI cZ cJ ao r k a (MS.s_th y 1) o) := hD.sub [0, 1, 2, 3, 4, 5, 6, 7, 8, 9, 10, 11, 12, 13, 14, 15, 16, 17, 19, 20, 21, 22, 23, 24, 25, 26, 27, 28, 29, 30, 31, 32, 18] (by decide) rfl
    refine lv_istore (lv' := [(6, .int (nI 0)), (5, .int (nI 1)), (4, .int (nI i)), (3, .ref ao), (2, .ref (qm 0)), (1, .ref (qx 17)), (0, .ref b)]) hx hb dL_law_247 hl (by decide) rfl (fun ls hl => ?_)
    refine lv_aload_n hx hb dL_law_249 rfl (lv_at hl 4 rfl) ?_
    refine xc_Vi (As := []) (wr := wX qx cI cZ r k a ++ wO cJ ao o) ⟨hx, hb, hml, hown, hts⟩ (c_ScanRowsModel_thrown l dC dI qm cI cZ H.size (MS.s_th y 1)) (cwV 0 hts (gV tw_642 tw_643 tw_644 tw_5 tw_645) rfl rfl rfl (by decide +kernel) ⟨Nat.le_of_ble_eq_true rfl, Nat.le_of_ble_eq_true rfl⟩) rfl hl.1 rfl (Nat.le_of_ble_eq_true rfl) dL_law_250 ⟨by show _ ≤ 1072; omega, by show _ ≤ 9025; omega⟩ hP hD hK hS hA [18, 19, 20, 21, 22, 23, 24, 25, 26, 27, 28, 29, 30, 31] [0, 1, 2, 3, 4, 5, 6, 7, 8, 9, 10, 11, 12, 13, 14, 15, 16, 17, 32] rfl rfl (by decide) (by decide) (by decide) [0, 1] rfl (q0 := 0) rfl rfl rfl eT_M (trivial) (fun r_7 u_8 H locs w_9 hP hD hS => ?_)
    obtain rfl := w_9
    have hP : va_P (dC, dI) vwCl (wZ qx qm cI cZ cJ ao r k a (MS.s_th y 1) o) H := hP.sub [0, 1, 2, 3, 4, 5, 6, 7, 8, 9, 10, 11, 12, 13, 14, 15, 16, 17, 19, 20, 21, 22, 23, 24, 25, 26, 27, 28, 29, 30, 31, 32, 18] rfl
    have hD : va_D A (wZ qx qm cI cZ cJ ao r k a (MS.s_th y 1) o) := hD.sub [0, 1, 2, 3, 4, 5, 6, 7, 8, 9, 10, 11, 12, 13, 14, 15, 16, 17, 19, 20, 21, 22, 23, 24, 25, 26, 27, 28, 29, 30, 31, 32, 18] (by decide) rfl
    refine xt_i (show nI (MS.th (MS.s_th y 1)) = nI 1 from congrArg nI (rfl)) ?_
    refine lv_iload hx hb dL_law_253 (lv_at hl 1 rfl) ?_
    refine xn_ceq (tgt := 260) hx hb (by omega) (by omega) dL_law_255 (by decide) (fun c_10 => ?_) (fun c_10 => ?_)
    · refine lv_iload hx hb dL_law_260 (lv_at hl 1 rfl) ?_
      refine xn_zne (tgt := 277) hx hb (by omega) dL_law_262 (by decide) (fun c_11 => ?_) (fun c_11 => ?_)
      · refine lv_goto (tgt := 1190) hx hb dL_law_277 (by decide) ?_
        refine W.widen (k := ce + 1) (n := sl + 6) (by omega) (by omega) ?_
        exact hend r k a (MS.s_th y 1) o (Rel_th hR 1) H locs hP hD hS ls (lv_sub hl [2, 3, 4, 5, 6] rfl)
        
      · exact absurd (show False by omega) id
    · exact absurd (show False by omega) id
  · refine lv_aload_n hx hb dL_law_136 rfl (lv_at hl 3 rfl) ?_
    refine lv_aload_n hx hb dL_law_137 rfl (lv_at hl 4 rfl) ?_
    refine lv_iload hx hb dL_law_138 (lv_at hl 0 rfl) ?_
    refine lv_iconst (v := nI 1) hx hb dL_law_140 (by decide) ?_
    refine xn_add hx hb dL_law_141 ?_
    refine va_sld hx hb hX hbl hbA hS (vp_in_nI (show i + 1 < L by omega) (by omega)) dL_law_142 ?_
    refine xt_i (show xs (nI (i + 1)).toNatClampNeg = (xs (i + 1)) from (congrArg xs (nI_clamp (by omega))).trans (rfl)) ?_
    refine lv_aload_n hx hb dL_law_143 rfl (lv_at hl 4 rfl) ?_
    refine lv_iload hx hb dL_law_144 (lv_at hl 0 rfl) ?_
    refine lv_iconst (v := nI 2) hx hb dL_law_146 (by decide) ?_
    refine xn_add hx hb dL_law_147 ?_
    refine va_sld hx hb hX hbl hbA hS (vp_in_nI (show i + 2 < L by omega) (by omega)) dL_law_148 ?_
    refine xt_i (show xs (nI (i + 2)).toNatClampNeg = (xs (i + 2)) from (congrArg xs (nI_clamp (by omega))).trans (rfl)) ?_
    refine lv_i2l hx hb dL_law_149 rfl ?_
    refine lv_bipush (v := nI 32) hx hb dL_law_150 (by decide) ?_
    refine lv_lshl hx hb dL_law_152 rfl ?_
    refine lv_aload_n hx hb dL_law_153 rfl (lv_at hl 4 rfl) ?_
    refine lv_iload hx hb dL_law_154 (lv_at hl 0 rfl) ?_
    refine lv_iconst (v := nI 3) hx hb dL_law_156 (by decide) ?_
    refine xn_add hx hb dL_law_157 ?_
    refine va_sld hx hb hX hbl hbA hS (vp_in_nI (show i + 3 < L by omega) (by omega)) dL_law_158 ?_
    refine xt_i (show xs (nI (i + 3)).toNatClampNeg = (xs (i + 3)) from (congrArg xs (nI_clamp (by omega))).trans (rfl)) ?_
    refine lv_i2l hx hb dL_law_159 rfl ?_
    refine lv_ldc2 (v := (4294967295 : Int64)) hx hb hown (hts _ tw_778) dL_law_160 ?_
    refine lv_land hx hb dL_law_163 ?_
    refine lv_lor hx hb dL_law_164 ?_
    refine lv_aload_n hx hb dL_law_165 rfl (lv_at hl 4 rfl) ?_
    refine lv_iload hx hb dL_law_166 (lv_at hl 0 rfl) ?_
    refine lv_iconst (v := nI 4) hx hb dL_law_168 (by decide) ?_
    refine xn_add hx hb dL_law_169 ?_
    refine va_sld hx hb hX hbl hbA hS (vp_in_nI (show i + 4 < L by omega) (by omega)) dL_law_170 ?_
    refine xt_i (show xs (nI (i + 4)).toNatClampNeg = (xs (i + 4)) from (congrArg xs (nI_clamp (by omega))).trans (rfl)) ?_
    refine lv_i2l hx hb dL_law_171 rfl ?_
    refine lv_bipush (v := nI 32) hx hb dL_law_172 (by decide) ?_
    refine lv_lshl hx hb dL_law_174 rfl ?_
    refine lv_aload_n hx hb dL_law_175 rfl (lv_at hl 4 rfl) ?_
    refine lv_iload hx hb dL_law_176 (lv_at hl 0 rfl) ?_
    refine lv_iconst (v := nI 5) hx hb dL_law_178 (by decide) ?_
    refine xn_add hx hb dL_law_179 ?_
    refine va_sld hx hb hX hbl hbA hS (vp_in_nI (show i + 5 < L by omega) (by omega)) dL_law_180 ?_
    refine xt_i (show xs (nI (i + 5)).toNatClampNeg = (xs (i + 5)) from (congrArg xs (nI_clamp (by omega))).trans (rfl)) ?_
    refine lv_i2l hx hb dL_law_181 rfl ?_
    refine lv_ldc2 (v := (4294967295 : Int64)) hx hb hown (hts _ tw_778) dL_law_182 ?_
    refine lv_land hx hb dL_law_185 ?_
    refine lv_lor hx hb dL_law_186 ?_
    refine lv_aload_n hx hb dL_law_187 rfl (lv_at hl 1 rfl) ?_
    refine xw_Si (As := [.ref (qx 17), .int (xs (i + 1)), .long ((((xs (i + 2)).toInt64) <<< ((nI 32).toInt64 &&& 63)) ||| (((xs (i + 3)).toInt64) &&& (4294967295 : Int64))), .long ((((xs (i + 4)).toInt64) <<< ((nI 32).toInt64 &&& 63)) ||| (((xs (i + 5)).toInt64) &&& (4294967295 : Int64))), .ref ao]) (wr := wM qm cI cZ y) ⟨hx, hb, hml, hown, hts⟩ (hx_latch2 l hl0 dC dI qx cI cZ cJ ao H.size r k a o tN _ _ _ h1 h2) (vx_cwSW 5 hts (gSW tw_179 tw_180 tw_0 tw_181) rfl rfl rfl (by decide +kernel) ⟨Nat.le_of_ble_eq_true rfl, Nat.le_of_ble_eq_true rfl⟩) rfl hl.1 rfl (Nat.le_of_ble_eq_true rfl) dL_law_188 ⟨by show ce + 1 ≤ 1072; omega, by show sl + 6 ≤ 9025; omega⟩ hP hD hK hS hA [0, 1, 2, 3, 4, 5, 6, 7, 8, 9, 10, 11, 12, 13, 14, 15, 16, 17, 32] [18, 19, 20, 21, 22, 23, 24, 25, 26, 27, 28, 29, 30, 31] rfl rfl (by decide) (by decide) (by decide) [0, 1, 2] rfl (eX_W _ _) (eX_kn hE hS (va_free (wc := wH qx cI cZ cJ ao r k a o) hD hS hA [0, 1, 2, 3, 4, 5, 6, 7, 8, 9, 10, 11, 12, 13, 14, 15, 16, 17, 32] rfl)) (fun r_1 u_2 H locs w_3 hP hD hS => ?_)
    obtain ⟨rfl, rfl⟩ := w_3
    have hP : va_P (dC, dI) vwCl (wZ qx qm cI cZ cJ ao r k a y o) H := hP.sub [14, 15, 16, 17, 18, 19, 20, 21, 22, 23, 24, 25, 26, 27, 28, 29, 30, 31, 0, 1, 2, 3, 4, 5, 6, 7, 8, 9, 10, 11, 12, 13, 32] rfl
    have hD : va_D A (wZ qx qm cI cZ cJ ao r k a y o) := hD.sub [14, 15, 16, 17, 18, 19, 20, 21, 22, 23, 24, 25, 26, 27, 28, 29, 30, 31, 0, 1, 2, 3, 4, 5, 6, 7, 8, 9, 10, 11, 12, 13, 32] (by decide) rfl
    refine lv_istore (lv' := [(5, .int (nI 2)), (4, .int (nI i)), (3, .ref ao), (2, .ref (qm 0)), (1, .ref (qx 17)), (0, .ref b)]) hx hb dL_law_191 hl (by decide) rfl (fun ls hl => ?_)
    refine lv_aload_n hx hb dL_law_193 rfl (lv_at hl 3 rfl) ?_
    refine lv_aload_n hx hb dL_law_194 rfl (lv_at hl 5 rfl) ?_
    refine lv_iload hx hb dL_law_195 (lv_at hl 1 rfl) ?_
    refine lv_iconst (v := nI 1) hx hb dL_law_197 (by decide) ?_
    refine xn_add hx hb dL_law_198 ?_
    refine va_sld hx hb hX hbl hbA hS (vp_in_nI (show i + 1 < L by omega) (by omega)) dL_law_199 ?_
    refine xt_i (show xs (nI (i + 1)).toNatClampNeg = (xs (i + 1)) from (congrArg xs (nI_clamp (by omega))).trans (rfl)) ?_
    refine lv_aload_n hx hb dL_law_200 rfl (lv_at hl 5 rfl) ?_
    refine lv_iload hx hb dL_law_201 (lv_at hl 1 rfl) ?_
    refine lv_iconst (v := nI 2) hx hb dL_law_203 (by decide) ?_
    refine xn_add hx hb dL_law_204 ?_
    refine va_sld hx hb hX hbl hbA hS (vp_in_nI (show i + 2 < L by omega) (by omega)) dL_law_205 ?_
    refine xt_i (show xs (nI (i + 2)).toNatClampNeg = (xs (i + 2)) from (congrArg xs (nI_clamp (by omega))).trans (rfl)) ?_
    refine lv_i2l hx hb dL_law_206 rfl ?_
    refine lv_bipush (v := nI 32) hx hb dL_law_207 (by decide) ?_
    refine lv_lshl hx hb dL_law_209 rfl ?_
    refine lv_aload_n hx hb dL_law_210 rfl (lv_at hl 5 rfl) ?_
    refine lv_iload hx hb dL_law_211 (lv_at hl 1 rfl) ?_
    refine lv_iconst (v := nI 3) hx hb dL_law_213 (by decide) ?_
    refine xn_add hx hb dL_law_214 ?_
    refine va_sld hx hb hX hbl hbA hS (vp_in_nI (show i + 3 < L by omega) (by omega)) dL_law_215 ?_
    refine xt_i (show xs (nI (i + 3)).toNatClampNeg = (xs (i + 3)) from (congrArg xs (nI_clamp (by omega))).trans (rfl)) ?_
    refine lv_i2l hx hb dL_law_216 rfl ?_
    refine lv_ldc2 (v := (4294967295 : Int64)) hx hb hown (hts _ tw_778) dL_law_217 ?_
    refine lv_land hx hb dL_law_220 ?_
    refine lv_lor hx hb dL_law_221 ?_
    refine lv_aload_n hx hb dL_law_222 rfl (lv_at hl 5 rfl) ?_
    refine lv_iload hx hb dL_law_223 (lv_at hl 1 rfl) ?_
    refine lv_iconst (v := nI 4) hx hb dL_law_225 (by decide) ?_
    refine xn_add hx hb dL_law_226 ?_
    refine va_sld hx hb hX hbl hbA hS (vp_in_nI (show i + 4 < L by omega) (by omega)) dL_law_227 ?_
    refine xt_i (show xs (nI (i + 4)).toNatClampNeg = (xs (i + 4)) from (congrArg xs (nI_clamp (by omega))).trans (rfl)) ?_
    refine lv_i2l hx hb dL_law_228 rfl ?_
    refine lv_bipush (v := nI 32) hx hb dL_law_229 (by decide) ?_
    refine lv_lshl hx hb dL_law_231 rfl ?_
    refine lv_aload_n hx hb dL_law_232 rfl (lv_at hl 5 rfl) ?_
    refine lv_iload hx hb dL_law_233 (lv_at hl 1 rfl) ?_
    refine lv_iconst (v := nI 5) hx hb dL_law_235 (by decide) ?_
    refine xn_add hx hb dL_law_236 ?_
    refine va_sld hx hb hX hbl hbA hS (vp_in_nI (show i + 5 < L by omega) (by omega)) dL_law_237 ?_
    refine xt_i (show xs (nI (i + 5)).toNatClampNeg = (xs (i + 5)) from (congrArg xs (nI_clamp (by omega))).trans (rfl)) ?_
    refine lv_i2l hx hb dL_law_238 rfl ?_
    refine lv_ldc2 (v := (4294967295 : Int64)) hx hb hown (hts _ tw_778) dL_law_239 ?_
    refine lv_land hx hb dL_law_242 ?_
    refine lv_lor hx hb dL_law_243 ?_
    refine xc_Vi (As := [.int (xs (i + 1)), .long ((((xs (i + 2)).toInt64) <<< ((nI 32).toInt64 &&& 63)) ||| (((xs (i + 3)).toInt64) &&& (4294967295 : Int64))), .long ((((xs (i + 4)).toInt64) <<< ((nI 32).toInt64 &&& 63)) ||| (((xs (i + 5)).toInt64) &&& (4294967295 : Int64)))]) (wr := wX qx cI cZ r k a ++ wO cJ ao o) ⟨hx, hb, hml, hown, hts⟩ (c_M_latch2 l dC dI qm cI cZ H.size y _ _ _ (by omega) h2) (cwV 3 hts (gV tw_646 tw_647 tw_648 tw_5 tw_649) rfl rfl rfl (by decide +kernel) ⟨Nat.le_of_ble_eq_true rfl, Nat.le_of_ble_eq_true rfl⟩) rfl hl.1 rfl (Nat.le_of_ble_eq_true rfl) dL_law_244 ⟨by show _ ≤ 1072; omega, by show _ ≤ 9025; omega⟩ hP hD hK hS hA [18, 19, 20, 21, 22, 23, 24, 25, 26, 27, 28, 29, 30, 31] [0, 1, 2, 3, 4, 5, 6, 7, 8, 9, 10, 11, 12, 13, 14, 15, 16, 17, 32] rfl rfl (by decide) (by decide) (by decide) [0, 1] rfl (q0 := 0) rfl rfl rfl eT_M (trivial) (fun r_4 u_5 H locs w_6 hP hD hS => ?_)
    obtain ⟨rfl, rfl⟩ := w_6
    have hP : va_P (dC, dI) vwCl (wZ qx qm cI cZ cJ ao r k a (MS.s_th y 2) o) H := hP.sub [0, 1, 2, 3, 4, 5, 6, 7, 8, 9, 10, 11, 12, 13, 14, 15, 16, 17, 19, 20, 21, 22, 23, 24, 25, 26, 27, 28, 29, 30, 31, 32, 18] rfl
    have hD : va_D A (wZ qx qm cI cZ cJ ao r k a (MS.s_th y 2) o) := hD.sub [0, 1, 2, 3, 4, 5, 6, 7, 8, 9, 10, 11, 12, 13, 14, 15, 16, 17, 19, 20, 21, 22, 23, 24, 25, 26, 27, 28, 29, 30, 31, 32, 18] (by decide) rfl
    refine lv_istore (lv' := [(6, .int (nI 0)), (5, .int (nI 2)), (4, .int (nI i)), (3, .ref ao), (2, .ref (qm 0)), (1, .ref (qx 17)), (0, .ref b)]) hx hb dL_law_247 hl (by decide) rfl (fun ls hl => ?_)
    refine lv_aload_n hx hb dL_law_249 rfl (lv_at hl 4 rfl) ?_
    refine xc_Vi (As := []) (wr := wX qx cI cZ r k a ++ wO cJ ao o) ⟨hx, hb, hml, hown, hts⟩ (c_ScanRowsModel_thrown l dC dI qm cI cZ H.size (MS.s_th y 2)) (cwV 0 hts (gV tw_642 tw_643 tw_644 tw_5 tw_645) rfl rfl rfl (by decide +kernel) ⟨Nat.le_of_ble_eq_true rfl, Nat.le_of_ble_eq_true rfl⟩) rfl hl.1 rfl (Nat.le_of_ble_eq_true rfl) dL_law_250 ⟨by show _ ≤ 1072; omega, by show _ ≤ 9025; omega⟩ hP hD hK hS hA [18, 19, 20, 21, 22, 23, 24, 25, 26, 27, 28, 29, 30, 31] [0, 1, 2, 3, 4, 5, 6, 7, 8, 9, 10, 11, 12, 13, 14, 15, 16, 17, 32] rfl rfl (by decide) (by decide) (by decide) [0, 1] rfl (q0 := 0) rfl rfl rfl eT_M (trivial) (fun r_7 u_8 H locs w_9 hP hD hS => ?_)
    obtain rfl := w_9
    have hP : va_P (dC, dI) vwCl (wZ qx qm cI cZ cJ ao r k a (MS.s_th y 2) o) H := hP.sub [0, 1, 2, 3, 4, 5, 6, 7, 8, 9, 10, 11, 12, 13, 14, 15, 16, 17, 19, 20, 21, 22, 23, 24, 25, 26, 27, 28, 29, 30, 31, 32, 18] rfl
    have hD : va_D A (wZ qx qm cI cZ cJ ao r k a (MS.s_th y 2) o) := hD.sub [0, 1, 2, 3, 4, 5, 6, 7, 8, 9, 10, 11, 12, 13, 14, 15, 16, 17, 19, 20, 21, 22, 23, 24, 25, 26, 27, 28, 29, 30, 31, 32, 18] (by decide) rfl
    refine xt_i (show nI (MS.th (MS.s_th y 2)) = nI 2 from congrArg nI (rfl)) ?_
    refine lv_iload hx hb dL_law_253 (lv_at hl 1 rfl) ?_
    refine xn_ceq (tgt := 260) hx hb (by omega) (by omega) dL_law_255 (by decide) (fun c_10 => ?_) (fun c_10 => ?_)
    · refine lv_iload hx hb dL_law_260 (lv_at hl 1 rfl) ?_
      refine xn_zne (tgt := 277) hx hb (by omega) dL_law_262 (by decide) (fun c_11 => ?_) (fun c_11 => ?_)
      · refine lv_goto (tgt := 1190) hx hb dL_law_277 (by decide) ?_
        refine W.widen (k := ce + 1) (n := sl + 6) (by omega) (by omega) ?_
        exact hend r k a (MS.s_th y 2) o (Rel_th hR 2) H locs hP hD hS ls (lv_sub hl [2, 3, 4, 5, 6] rfl)
        
      · exact absurd (show False by omega) id
    · exact absurd (show False by omega) id
  · refine lv_aload_n hx hb dL_law_136 rfl (lv_at hl 3 rfl) ?_
    refine lv_aload_n hx hb dL_law_137 rfl (lv_at hl 4 rfl) ?_
    refine lv_iload hx hb dL_law_138 (lv_at hl 0 rfl) ?_
    refine lv_iconst (v := nI 1) hx hb dL_law_140 (by decide) ?_
    refine xn_add hx hb dL_law_141 ?_
    refine va_sld hx hb hX hbl hbA hS (vp_in_nI (show i + 1 < L by omega) (by omega)) dL_law_142 ?_
    refine xt_i (show xs (nI (i + 1)).toNatClampNeg = nI ck from (congrArg xs (nI_clamp (by omega))).trans (e1)) ?_
    refine lv_aload_n hx hb dL_law_143 rfl (lv_at hl 4 rfl) ?_
    refine lv_iload hx hb dL_law_144 (lv_at hl 0 rfl) ?_
    refine lv_iconst (v := nI 2) hx hb dL_law_146 (by decide) ?_
    refine xn_add hx hb dL_law_147 ?_
    refine va_sld hx hb hX hbl hbA hS (vp_in_nI (show i + 2 < L by omega) (by omega)) dL_law_148 ?_
    refine xt_i (show xs (nI (i + 2)).toNatClampNeg = (xs (i + 2)) from (congrArg xs (nI_clamp (by omega))).trans (rfl)) ?_
    refine lv_i2l hx hb dL_law_149 rfl ?_
    refine lv_bipush (v := nI 32) hx hb dL_law_150 (by decide) ?_
    refine lv_lshl hx hb dL_law_152 rfl ?_
    refine lv_aload_n hx hb dL_law_153 rfl (lv_at hl 4 rfl) ?_
    refine lv_iload hx hb dL_law_154 (lv_at hl 0 rfl) ?_
    refine lv_iconst (v := nI 3) hx hb dL_law_156 (by decide) ?_
    refine xn_add hx hb dL_law_157 ?_
    refine va_sld hx hb hX hbl hbA hS (vp_in_nI (show i + 3 < L by omega) (by omega)) dL_law_158 ?_
    refine xt_i (show xs (nI (i + 3)).toNatClampNeg = (xs (i + 3)) from (congrArg xs (nI_clamp (by omega))).trans (rfl)) ?_
    refine lv_i2l hx hb dL_law_159 rfl ?_
    refine lv_ldc2 (v := (4294967295 : Int64)) hx hb hown (hts _ tw_778) dL_law_160 ?_
    refine lv_land hx hb dL_law_163 ?_
    refine lv_lor hx hb dL_law_164 ?_
    refine xt_l (show ((((xs (i + 2)).toInt64) <<< ((nI 32).toInt64 &&& 63)) ||| (((xs (i + 3)).toInt64) &&& (4294967295 : Int64))) = (zL xx) from e2) ?_
    refine lv_aload_n hx hb dL_law_165 rfl (lv_at hl 4 rfl) ?_
    refine lv_iload hx hb dL_law_166 (lv_at hl 0 rfl) ?_
    refine lv_iconst (v := nI 4) hx hb dL_law_168 (by decide) ?_
    refine xn_add hx hb dL_law_169 ?_
    refine va_sld hx hb hX hbl hbA hS (vp_in_nI (show i + 4 < L by omega) (by omega)) dL_law_170 ?_
    refine xt_i (show xs (nI (i + 4)).toNatClampNeg = (xs (i + 4)) from (congrArg xs (nI_clamp (by omega))).trans (rfl)) ?_
    refine lv_i2l hx hb dL_law_171 rfl ?_
    refine lv_bipush (v := nI 32) hx hb dL_law_172 (by decide) ?_
    refine lv_lshl hx hb dL_law_174 rfl ?_
    refine lv_aload_n hx hb dL_law_175 rfl (lv_at hl 4 rfl) ?_
    refine lv_iload hx hb dL_law_176 (lv_at hl 0 rfl) ?_
    refine lv_iconst (v := nI 5) hx hb dL_law_178 (by decide) ?_
    refine xn_add hx hb dL_law_179 ?_
    refine va_sld hx hb hX hbl hbA hS (vp_in_nI (show i + 5 < L by omega) (by omega)) dL_law_180 ?_
    refine xt_i (show xs (nI (i + 5)).toNatClampNeg = (xs (i + 5)) from (congrArg xs (nI_clamp (by omega))).trans (rfl)) ?_
    refine lv_i2l hx hb dL_law_181 rfl ?_
    refine lv_ldc2 (v := (4294967295 : Int64)) hx hb hown (hts _ tw_778) dL_law_182 ?_
    refine lv_land hx hb dL_law_185 ?_
    refine lv_lor hx hb dL_law_186 ?_
    refine xt_l (show ((((xs (i + 4)).toInt64) <<< ((nI 32).toInt64 &&& 63)) ||| (((xs (i + 5)).toInt64) &&& (4294967295 : Int64))) = (zL yy) from e3) ?_
    refine lv_aload_n hx hb dL_law_187 rfl (lv_at hl 1 rfl) ?_
    refine xw_Si (As := [.ref (qx 17), .int (nI ck), .long (zL xx), .long (zL yy), .ref ao]) (wr := wM qm cI cZ y) ⟨hx, hb, hml, hown, hts⟩ (h_latch l dC dI qx cI cZ cJ ao H.size r k a o ck xx yy h1 h2 h3 h4) (vx_cwSW 5 hts (gSW tw_179 tw_180 tw_0 tw_181) rfl rfl rfl (by decide +kernel) ⟨Nat.le_of_ble_eq_true rfl, Nat.le_of_ble_eq_true rfl⟩) rfl hl.1 rfl (Nat.le_of_ble_eq_true rfl) dL_law_188 ⟨by show ce + 0 ≤ 1072; omega, by show sl + 0 ≤ 9025; omega⟩ hP hD hK hS hA [0, 1, 2, 3, 4, 5, 6, 7, 8, 9, 10, 11, 12, 13, 14, 15, 16, 17, 32] [18, 19, 20, 21, 22, 23, 24, 25, 26, 27, 28, 29, 30, 31] rfl rfl (by decide) (by decide) (by decide) [0, 1, 2] rfl (eW_of eT_M) trivial (fun r_1 u_2 H locs w_3 hP hD hS => ?_)
    obtain ⟨rfl, hu1, hu2⟩ := w_3
    have hP : va_P (dC, dI) vwCl (wZ qx qm cI cZ cJ ao u_2.1.1 u_2.1.2.1 u_2.1.2.2 y u_2.2) H := hP.sub [14, 15, 16, 17, 18, 19, 20, 21, 22, 23, 24, 25, 26, 27, 28, 29, 30, 31, 0, 1, 2, 3, 4, 5, 6, 7, 8, 9, 10, 11, 12, 13, 32] rfl
    have hD : va_D A (wZ qx qm cI cZ cJ ao u_2.1.1 u_2.1.2.1 u_2.1.2.2 y u_2.2) := hD.sub [14, 15, 16, 17, 18, 19, 20, 21, 22, 23, 24, 25, 26, 27, 28, 29, 30, 31, 0, 1, 2, 3, 4, 5, 6, 7, 8, 9, 10, 11, 12, 13, 32] (by decide) rfl
    refine lv_istore (lv' := [(5, .int (nI 0)), (4, .int (nI i)), (3, .ref ao), (2, .ref (qm 0)), (1, .ref (qx 17)), (0, .ref b)]) hx hb dL_law_191 hl (by decide) rfl (fun ls hl => ?_)
    refine lv_aload_n hx hb dL_law_193 rfl (lv_at hl 3 rfl) ?_
    refine lv_aload_n hx hb dL_law_194 rfl (lv_at hl 5 rfl) ?_
    refine lv_iload hx hb dL_law_195 (lv_at hl 1 rfl) ?_
    refine lv_iconst (v := nI 1) hx hb dL_law_197 (by decide) ?_
    refine xn_add hx hb dL_law_198 ?_
    refine va_sld hx hb hX hbl hbA hS (vp_in_nI (show i + 1 < L by omega) (by omega)) dL_law_199 ?_
    refine xt_i (show xs (nI (i + 1)).toNatClampNeg = nI ck from (congrArg xs (nI_clamp (by omega))).trans (e1)) ?_
    refine lv_aload_n hx hb dL_law_200 rfl (lv_at hl 5 rfl) ?_
    refine lv_iload hx hb dL_law_201 (lv_at hl 1 rfl) ?_
    refine lv_iconst (v := nI 2) hx hb dL_law_203 (by decide) ?_
    refine xn_add hx hb dL_law_204 ?_
    refine va_sld hx hb hX hbl hbA hS (vp_in_nI (show i + 2 < L by omega) (by omega)) dL_law_205 ?_
    refine xt_i (show xs (nI (i + 2)).toNatClampNeg = (xs (i + 2)) from (congrArg xs (nI_clamp (by omega))).trans (rfl)) ?_
    refine lv_i2l hx hb dL_law_206 rfl ?_
    refine lv_bipush (v := nI 32) hx hb dL_law_207 (by decide) ?_
    refine lv_lshl hx hb dL_law_209 rfl ?_
    refine lv_aload_n hx hb dL_law_210 rfl (lv_at hl 5 rfl) ?_
    refine lv_iload hx hb dL_law_211 (lv_at hl 1 rfl) ?_
    refine lv_iconst (v := nI 3) hx hb dL_law_213 (by decide) ?_
    refine xn_add hx hb dL_law_214 ?_
    refine va_sld hx hb hX hbl hbA hS (vp_in_nI (show i + 3 < L by omega) (by omega)) dL_law_215 ?_
    refine xt_i (show xs (nI (i + 3)).toNatClampNeg = (xs (i + 3)) from (congrArg xs (nI_clamp (by omega))).trans (rfl)) ?_
    refine lv_i2l hx hb dL_law_216 rfl ?_
    refine lv_ldc2 (v := (4294967295 : Int64)) hx hb hown (hts _ tw_778) dL_law_217 ?_
    refine lv_land hx hb dL_law_220 ?_
    refine lv_lor hx hb dL_law_221 ?_
    refine xt_l (show ((((xs (i + 2)).toInt64) <<< ((nI 32).toInt64 &&& 63)) ||| (((xs (i + 3)).toInt64) &&& (4294967295 : Int64))) = (zL xx) from e2) ?_
    refine lv_aload_n hx hb dL_law_222 rfl (lv_at hl 5 rfl) ?_
    refine lv_iload hx hb dL_law_223 (lv_at hl 1 rfl) ?_
    refine lv_iconst (v := nI 4) hx hb dL_law_225 (by decide) ?_
    refine xn_add hx hb dL_law_226 ?_
    refine va_sld hx hb hX hbl hbA hS (vp_in_nI (show i + 4 < L by omega) (by omega)) dL_law_227 ?_
    refine xt_i (show xs (nI (i + 4)).toNatClampNeg = (xs (i + 4)) from (congrArg xs (nI_clamp (by omega))).trans (rfl)) ?_
    refine lv_i2l hx hb dL_law_228 rfl ?_
    refine lv_bipush (v := nI 32) hx hb dL_law_229 (by decide) ?_
    refine lv_lshl hx hb dL_law_231 rfl ?_
    refine lv_aload_n hx hb dL_law_232 rfl (lv_at hl 5 rfl) ?_
    refine lv_iload hx hb dL_law_233 (lv_at hl 1 rfl) ?_
    refine lv_iconst (v := nI 5) hx hb dL_law_235 (by decide) ?_
    refine xn_add hx hb dL_law_236 ?_
    refine va_sld hx hb hX hbl hbA hS (vp_in_nI (show i + 5 < L by omega) (by omega)) dL_law_237 ?_
    refine xt_i (show xs (nI (i + 5)).toNatClampNeg = (xs (i + 5)) from (congrArg xs (nI_clamp (by omega))).trans (rfl)) ?_
    refine lv_i2l hx hb dL_law_238 rfl ?_
    refine lv_ldc2 (v := (4294967295 : Int64)) hx hb hown (hts _ tw_778) dL_law_239 ?_
    refine lv_land hx hb dL_law_242 ?_
    refine lv_lor hx hb dL_law_243 ?_
    refine xt_l (show ((((xs (i + 4)).toInt64) <<< ((nI 32).toInt64 &&& 63)) ||| (((xs (i + 5)).toInt64) &&& (4294967295 : Int64))) = (zL yy) from e3) ?_
    refine xc_Vi (As := [.int (nI ck), .long (zL xx), .long (zL yy)]) (wr := wX qx cI cZ u_2.1.1 u_2.1.2.1 u_2.1.2.2 ++ wO cJ ao u_2.2) ⟨hx, hb, hml, hown, hts⟩ (c_ScanRowsModel_latch l dC dI qm cI cZ H.size y ck xx yy (by omega) h2 h3 h4) (cwV 3 hts (gV tw_646 tw_647 tw_648 tw_5 tw_649) rfl rfl rfl (by decide +kernel) ⟨Nat.le_of_ble_eq_true rfl, Nat.le_of_ble_eq_true rfl⟩) rfl hl.1 rfl (Nat.le_of_ble_eq_true rfl) dL_law_244 ⟨by show _ ≤ 1072; omega, by show _ ≤ 9025; omega⟩ hP hD hK hS hA [18, 19, 20, 21, 22, 23, 24, 25, 26, 27, 28, 29, 30, 31] [0, 1, 2, 3, 4, 5, 6, 7, 8, 9, 10, 11, 12, 13, 14, 15, 16, 17, 32] rfl rfl (by decide) (by decide) (by decide) [0, 1] rfl (q0 := 0) rfl rfl rfl eT_M (trivial) (fun r_4 u_5 H locs w_6 hP hD hS => ?_)
    obtain ⟨rfl, rfl⟩ := w_6
    have hP : va_P (dC, dI) vwCl (wZ qx qm cI cZ cJ ao u_2.1.1 u_2.1.2.1 u_2.1.2.2 (mLatch y ck xx yy) u_2.2) H := hP.sub [0, 1, 2, 3, 4, 5, 6, 7, 8, 9, 10, 11, 12, 13, 14, 15, 16, 17, 19, 20, 21, 22, 23, 24, 25, 26, 27, 28, 29, 30, 31, 32, 18] rfl
    have hD : va_D A (wZ qx qm cI cZ cJ ao u_2.1.1 u_2.1.2.1 u_2.1.2.2 (mLatch y ck xx yy) u_2.2) := hD.sub [0, 1, 2, 3, 4, 5, 6, 7, 8, 9, 10, 11, 12, 13, 14, 15, 16, 17, 19, 20, 21, 22, 23, 24, 25, 26, 27, 28, 29, 30, 31, 32, 18] (by decide) rfl
    refine lv_istore (lv' := [(6, .int (nI y.n)), (5, .int (nI 0)), (4, .int (nI i)), (3, .ref ao), (2, .ref (qm 0)), (1, .ref (qx 17)), (0, .ref b)]) hx hb dL_law_247 hl (by decide) rfl (fun ls hl => ?_)
    refine lv_aload_n hx hb dL_law_249 rfl (lv_at hl 4 rfl) ?_
    refine xc_Vi (As := []) (wr := wX qx cI cZ u_2.1.1 u_2.1.2.1 u_2.1.2.2 ++ wO cJ ao u_2.2) ⟨hx, hb, hml, hown, hts⟩ (c_ScanRowsModel_thrown l dC dI qm cI cZ H.size (mLatch y ck xx yy)) (cwV 0 hts (gV tw_642 tw_643 tw_644 tw_5 tw_645) rfl rfl rfl (by decide +kernel) ⟨Nat.le_of_ble_eq_true rfl, Nat.le_of_ble_eq_true rfl⟩) rfl hl.1 rfl (Nat.le_of_ble_eq_true rfl) dL_law_250 ⟨by show _ ≤ 1072; omega, by show _ ≤ 9025; omega⟩ hP hD hK hS hA [18, 19, 20, 21, 22, 23, 24, 25, 26, 27, 28, 29, 30, 31] [0, 1, 2, 3, 4, 5, 6, 7, 8, 9, 10, 11, 12, 13, 14, 15, 16, 17, 32] rfl rfl (by decide) (by decide) (by decide) [0, 1] rfl (q0 := 0) rfl rfl rfl eT_M (trivial) (fun r_7 u_8 H locs w_9 hP hD hS => ?_)
    obtain rfl := w_9
    have hP : va_P (dC, dI) vwCl (wZ qx qm cI cZ cJ ao u_2.1.1 u_2.1.2.1 u_2.1.2.2 (mLatch y ck xx yy) u_2.2) H := hP.sub [0, 1, 2, 3, 4, 5, 6, 7, 8, 9, 10, 11, 12, 13, 14, 15, 16, 17, 19, 20, 21, 22, 23, 24, 25, 26, 27, 28, 29, 30, 31, 32, 18] rfl
    have hD : va_D A (wZ qx qm cI cZ cJ ao u_2.1.1 u_2.1.2.1 u_2.1.2.2 (mLatch y ck xx yy) u_2.2) := hD.sub [0, 1, 2, 3, 4, 5, 6, 7, 8, 9, 10, 11, 12, 13, 14, 15, 16, 17, 19, 20, 21, 22, 23, 24, 25, 26, 27, 28, 29, 30, 31, 32, 18] (by decide) rfl
    refine xt_i (show nI (MS.th (mLatch y ck xx yy)) = nI 0 from congrArg nI (rfl)) ?_
    refine lv_iload hx hb dL_law_253 (lv_at hl 1 rfl) ?_
    refine xn_ceq (tgt := 260) hx hb (by omega) (by omega) dL_law_255 (by decide) (fun c_10 => ?_) (fun c_10 => ?_)
    · refine lv_iload hx hb dL_law_260 (lv_at hl 1 rfl) ?_
      refine xn_zne (tgt := 277) hx hb (by omega) dL_law_262 (by decide) (fun c_11 => ?_) (fun c_11 => ?_)
      · refine lv_goto (tgt := 1190) hx hb dL_law_277 (by decide) ?_
        refine W.widen (k := ce + 1) (n := sl + 6) (by omega) (by omega) ?_
        exact hend u_2.1.1 u_2.1.2.1 u_2.1.2.2 (mLatch y ck xx yy) u_2.2 (by rw [hu1]; exact Rel_latch hR h1 h2 h3 h4) H locs hP hD hS ls (lv_sub hl [2, 3, 4, 5, 6] rfl)
        
      · refine lv_aload_n hx hb dL_law_265 rfl (lv_at hl 3 rfl) ?_
        refine lv_iconst (v := nI 0) hx hb dL_law_266 (by decide) ?_
        refine va_lald hx hb hK hP 32 2 rfl rfl (vp_in_nI (show 0 < 1 by decide) (by decide)) dL_law_267 ?_
        refine xt_l (show u_2.2 (nI 0).toNatClampNeg = (nI r.n).toInt64 from (congrArg u_2.2 (show (nI 0).toNatClampNeg = 0 by decide)).trans hu2) ?_
        refine lv_iload hx hb dL_law_268 (lv_at hl 0 rfl) ?_
        refine lv_i2l hx hb dL_law_270 rfl ?_
        refine W.lcmp hx hb dL_law_271 ?_
        refine xt_i (show (lg_cmp ((nI r.n).toInt64) ((nI y.n).toInt64)) = nI 0 from lg_eq (by rw [e_n])) ?_
        refine xn_zeq (tgt := 277) hx hb (by omega) dL_law_272 (by decide) (fun c_12 => ?_) (fun c_12 => ?_)
        · refine lv_goto (tgt := 1190) hx hb dL_law_277 (by decide) ?_
          refine W.widen (k := ce + 1) (n := sl + 6) (by omega) (by omega) ?_
          exact hend u_2.1.1 u_2.1.2.1 u_2.1.2.2 (mLatch y ck xx yy) u_2.2 (by rw [hu1]; exact Rel_latch hR h1 h2 h3 h4) H locs hP hD hS ls (lv_sub hl [2, 3, 4, 5, 6] rfl)
          
        · exact absurd (show False by omega) id
    · exact absurd (show False by omega) id
set_option maxHeartbeats 4000000 in
set_option maxRecDepth 100000 in
theorem op_make {p : Program} {e : Env} {s : State} {m : MethodId} {below : List Frame} {meth : Method} {c : Code} (l : Launch) (hl0 : l.stackTraces = false) {b L : Nat} {xs : Nat → Int32} (hL : L ≤ 3073) (C0 : lw_At p s m meth c b L xs) (A : Nat → Prop) (hA : ∀ q : Nat, s.heap.size ≤ q → A q) (hbA : ¬ A b) (dC : Nat → ClassId) (dI : Nat → Nat → Nat) (qx qm : Nat → Nat) (cI cZ cJ : ClassId) (ao tN : Nat) (hK : va_K (dC, dI) vwCl [(cI, .int), (cZ, .boolean), (cJ, .long)] s) (hE : eX tN A s s.heap) (i : Nat) (hi : i + 5 < L) (ce sl : Nat) (hce : ce + 1 ≤ 1072) (hsl : sl + 6 ≤ 9025) (r : RS) (k : CS) (a : AS) (y : MS) (o : OS) (hR : Rel r k a y) (H : Heap) (locs : List Loc) (hP : va_P (dC, dI) vwCl (wZ qx qm cI cZ cJ ao r k a y o) H) (hD : va_D A (wZ qx qm cI cZ cJ ao r k a y o)) (hS : va_S A s.heap H locs) (ls : Array Slot) (hl : lv_has ls 7 [(4, .int (nI i)), (3, .ref ao), (2, .ref (qm 0)), (1, .ref (qx 17)), (0, .ref b)]) (hend : ∀ (r : RS) (k : CS) (a : AS) (y : MS) (o : OS), Rel r k a y → ∀ (H : Heap) (locs : List Loc), va_P (dC, dI) vwCl (wZ qx qm cI cZ cJ ao r k a y o) H → va_D A (wZ qx qm cI cZ cJ ao r k a y o) → va_S A s.heap H locs → ∀ ls : Array Slot, lv_has ls 7 [(4, .int (nI i)), (3, .ref ao), (2, .ref (qm 0)), (1, .ref (qx 17)), (0, .ref b)] → W p l e room_1 s m #[Value.ref b] below meth c H locs (ce + 1) (sl + 6) (lw_Z below #[Value.ref b] s) (F0 m 1190 ls [])) : W p l e room_1 s m #[Value.ref b] below meth c H locs (ce) (sl) (lw_Z below #[Value.ref b] s) (F0 m 280 ls []) := by
  obtain ⟨hx, hb, hr, hml, hown, hts0, hX, hbl, hlocks, hgv⟩ := id C0
  have hown : s.vm.findClass "ScanRowsLaw" = some m.cls := hown
  have hts : ∀ w ∈ ALLG, w.before #[Value.ref b] s = true := fun w h => hts0 w (List.mem_filter.mp h).1
  have b_n : r.n ≤ 32 := hR.1.1.1
  have b_c : r.c ≤ 8 := hR.1.1.2.1
  have b_p : r.p ≤ r.n := hR.1.1.2.2.1
  have k_n : k.n ≤ 20 := hR.1.2.1.1
  have hB : RB r := hR.1.1
  have hM : MB y := hR.2.1
  have hmo : mono y := Rel_mono hR
  have hC : RC r := PI_RC hR.2.2.1
  have e_n : y.n = r.n := hR.2.2.2.2.1.1
  have e_c : y.c = r.c := hR.2.2.2.2.1.2.1
  have e_p : y.p = r.p := hR.2.2.2.2.1.2.2.1
  have e_vb : y.vb = r.vb := hR.2.2.2.2.1.2.2.2.1
  have e_fl : y.fl = r.fl := hR.2.2.2.2.1.2.2.2.2.2.2.2.1
  have e_st : y.st = r.st := hR.2.2.2.2.1.2.2.2.2.2.2.2.2.2
  have e_k : toK y = k := hR.2.2.2.2.2.1
  have e_cn : y.cn = k.n := congrArg CS.n e_k
  have e_co : y.co = a.co := hR.2.2.2.2.2.2.2.1
  have a_co : a.co < 16 := hR.1.2.2.2.1
  have e_sa : y.sa = a.st := hR.2.2.2.2.2.2.1
  rcases rg (lo := 1) (hi := 8) (by decide) (by decide) (xs (i + 1)) with h1 | ⟨c0, h1, h2, e1⟩
  · refine lv_aload_n hx hb dL_law_280 rfl (lv_at hl 3 rfl) ?_
    refine lv_aload_n hx hb dL_law_281 rfl (lv_at hl 4 rfl) ?_
    refine lv_iload hx hb dL_law_282 (lv_at hl 0 rfl) ?_
    refine lv_iconst (v := nI 1) hx hb dL_law_284 (by decide) ?_
    refine xn_add hx hb dL_law_285 ?_
    refine va_sld hx hb hX hbl hbA hS (vp_in_nI (show i + 1 < L by omega) (by omega)) dL_law_286 ?_
    refine xt_i (show xs (nI (i + 1)).toNatClampNeg = (xs (i + 1)) from (congrArg xs (nI_clamp (by omega))).trans (rfl)) ?_
    refine lv_aload_n hx hb dL_law_287 rfl (lv_at hl 1 rfl) ?_
    refine xw_Si (As := [.ref (qx 17), .int (xs (i + 1)), .ref ao]) (wr := wM qm cI cZ y) ⟨hx, hb, hml, hown, hts⟩ (hx_make l hl0 dC dI qx cI cZ cJ ao H.size r k a o tN _ h1) (vx_cwSW 3 hts (gSW tw_279 tw_280 tw_0 tw_281) rfl rfl rfl (by decide +kernel) ⟨Nat.le_of_ble_eq_true rfl, Nat.le_of_ble_eq_true rfl⟩) rfl hl.1 rfl (Nat.le_of_ble_eq_true rfl) dL_law_288 ⟨by show ce + 1 ≤ 1072; omega, by show sl + 6 ≤ 9025; omega⟩ hP hD hK hS hA [0, 1, 2, 3, 4, 5, 6, 7, 8, 9, 10, 11, 12, 13, 14, 15, 16, 17, 32] [18, 19, 20, 21, 22, 23, 24, 25, 26, 27, 28, 29, 30, 31] rfl rfl (by decide) (by decide) (by decide) [0, 1, 2] rfl (eX_W _ _) (eX_kn hE hS (va_free (wc := wH qx cI cZ cJ ao r k a o) hD hS hA [0, 1, 2, 3, 4, 5, 6, 7, 8, 9, 10, 11, 12, 13, 14, 15, 16, 17, 32] rfl)) (fun r_1 u_2 H locs w_3 hP hD hS => ?_)
    obtain ⟨rfl, rfl⟩ := w_3
    have hP : va_P (dC, dI) vwCl (wZ qx qm cI cZ cJ ao r k a y o) H := hP.sub [14, 15, 16, 17, 18, 19, 20, 21, 22, 23, 24, 25, 26, 27, 28, 29, 30, 31, 0, 1, 2, 3, 4, 5, 6, 7, 8, 9, 10, 11, 12, 13, 32] rfl
    have hD : va_D A (wZ qx qm cI cZ cJ ao r k a y o) := hD.sub [14, 15, 16, 17, 18, 19, 20, 21, 22, 23, 24, 25, 26, 27, 28, 29, 30, 31, 0, 1, 2, 3, 4, 5, 6, 7, 8, 9, 10, 11, 12, 13, 32] (by decide) rfl
    refine lv_istore (lv' := [(5, .int (nI 1)), (4, .int (nI i)), (3, .ref ao), (2, .ref (qm 0)), (1, .ref (qx 17)), (0, .ref b)]) hx hb dL_law_291 hl (by decide) rfl (fun ls hl => ?_)
    refine lv_aload_n hx hb dL_law_293 rfl (lv_at hl 3 rfl) ?_
    refine lv_aload_n hx hb dL_law_294 rfl (lv_at hl 5 rfl) ?_
    refine lv_iload hx hb dL_law_295 (lv_at hl 1 rfl) ?_
    refine lv_iconst (v := nI 1) hx hb dL_law_297 (by decide) ?_
    refine xn_add hx hb dL_law_298 ?_
    refine va_sld hx hb hX hbl hbA hS (vp_in_nI (show i + 1 < L by omega) (by omega)) dL_law_299 ?_
    refine xt_i (show xs (nI (i + 1)).toNatClampNeg = (xs (i + 1)) from (congrArg xs (nI_clamp (by omega))).trans (rfl)) ?_
    refine xc_Vi (As := [.int (xs (i + 1))]) (wr := wX qx cI cZ r k a ++ wO cJ ao o) ⟨hx, hb, hml, hown, hts⟩ (c_M_make1 l dC dI qm cI cZ H.size y _ h1) (cwV 1 hts (gV tw_652 tw_653 tw_654 tw_5 tw_655) rfl rfl rfl (by decide +kernel) ⟨Nat.le_of_ble_eq_true rfl, Nat.le_of_ble_eq_true rfl⟩) rfl hl.1 rfl (Nat.le_of_ble_eq_true rfl) dL_law_300 ⟨by show _ ≤ 1072; omega, by show _ ≤ 9025; omega⟩ hP hD hK hS hA [18, 19, 20, 21, 22, 23, 24, 25, 26, 27, 28, 29, 30, 31] [0, 1, 2, 3, 4, 5, 6, 7, 8, 9, 10, 11, 12, 13, 14, 15, 16, 17, 32] rfl rfl (by decide) (by decide) (by decide) [0, 1] rfl (q0 := 0) rfl rfl rfl eT_M (trivial) (fun r_4 u_5 H locs w_6 hP hD hS => ?_)
    obtain ⟨rfl, rfl⟩ := w_6
    have hP : va_P (dC, dI) vwCl (wZ qx qm cI cZ cJ ao r k a (MS.s_th y 1) o) H := hP.sub [0, 1, 2, 3, 4, 5, 6, 7, 8, 9, 10, 11, 12, 13, 14, 15, 16, 17, 19, 20, 21, 22, 23, 24, 25, 26, 27, 28, 29, 30, 31, 32, 18] rfl
    have hD : va_D A (wZ qx qm cI cZ cJ ao r k a (MS.s_th y 1) o) := hD.sub [0, 1, 2, 3, 4, 5, 6, 7, 8, 9, 10, 11, 12, 13, 14, 15, 16, 17, 19, 20, 21, 22, 23, 24, 25, 26, 27, 28, 29, 30, 31, 32, 18] (by decide) rfl
    refine lv_istore (lv' := [(6, .int (nI 0)), (5, .int (nI 1)), (4, .int (nI i)), (3, .ref ao), (2, .ref (qm 0)), (1, .ref (qx 17)), (0, .ref b)]) hx hb dL_law_303 hl (by decide) rfl (fun ls hl => ?_)
    refine lv_aload_n hx hb dL_law_305 rfl (lv_at hl 4 rfl) ?_
    refine xc_Vi (As := []) (wr := wX qx cI cZ r k a ++ wO cJ ao o) ⟨hx, hb, hml, hown, hts⟩ (c_ScanRowsModel_thrown l dC dI qm cI cZ H.size (MS.s_th y 1)) (cwV 0 hts (gV tw_642 tw_643 tw_644 tw_5 tw_645) rfl rfl rfl (by decide +kernel) ⟨Nat.le_of_ble_eq_true rfl, Nat.le_of_ble_eq_true rfl⟩) rfl hl.1 rfl (Nat.le_of_ble_eq_true rfl) dL_law_306 ⟨by show _ ≤ 1072; omega, by show _ ≤ 9025; omega⟩ hP hD hK hS hA [18, 19, 20, 21, 22, 23, 24, 25, 26, 27, 28, 29, 30, 31] [0, 1, 2, 3, 4, 5, 6, 7, 8, 9, 10, 11, 12, 13, 14, 15, 16, 17, 32] rfl rfl (by decide) (by decide) (by decide) [0, 1] rfl (q0 := 0) rfl rfl rfl eT_M (trivial) (fun r_7 u_8 H locs w_9 hP hD hS => ?_)
    obtain rfl := w_9
    have hP : va_P (dC, dI) vwCl (wZ qx qm cI cZ cJ ao r k a (MS.s_th y 1) o) H := hP.sub [0, 1, 2, 3, 4, 5, 6, 7, 8, 9, 10, 11, 12, 13, 14, 15, 16, 17, 19, 20, 21, 22, 23, 24, 25, 26, 27, 28, 29, 30, 31, 32, 18] rfl
    have hD : va_D A (wZ qx qm cI cZ cJ ao r k a (MS.s_th y 1) o) := hD.sub [0, 1, 2, 3, 4, 5, 6, 7, 8, 9, 10, 11, 12, 13, 14, 15, 16, 17, 19, 20, 21, 22, 23, 24, 25, 26, 27, 28, 29, 30, 31, 32, 18] (by decide) rfl
    refine xt_i (show nI (MS.th (MS.s_th y 1)) = nI 1 from congrArg nI (rfl)) ?_
    refine lv_iload hx hb dL_law_309 (lv_at hl 1 rfl) ?_
    refine xn_ceq (tgt := 316) hx hb (by omega) (by omega) dL_law_311 (by decide) (fun c_10 => ?_) (fun c_10 => ?_)
    · refine lv_iload hx hb dL_law_316 (lv_at hl 1 rfl) ?_
      refine xn_zne (tgt := 333) hx hb (by omega) dL_law_318 (by decide) (fun c_11 => ?_) (fun c_11 => ?_)
      · refine lv_goto (tgt := 1190) hx hb dL_law_333 (by decide) ?_
        refine W.widen (k := ce + 1) (n := sl + 6) (by omega) (by omega) ?_
        exact hend r k a (MS.s_th y 1) o (Rel_th hR 1) H locs hP hD hS ls (lv_sub hl [2, 3, 4, 5, 6] rfl)
        
      · exact absurd (show False by omega) id
    · exact absurd (show False by omega) id
  · refine lv_aload_n hx hb dL_law_280 rfl (lv_at hl 3 rfl) ?_
    refine lv_aload_n hx hb dL_law_281 rfl (lv_at hl 4 rfl) ?_
    refine lv_iload hx hb dL_law_282 (lv_at hl 0 rfl) ?_
    refine lv_iconst (v := nI 1) hx hb dL_law_284 (by decide) ?_
    refine xn_add hx hb dL_law_285 ?_
    refine va_sld hx hb hX hbl hbA hS (vp_in_nI (show i + 1 < L by omega) (by omega)) dL_law_286 ?_
    refine xt_i (show xs (nI (i + 1)).toNatClampNeg = nI c0 from (congrArg xs (nI_clamp (by omega))).trans (e1)) ?_
    refine lv_aload_n hx hb dL_law_287 rfl (lv_at hl 1 rfl) ?_
    refine xw_Si (As := [.ref (qx 17), .int (nI c0), .ref ao]) (wr := wM qm cI cZ y) ⟨hx, hb, hml, hown, hts⟩ (h_make l dC dI qx cI cZ cJ ao H.size r k a o c0 hB h1 h2) (vx_cwSW 3 hts (gSW tw_279 tw_280 tw_0 tw_281) rfl rfl rfl (by decide +kernel) ⟨Nat.le_of_ble_eq_true rfl, Nat.le_of_ble_eq_true rfl⟩) rfl hl.1 rfl (Nat.le_of_ble_eq_true rfl) dL_law_288 ⟨by show ce + 0 ≤ 1072; omega, by show sl + 0 ≤ 9025; omega⟩ hP hD hK hS hA [0, 1, 2, 3, 4, 5, 6, 7, 8, 9, 10, 11, 12, 13, 14, 15, 16, 17, 32] [18, 19, 20, 21, 22, 23, 24, 25, 26, 27, 28, 29, 30, 31] rfl rfl (by decide) (by decide) (by decide) [0, 1, 2] rfl (eW_of eT_M) trivial (fun r_1 u_2 H locs w_3 hP hD hS => ?_)
    obtain ⟨rfl, hu1, hu2⟩ := w_3
    have hP : va_P (dC, dI) vwCl (wZ qx qm cI cZ cJ ao u_2.1.1 u_2.1.2.1 u_2.1.2.2 y u_2.2) H := hP.sub [14, 15, 16, 17, 18, 19, 20, 21, 22, 23, 24, 25, 26, 27, 28, 29, 30, 31, 0, 1, 2, 3, 4, 5, 6, 7, 8, 9, 10, 11, 12, 13, 32] rfl
    have hD : va_D A (wZ qx qm cI cZ cJ ao u_2.1.1 u_2.1.2.1 u_2.1.2.2 y u_2.2) := hD.sub [14, 15, 16, 17, 18, 19, 20, 21, 22, 23, 24, 25, 26, 27, 28, 29, 30, 31, 0, 1, 2, 3, 4, 5, 6, 7, 8, 9, 10, 11, 12, 13, 32] (by decide) rfl
    refine lv_istore (lv' := [(5, .int (nI 0)), (4, .int (nI i)), (3, .ref ao), (2, .ref (qm 0)), (1, .ref (qx 17)), (0, .ref b)]) hx hb dL_law_291 hl (by decide) rfl (fun ls hl => ?_)
    refine lv_aload_n hx hb dL_law_293 rfl (lv_at hl 3 rfl) ?_
    refine lv_aload_n hx hb dL_law_294 rfl (lv_at hl 5 rfl) ?_
    refine lv_iload hx hb dL_law_295 (lv_at hl 1 rfl) ?_
    refine lv_iconst (v := nI 1) hx hb dL_law_297 (by decide) ?_
    refine xn_add hx hb dL_law_298 ?_
    refine va_sld hx hb hX hbl hbA hS (vp_in_nI (show i + 1 < L by omega) (by omega)) dL_law_299 ?_
    refine xt_i (show xs (nI (i + 1)).toNatClampNeg = nI c0 from (congrArg xs (nI_clamp (by omega))).trans (e1)) ?_
    refine xc_Vi (As := [.int (nI c0)]) (wr := wX qx cI cZ u_2.1.1 u_2.1.2.1 u_2.1.2.2 ++ wO cJ ao u_2.2) ⟨hx, hb, hml, hown, hts⟩ (c_ScanRowsModel_make l dC dI qm cI cZ H.size y c0 hM h1 h2) (cwV 1 hts (gV tw_652 tw_653 tw_654 tw_5 tw_655) rfl rfl rfl (by decide +kernel) ⟨Nat.le_of_ble_eq_true rfl, Nat.le_of_ble_eq_true rfl⟩) rfl hl.1 rfl (Nat.le_of_ble_eq_true rfl) dL_law_300 ⟨by show _ ≤ 1072; omega, by show _ ≤ 9025; omega⟩ hP hD hK hS hA [18, 19, 20, 21, 22, 23, 24, 25, 26, 27, 28, 29, 30, 31] [0, 1, 2, 3, 4, 5, 6, 7, 8, 9, 10, 11, 12, 13, 14, 15, 16, 17, 32] rfl rfl (by decide) (by decide) (by decide) [0, 1] rfl (q0 := 0) rfl rfl rfl eT_M (trivial) (fun r_4 u_5 H locs w_6 hP hD hS => ?_)
    obtain ⟨rfl, rfl⟩ := w_6
    have hP : va_P (dC, dI) vwCl (wZ qx qm cI cZ cJ ao u_2.1.1 u_2.1.2.1 u_2.1.2.2 (mMake y c0) u_2.2) H := hP.sub [0, 1, 2, 3, 4, 5, 6, 7, 8, 9, 10, 11, 12, 13, 14, 15, 16, 17, 19, 20, 21, 22, 23, 24, 25, 26, 27, 28, 29, 30, 31, 32, 18] rfl
    have hD : va_D A (wZ qx qm cI cZ cJ ao u_2.1.1 u_2.1.2.1 u_2.1.2.2 (mMake y c0) u_2.2) := hD.sub [0, 1, 2, 3, 4, 5, 6, 7, 8, 9, 10, 11, 12, 13, 14, 15, 16, 17, 19, 20, 21, 22, 23, 24, 25, 26, 27, 28, 29, 30, 31, 32, 18] (by decide) rfl
    refine lv_istore (lv' := [(6, .int (nI (bg y.n c0 1))), (5, .int (nI 0)), (4, .int (nI i)), (3, .ref ao), (2, .ref (qm 0)), (1, .ref (qx 17)), (0, .ref b)]) hx hb dL_law_303 hl (by decide) rfl (fun ls hl => ?_)
    refine lv_aload_n hx hb dL_law_305 rfl (lv_at hl 4 rfl) ?_
    refine xc_Vi (As := []) (wr := wX qx cI cZ u_2.1.1 u_2.1.2.1 u_2.1.2.2 ++ wO cJ ao u_2.2) ⟨hx, hb, hml, hown, hts⟩ (c_ScanRowsModel_thrown l dC dI qm cI cZ H.size (mMake y c0)) (cwV 0 hts (gV tw_642 tw_643 tw_644 tw_5 tw_645) rfl rfl rfl (by decide +kernel) ⟨Nat.le_of_ble_eq_true rfl, Nat.le_of_ble_eq_true rfl⟩) rfl hl.1 rfl (Nat.le_of_ble_eq_true rfl) dL_law_306 ⟨by show _ ≤ 1072; omega, by show _ ≤ 9025; omega⟩ hP hD hK hS hA [18, 19, 20, 21, 22, 23, 24, 25, 26, 27, 28, 29, 30, 31] [0, 1, 2, 3, 4, 5, 6, 7, 8, 9, 10, 11, 12, 13, 14, 15, 16, 17, 32] rfl rfl (by decide) (by decide) (by decide) [0, 1] rfl (q0 := 0) rfl rfl rfl eT_M (trivial) (fun r_7 u_8 H locs w_9 hP hD hS => ?_)
    obtain rfl := w_9
    have hP : va_P (dC, dI) vwCl (wZ qx qm cI cZ cJ ao u_2.1.1 u_2.1.2.1 u_2.1.2.2 (mMake y c0) u_2.2) H := hP.sub [0, 1, 2, 3, 4, 5, 6, 7, 8, 9, 10, 11, 12, 13, 14, 15, 16, 17, 19, 20, 21, 22, 23, 24, 25, 26, 27, 28, 29, 30, 31, 32, 18] rfl
    have hD : va_D A (wZ qx qm cI cZ cJ ao u_2.1.1 u_2.1.2.1 u_2.1.2.2 (mMake y c0) u_2.2) := hD.sub [0, 1, 2, 3, 4, 5, 6, 7, 8, 9, 10, 11, 12, 13, 14, 15, 16, 17, 19, 20, 21, 22, 23, 24, 25, 26, 27, 28, 29, 30, 31, 32, 18] (by decide) rfl
    refine xt_i (show nI (MS.th (mMake y c0)) = nI 0 from congrArg nI (rfl)) ?_
    refine lv_iload hx hb dL_law_309 (lv_at hl 1 rfl) ?_
    refine xn_ceq (tgt := 316) hx hb (by omega) (by omega) dL_law_311 (by decide) (fun c_10 => ?_) (fun c_10 => ?_)
    · refine lv_iload hx hb dL_law_316 (lv_at hl 1 rfl) ?_
      refine xn_zne (tgt := 333) hx hb (by omega) dL_law_318 (by decide) (fun c_11 => ?_) (fun c_11 => ?_)
      · refine lv_goto (tgt := 1190) hx hb dL_law_333 (by decide) ?_
        refine W.widen (k := ce + 1) (n := sl + 6) (by omega) (by omega) ?_
        exact hend u_2.1.1 u_2.1.2.1 u_2.1.2.2 (mMake y c0) u_2.2 (by rw [hu1]; exact Rel_make hR h1 h2) H locs hP hD hS ls (lv_sub hl [2, 3, 4, 5, 6] rfl)
        
      · refine lv_aload_n hx hb dL_law_321 rfl (lv_at hl 3 rfl) ?_
        refine lv_iconst (v := nI 0) hx hb dL_law_322 (by decide) ?_
        refine va_lald hx hb hK hP 32 2 rfl rfl (vp_in_nI (show 0 < 1 by decide) (by decide)) dL_law_323 ?_
        refine xt_l (show u_2.2 (nI 0).toNatClampNeg = (nI (bg r.n c0 1)).toInt64 from (congrArg u_2.2 (show (nI 0).toNatClampNeg = 0 by decide)).trans hu2) ?_
        refine lv_iload hx hb dL_law_324 (lv_at hl 0 rfl) ?_
        refine lv_i2l hx hb dL_law_326 rfl ?_
        refine W.lcmp hx hb dL_law_327 ?_
        refine xt_i (show (lg_cmp ((nI (bg r.n c0 1)).toInt64) ((nI (bg y.n c0 1)).toInt64)) = nI 0 from lg_eq (by rw [e_n])) ?_
        refine xn_zeq (tgt := 333) hx hb (by omega) dL_law_328 (by decide) (fun c_12 => ?_) (fun c_12 => ?_)
        · refine lv_goto (tgt := 1190) hx hb dL_law_333 (by decide) ?_
          refine W.widen (k := ce + 1) (n := sl + 6) (by omega) (by omega) ?_
          exact hend u_2.1.1 u_2.1.2.1 u_2.1.2.2 (mMake y c0) u_2.2 (by rw [hu1]; exact Rel_make hR h1 h2) H locs hP hD hS ls (lv_sub hl [2, 3, 4, 5, 6] rfl)
          
        · exact absurd (show False by omega) id
    · exact absurd (show False by omega) id
set_option maxHeartbeats 4000000 in
set_option maxRecDepth 100000 in
theorem op_at {p : Program} {e : Env} {s : State} {m : MethodId} {below : List Frame} {meth : Method} {c : Code} (l : Launch) (hl0 : l.stackTraces = false) {b L : Nat} {xs : Nat → Int32} (hL : L ≤ 3073) (C0 : lw_At p s m meth c b L xs) (A : Nat → Prop) (hA : ∀ q : Nat, s.heap.size ≤ q → A q) (hbA : ¬ A b) (dC : Nat → ClassId) (dI : Nat → Nat → Nat) (qx qm : Nat → Nat) (cI cZ cJ : ClassId) (ao tN : Nat) (hK : va_K (dC, dI) vwCl [(cI, .int), (cZ, .boolean), (cJ, .long)] s) (hE : eX tN A s s.heap) (i : Nat) (hi : i + 5 < L) (ce sl : Nat) (hce : ce + 1 ≤ 1072) (hsl : sl + 6 ≤ 9025) (r : RS) (k : CS) (a : AS) (y : MS) (o : OS) (hR : Rel r k a y) (H : Heap) (locs : List Loc) (hP : va_P (dC, dI) vwCl (wZ qx qm cI cZ cJ ao r k a y o) H) (hD : va_D A (wZ qx qm cI cZ cJ ao r k a y o)) (hS : va_S A s.heap H locs) (ls : Array Slot) (hl : lv_has ls 7 [(4, .int (nI i)), (3, .ref ao), (2, .ref (qm 0)), (1, .ref (qx 17)), (0, .ref b)]) (hend : ∀ (r : RS) (k : CS) (a : AS) (y : MS) (o : OS), Rel r k a y → ∀ (H : Heap) (locs : List Loc), va_P (dC, dI) vwCl (wZ qx qm cI cZ cJ ao r k a y o) H → va_D A (wZ qx qm cI cZ cJ ao r k a y o) → va_S A s.heap H locs → ∀ ls : Array Slot, lv_has ls 7 [(4, .int (nI i)), (3, .ref ao), (2, .ref (qm 0)), (1, .ref (qx 17)), (0, .ref b)] → W p l e room_1 s m #[Value.ref b] below meth c H locs (ce + 1) (sl + 6) (lw_Z below #[Value.ref b] s) (F0 m 1190 ls [])) : W p l e room_1 s m #[Value.ref b] below meth c H locs (ce) (sl) (lw_Z below #[Value.ref b] s) (F0 m 336 ls []) := by
  obtain ⟨hx, hb, hr, hml, hown, hts0, hX, hbl, hlocks, hgv⟩ := id C0
  have hown : s.vm.findClass "ScanRowsLaw" = some m.cls := hown
  have hts : ∀ w ∈ ALLG, w.before #[Value.ref b] s = true := fun w h => hts0 w (List.mem_filter.mp h).1
  have b_n : r.n ≤ 32 := hR.1.1.1
  have b_c : r.c ≤ 8 := hR.1.1.2.1
  have b_p : r.p ≤ r.n := hR.1.1.2.2.1
  have k_n : k.n ≤ 20 := hR.1.2.1.1
  have hB : RB r := hR.1.1
  have hM : MB y := hR.2.1
  have hmo : mono y := Rel_mono hR
  have hC : RC r := PI_RC hR.2.2.1
  have e_n : y.n = r.n := hR.2.2.2.2.1.1
  have e_c : y.c = r.c := hR.2.2.2.2.1.2.1
  have e_p : y.p = r.p := hR.2.2.2.2.1.2.2.1
  have e_vb : y.vb = r.vb := hR.2.2.2.2.1.2.2.2.1
  have e_fl : y.fl = r.fl := hR.2.2.2.2.1.2.2.2.2.2.2.2.1
  have e_st : y.st = r.st := hR.2.2.2.2.1.2.2.2.2.2.2.2.2.2
  have e_k : toK y = k := hR.2.2.2.2.2.1
  have e_cn : y.cn = k.n := congrArg CS.n e_k
  have e_co : y.co = a.co := hR.2.2.2.2.2.2.2.1
  have a_co : a.co < 16 := hR.1.2.2.2.1
  have e_sa : y.sa = a.st := hR.2.2.2.2.2.2.1
  rcases at_cs (xs (i + 1)) (xs (i + 2)) b_c with h1 | ⟨ch, kk, h1, h2, e1, e2⟩
  · refine lv_aload_n hx hb dL_law_336 rfl (lv_at hl 3 rfl) ?_
    refine lv_aload_n hx hb dL_law_337 rfl (lv_at hl 4 rfl) ?_
    refine lv_iload hx hb dL_law_338 (lv_at hl 0 rfl) ?_
    refine lv_iconst (v := nI 1) hx hb dL_law_340 (by decide) ?_
    refine xn_add hx hb dL_law_341 ?_
    refine va_sld hx hb hX hbl hbA hS (vp_in_nI (show i + 1 < L by omega) (by omega)) dL_law_342 ?_
    refine xt_i (show xs (nI (i + 1)).toNatClampNeg = (xs (i + 1)) from (congrArg xs (nI_clamp (by omega))).trans (rfl)) ?_
    refine lv_aload_n hx hb dL_law_343 rfl (lv_at hl 4 rfl) ?_
    refine lv_iload hx hb dL_law_344 (lv_at hl 0 rfl) ?_
    refine lv_iconst (v := nI 2) hx hb dL_law_346 (by decide) ?_
    refine xn_add hx hb dL_law_347 ?_
    refine va_sld hx hb hX hbl hbA hS (vp_in_nI (show i + 2 < L by omega) (by omega)) dL_law_348 ?_
    refine xt_i (show xs (nI (i + 2)).toNatClampNeg = (xs (i + 2)) from (congrArg xs (nI_clamp (by omega))).trans (rfl)) ?_
    refine lv_aload_n hx hb dL_law_349 rfl (lv_at hl 1 rfl) ?_
    refine xw_Si (As := [.ref (qx 17), .int (xs (i + 1)), .int (xs (i + 2)), .ref ao]) (wr := wM qm cI cZ y) ⟨hx, hb, hml, hown, hts⟩ (hx_at l hl0 dC dI qx cI cZ cJ ao H.size r k a o tN _ _ h1) (vx_cwSW 4 hts (gSW tw_307 tw_308 tw_0 tw_309) rfl rfl rfl (by decide +kernel) ⟨Nat.le_of_ble_eq_true rfl, Nat.le_of_ble_eq_true rfl⟩) rfl hl.1 rfl (Nat.le_of_ble_eq_true rfl) dL_law_350 ⟨by show ce + 1 ≤ 1072; omega, by show sl + 6 ≤ 9025; omega⟩ hP hD hK hS hA [0, 1, 2, 3, 4, 5, 6, 7, 8, 9, 10, 11, 12, 13, 14, 15, 16, 17, 32] [18, 19, 20, 21, 22, 23, 24, 25, 26, 27, 28, 29, 30, 31] rfl rfl (by decide) (by decide) (by decide) [0, 1, 2] rfl (eX_W _ _) (eX_kn hE hS (va_free (wc := wH qx cI cZ cJ ao r k a o) hD hS hA [0, 1, 2, 3, 4, 5, 6, 7, 8, 9, 10, 11, 12, 13, 14, 15, 16, 17, 32] rfl)) (fun r_1 u_2 H locs w_3 hP hD hS => ?_)
    obtain ⟨rfl, rfl⟩ := w_3
    have hP : va_P (dC, dI) vwCl (wZ qx qm cI cZ cJ ao r k a y o) H := hP.sub [14, 15, 16, 17, 18, 19, 20, 21, 22, 23, 24, 25, 26, 27, 28, 29, 30, 31, 0, 1, 2, 3, 4, 5, 6, 7, 8, 9, 10, 11, 12, 13, 32] rfl
    have hD : va_D A (wZ qx qm cI cZ cJ ao r k a y o) := hD.sub [14, 15, 16, 17, 18, 19, 20, 21, 22, 23, 24, 25, 26, 27, 28, 29, 30, 31, 0, 1, 2, 3, 4, 5, 6, 7, 8, 9, 10, 11, 12, 13, 32] (by decide) rfl
    refine lv_istore (lv' := [(5, .int (nI 1)), (4, .int (nI i)), (3, .ref ao), (2, .ref (qm 0)), (1, .ref (qx 17)), (0, .ref b)]) hx hb dL_law_353 hl (by decide) rfl (fun ls hl => ?_)
    refine lv_aload_n hx hb dL_law_355 rfl (lv_at hl 3 rfl) ?_
    refine lv_aload_n hx hb dL_law_356 rfl (lv_at hl 5 rfl) ?_
    refine lv_iload hx hb dL_law_357 (lv_at hl 1 rfl) ?_
    refine lv_iconst (v := nI 1) hx hb dL_law_359 (by decide) ?_
    refine xn_add hx hb dL_law_360 ?_
    refine va_sld hx hb hX hbl hbA hS (vp_in_nI (show i + 1 < L by omega) (by omega)) dL_law_361 ?_
    refine xt_i (show xs (nI (i + 1)).toNatClampNeg = (xs (i + 1)) from (congrArg xs (nI_clamp (by omega))).trans (rfl)) ?_
    refine lv_aload_n hx hb dL_law_362 rfl (lv_at hl 5 rfl) ?_
    refine lv_iload hx hb dL_law_363 (lv_at hl 1 rfl) ?_
    refine lv_iconst (v := nI 2) hx hb dL_law_365 (by decide) ?_
    refine xn_add hx hb dL_law_366 ?_
    refine va_sld hx hb hX hbl hbA hS (vp_in_nI (show i + 2 < L by omega) (by omega)) dL_law_367 ?_
    refine xt_i (show xs (nI (i + 2)).toNatClampNeg = (xs (i + 2)) from (congrArg xs (nI_clamp (by omega))).trans (rfl)) ?_
    refine xc_Vi (As := [.int (xs (i + 1)), .int (xs (i + 2))]) (wr := wX qx cI cZ r k a ++ wO cJ ao o) ⟨hx, hb, hml, hown, hts⟩ (c_M_at1 l dC dI qm cI cZ H.size y _ _ (by rw [e_c]; exact h1)) (cwV 2 hts (gV tw_660 tw_661 tw_662 tw_5 tw_663) rfl rfl rfl (by decide +kernel) ⟨Nat.le_of_ble_eq_true rfl, Nat.le_of_ble_eq_true rfl⟩) rfl hl.1 rfl (Nat.le_of_ble_eq_true rfl) dL_law_368 ⟨by show _ ≤ 1072; omega, by show _ ≤ 9025; omega⟩ hP hD hK hS hA [18, 19, 20, 21, 22, 23, 24, 25, 26, 27, 28, 29, 30, 31] [0, 1, 2, 3, 4, 5, 6, 7, 8, 9, 10, 11, 12, 13, 14, 15, 16, 17, 32] rfl rfl (by decide) (by decide) (by decide) [0, 1] rfl (q0 := 0) rfl rfl rfl eT_M (trivial) (fun r_4 u_5 H locs w_6 hP hD hS => ?_)
    obtain ⟨rfl, rfl⟩ := w_6
    have hP : va_P (dC, dI) vwCl (wZ qx qm cI cZ cJ ao r k a (MS.s_th y 1) o) H := hP.sub [0, 1, 2, 3, 4, 5, 6, 7, 8, 9, 10, 11, 12, 13, 14, 15, 16, 17, 19, 20, 21, 22, 23, 24, 25, 26, 27, 28, 29, 30, 31, 32, 18] rfl
    have hD : va_D A (wZ qx qm cI cZ cJ ao r k a (MS.s_th y 1) o) := hD.sub [0, 1, 2, 3, 4, 5, 6, 7, 8, 9, 10, 11, 12, 13, 14, 15, 16, 17, 19, 20, 21, 22, 23, 24, 25, 26, 27, 28, 29, 30, 31, 32, 18] (by decide) rfl
    refine lv_istore (lv' := [(6, .int (nI 0)), (5, .int (nI 1)), (4, .int (nI i)), (3, .ref ao), (2, .ref (qm 0)), (1, .ref (qx 17)), (0, .ref b)]) hx hb dL_law_371 hl (by decide) rfl (fun ls hl => ?_)
    refine lv_aload_n hx hb dL_law_373 rfl (lv_at hl 4 rfl) ?_
    refine xc_Vi (As := []) (wr := wX qx cI cZ r k a ++ wO cJ ao o) ⟨hx, hb, hml, hown, hts⟩ (c_ScanRowsModel_thrown l dC dI qm cI cZ H.size (MS.s_th y 1)) (cwV 0 hts (gV tw_642 tw_643 tw_644 tw_5 tw_645) rfl rfl rfl (by decide +kernel) ⟨Nat.le_of_ble_eq_true rfl, Nat.le_of_ble_eq_true rfl⟩) rfl hl.1 rfl (Nat.le_of_ble_eq_true rfl) dL_law_374 ⟨by show _ ≤ 1072; omega, by show _ ≤ 9025; omega⟩ hP hD hK hS hA [18, 19, 20, 21, 22, 23, 24, 25, 26, 27, 28, 29, 30, 31] [0, 1, 2, 3, 4, 5, 6, 7, 8, 9, 10, 11, 12, 13, 14, 15, 16, 17, 32] rfl rfl (by decide) (by decide) (by decide) [0, 1] rfl (q0 := 0) rfl rfl rfl eT_M (trivial) (fun r_7 u_8 H locs w_9 hP hD hS => ?_)
    obtain rfl := w_9
    have hP : va_P (dC, dI) vwCl (wZ qx qm cI cZ cJ ao r k a (MS.s_th y 1) o) H := hP.sub [0, 1, 2, 3, 4, 5, 6, 7, 8, 9, 10, 11, 12, 13, 14, 15, 16, 17, 19, 20, 21, 22, 23, 24, 25, 26, 27, 28, 29, 30, 31, 32, 18] rfl
    have hD : va_D A (wZ qx qm cI cZ cJ ao r k a (MS.s_th y 1) o) := hD.sub [0, 1, 2, 3, 4, 5, 6, 7, 8, 9, 10, 11, 12, 13, 14, 15, 16, 17, 19, 20, 21, 22, 23, 24, 25, 26, 27, 28, 29, 30, 31, 32, 18] (by decide) rfl
    refine xt_i (show nI (MS.th (MS.s_th y 1)) = nI 1 from congrArg nI (rfl)) ?_
    refine lv_iload hx hb dL_law_377 (lv_at hl 1 rfl) ?_
    refine xn_ceq (tgt := 384) hx hb (by omega) (by omega) dL_law_379 (by decide) (fun c_10 => ?_) (fun c_10 => ?_)
    · refine lv_iload hx hb dL_law_384 (lv_at hl 1 rfl) ?_
      refine xn_zne (tgt := 401) hx hb (by omega) dL_law_386 (by decide) (fun c_11 => ?_) (fun c_11 => ?_)
      · refine lv_goto (tgt := 1190) hx hb dL_law_401 (by decide) ?_
        refine W.widen (k := ce + 1) (n := sl + 6) (by omega) (by omega) ?_
        exact hend r k a (MS.s_th y 1) o (Rel_th hR 1) H locs hP hD hS ls (lv_sub hl [2, 3, 4, 5, 6] rfl)
        
      · exact absurd (show False by omega) id
    · exact absurd (show False by omega) id
  · refine lv_aload_n hx hb dL_law_336 rfl (lv_at hl 3 rfl) ?_
    refine lv_aload_n hx hb dL_law_337 rfl (lv_at hl 4 rfl) ?_
    refine lv_iload hx hb dL_law_338 (lv_at hl 0 rfl) ?_
    refine lv_iconst (v := nI 1) hx hb dL_law_340 (by decide) ?_
    refine xn_add hx hb dL_law_341 ?_
    refine va_sld hx hb hX hbl hbA hS (vp_in_nI (show i + 1 < L by omega) (by omega)) dL_law_342 ?_
    refine xt_i (show xs (nI (i + 1)).toNatClampNeg = nI ch from (congrArg xs (nI_clamp (by omega))).trans (e1)) ?_
    refine lv_aload_n hx hb dL_law_343 rfl (lv_at hl 4 rfl) ?_
    refine lv_iload hx hb dL_law_344 (lv_at hl 0 rfl) ?_
    refine lv_iconst (v := nI 2) hx hb dL_law_346 (by decide) ?_
    refine xn_add hx hb dL_law_347 ?_
    refine va_sld hx hb hX hbl hbA hS (vp_in_nI (show i + 2 < L by omega) (by omega)) dL_law_348 ?_
    refine xt_i (show xs (nI (i + 2)).toNatClampNeg = nI kk from (congrArg xs (nI_clamp (by omega))).trans (e2)) ?_
    refine lv_aload_n hx hb dL_law_349 rfl (lv_at hl 1 rfl) ?_
    refine xw_Si (As := [.ref (qx 17), .int (nI ch), .int (nI kk), .ref ao]) (wr := wM qm cI cZ y) ⟨hx, hb, hml, hown, hts⟩ (h_at l dC dI qx cI cZ cJ ao H.size r k a o ch kk b_c h1 (hR.2.2.2.1.2.2.1 ch h1) (hB.2.2.2.2.2.2.2.2.2.2.2 _) h2) (vx_cwSW 4 hts (gSW tw_307 tw_308 tw_0 tw_309) rfl rfl rfl (by decide +kernel) ⟨Nat.le_of_ble_eq_true rfl, Nat.le_of_ble_eq_true rfl⟩) rfl hl.1 rfl (Nat.le_of_ble_eq_true rfl) dL_law_350 ⟨by show ce + 0 ≤ 1072; omega, by show sl + 0 ≤ 9025; omega⟩ hP hD hK hS hA [0, 1, 2, 3, 4, 5, 6, 7, 8, 9, 10, 11, 12, 13, 14, 15, 16, 17, 32] [18, 19, 20, 21, 22, 23, 24, 25, 26, 27, 28, 29, 30, 31] rfl rfl (by decide) (by decide) (by decide) [0, 1, 2] rfl (eW_of eT_M) trivial (fun r_1 u_2 H locs w_3 hP hD hS => ?_)
    obtain ⟨rfl, hu1, hu2⟩ := w_3
    have hP : va_P (dC, dI) vwCl (wZ qx qm cI cZ cJ ao u_2.1.1 u_2.1.2.1 u_2.1.2.2 y u_2.2) H := hP.sub [14, 15, 16, 17, 18, 19, 20, 21, 22, 23, 24, 25, 26, 27, 28, 29, 30, 31, 0, 1, 2, 3, 4, 5, 6, 7, 8, 9, 10, 11, 12, 13, 32] rfl
    have hD : va_D A (wZ qx qm cI cZ cJ ao u_2.1.1 u_2.1.2.1 u_2.1.2.2 y u_2.2) := hD.sub [14, 15, 16, 17, 18, 19, 20, 21, 22, 23, 24, 25, 26, 27, 28, 29, 30, 31, 0, 1, 2, 3, 4, 5, 6, 7, 8, 9, 10, 11, 12, 13, 32] (by decide) rfl
    refine lv_istore (lv' := [(5, .int (nI 0)), (4, .int (nI i)), (3, .ref ao), (2, .ref (qm 0)), (1, .ref (qx 17)), (0, .ref b)]) hx hb dL_law_353 hl (by decide) rfl (fun ls hl => ?_)
    refine lv_aload_n hx hb dL_law_355 rfl (lv_at hl 3 rfl) ?_
    refine lv_aload_n hx hb dL_law_356 rfl (lv_at hl 5 rfl) ?_
    refine lv_iload hx hb dL_law_357 (lv_at hl 1 rfl) ?_
    refine lv_iconst (v := nI 1) hx hb dL_law_359 (by decide) ?_
    refine xn_add hx hb dL_law_360 ?_
    refine va_sld hx hb hX hbl hbA hS (vp_in_nI (show i + 1 < L by omega) (by omega)) dL_law_361 ?_
    refine xt_i (show xs (nI (i + 1)).toNatClampNeg = nI ch from (congrArg xs (nI_clamp (by omega))).trans (e1)) ?_
    refine lv_aload_n hx hb dL_law_362 rfl (lv_at hl 5 rfl) ?_
    refine lv_iload hx hb dL_law_363 (lv_at hl 1 rfl) ?_
    refine lv_iconst (v := nI 2) hx hb dL_law_365 (by decide) ?_
    refine xn_add hx hb dL_law_366 ?_
    refine va_sld hx hb hX hbl hbA hS (vp_in_nI (show i + 2 < L by omega) (by omega)) dL_law_367 ?_
    refine xt_i (show xs (nI (i + 2)).toNatClampNeg = nI kk from (congrArg xs (nI_clamp (by omega))).trans (e2)) ?_
    refine xc_Vi (As := [.int (nI ch), .int (nI kk)]) (wr := wX qx cI cZ u_2.1.1 u_2.1.2.1 u_2.1.2.2 ++ wO cJ ao u_2.2) ⟨hx, hb, hml, hown, hts⟩ (c_ScanRowsModel_at l dC dI qm cI cZ H.size y ch kk (by omega) (by omega) (hmo ch (by omega)) (hM.1.2.2.2.2.2.2.2.2.2.2.2 _) h2) (cwV 2 hts (gV tw_660 tw_661 tw_662 tw_5 tw_663) rfl rfl rfl (by decide +kernel) ⟨Nat.le_of_ble_eq_true rfl, Nat.le_of_ble_eq_true rfl⟩) rfl hl.1 rfl (Nat.le_of_ble_eq_true rfl) dL_law_368 ⟨by show _ ≤ 1072; omega, by show _ ≤ 9025; omega⟩ hP hD hK hS hA [18, 19, 20, 21, 22, 23, 24, 25, 26, 27, 28, 29, 30, 31] [0, 1, 2, 3, 4, 5, 6, 7, 8, 9, 10, 11, 12, 13, 14, 15, 16, 17, 32] rfl rfl (by decide) (by decide) (by decide) [0, 1] rfl (q0 := 0) rfl rfl rfl eT_M (trivial) (fun r_4 u_5 H locs w_6 hP hD hS => ?_)
    obtain ⟨rfl, rfl⟩ := w_6
    have hP : va_P (dC, dI) vwCl (wZ qx qm cI cZ cJ ao u_2.1.1 u_2.1.2.1 u_2.1.2.2 (MS.s_th y 0) u_2.2) H := hP.sub [0, 1, 2, 3, 4, 5, 6, 7, 8, 9, 10, 11, 12, 13, 14, 15, 16, 17, 19, 20, 21, 22, 23, 24, 25, 26, 27, 28, 29, 30, 31, 32, 18] rfl
    have hD : va_D A (wZ qx qm cI cZ cJ ao u_2.1.1 u_2.1.2.1 u_2.1.2.2 (MS.s_th y 0) u_2.2) := hD.sub [0, 1, 2, 3, 4, 5, 6, 7, 8, 9, 10, 11, 12, 13, 14, 15, 16, 17, 19, 20, 21, 22, 23, 24, 25, 26, 27, 28, 29, 30, 31, 32, 18] (by decide) rfl
    refine lv_istore (lv' := [(6, .int (zI (atZ (toR y) ch kk))), (5, .int (nI 0)), (4, .int (nI i)), (3, .ref ao), (2, .ref (qm 0)), (1, .ref (qx 17)), (0, .ref b)]) hx hb dL_law_371 hl (by decide) rfl (fun ls hl => ?_)
    refine lv_aload_n hx hb dL_law_373 rfl (lv_at hl 4 rfl) ?_
    refine xc_Vi (As := []) (wr := wX qx cI cZ u_2.1.1 u_2.1.2.1 u_2.1.2.2 ++ wO cJ ao u_2.2) ⟨hx, hb, hml, hown, hts⟩ (c_ScanRowsModel_thrown l dC dI qm cI cZ H.size (MS.s_th y 0)) (cwV 0 hts (gV tw_642 tw_643 tw_644 tw_5 tw_645) rfl rfl rfl (by decide +kernel) ⟨Nat.le_of_ble_eq_true rfl, Nat.le_of_ble_eq_true rfl⟩) rfl hl.1 rfl (Nat.le_of_ble_eq_true rfl) dL_law_374 ⟨by show _ ≤ 1072; omega, by show _ ≤ 9025; omega⟩ hP hD hK hS hA [18, 19, 20, 21, 22, 23, 24, 25, 26, 27, 28, 29, 30, 31] [0, 1, 2, 3, 4, 5, 6, 7, 8, 9, 10, 11, 12, 13, 14, 15, 16, 17, 32] rfl rfl (by decide) (by decide) (by decide) [0, 1] rfl (q0 := 0) rfl rfl rfl eT_M (trivial) (fun r_7 u_8 H locs w_9 hP hD hS => ?_)
    obtain rfl := w_9
    have hP : va_P (dC, dI) vwCl (wZ qx qm cI cZ cJ ao u_2.1.1 u_2.1.2.1 u_2.1.2.2 (MS.s_th y 0) u_2.2) H := hP.sub [0, 1, 2, 3, 4, 5, 6, 7, 8, 9, 10, 11, 12, 13, 14, 15, 16, 17, 19, 20, 21, 22, 23, 24, 25, 26, 27, 28, 29, 30, 31, 32, 18] rfl
    have hD : va_D A (wZ qx qm cI cZ cJ ao u_2.1.1 u_2.1.2.1 u_2.1.2.2 (MS.s_th y 0) u_2.2) := hD.sub [0, 1, 2, 3, 4, 5, 6, 7, 8, 9, 10, 11, 12, 13, 14, 15, 16, 17, 19, 20, 21, 22, 23, 24, 25, 26, 27, 28, 29, 30, 31, 32, 18] (by decide) rfl
    refine xt_i (show nI (MS.th (MS.s_th y 0)) = nI 0 from congrArg nI (rfl)) ?_
    refine lv_iload hx hb dL_law_377 (lv_at hl 1 rfl) ?_
    refine xn_ceq (tgt := 384) hx hb (by omega) (by omega) dL_law_379 (by decide) (fun c_10 => ?_) (fun c_10 => ?_)
    · refine lv_iload hx hb dL_law_384 (lv_at hl 1 rfl) ?_
      refine xn_zne (tgt := 401) hx hb (by omega) dL_law_386 (by decide) (fun c_11 => ?_) (fun c_11 => ?_)
      · refine lv_goto (tgt := 1190) hx hb dL_law_401 (by decide) ?_
        refine W.widen (k := ce + 1) (n := sl + 6) (by omega) (by omega) ?_
        exact hend u_2.1.1 u_2.1.2.1 u_2.1.2.2 (MS.s_th y 0) u_2.2 (by rw [hu1]; exact Rel_th hR 0) H locs hP hD hS ls (lv_sub hl [2, 3, 4, 5, 6] rfl)
        
      · refine lv_aload_n hx hb dL_law_389 rfl (lv_at hl 3 rfl) ?_
        refine lv_iconst (v := nI 0) hx hb dL_law_390 (by decide) ?_
        refine va_lald hx hb hK hP 32 2 rfl rfl (vp_in_nI (show 0 < 1 by decide) (by decide)) dL_law_391 ?_
        refine xt_l (show u_2.2 (nI 0).toNatClampNeg = (zI (atZ r ch kk)).toInt64 from (congrArg u_2.2 (show (nI 0).toNatClampNeg = 0 by decide)).trans hu2) ?_
        refine lv_iload hx hb dL_law_392 (lv_at hl 0 rfl) ?_
        refine lv_i2l hx hb dL_law_394 rfl ?_
        refine W.lcmp hx hb dL_law_395 ?_
        refine xt_i (show (lg_cmp ((zI (atZ r ch kk)).toInt64) ((zI (atZ (toR y) ch kk)).toInt64)) = nI 0 from lg_eq (by rw [Rel_at hR])) ?_
        refine xn_zeq (tgt := 401) hx hb (by omega) dL_law_396 (by decide) (fun c_12 => ?_) (fun c_12 => ?_)
        · refine lv_goto (tgt := 1190) hx hb dL_law_401 (by decide) ?_
          refine W.widen (k := ce + 1) (n := sl + 6) (by omega) (by omega) ?_
          exact hend u_2.1.1 u_2.1.2.1 u_2.1.2.2 (MS.s_th y 0) u_2.2 (by rw [hu1]; exact Rel_th hR 0) H locs hP hD hS ls (lv_sub hl [2, 3, 4, 5, 6] rfl)
          
        · exact absurd (show False by omega) id
    · exact absurd (show False by omega) id
set_option maxHeartbeats 4000000 in
set_option maxRecDepth 100000 in
theorem op_lockUp {p : Program} {e : Env} {s : State} {m : MethodId} {below : List Frame} {meth : Method} {c : Code} (l : Launch) (hl0 : l.stackTraces = false) {b L : Nat} {xs : Nat → Int32} (hL : L ≤ 3073) (C0 : lw_At p s m meth c b L xs) (A : Nat → Prop) (hA : ∀ q : Nat, s.heap.size ≤ q → A q) (hbA : ¬ A b) (dC : Nat → ClassId) (dI : Nat → Nat → Nat) (qx qm : Nat → Nat) (cI cZ cJ : ClassId) (ao tN : Nat) (hK : va_K (dC, dI) vwCl [(cI, .int), (cZ, .boolean), (cJ, .long)] s) (hE : eX tN A s s.heap) (i : Nat) (hi : i + 5 < L) (ce sl : Nat) (hce : ce + 1 ≤ 1072) (hsl : sl + 6 ≤ 9025) (r : RS) (k : CS) (a : AS) (y : MS) (o : OS) (hR : Rel r k a y) (H : Heap) (locs : List Loc) (hP : va_P (dC, dI) vwCl (wZ qx qm cI cZ cJ ao r k a y o) H) (hD : va_D A (wZ qx qm cI cZ cJ ao r k a y o)) (hS : va_S A s.heap H locs) (ls : Array Slot) (hl : lv_has ls 7 [(4, .int (nI i)), (3, .ref ao), (2, .ref (qm 0)), (1, .ref (qx 17)), (0, .ref b)]) (hend : ∀ (r : RS) (k : CS) (a : AS) (y : MS) (o : OS), Rel r k a y → ∀ (H : Heap) (locs : List Loc), va_P (dC, dI) vwCl (wZ qx qm cI cZ cJ ao r k a y o) H → va_D A (wZ qx qm cI cZ cJ ao r k a y o) → va_S A s.heap H locs → ∀ ls : Array Slot, lv_has ls 7 [(4, .int (nI i)), (3, .ref ao), (2, .ref (qm 0)), (1, .ref (qx 17)), (0, .ref b)] → W p l e room_1 s m #[Value.ref b] below meth c H locs (ce + 1) (sl + 6) (lw_Z below #[Value.ref b] s) (F0 m 1190 ls [])) : W p l e room_1 s m #[Value.ref b] below meth c H locs (ce) (sl) (lw_Z below #[Value.ref b] s) (F0 m 404 ls []) := by
  obtain ⟨hx, hb, hr, hml, hown, hts0, hX, hbl, hlocks, hgv⟩ := id C0
  have hown : s.vm.findClass "ScanRowsLaw" = some m.cls := hown
  have hts : ∀ w ∈ ALLG, w.before #[Value.ref b] s = true := fun w h => hts0 w (List.mem_filter.mp h).1
  have b_n : r.n ≤ 32 := hR.1.1.1
  have b_c : r.c ≤ 8 := hR.1.1.2.1
  have b_p : r.p ≤ r.n := hR.1.1.2.2.1
  have k_n : k.n ≤ 20 := hR.1.2.1.1
  have hB : RB r := hR.1.1
  have hM : MB y := hR.2.1
  have hmo : mono y := Rel_mono hR
  have hC : RC r := PI_RC hR.2.2.1
  have e_n : y.n = r.n := hR.2.2.2.2.1.1
  have e_c : y.c = r.c := hR.2.2.2.2.1.2.1
  have e_p : y.p = r.p := hR.2.2.2.2.1.2.2.1
  have e_vb : y.vb = r.vb := hR.2.2.2.2.1.2.2.2.1
  have e_fl : y.fl = r.fl := hR.2.2.2.2.1.2.2.2.2.2.2.2.1
  have e_st : y.st = r.st := hR.2.2.2.2.1.2.2.2.2.2.2.2.2.2
  have e_k : toK y = k := hR.2.2.2.2.2.1
  have e_cn : y.cn = k.n := congrArg CS.n e_k
  have e_co : y.co = a.co := hR.2.2.2.2.2.2.2.1
  have a_co : a.co < 16 := hR.1.2.2.2.1
  have e_sa : y.sa = a.st := hR.2.2.2.2.2.2.1
  rcases lk_cs (xs (i + 1)) (xs (i + 2)) b_c (fun ch => r.st (ch + 1) - r.st ch) with h1 | ⟨ch, kk, h1, h2, e1, e2, h3⟩ | ⟨ch, kk, h1, h2, e1, e2, h3⟩
  · refine lv_aload_n hx hb dL_law_404 rfl (lv_at hl 3 rfl) ?_
    refine lv_aload_n hx hb dL_law_405 rfl (lv_at hl 4 rfl) ?_
    refine lv_iload hx hb dL_law_406 (lv_at hl 0 rfl) ?_
    refine lv_iconst (v := nI 1) hx hb dL_law_408 (by decide) ?_
    refine xn_add hx hb dL_law_409 ?_
    refine va_sld hx hb hX hbl hbA hS (vp_in_nI (show i + 1 < L by omega) (by omega)) dL_law_410 ?_
    refine xt_i (show xs (nI (i + 1)).toNatClampNeg = (xs (i + 1)) from (congrArg xs (nI_clamp (by omega))).trans (rfl)) ?_
    refine lv_aload_n hx hb dL_law_411 rfl (lv_at hl 4 rfl) ?_
    refine lv_iload hx hb dL_law_412 (lv_at hl 0 rfl) ?_
    refine lv_iconst (v := nI 2) hx hb dL_law_414 (by decide) ?_
    refine xn_add hx hb dL_law_415 ?_
    refine va_sld hx hb hX hbl hbA hS (vp_in_nI (show i + 2 < L by omega) (by omega)) dL_law_416 ?_
    refine xt_i (show xs (nI (i + 2)).toNatClampNeg = (xs (i + 2)) from (congrArg xs (nI_clamp (by omega))).trans (rfl)) ?_
    refine lv_aload_n hx hb dL_law_417 rfl (lv_at hl 1 rfl) ?_
    refine xw_Si (As := [.ref (qx 17), .int (xs (i + 1)), .int (xs (i + 2)), .ref ao]) (wr := wM qm cI cZ y) ⟨hx, hb, hml, hown, hts⟩ (hx_lockUp1 l hl0 dC dI qx cI cZ cJ ao H.size r k a o tN _ _ h1) (vx_cwSW 4 hts (gSW tw_340 tw_341 tw_0 tw_342) rfl rfl rfl (by decide +kernel) ⟨Nat.le_of_ble_eq_true rfl, Nat.le_of_ble_eq_true rfl⟩) rfl hl.1 rfl (Nat.le_of_ble_eq_true rfl) dL_law_418 ⟨by show ce + 1 ≤ 1072; omega, by show sl + 6 ≤ 9025; omega⟩ hP hD hK hS hA [0, 1, 2, 3, 4, 5, 6, 7, 8, 9, 10, 11, 12, 13, 14, 15, 16, 17, 32] [18, 19, 20, 21, 22, 23, 24, 25, 26, 27, 28, 29, 30, 31] rfl rfl (by decide) (by decide) (by decide) [0, 1, 2] rfl (eX_W _ _) (eX_kn hE hS (va_free (wc := wH qx cI cZ cJ ao r k a o) hD hS hA [0, 1, 2, 3, 4, 5, 6, 7, 8, 9, 10, 11, 12, 13, 14, 15, 16, 17, 32] rfl)) (fun r_1 u_2 H locs w_3 hP hD hS => ?_)
    obtain ⟨rfl, rfl⟩ := w_3
    have hP : va_P (dC, dI) vwCl (wZ qx qm cI cZ cJ ao r k a y o) H := hP.sub [14, 15, 16, 17, 18, 19, 20, 21, 22, 23, 24, 25, 26, 27, 28, 29, 30, 31, 0, 1, 2, 3, 4, 5, 6, 7, 8, 9, 10, 11, 12, 13, 32] rfl
    have hD : va_D A (wZ qx qm cI cZ cJ ao r k a y o) := hD.sub [14, 15, 16, 17, 18, 19, 20, 21, 22, 23, 24, 25, 26, 27, 28, 29, 30, 31, 0, 1, 2, 3, 4, 5, 6, 7, 8, 9, 10, 11, 12, 13, 32] (by decide) rfl
    refine lv_istore (lv' := [(5, .int (nI 1)), (4, .int (nI i)), (3, .ref ao), (2, .ref (qm 0)), (1, .ref (qx 17)), (0, .ref b)]) hx hb dL_law_421 hl (by decide) rfl (fun ls hl => ?_)
    refine lv_aload_n hx hb dL_law_423 rfl (lv_at hl 3 rfl) ?_
    refine lv_aload_n hx hb dL_law_424 rfl (lv_at hl 5 rfl) ?_
    refine lv_iload hx hb dL_law_425 (lv_at hl 1 rfl) ?_
    refine lv_iconst (v := nI 1) hx hb dL_law_427 (by decide) ?_
    refine xn_add hx hb dL_law_428 ?_
    refine va_sld hx hb hX hbl hbA hS (vp_in_nI (show i + 1 < L by omega) (by omega)) dL_law_429 ?_
    refine xt_i (show xs (nI (i + 1)).toNatClampNeg = (xs (i + 1)) from (congrArg xs (nI_clamp (by omega))).trans (rfl)) ?_
    refine lv_aload_n hx hb dL_law_430 rfl (lv_at hl 5 rfl) ?_
    refine lv_iload hx hb dL_law_431 (lv_at hl 1 rfl) ?_
    refine lv_iconst (v := nI 2) hx hb dL_law_433 (by decide) ?_
    refine xn_add hx hb dL_law_434 ?_
    refine va_sld hx hb hX hbl hbA hS (vp_in_nI (show i + 2 < L by omega) (by omega)) dL_law_435 ?_
    refine xt_i (show xs (nI (i + 2)).toNatClampNeg = (xs (i + 2)) from (congrArg xs (nI_clamp (by omega))).trans (rfl)) ?_
    refine xc_Vi (As := [.int (xs (i + 1)), .int (xs (i + 2))]) (wr := wX qx cI cZ r k a ++ wO cJ ao o) ⟨hx, hb, hml, hown, hts⟩ (c_M_lockUp1 l dC dI qm cI cZ H.size y _ _ (by rw [e_c]; exact h1)) (cwV 2 hts (gV tw_668 tw_669 tw_670 tw_5 tw_671) rfl rfl rfl (by decide +kernel) ⟨Nat.le_of_ble_eq_true rfl, Nat.le_of_ble_eq_true rfl⟩) rfl hl.1 rfl (Nat.le_of_ble_eq_true rfl) dL_law_436 ⟨by show _ ≤ 1072; omega, by show _ ≤ 9025; omega⟩ hP hD hK hS hA [18, 19, 20, 21, 22, 23, 24, 25, 26, 27, 28, 29, 30, 31] [0, 1, 2, 3, 4, 5, 6, 7, 8, 9, 10, 11, 12, 13, 14, 15, 16, 17, 32] rfl rfl (by decide) (by decide) (by decide) [0, 1] rfl (q0 := 0) rfl rfl rfl eT_M (trivial) (fun r_4 u_5 H locs w_6 hP hD hS => ?_)
    obtain ⟨rfl, rfl⟩ := w_6
    have hP : va_P (dC, dI) vwCl (wZ qx qm cI cZ cJ ao r k a (MS.s_th y 1) o) H := hP.sub [0, 1, 2, 3, 4, 5, 6, 7, 8, 9, 10, 11, 12, 13, 14, 15, 16, 17, 19, 20, 21, 22, 23, 24, 25, 26, 27, 28, 29, 30, 31, 32, 18] rfl
    have hD : va_D A (wZ qx qm cI cZ cJ ao r k a (MS.s_th y 1) o) := hD.sub [0, 1, 2, 3, 4, 5, 6, 7, 8, 9, 10, 11, 12, 13, 14, 15, 16, 17, 19, 20, 21, 22, 23, 24, 25, 26, 27, 28, 29, 30, 31, 32, 18] (by decide) rfl
    refine lv_istore (lv' := [(6, .int (nI 0)), (5, .int (nI 1)), (4, .int (nI i)), (3, .ref ao), (2, .ref (qm 0)), (1, .ref (qx 17)), (0, .ref b)]) hx hb dL_law_439 hl (by decide) rfl (fun ls hl => ?_)
    refine lv_aload_n hx hb dL_law_441 rfl (lv_at hl 4 rfl) ?_
    refine xc_Vi (As := []) (wr := wX qx cI cZ r k a ++ wO cJ ao o) ⟨hx, hb, hml, hown, hts⟩ (c_ScanRowsModel_thrown l dC dI qm cI cZ H.size (MS.s_th y 1)) (cwV 0 hts (gV tw_642 tw_643 tw_644 tw_5 tw_645) rfl rfl rfl (by decide +kernel) ⟨Nat.le_of_ble_eq_true rfl, Nat.le_of_ble_eq_true rfl⟩) rfl hl.1 rfl (Nat.le_of_ble_eq_true rfl) dL_law_442 ⟨by show _ ≤ 1072; omega, by show _ ≤ 9025; omega⟩ hP hD hK hS hA [18, 19, 20, 21, 22, 23, 24, 25, 26, 27, 28, 29, 30, 31] [0, 1, 2, 3, 4, 5, 6, 7, 8, 9, 10, 11, 12, 13, 14, 15, 16, 17, 32] rfl rfl (by decide) (by decide) (by decide) [0, 1] rfl (q0 := 0) rfl rfl rfl eT_M (trivial) (fun r_7 u_8 H locs w_9 hP hD hS => ?_)
    obtain rfl := w_9
    have hP : va_P (dC, dI) vwCl (wZ qx qm cI cZ cJ ao r k a (MS.s_th y 1) o) H := hP.sub [0, 1, 2, 3, 4, 5, 6, 7, 8, 9, 10, 11, 12, 13, 14, 15, 16, 17, 19, 20, 21, 22, 23, 24, 25, 26, 27, 28, 29, 30, 31, 32, 18] rfl
    have hD : va_D A (wZ qx qm cI cZ cJ ao r k a (MS.s_th y 1) o) := hD.sub [0, 1, 2, 3, 4, 5, 6, 7, 8, 9, 10, 11, 12, 13, 14, 15, 16, 17, 19, 20, 21, 22, 23, 24, 25, 26, 27, 28, 29, 30, 31, 32, 18] (by decide) rfl
    refine xt_i (show nI (MS.th (MS.s_th y 1)) = nI 1 from congrArg nI (rfl)) ?_
    refine lv_iload hx hb dL_law_445 (lv_at hl 1 rfl) ?_
    refine xn_ceq (tgt := 452) hx hb (by omega) (by omega) dL_law_447 (by decide) (fun c_10 => ?_) (fun c_10 => ?_)
    · refine lv_iload hx hb dL_law_452 (lv_at hl 1 rfl) ?_
      refine xn_zne (tgt := 476) hx hb (by omega) dL_law_454 (by decide) (fun c_11 => ?_) (fun c_11 => ?_)
      · refine lv_goto (tgt := 1190) hx hb dL_law_476 (by decide) ?_
        refine W.widen (k := ce + 1) (n := sl + 6) (by omega) (by omega) ?_
        exact hend r k a (MS.s_th y 1) o (Rel_th hR 1) H locs hP hD hS ls (lv_sub hl [2, 3, 4, 5, 6] rfl)
        
      · exact absurd (show False by omega) id
    · exact absurd (show False by omega) id
  · refine lv_aload_n hx hb dL_law_404 rfl (lv_at hl 3 rfl) ?_
    refine lv_aload_n hx hb dL_law_405 rfl (lv_at hl 4 rfl) ?_
    refine lv_iload hx hb dL_law_406 (lv_at hl 0 rfl) ?_
    refine lv_iconst (v := nI 1) hx hb dL_law_408 (by decide) ?_
    refine xn_add hx hb dL_law_409 ?_
    refine va_sld hx hb hX hbl hbA hS (vp_in_nI (show i + 1 < L by omega) (by omega)) dL_law_410 ?_
    refine xt_i (show xs (nI (i + 1)).toNatClampNeg = nI ch from (congrArg xs (nI_clamp (by omega))).trans (e1)) ?_
    refine lv_aload_n hx hb dL_law_411 rfl (lv_at hl 4 rfl) ?_
    refine lv_iload hx hb dL_law_412 (lv_at hl 0 rfl) ?_
    refine lv_iconst (v := nI 2) hx hb dL_law_414 (by decide) ?_
    refine xn_add hx hb dL_law_415 ?_
    refine va_sld hx hb hX hbl hbA hS (vp_in_nI (show i + 2 < L by omega) (by omega)) dL_law_416 ?_
    refine xt_i (show xs (nI (i + 2)).toNatClampNeg = nI kk from (congrArg xs (nI_clamp (by omega))).trans (e2)) ?_
    refine lv_aload_n hx hb dL_law_417 rfl (lv_at hl 1 rfl) ?_
    refine xw_Si (As := [.ref (qx 17), .int (nI ch), .int (nI kk), .ref ao]) (wr := wM qm cI cZ y) ⟨hx, hb, hml, hown, hts⟩ (hx_lockUp2 l hl0 dC dI qx cI cZ cJ ao H.size r k a o tN ch kk b_c h1 (hR.2.2.2.1.2.2.1 ch h1) (hB.2.2.2.2.2.2.2.2.2.2.2 _) h3 h2) (vx_cwSW 4 hts (gSW tw_340 tw_341 tw_0 tw_342) rfl rfl rfl (by decide +kernel) ⟨Nat.le_of_ble_eq_true rfl, Nat.le_of_ble_eq_true rfl⟩) rfl hl.1 rfl (Nat.le_of_ble_eq_true rfl) dL_law_418 ⟨by show ce + 1 ≤ 1072; omega, by show sl + 6 ≤ 9025; omega⟩ hP hD hK hS hA [0, 1, 2, 3, 4, 5, 6, 7, 8, 9, 10, 11, 12, 13, 14, 15, 16, 17, 32] [18, 19, 20, 21, 22, 23, 24, 25, 26, 27, 28, 29, 30, 31] rfl rfl (by decide) (by decide) (by decide) [0, 1, 2] rfl (eX_W _ _) (eX_kn hE hS (va_free (wc := wH qx cI cZ cJ ao r k a o) hD hS hA [0, 1, 2, 3, 4, 5, 6, 7, 8, 9, 10, 11, 12, 13, 14, 15, 16, 17, 32] rfl)) (fun r_1 u_2 H locs w_3 hP hD hS => ?_)
    obtain ⟨rfl, rfl⟩ := w_3
    have hP : va_P (dC, dI) vwCl (wZ qx qm cI cZ cJ ao r k a y o) H := hP.sub [14, 15, 16, 17, 18, 19, 20, 21, 22, 23, 24, 25, 26, 27, 28, 29, 30, 31, 0, 1, 2, 3, 4, 5, 6, 7, 8, 9, 10, 11, 12, 13, 32] rfl
    have hD : va_D A (wZ qx qm cI cZ cJ ao r k a y o) := hD.sub [14, 15, 16, 17, 18, 19, 20, 21, 22, 23, 24, 25, 26, 27, 28, 29, 30, 31, 0, 1, 2, 3, 4, 5, 6, 7, 8, 9, 10, 11, 12, 13, 32] (by decide) rfl
    refine lv_istore (lv' := [(5, .int (nI 1)), (4, .int (nI i)), (3, .ref ao), (2, .ref (qm 0)), (1, .ref (qx 17)), (0, .ref b)]) hx hb dL_law_421 hl (by decide) rfl (fun ls hl => ?_)
    refine lv_aload_n hx hb dL_law_423 rfl (lv_at hl 3 rfl) ?_
    refine lv_aload_n hx hb dL_law_424 rfl (lv_at hl 5 rfl) ?_
    refine lv_iload hx hb dL_law_425 (lv_at hl 1 rfl) ?_
    refine lv_iconst (v := nI 1) hx hb dL_law_427 (by decide) ?_
    refine xn_add hx hb dL_law_428 ?_
    refine va_sld hx hb hX hbl hbA hS (vp_in_nI (show i + 1 < L by omega) (by omega)) dL_law_429 ?_
    refine xt_i (show xs (nI (i + 1)).toNatClampNeg = nI ch from (congrArg xs (nI_clamp (by omega))).trans (e1)) ?_
    refine lv_aload_n hx hb dL_law_430 rfl (lv_at hl 5 rfl) ?_
    refine lv_iload hx hb dL_law_431 (lv_at hl 1 rfl) ?_
    refine lv_iconst (v := nI 2) hx hb dL_law_433 (by decide) ?_
    refine xn_add hx hb dL_law_434 ?_
    refine va_sld hx hb hX hbl hbA hS (vp_in_nI (show i + 2 < L by omega) (by omega)) dL_law_435 ?_
    refine xt_i (show xs (nI (i + 2)).toNatClampNeg = nI kk from (congrArg xs (nI_clamp (by omega))).trans (e2)) ?_
    refine xc_Vi (As := [.int (nI ch), .int (nI kk)]) (wr := wX qx cI cZ r k a ++ wO cJ ao o) ⟨hx, hb, hml, hown, hts⟩ (c_M_lockUp2 l dC dI qm cI cZ H.size y ch kk (by omega) (by omega) (hmo ch (by omega)) (hM.1.2.2.2.2.2.2.2.2.2.2.2 _) (by rw [e_st]; exact h3) h2) (cwV 2 hts (gV tw_668 tw_669 tw_670 tw_5 tw_671) rfl rfl rfl (by decide +kernel) ⟨Nat.le_of_ble_eq_true rfl, Nat.le_of_ble_eq_true rfl⟩) rfl hl.1 rfl (Nat.le_of_ble_eq_true rfl) dL_law_436 ⟨by show _ ≤ 1072; omega, by show _ ≤ 9025; omega⟩ hP hD hK hS hA [18, 19, 20, 21, 22, 23, 24, 25, 26, 27, 28, 29, 30, 31] [0, 1, 2, 3, 4, 5, 6, 7, 8, 9, 10, 11, 12, 13, 14, 15, 16, 17, 32] rfl rfl (by decide) (by decide) (by decide) [0, 1] rfl (q0 := 0) rfl rfl rfl eT_M (trivial) (fun r_4 u_5 H locs w_6 hP hD hS => ?_)
    obtain ⟨rfl, rfl⟩ := w_6
    have hP : va_P (dC, dI) vwCl (wZ qx qm cI cZ cJ ao r k a (MS.s_th y 1) o) H := hP.sub [0, 1, 2, 3, 4, 5, 6, 7, 8, 9, 10, 11, 12, 13, 14, 15, 16, 17, 19, 20, 21, 22, 23, 24, 25, 26, 27, 28, 29, 30, 31, 32, 18] rfl
    have hD : va_D A (wZ qx qm cI cZ cJ ao r k a (MS.s_th y 1) o) := hD.sub [0, 1, 2, 3, 4, 5, 6, 7, 8, 9, 10, 11, 12, 13, 14, 15, 16, 17, 19, 20, 21, 22, 23, 24, 25, 26, 27, 28, 29, 30, 31, 32, 18] (by decide) rfl
    refine lv_istore (lv' := [(6, .int (nI 0)), (5, .int (nI 1)), (4, .int (nI i)), (3, .ref ao), (2, .ref (qm 0)), (1, .ref (qx 17)), (0, .ref b)]) hx hb dL_law_439 hl (by decide) rfl (fun ls hl => ?_)
    refine lv_aload_n hx hb dL_law_441 rfl (lv_at hl 4 rfl) ?_
    refine xc_Vi (As := []) (wr := wX qx cI cZ r k a ++ wO cJ ao o) ⟨hx, hb, hml, hown, hts⟩ (c_ScanRowsModel_thrown l dC dI qm cI cZ H.size (MS.s_th y 1)) (cwV 0 hts (gV tw_642 tw_643 tw_644 tw_5 tw_645) rfl rfl rfl (by decide +kernel) ⟨Nat.le_of_ble_eq_true rfl, Nat.le_of_ble_eq_true rfl⟩) rfl hl.1 rfl (Nat.le_of_ble_eq_true rfl) dL_law_442 ⟨by show _ ≤ 1072; omega, by show _ ≤ 9025; omega⟩ hP hD hK hS hA [18, 19, 20, 21, 22, 23, 24, 25, 26, 27, 28, 29, 30, 31] [0, 1, 2, 3, 4, 5, 6, 7, 8, 9, 10, 11, 12, 13, 14, 15, 16, 17, 32] rfl rfl (by decide) (by decide) (by decide) [0, 1] rfl (q0 := 0) rfl rfl rfl eT_M (trivial) (fun r_7 u_8 H locs w_9 hP hD hS => ?_)
    obtain rfl := w_9
    have hP : va_P (dC, dI) vwCl (wZ qx qm cI cZ cJ ao r k a (MS.s_th y 1) o) H := hP.sub [0, 1, 2, 3, 4, 5, 6, 7, 8, 9, 10, 11, 12, 13, 14, 15, 16, 17, 19, 20, 21, 22, 23, 24, 25, 26, 27, 28, 29, 30, 31, 32, 18] rfl
    have hD : va_D A (wZ qx qm cI cZ cJ ao r k a (MS.s_th y 1) o) := hD.sub [0, 1, 2, 3, 4, 5, 6, 7, 8, 9, 10, 11, 12, 13, 14, 15, 16, 17, 19, 20, 21, 22, 23, 24, 25, 26, 27, 28, 29, 30, 31, 32, 18] (by decide) rfl
    refine xt_i (show nI (MS.th (MS.s_th y 1)) = nI 1 from congrArg nI (rfl)) ?_
    refine lv_iload hx hb dL_law_445 (lv_at hl 1 rfl) ?_
    refine xn_ceq (tgt := 452) hx hb (by omega) (by omega) dL_law_447 (by decide) (fun c_10 => ?_) (fun c_10 => ?_)
    · refine lv_iload hx hb dL_law_452 (lv_at hl 1 rfl) ?_
      refine xn_zne (tgt := 476) hx hb (by omega) dL_law_454 (by decide) (fun c_11 => ?_) (fun c_11 => ?_)
      · refine lv_goto (tgt := 1190) hx hb dL_law_476 (by decide) ?_
        refine W.widen (k := ce + 1) (n := sl + 6) (by omega) (by omega) ?_
        exact hend r k a (MS.s_th y 1) o (Rel_th hR 1) H locs hP hD hS ls (lv_sub hl [2, 3, 4, 5, 6] rfl)
        
      · exact absurd (show False by omega) id
    · exact absurd (show False by omega) id
  · refine lv_aload_n hx hb dL_law_404 rfl (lv_at hl 3 rfl) ?_
    refine lv_aload_n hx hb dL_law_405 rfl (lv_at hl 4 rfl) ?_
    refine lv_iload hx hb dL_law_406 (lv_at hl 0 rfl) ?_
    refine lv_iconst (v := nI 1) hx hb dL_law_408 (by decide) ?_
    refine xn_add hx hb dL_law_409 ?_
    refine va_sld hx hb hX hbl hbA hS (vp_in_nI (show i + 1 < L by omega) (by omega)) dL_law_410 ?_
    refine xt_i (show xs (nI (i + 1)).toNatClampNeg = nI ch from (congrArg xs (nI_clamp (by omega))).trans (e1)) ?_
    refine lv_aload_n hx hb dL_law_411 rfl (lv_at hl 4 rfl) ?_
    refine lv_iload hx hb dL_law_412 (lv_at hl 0 rfl) ?_
    refine lv_iconst (v := nI 2) hx hb dL_law_414 (by decide) ?_
    refine xn_add hx hb dL_law_415 ?_
    refine va_sld hx hb hX hbl hbA hS (vp_in_nI (show i + 2 < L by omega) (by omega)) dL_law_416 ?_
    refine xt_i (show xs (nI (i + 2)).toNatClampNeg = nI kk from (congrArg xs (nI_clamp (by omega))).trans (e2)) ?_
    refine lv_aload_n hx hb dL_law_417 rfl (lv_at hl 1 rfl) ?_
    refine xw_Si (As := [.ref (qx 17), .int (nI ch), .int (nI kk), .ref ao]) (wr := wM qm cI cZ y) ⟨hx, hb, hml, hown, hts⟩ (h_lockUp l dC dI qx cI cZ cJ ao H.size r k a o ch kk hB b_c h1 (hR.2.2.2.1.2.2.1 ch h1) (hB.2.2.2.2.2.2.2.2.2.2.2 _) h3) (vx_cwSW 4 hts (gSW tw_340 tw_341 tw_0 tw_342) rfl rfl rfl (by decide +kernel) ⟨Nat.le_of_ble_eq_true rfl, Nat.le_of_ble_eq_true rfl⟩) rfl hl.1 rfl (Nat.le_of_ble_eq_true rfl) dL_law_418 ⟨by show ce + 0 ≤ 1072; omega, by show sl + 0 ≤ 9025; omega⟩ hP hD hK hS hA [0, 1, 2, 3, 4, 5, 6, 7, 8, 9, 10, 11, 12, 13, 14, 15, 16, 17, 32] [18, 19, 20, 21, 22, 23, 24, 25, 26, 27, 28, 29, 30, 31] rfl rfl (by decide) (by decide) (by decide) [0, 1, 2] rfl (eW_of eT_M) trivial (fun r_1 u_2 H locs w_3 hP hD hS => ?_)
    obtain ⟨rfl, hu1, hu2⟩ := w_3
    have hP : va_P (dC, dI) vwCl (wZ qx qm cI cZ cJ ao u_2.1.1 u_2.1.2.1 u_2.1.2.2 y u_2.2) H := hP.sub [14, 15, 16, 17, 18, 19, 20, 21, 22, 23, 24, 25, 26, 27, 28, 29, 30, 31, 0, 1, 2, 3, 4, 5, 6, 7, 8, 9, 10, 11, 12, 13, 32] rfl
    have hD : va_D A (wZ qx qm cI cZ cJ ao u_2.1.1 u_2.1.2.1 u_2.1.2.2 y u_2.2) := hD.sub [14, 15, 16, 17, 18, 19, 20, 21, 22, 23, 24, 25, 26, 27, 28, 29, 30, 31, 0, 1, 2, 3, 4, 5, 6, 7, 8, 9, 10, 11, 12, 13, 32] (by decide) rfl
    refine lv_istore (lv' := [(5, .int (nI 0)), (4, .int (nI i)), (3, .ref ao), (2, .ref (qm 0)), (1, .ref (qx 17)), (0, .ref b)]) hx hb dL_law_421 hl (by decide) rfl (fun ls hl => ?_)
    refine lv_aload_n hx hb dL_law_423 rfl (lv_at hl 3 rfl) ?_
    refine lv_aload_n hx hb dL_law_424 rfl (lv_at hl 5 rfl) ?_
    refine lv_iload hx hb dL_law_425 (lv_at hl 1 rfl) ?_
    refine lv_iconst (v := nI 1) hx hb dL_law_427 (by decide) ?_
    refine xn_add hx hb dL_law_428 ?_
    refine va_sld hx hb hX hbl hbA hS (vp_in_nI (show i + 1 < L by omega) (by omega)) dL_law_429 ?_
    refine xt_i (show xs (nI (i + 1)).toNatClampNeg = nI ch from (congrArg xs (nI_clamp (by omega))).trans (e1)) ?_
    refine lv_aload_n hx hb dL_law_430 rfl (lv_at hl 5 rfl) ?_
    refine lv_iload hx hb dL_law_431 (lv_at hl 1 rfl) ?_
    refine lv_iconst (v := nI 2) hx hb dL_law_433 (by decide) ?_
    refine xn_add hx hb dL_law_434 ?_
    refine va_sld hx hb hX hbl hbA hS (vp_in_nI (show i + 2 < L by omega) (by omega)) dL_law_435 ?_
    refine xt_i (show xs (nI (i + 2)).toNatClampNeg = nI kk from (congrArg xs (nI_clamp (by omega))).trans (e2)) ?_
    refine xc_Vi (As := [.int (nI ch), .int (nI kk)]) (wr := wX qx cI cZ u_2.1.1 u_2.1.2.1 u_2.1.2.2 ++ wO cJ ao u_2.2) ⟨hx, hb, hml, hown, hts⟩ (c_ScanRowsModel_lockUp l dC dI qm cI cZ H.size y ch kk hM (by omega) (by omega) (hmo ch (by omega)) (hM.1.2.2.2.2.2.2.2.2.2.2.2 _) (by rw [e_st]; exact h3)) (cwV 2 hts (gV tw_668 tw_669 tw_670 tw_5 tw_671) rfl rfl rfl (by decide +kernel) ⟨Nat.le_of_ble_eq_true rfl, Nat.le_of_ble_eq_true rfl⟩) rfl hl.1 rfl (Nat.le_of_ble_eq_true rfl) dL_law_436 ⟨by show _ ≤ 1072; omega, by show _ ≤ 9025; omega⟩ hP hD hK hS hA [18, 19, 20, 21, 22, 23, 24, 25, 26, 27, 28, 29, 30, 31] [0, 1, 2, 3, 4, 5, 6, 7, 8, 9, 10, 11, 12, 13, 14, 15, 16, 17, 32] rfl rfl (by decide) (by decide) (by decide) [0, 1] rfl (q0 := 0) rfl rfl rfl eT_M (trivial) (fun r_4 u_5 H locs w_6 hP hD hS => ?_)
    obtain ⟨rfl, rfl⟩ := w_6
    have hP : va_P (dC, dI) vwCl (wZ qx qm cI cZ cJ ao u_2.1.1 u_2.1.2.1 u_2.1.2.2 (MS.s_th y 0) u_2.2) H := hP.sub [0, 1, 2, 3, 4, 5, 6, 7, 8, 9, 10, 11, 12, 13, 14, 15, 16, 17, 19, 20, 21, 22, 23, 24, 25, 26, 27, 28, 29, 30, 31, 32, 18] rfl
    have hD : va_D A (wZ qx qm cI cZ cJ ao u_2.1.1 u_2.1.2.1 u_2.1.2.2 (MS.s_th y 0) u_2.2) := hD.sub [0, 1, 2, 3, 4, 5, 6, 7, 8, 9, 10, 11, 12, 13, 14, 15, 16, 17, 19, 20, 21, 22, 23, 24, 25, 26, 27, 28, 29, 30, 31, 32, 18] (by decide) rfl
    refine lv_istore (lv' := [(6, .int (nI (mLk y ch kk))), (5, .int (nI 0)), (4, .int (nI i)), (3, .ref ao), (2, .ref (qm 0)), (1, .ref (qx 17)), (0, .ref b)]) hx hb dL_law_439 hl (by decide) rfl (fun ls hl => ?_)
    refine lv_aload_n hx hb dL_law_441 rfl (lv_at hl 4 rfl) ?_
    refine xc_Vi (As := []) (wr := wX qx cI cZ u_2.1.1 u_2.1.2.1 u_2.1.2.2 ++ wO cJ ao u_2.2) ⟨hx, hb, hml, hown, hts⟩ (c_ScanRowsModel_thrown l dC dI qm cI cZ H.size (MS.s_th y 0)) (cwV 0 hts (gV tw_642 tw_643 tw_644 tw_5 tw_645) rfl rfl rfl (by decide +kernel) ⟨Nat.le_of_ble_eq_true rfl, Nat.le_of_ble_eq_true rfl⟩) rfl hl.1 rfl (Nat.le_of_ble_eq_true rfl) dL_law_442 ⟨by show _ ≤ 1072; omega, by show _ ≤ 9025; omega⟩ hP hD hK hS hA [18, 19, 20, 21, 22, 23, 24, 25, 26, 27, 28, 29, 30, 31] [0, 1, 2, 3, 4, 5, 6, 7, 8, 9, 10, 11, 12, 13, 14, 15, 16, 17, 32] rfl rfl (by decide) (by decide) (by decide) [0, 1] rfl (q0 := 0) rfl rfl rfl eT_M (trivial) (fun r_7 u_8 H locs w_9 hP hD hS => ?_)
    obtain rfl := w_9
    have hP : va_P (dC, dI) vwCl (wZ qx qm cI cZ cJ ao u_2.1.1 u_2.1.2.1 u_2.1.2.2 (MS.s_th y 0) u_2.2) H := hP.sub [0, 1, 2, 3, 4, 5, 6, 7, 8, 9, 10, 11, 12, 13, 14, 15, 16, 17, 19, 20, 21, 22, 23, 24, 25, 26, 27, 28, 29, 30, 31, 32, 18] rfl
    have hD : va_D A (wZ qx qm cI cZ cJ ao u_2.1.1 u_2.1.2.1 u_2.1.2.2 (MS.s_th y 0) u_2.2) := hD.sub [0, 1, 2, 3, 4, 5, 6, 7, 8, 9, 10, 11, 12, 13, 14, 15, 16, 17, 19, 20, 21, 22, 23, 24, 25, 26, 27, 28, 29, 30, 31, 32, 18] (by decide) rfl
    refine xt_i (show nI (MS.th (MS.s_th y 0)) = nI 0 from congrArg nI (rfl)) ?_
    refine lv_iload hx hb dL_law_445 (lv_at hl 1 rfl) ?_
    refine xn_ceq (tgt := 452) hx hb (by omega) (by omega) dL_law_447 (by decide) (fun c_10 => ?_) (fun c_10 => ?_)
    · refine lv_iload hx hb dL_law_452 (lv_at hl 1 rfl) ?_
      refine xn_zne (tgt := 476) hx hb (by omega) dL_law_454 (by decide) (fun c_11 => ?_) (fun c_11 => ?_)
      · refine lv_goto (tgt := 1190) hx hb dL_law_476 (by decide) ?_
        refine W.widen (k := ce + 1) (n := sl + 6) (by omega) (by omega) ?_
        exact hend u_2.1.1 u_2.1.2.1 u_2.1.2.2 (MS.s_th y 0) u_2.2 (by rw [hu1]; exact Rel_th hR 0) H locs hP hD hS ls (lv_sub hl [2, 3, 4, 5, 6] rfl)
        
      · refine lv_aload_n hx hb dL_law_457 rfl (lv_at hl 3 rfl) ?_
        refine lv_iconst (v := nI 0) hx hb dL_law_458 (by decide) ?_
        refine va_lald hx hb hK hP 32 2 rfl rfl (vp_in_nI (show 0 < 1 by decide) (by decide)) dL_law_459 ?_
        refine xt_l (show u_2.2 (nI 0).toNatClampNeg = lN (ccb r (r.st ch + kk)) from (congrArg u_2.2 (show (nI 0).toNatClampNeg = 0 by decide)).trans hu2) ?_
        have g8 : mLk y ch kk ≤ 1 := by unfold mLk; split <;> (try split) <;> omega
        refine lv_iload hx hb dL_law_460 (lv_at hl 0 rfl) ?_
        refine xn_zeq (tgt := 469) hx hb (by omega) dL_law_462 (by decide) (fun c_12 => ?_) (fun c_12 => ?_)
        · refine lv_lconst (v := 0) hx hb dL_law_469 (by decide) ?_
          refine W.lcmp hx hb dL_law_470 ?_
          refine xt_i (show (lg_cmp (lN (ccb r (r.st ch + kk))) 0) = nI 0 from lg_eq (by rw [lk_eq hR.2.2.2.1 hR.2.2.2.2.1 h1 h3, show mLk y ch kk = 0 by omega]; rfl)) ?_
          refine xn_zeq (tgt := 476) hx hb (by omega) dL_law_471 (by decide) (fun c_13 => ?_) (fun c_13 => ?_)
          · refine lv_goto (tgt := 1190) hx hb dL_law_476 (by decide) ?_
            refine W.widen (k := ce + 1) (n := sl + 6) (by omega) (by omega) ?_
            exact hend u_2.1.1 u_2.1.2.1 u_2.1.2.2 (MS.s_th y 0) u_2.2 (by rw [hu1]; exact Rel_th hR 0) H locs hP hD hS ls (lv_sub hl [2, 3, 4, 5, 6] rfl)
            
          · exact absurd (show False by omega) id
        · refine lv_lconst (v := 1) hx hb dL_law_465 (by decide) ?_
          refine lv_goto (tgt := 470) hx hb dL_law_466 (by decide) ?_
          refine W.lcmp hx hb dL_law_470 ?_
          refine xt_i (show (lg_cmp (lN (ccb r (r.st ch + kk))) 1) = nI 0 from lg_eq (by rw [lk_eq hR.2.2.2.1 hR.2.2.2.2.1 h1 h3, show mLk y ch kk = 1 by omega]; rfl)) ?_
          refine xn_zeq (tgt := 476) hx hb (by omega) dL_law_471 (by decide) (fun c_14 => ?_) (fun c_14 => ?_)
          · refine lv_goto (tgt := 1190) hx hb dL_law_476 (by decide) ?_
            refine W.widen (k := ce + 1) (n := sl + 6) (by omega) (by omega) ?_
            exact hend u_2.1.1 u_2.1.2.1 u_2.1.2.2 (MS.s_th y 0) u_2.2 (by rw [hu1]; exact Rel_th hR 0) H locs hP hD hS ls (lv_sub hl [2, 3, 4, 5, 6] rfl)
            
          · exact absurd (show False by omega) id
    · exact absurd (show False by omega) id
set_option maxHeartbeats 4000000 in
set_option maxRecDepth 100000 in
theorem op_travel {p : Program} {e : Env} {s : State} {m : MethodId} {below : List Frame} {meth : Method} {c : Code} (l : Launch) (hl0 : l.stackTraces = false) {b L : Nat} {xs : Nat → Int32} (hL : L ≤ 3073) (C0 : lw_At p s m meth c b L xs) (A : Nat → Prop) (hA : ∀ q : Nat, s.heap.size ≤ q → A q) (hbA : ¬ A b) (dC : Nat → ClassId) (dI : Nat → Nat → Nat) (qx qm : Nat → Nat) (cI cZ cJ : ClassId) (ao tN : Nat) (hK : va_K (dC, dI) vwCl [(cI, .int), (cZ, .boolean), (cJ, .long)] s) (hE : eX tN A s s.heap) (i : Nat) (hi : i + 5 < L) (ce sl : Nat) (hce : ce + 1 ≤ 1072) (hsl : sl + 6 ≤ 9025) (r : RS) (k : CS) (a : AS) (y : MS) (o : OS) (hR : Rel r k a y) (H : Heap) (locs : List Loc) (hP : va_P (dC, dI) vwCl (wZ qx qm cI cZ cJ ao r k a y o) H) (hD : va_D A (wZ qx qm cI cZ cJ ao r k a y o)) (hS : va_S A s.heap H locs) (ls : Array Slot) (hl : lv_has ls 7 [(4, .int (nI i)), (3, .ref ao), (2, .ref (qm 0)), (1, .ref (qx 17)), (0, .ref b)]) (hend : ∀ (r : RS) (k : CS) (a : AS) (y : MS) (o : OS), Rel r k a y → ∀ (H : Heap) (locs : List Loc), va_P (dC, dI) vwCl (wZ qx qm cI cZ cJ ao r k a y o) H → va_D A (wZ qx qm cI cZ cJ ao r k a y o) → va_S A s.heap H locs → ∀ ls : Array Slot, lv_has ls 7 [(4, .int (nI i)), (3, .ref ao), (2, .ref (qm 0)), (1, .ref (qx 17)), (0, .ref b)] → W p l e room_1 s m #[Value.ref b] below meth c H locs (ce + 1) (sl + 6) (lw_Z below #[Value.ref b] s) (F0 m 1190 ls [])) : W p l e room_1 s m #[Value.ref b] below meth c H locs (ce) (sl) (lw_Z below #[Value.ref b] s) (F0 m 479 ls []) := by
  obtain ⟨hx, hb, hr, hml, hown, hts0, hX, hbl, hlocks, hgv⟩ := id C0
  have hown : s.vm.findClass "ScanRowsLaw" = some m.cls := hown
  have hts : ∀ w ∈ ALLG, w.before #[Value.ref b] s = true := fun w h => hts0 w (List.mem_filter.mp h).1
  have b_n : r.n ≤ 32 := hR.1.1.1
  have b_c : r.c ≤ 8 := hR.1.1.2.1
  have b_p : r.p ≤ r.n := hR.1.1.2.2.1
  have k_n : k.n ≤ 20 := hR.1.2.1.1
  have hB : RB r := hR.1.1
  have hM : MB y := hR.2.1
  have hmo : mono y := Rel_mono hR
  have hC : RC r := PI_RC hR.2.2.1
  have e_n : y.n = r.n := hR.2.2.2.2.1.1
  have e_c : y.c = r.c := hR.2.2.2.2.1.2.1
  have e_p : y.p = r.p := hR.2.2.2.2.1.2.2.1
  have e_vb : y.vb = r.vb := hR.2.2.2.2.1.2.2.2.1
  have e_fl : y.fl = r.fl := hR.2.2.2.2.1.2.2.2.2.2.2.2.1
  have e_st : y.st = r.st := hR.2.2.2.2.1.2.2.2.2.2.2.2.2.2
  have e_k : toK y = k := hR.2.2.2.2.2.1
  have e_cn : y.cn = k.n := congrArg CS.n e_k
  have e_co : y.co = a.co := hR.2.2.2.2.2.2.2.1
  have a_co : a.co < 16 := hR.1.2.2.2.1
  have e_sa : y.sa = a.st := hR.2.2.2.2.2.2.1
  refine lv_aload_n hx hb dL_law_479 rfl (lv_at hl 3 rfl) ?_
  refine xc_Vl (As := []) (wr := wM qm cI cZ y ++ wO cJ ao o) ⟨hx, hb, hml, hown, hts⟩ (c_ScanRows_travel l dC dI qx cI cZ H.size r k a hB) (cwV 0 hts (gV tw_141 tw_142 tw_143 tw_1 tw_144) rfl rfl rfl (by decide +kernel) ⟨Nat.le_of_ble_eq_true rfl, Nat.le_of_ble_eq_true rfl⟩) rfl hl.1 rfl (Nat.le_of_ble_eq_true rfl) dL_law_480 ⟨by show _ ≤ 1072; omega, by show _ ≤ 9025; omega⟩ hP hD hK hS hA [0, 1, 2, 3, 4, 5, 6, 7, 8, 9, 10, 11, 12, 13, 14, 15, 16, 17] [18, 19, 20, 21, 22, 23, 24, 25, 26, 27, 28, 29, 30, 31, 32] rfl rfl (by decide) (by decide) (by decide) [0, 1] rfl (q0 := 17) rfl rfl rfl eT_M (trivial) (fun r_1 u_2 H locs w_3 hP hD hS => ?_)
  obtain rfl := w_3
  have hP : va_P (dC, dI) vwCl (wZ qx qm cI cZ cJ ao r k a y o) H := hP.sub [15, 16, 17, 18, 19, 20, 21, 22, 23, 24, 25, 26, 27, 28, 29, 30, 31, 32, 0, 1, 2, 3, 4, 5, 6, 7, 8, 9, 10, 11, 12, 13, 14] rfl
  have hD : va_D A (wZ qx qm cI cZ cJ ao r k a y o) := hD.sub [15, 16, 17, 18, 19, 20, 21, 22, 23, 24, 25, 26, 27, 28, 29, 30, 31, 32, 0, 1, 2, 3, 4, 5, 6, 7, 8, 9, 10, 11, 12, 13, 14] (by decide) rfl
  refine lv_aload_n hx hb dL_law_483 rfl (lv_at hl 2 rfl) ?_
  refine xc_Vl (As := []) (wr := wX qx cI cZ r k a ++ wO cJ ao o) ⟨hx, hb, hml, hown, hts⟩ (c_ScanRowsModel_travel l dC dI qm cI cZ H.size y hM hmo) (cwV 0 hts (gV tw_672 tw_673 tw_674 tw_5 tw_675) rfl rfl rfl (by decide +kernel) ⟨Nat.le_of_ble_eq_true rfl, Nat.le_of_ble_eq_true rfl⟩) rfl hl.1 rfl (Nat.le_of_ble_eq_true rfl) dL_law_484 ⟨by show _ ≤ 1072; omega, by show _ ≤ 9025; omega⟩ hP hD hK hS hA [18, 19, 20, 21, 22, 23, 24, 25, 26, 27, 28, 29, 30, 31] [0, 1, 2, 3, 4, 5, 6, 7, 8, 9, 10, 11, 12, 13, 14, 15, 16, 17, 32] rfl rfl (by decide) (by decide) (by decide) [0, 1] rfl (q0 := 0) rfl rfl rfl eT_M (trivial) (fun r_4 u_5 H locs w_6 hP hD hS => ?_)
  obtain ⟨rfl, rfl⟩ := w_6
  have hP : va_P (dC, dI) vwCl (wZ qx qm cI cZ cJ ao r k a (MS.s_th y 0) o) H := hP.sub [0, 1, 2, 3, 4, 5, 6, 7, 8, 9, 10, 11, 12, 13, 14, 15, 16, 17, 19, 20, 21, 22, 23, 24, 25, 26, 27, 28, 29, 30, 31, 32, 18] rfl
  have hD : va_D A (wZ qx qm cI cZ cJ ao r k a (MS.s_th y 0) o) := hD.sub [0, 1, 2, 3, 4, 5, 6, 7, 8, 9, 10, 11, 12, 13, 14, 15, 16, 17, 19, 20, 21, 22, 23, 24, 25, 26, 27, 28, 29, 30, 31, 32, 18] (by decide) rfl
  refine W.lcmp hx hb dL_law_487 ?_
  refine xt_i (show (lg_cmp (lN (sumN (wb r) r.p)) (lN (trC y y.c))) = nI 0 from lg_eq (by rw [tr_all hR.2.2.2.1 hR.2.2.2.2.1])) ?_
  refine xn_zeq (tgt := 1190) hx hb (by omega) dL_law_488 (by decide) (fun c_7 => ?_) (fun c_7 => ?_)
  · refine W.widen (k := ce + 1) (n := sl + 6) (by omega) (by omega) ?_
    exact hend r k a (MS.s_th y 0) o (Rel_th hR 0) H locs hP hD hS ls (lv_sub hl [0, 1, 2, 3, 4] rfl)
    
  · exact absurd (show False by omega) id
set_option maxHeartbeats 4000000 in
set_option maxRecDepth 100000 in
theorem op_improve {p : Program} {e : Env} {s : State} {m : MethodId} {below : List Frame} {meth : Method} {c : Code} (l : Launch) (hl0 : l.stackTraces = false) {b L : Nat} {xs : Nat → Int32} (hL : L ≤ 3073) (C0 : lw_At p s m meth c b L xs) (A : Nat → Prop) (hA : ∀ q : Nat, s.heap.size ≤ q → A q) (hbA : ¬ A b) (dC : Nat → ClassId) (dI : Nat → Nat → Nat) (qx qm : Nat → Nat) (cI cZ cJ : ClassId) (ao tN : Nat) (hK : va_K (dC, dI) vwCl [(cI, .int), (cZ, .boolean), (cJ, .long)] s) (hE : eX tN A s s.heap) (i : Nat) (hi : i + 5 < L) (ce sl : Nat) (hce : ce + 1 ≤ 1072) (hsl : sl + 6 ≤ 9025) (r : RS) (k : CS) (a : AS) (y : MS) (o : OS) (hR : Rel r k a y) (H : Heap) (locs : List Loc) (hP : va_P (dC, dI) vwCl (wZ qx qm cI cZ cJ ao r k a y o) H) (hD : va_D A (wZ qx qm cI cZ cJ ao r k a y o)) (hS : va_S A s.heap H locs) (ls : Array Slot) (hl : lv_has ls 7 [(4, .int (nI i)), (3, .ref ao), (2, .ref (qm 0)), (1, .ref (qx 17)), (0, .ref b)]) (hend : ∀ (r : RS) (k : CS) (a : AS) (y : MS) (o : OS), Rel r k a y → ∀ (H : Heap) (locs : List Loc), va_P (dC, dI) vwCl (wZ qx qm cI cZ cJ ao r k a y o) H → va_D A (wZ qx qm cI cZ cJ ao r k a y o) → va_S A s.heap H locs → ∀ ls : Array Slot, lv_has ls 7 [(4, .int (nI i)), (3, .ref ao), (2, .ref (qm 0)), (1, .ref (qx 17)), (0, .ref b)] → W p l e room_1 s m #[Value.ref b] below meth c H locs (ce + 1) (sl + 6) (lw_Z below #[Value.ref b] s) (F0 m 1190 ls [])) : W p l e room_1 s m #[Value.ref b] below meth c H locs (ce) (sl) (lw_Z below #[Value.ref b] s) (F0 m 493 ls []) := by
  obtain ⟨hx, hb, hr, hml, hown, hts0, hX, hbl, hlocks, hgv⟩ := id C0
  have hown : s.vm.findClass "ScanRowsLaw" = some m.cls := hown
  have hts : ∀ w ∈ ALLG, w.before #[Value.ref b] s = true := fun w h => hts0 w (List.mem_filter.mp h).1
  have b_n : r.n ≤ 32 := hR.1.1.1
  have b_c : r.c ≤ 8 := hR.1.1.2.1
  have b_p : r.p ≤ r.n := hR.1.1.2.2.1
  have k_n : k.n ≤ 20 := hR.1.2.1.1
  have hB : RB r := hR.1.1
  have hM : MB y := hR.2.1
  have hmo : mono y := Rel_mono hR
  have hC : RC r := PI_RC hR.2.2.1
  have e_n : y.n = r.n := hR.2.2.2.2.1.1
  have e_c : y.c = r.c := hR.2.2.2.2.1.2.1
  have e_p : y.p = r.p := hR.2.2.2.2.1.2.2.1
  have e_vb : y.vb = r.vb := hR.2.2.2.2.1.2.2.2.1
  have e_fl : y.fl = r.fl := hR.2.2.2.2.1.2.2.2.2.2.2.2.1
  have e_st : y.st = r.st := hR.2.2.2.2.1.2.2.2.2.2.2.2.2.2
  have e_k : toK y = k := hR.2.2.2.2.2.1
  have e_cn : y.cn = k.n := congrArg CS.n e_k
  have e_co : y.co = a.co := hR.2.2.2.2.2.2.2.1
  have a_co : a.co < 16 := hR.1.2.2.2.1
  have e_sa : y.sa = a.st := hR.2.2.2.2.2.2.1
  rcases im_cs (xs (i + 1)) with h1 | ⟨n0, h1, e1⟩
  · refine lv_aload_n hx hb dL_law_493 rfl (lv_at hl 3 rfl) ?_
    refine lv_aload_n hx hb dL_law_494 rfl (lv_at hl 4 rfl) ?_
    refine lv_iload hx hb dL_law_495 (lv_at hl 0 rfl) ?_
    refine lv_iconst (v := nI 1) hx hb dL_law_497 (by decide) ?_
    refine xn_add hx hb dL_law_498 ?_
    refine va_sld hx hb hX hbl hbA hS (vp_in_nI (show i + 1 < L by omega) (by omega)) dL_law_499 ?_
    refine xt_i (show xs (nI (i + 1)).toNatClampNeg = (xs (i + 1)) from (congrArg xs (nI_clamp (by omega))).trans (rfl)) ?_
    refine lv_aload_n hx hb dL_law_500 rfl (lv_at hl 1 rfl) ?_
    refine xw_Si (As := [.ref (qx 17), .int (xs (i + 1)), .ref ao]) (wr := wM qm cI cZ y) ⟨hx, hb, hml, hown, hts⟩ (hx_improve l hl0 dC dI qx cI cZ cJ ao H.size r k a o tN _ h1) (vx_cwSW 3 hts (gSW tw_351 tw_352 tw_0 tw_353) rfl rfl rfl (by decide +kernel) ⟨Nat.le_of_ble_eq_true rfl, Nat.le_of_ble_eq_true rfl⟩) rfl hl.1 rfl (Nat.le_of_ble_eq_true rfl) dL_law_501 ⟨by show ce + 1 ≤ 1072; omega, by show sl + 6 ≤ 9025; omega⟩ hP hD hK hS hA [0, 1, 2, 3, 4, 5, 6, 7, 8, 9, 10, 11, 12, 13, 14, 15, 16, 17, 32] [18, 19, 20, 21, 22, 23, 24, 25, 26, 27, 28, 29, 30, 31] rfl rfl (by decide) (by decide) (by decide) [0, 1, 2] rfl (eX_W _ _) (eX_kn hE hS (va_free (wc := wH qx cI cZ cJ ao r k a o) hD hS hA [0, 1, 2, 3, 4, 5, 6, 7, 8, 9, 10, 11, 12, 13, 14, 15, 16, 17, 32] rfl)) (fun r_1 u_2 H locs w_3 hP hD hS => ?_)
    obtain ⟨rfl, rfl⟩ := w_3
    have hP : va_P (dC, dI) vwCl (wZ qx qm cI cZ cJ ao r k a y o) H := hP.sub [14, 15, 16, 17, 18, 19, 20, 21, 22, 23, 24, 25, 26, 27, 28, 29, 30, 31, 0, 1, 2, 3, 4, 5, 6, 7, 8, 9, 10, 11, 12, 13, 32] rfl
    have hD : va_D A (wZ qx qm cI cZ cJ ao r k a y o) := hD.sub [14, 15, 16, 17, 18, 19, 20, 21, 22, 23, 24, 25, 26, 27, 28, 29, 30, 31, 0, 1, 2, 3, 4, 5, 6, 7, 8, 9, 10, 11, 12, 13, 32] (by decide) rfl
    refine lv_istore (lv' := [(5, .int (nI 1)), (4, .int (nI i)), (3, .ref ao), (2, .ref (qm 0)), (1, .ref (qx 17)), (0, .ref b)]) hx hb dL_law_504 hl (by decide) rfl (fun ls hl => ?_)
    refine lv_aload_n hx hb dL_law_506 rfl (lv_at hl 3 rfl) ?_
    refine lv_aload_n hx hb dL_law_507 rfl (lv_at hl 5 rfl) ?_
    refine lv_iload hx hb dL_law_508 (lv_at hl 1 rfl) ?_
    refine lv_iconst (v := nI 1) hx hb dL_law_510 (by decide) ?_
    refine xn_add hx hb dL_law_511 ?_
    refine va_sld hx hb hX hbl hbA hS (vp_in_nI (show i + 1 < L by omega) (by omega)) dL_law_512 ?_
    refine xt_i (show xs (nI (i + 1)).toNatClampNeg = (xs (i + 1)) from (congrArg xs (nI_clamp (by omega))).trans (rfl)) ?_
    refine xc_Vi (As := [.int (xs (i + 1))]) (wr := wX qx cI cZ r k a ++ wO cJ ao o) ⟨hx, hb, hml, hown, hts⟩ (c_M_improve1 l dC dI qm cI cZ H.size y _ h1) (cwV 1 hts (gV tw_683 tw_684 tw_685 tw_5 tw_686) rfl rfl rfl (by decide +kernel) ⟨Nat.le_of_ble_eq_true rfl, Nat.le_of_ble_eq_true rfl⟩) rfl hl.1 rfl (Nat.le_of_ble_eq_true rfl) dL_law_513 ⟨by show _ ≤ 1072; omega, by show _ ≤ 9025; omega⟩ hP hD hK hS hA [18, 19, 20, 21, 22, 23, 24, 25, 26, 27, 28, 29, 30, 31] [0, 1, 2, 3, 4, 5, 6, 7, 8, 9, 10, 11, 12, 13, 14, 15, 16, 17, 32] rfl rfl (by decide) (by decide) (by decide) [0, 1] rfl (q0 := 0) rfl rfl rfl eT_M (trivial) (fun r_4 u_5 H locs w_6 hP hD hS => ?_)
    obtain ⟨rfl, rfl⟩ := w_6
    have hP : va_P (dC, dI) vwCl (wZ qx qm cI cZ cJ ao r k a (MS.s_th y 1) o) H := hP.sub [0, 1, 2, 3, 4, 5, 6, 7, 8, 9, 10, 11, 12, 13, 14, 15, 16, 17, 19, 20, 21, 22, 23, 24, 25, 26, 27, 28, 29, 30, 31, 32, 18] rfl
    have hD : va_D A (wZ qx qm cI cZ cJ ao r k a (MS.s_th y 1) o) := hD.sub [0, 1, 2, 3, 4, 5, 6, 7, 8, 9, 10, 11, 12, 13, 14, 15, 16, 17, 19, 20, 21, 22, 23, 24, 25, 26, 27, 28, 29, 30, 31, 32, 18] (by decide) rfl
    refine lv_istore (lv' := [(6, .int (nI 0)), (5, .int (nI 1)), (4, .int (nI i)), (3, .ref ao), (2, .ref (qm 0)), (1, .ref (qx 17)), (0, .ref b)]) hx hb dL_law_516 hl (by decide) rfl (fun ls hl => ?_)
    refine lv_aload_n hx hb dL_law_518 rfl (lv_at hl 4 rfl) ?_
    refine xc_Vi (As := []) (wr := wX qx cI cZ r k a ++ wO cJ ao o) ⟨hx, hb, hml, hown, hts⟩ (c_ScanRowsModel_thrown l dC dI qm cI cZ H.size (MS.s_th y 1)) (cwV 0 hts (gV tw_642 tw_643 tw_644 tw_5 tw_645) rfl rfl rfl (by decide +kernel) ⟨Nat.le_of_ble_eq_true rfl, Nat.le_of_ble_eq_true rfl⟩) rfl hl.1 rfl (Nat.le_of_ble_eq_true rfl) dL_law_519 ⟨by show _ ≤ 1072; omega, by show _ ≤ 9025; omega⟩ hP hD hK hS hA [18, 19, 20, 21, 22, 23, 24, 25, 26, 27, 28, 29, 30, 31] [0, 1, 2, 3, 4, 5, 6, 7, 8, 9, 10, 11, 12, 13, 14, 15, 16, 17, 32] rfl rfl (by decide) (by decide) (by decide) [0, 1] rfl (q0 := 0) rfl rfl rfl eT_M (trivial) (fun r_7 u_8 H locs w_9 hP hD hS => ?_)
    obtain rfl := w_9
    have hP : va_P (dC, dI) vwCl (wZ qx qm cI cZ cJ ao r k a (MS.s_th y 1) o) H := hP.sub [0, 1, 2, 3, 4, 5, 6, 7, 8, 9, 10, 11, 12, 13, 14, 15, 16, 17, 19, 20, 21, 22, 23, 24, 25, 26, 27, 28, 29, 30, 31, 32, 18] rfl
    have hD : va_D A (wZ qx qm cI cZ cJ ao r k a (MS.s_th y 1) o) := hD.sub [0, 1, 2, 3, 4, 5, 6, 7, 8, 9, 10, 11, 12, 13, 14, 15, 16, 17, 19, 20, 21, 22, 23, 24, 25, 26, 27, 28, 29, 30, 31, 32, 18] (by decide) rfl
    refine xt_i (show nI (MS.th (MS.s_th y 1)) = nI 1 from congrArg nI (rfl)) ?_
    refine lv_iload hx hb dL_law_522 (lv_at hl 1 rfl) ?_
    refine xn_ceq (tgt := 529) hx hb (by omega) (by omega) dL_law_524 (by decide) (fun c_10 => ?_) (fun c_10 => ?_)
    · refine lv_iload hx hb dL_law_529 (lv_at hl 1 rfl) ?_
      refine xn_zne (tgt := 546) hx hb (by omega) dL_law_531 (by decide) (fun c_11 => ?_) (fun c_11 => ?_)
      · refine lv_goto (tgt := 1190) hx hb dL_law_546 (by decide) ?_
        refine W.widen (k := ce + 1) (n := sl + 6) (by omega) (by omega) ?_
        exact hend r k a (MS.s_th y 1) o (Rel_th hR 1) H locs hP hD hS ls (lv_sub hl [2, 3, 4, 5, 6] rfl)
        
      · exact absurd (show False by omega) id
    · exact absurd (show False by omega) id
  · refine lv_aload_n hx hb dL_law_493 rfl (lv_at hl 3 rfl) ?_
    refine lv_aload_n hx hb dL_law_494 rfl (lv_at hl 4 rfl) ?_
    refine lv_iload hx hb dL_law_495 (lv_at hl 0 rfl) ?_
    refine lv_iconst (v := nI 1) hx hb dL_law_497 (by decide) ?_
    refine xn_add hx hb dL_law_498 ?_
    refine va_sld hx hb hX hbl hbA hS (vp_in_nI (show i + 1 < L by omega) (by omega)) dL_law_499 ?_
    refine xt_i (show xs (nI (i + 1)).toNatClampNeg = nI n0 from (congrArg xs (nI_clamp (by omega))).trans (e1)) ?_
    refine lv_aload_n hx hb dL_law_500 rfl (lv_at hl 1 rfl) ?_
    refine xw_Si (As := [.ref (qx 17), .int (nI n0), .ref ao]) (wr := wM qm cI cZ y) ⟨hx, hb, hml, hown, hts⟩ (h_improve l dC dI qx cI cZ cJ ao H.size r k a o n0 hB hC h1) (vx_cwSW 3 hts (gSW tw_351 tw_352 tw_0 tw_353) rfl rfl rfl (by decide +kernel) ⟨Nat.le_of_ble_eq_true rfl, Nat.le_of_ble_eq_true rfl⟩) rfl hl.1 rfl (Nat.le_of_ble_eq_true rfl) dL_law_501 ⟨by show ce + 0 ≤ 1072; omega, by show sl + 0 ≤ 9025; omega⟩ hP hD hK hS hA [0, 1, 2, 3, 4, 5, 6, 7, 8, 9, 10, 11, 12, 13, 14, 15, 16, 17, 32] [18, 19, 20, 21, 22, 23, 24, 25, 26, 27, 28, 29, 30, 31] rfl rfl (by decide) (by decide) (by decide) [0, 1, 2] rfl (eW_of eT_M) trivial (fun r_1 u_2 H locs w_3 hP hD hS => ?_)
    obtain ⟨kq, hq1, hq2, rfl, hu1, hu2⟩ := w_3
    have hP : va_P (dC, dI) vwCl (wZ qx qm cI cZ cJ ao u_2.1.1 u_2.1.2.1 u_2.1.2.2 y u_2.2) H := hP.sub [14, 15, 16, 17, 18, 19, 20, 21, 22, 23, 24, 25, 26, 27, 28, 29, 30, 31, 0, 1, 2, 3, 4, 5, 6, 7, 8, 9, 10, 11, 12, 13, 32] rfl
    have hD : va_D A (wZ qx qm cI cZ cJ ao u_2.1.1 u_2.1.2.1 u_2.1.2.2 y u_2.2) := hD.sub [14, 15, 16, 17, 18, 19, 20, 21, 22, 23, 24, 25, 26, 27, 28, 29, 30, 31, 0, 1, 2, 3, 4, 5, 6, 7, 8, 9, 10, 11, 12, 13, 32] (by decide) rfl
    refine lv_istore (lv' := [(5, .int (nI 0)), (4, .int (nI i)), (3, .ref ao), (2, .ref (qm 0)), (1, .ref (qx 17)), (0, .ref b)]) hx hb dL_law_504 hl (by decide) rfl (fun ls hl => ?_)
    refine lv_aload_n hx hb dL_law_506 rfl (lv_at hl 3 rfl) ?_
    refine lv_aload_n hx hb dL_law_507 rfl (lv_at hl 5 rfl) ?_
    refine lv_iload hx hb dL_law_508 (lv_at hl 1 rfl) ?_
    refine lv_iconst (v := nI 1) hx hb dL_law_510 (by decide) ?_
    refine xn_add hx hb dL_law_511 ?_
    refine va_sld hx hb hX hbl hbA hS (vp_in_nI (show i + 1 < L by omega) (by omega)) dL_law_512 ?_
    refine xt_i (show xs (nI (i + 1)).toNatClampNeg = nI n0 from (congrArg xs (nI_clamp (by omega))).trans (e1)) ?_
    refine xc_Vi (As := [.int (nI n0)]) (wr := wX qx cI cZ u_2.1.1 u_2.1.2.1 u_2.1.2.2 ++ wO cJ ao u_2.2) ⟨hx, hb, hml, hown, hts⟩ (c_ScanRowsModel_improve l dC dI qm cI cZ H.size y n0 hM hmo h1) (cwV 1 hts (gV tw_683 tw_684 tw_685 tw_5 tw_686) rfl rfl rfl (by decide +kernel) ⟨Nat.le_of_ble_eq_true rfl, Nat.le_of_ble_eq_true rfl⟩) rfl hl.1 rfl (Nat.le_of_ble_eq_true rfl) dL_law_513 ⟨by show _ ≤ 1072; omega, by show _ ≤ 9025; omega⟩ hP hD hK hS hA [18, 19, 20, 21, 22, 23, 24, 25, 26, 27, 28, 29, 30, 31] [0, 1, 2, 3, 4, 5, 6, 7, 8, 9, 10, 11, 12, 13, 14, 15, 16, 17, 32] rfl rfl (by decide) (by decide) (by decide) [0, 1] rfl (q0 := 0) rfl rfl rfl eT_M (trivial) (fun r_4 u_5 H locs w_6 hP hD hS => ?_)
    obtain ⟨kp, kp1, rfl, kp2⟩ := w_6
    have hP : va_P (dC, dI) vwCl (wZ qx qm cI cZ cJ ao u_2.1.1 u_2.1.2.1 u_2.1.2.2 u_5 u_2.2) H := hP.sub [0, 1, 2, 3, 4, 5, 6, 7, 8, 9, 10, 11, 12, 13, 14, 15, 16, 17, 19, 20, 21, 22, 23, 24, 25, 26, 27, 28, 29, 30, 31, 32, 18] rfl
    have hD : va_D A (wZ qx qm cI cZ cJ ao u_2.1.1 u_2.1.2.1 u_2.1.2.2 u_5 u_2.2) := hD.sub [0, 1, 2, 3, 4, 5, 6, 7, 8, 9, 10, 11, 12, 13, 14, 15, 16, 17, 19, 20, 21, 22, 23, 24, 25, 26, 27, 28, 29, 30, 31, 32, 18] (by decide) rfl
    refine lv_istore (lv' := [(6, .int (nI kp)), (5, .int (nI 0)), (4, .int (nI i)), (3, .ref ao), (2, .ref (qm 0)), (1, .ref (qx 17)), (0, .ref b)]) hx hb dL_law_516 hl (by decide) rfl (fun ls hl => ?_)
    refine lv_aload_n hx hb dL_law_518 rfl (lv_at hl 4 rfl) ?_
    refine xc_Vi (As := []) (wr := wX qx cI cZ u_2.1.1 u_2.1.2.1 u_2.1.2.2 ++ wO cJ ao u_2.2) ⟨hx, hb, hml, hown, hts⟩ (c_ScanRowsModel_thrown l dC dI qm cI cZ H.size u_5) (cwV 0 hts (gV tw_642 tw_643 tw_644 tw_5 tw_645) rfl rfl rfl (by decide +kernel) ⟨Nat.le_of_ble_eq_true rfl, Nat.le_of_ble_eq_true rfl⟩) rfl hl.1 rfl (Nat.le_of_ble_eq_true rfl) dL_law_519 ⟨by show _ ≤ 1072; omega, by show _ ≤ 9025; omega⟩ hP hD hK hS hA [18, 19, 20, 21, 22, 23, 24, 25, 26, 27, 28, 29, 30, 31] [0, 1, 2, 3, 4, 5, 6, 7, 8, 9, 10, 11, 12, 13, 14, 15, 16, 17, 32] rfl rfl (by decide) (by decide) (by decide) [0, 1] rfl (q0 := 0) rfl rfl rfl eT_M (trivial) (fun r_7 u_8 H locs w_9 hP hD hS => ?_)
    obtain rfl := w_9
    have hP : va_P (dC, dI) vwCl (wZ qx qm cI cZ cJ ao u_2.1.1 u_2.1.2.1 u_2.1.2.2 u_5 u_2.2) H := hP.sub [0, 1, 2, 3, 4, 5, 6, 7, 8, 9, 10, 11, 12, 13, 14, 15, 16, 17, 19, 20, 21, 22, 23, 24, 25, 26, 27, 28, 29, 30, 31, 32, 18] rfl
    have hD : va_D A (wZ qx qm cI cZ cJ ao u_2.1.1 u_2.1.2.1 u_2.1.2.2 u_5 u_2.2) := hD.sub [0, 1, 2, 3, 4, 5, 6, 7, 8, 9, 10, 11, 12, 13, 14, 15, 16, 17, 19, 20, 21, 22, 23, 24, 25, 26, 27, 28, 29, 30, 31, 32, 18] (by decide) rfl
    refine xt_i (show nI (MS.th u_5) = nI 0 from congrArg nI ((Rel_imp hR hq2 kp2).2.1)) ?_
    refine lv_iload hx hb dL_law_522 (lv_at hl 1 rfl) ?_
    refine xn_ceq (tgt := 529) hx hb (by omega) (by omega) dL_law_524 (by decide) (fun c_10 => ?_) (fun c_10 => ?_)
    · refine lv_iload hx hb dL_law_529 (lv_at hl 1 rfl) ?_
      refine xn_zne (tgt := 546) hx hb (by omega) dL_law_531 (by decide) (fun c_11 => ?_) (fun c_11 => ?_)
      · refine lv_goto (tgt := 1190) hx hb dL_law_546 (by decide) ?_
        refine W.widen (k := ce + 1) (n := sl + 6) (by omega) (by omega) ?_
        exact hend u_2.1.1 u_2.1.2.1 u_2.1.2.2 u_5 u_2.2 (by rw [hu1]; exact (Rel_imp hR hq2 kp2).2.2) H locs hP hD hS ls (lv_sub hl [2, 3, 4, 5, 6] rfl)
        
      · refine lv_aload_n hx hb dL_law_534 rfl (lv_at hl 3 rfl) ?_
        refine lv_iconst (v := nI 0) hx hb dL_law_535 (by decide) ?_
        refine va_lald hx hb hK hP 32 2 rfl rfl (vp_in_nI (show 0 < 1 by decide) (by decide)) dL_law_536 ?_
        refine xt_l (show u_2.2 (nI 0).toNatClampNeg = (nI kq).toInt64 from (congrArg u_2.2 (show (nI 0).toNatClampNeg = 0 by decide)).trans hu2) ?_
        refine lv_iload hx hb dL_law_537 (lv_at hl 0 rfl) ?_
        refine lv_i2l hx hb dL_law_539 rfl ?_
        refine W.lcmp hx hb dL_law_540 ?_
        refine xt_i (show (lg_cmp ((nI kq).toInt64) ((nI kp).toInt64)) = nI 0 from lg_eq (by rw [(Rel_imp hR hq2 kp2).1])) ?_
        refine xn_zeq (tgt := 546) hx hb (by omega) dL_law_541 (by decide) (fun c_12 => ?_) (fun c_12 => ?_)
        · refine lv_goto (tgt := 1190) hx hb dL_law_546 (by decide) ?_
          refine W.widen (k := ce + 1) (n := sl + 6) (by omega) (by omega) ?_
          exact hend u_2.1.1 u_2.1.2.1 u_2.1.2.2 u_5 u_2.2 (by rw [hu1]; exact (Rel_imp hR hq2 kp2).2.2) H locs hP hD hS ls (lv_sub hl [2, 3, 4, 5, 6] rfl)
          
        · exact absurd (show False by omega) id
    · exact absurd (show False by omega) id
set_option maxHeartbeats 4000000 in
set_option maxRecDepth 100000 in
theorem op_rule {p : Program} {e : Env} {s : State} {m : MethodId} {below : List Frame} {meth : Method} {c : Code} (l : Launch) (hl0 : l.stackTraces = false) {b L : Nat} {xs : Nat → Int32} (hL : L ≤ 3073) (C0 : lw_At p s m meth c b L xs) (A : Nat → Prop) (hA : ∀ q : Nat, s.heap.size ≤ q → A q) (hbA : ¬ A b) (dC : Nat → ClassId) (dI : Nat → Nat → Nat) (qx qm : Nat → Nat) (cI cZ cJ : ClassId) (ao tN : Nat) (hK : va_K (dC, dI) vwCl [(cI, .int), (cZ, .boolean), (cJ, .long)] s) (hE : eX tN A s s.heap) (i : Nat) (hi : i + 5 < L) (ce sl : Nat) (hce : ce + 1 ≤ 1072) (hsl : sl + 6 ≤ 9025) (r : RS) (k : CS) (a : AS) (y : MS) (o : OS) (hR : Rel r k a y) (H : Heap) (locs : List Loc) (hP : va_P (dC, dI) vwCl (wZ qx qm cI cZ cJ ao r k a y o) H) (hD : va_D A (wZ qx qm cI cZ cJ ao r k a y o)) (hS : va_S A s.heap H locs) (ls : Array Slot) (hl : lv_has ls 7 [(4, .int (nI i)), (3, .ref ao), (2, .ref (qm 0)), (1, .ref (qx 17)), (0, .ref b)]) (hend : ∀ (r : RS) (k : CS) (a : AS) (y : MS) (o : OS), Rel r k a y → ∀ (H : Heap) (locs : List Loc), va_P (dC, dI) vwCl (wZ qx qm cI cZ cJ ao r k a y o) H → va_D A (wZ qx qm cI cZ cJ ao r k a y o) → va_S A s.heap H locs → ∀ ls : Array Slot, lv_has ls 7 [(4, .int (nI i)), (3, .ref ao), (2, .ref (qm 0)), (1, .ref (qx 17)), (0, .ref b)] → W p l e room_1 s m #[Value.ref b] below meth c H locs (ce + 1) (sl + 6) (lw_Z below #[Value.ref b] s) (F0 m 1190 ls [])) : W p l e room_1 s m #[Value.ref b] below meth c H locs (ce) (sl) (lw_Z below #[Value.ref b] s) (F0 m 549 ls []) := by
  obtain ⟨hx, hb, hr, hml, hown, hts0, hX, hbl, hlocks, hgv⟩ := id C0
  have hown : s.vm.findClass "ScanRowsLaw" = some m.cls := hown
  have hts : ∀ w ∈ ALLG, w.before #[Value.ref b] s = true := fun w h => hts0 w (List.mem_filter.mp h).1
  have b_n : r.n ≤ 32 := hR.1.1.1
  have b_c : r.c ≤ 8 := hR.1.1.2.1
  have b_p : r.p ≤ r.n := hR.1.1.2.2.1
  have k_n : k.n ≤ 20 := hR.1.2.1.1
  have hB : RB r := hR.1.1
  have hM : MB y := hR.2.1
  have hmo : mono y := Rel_mono hR
  have hC : RC r := PI_RC hR.2.2.1
  have e_n : y.n = r.n := hR.2.2.2.2.1.1
  have e_c : y.c = r.c := hR.2.2.2.2.1.2.1
  have e_p : y.p = r.p := hR.2.2.2.2.1.2.2.1
  have e_vb : y.vb = r.vb := hR.2.2.2.2.1.2.2.2.1
  have e_fl : y.fl = r.fl := hR.2.2.2.2.1.2.2.2.2.2.2.2.1
  have e_st : y.st = r.st := hR.2.2.2.2.1.2.2.2.2.2.2.2.2.2
  have e_k : toK y = k := hR.2.2.2.2.2.1
  have e_cn : y.cn = k.n := congrArg CS.n e_k
  have e_co : y.co = a.co := hR.2.2.2.2.2.2.2.1
  have a_co : a.co < 16 := hR.1.2.2.2.1
  have e_sa : y.sa = a.st := hR.2.2.2.2.2.2.1
  rcases ru_cs (xs (i + 1)) (xs (i + 2)) with h1 | ⟨kq, w0, h1, h2, e1, e2⟩
  · refine lv_aload_n hx hb dL_law_549 rfl (lv_at hl 3 rfl) ?_
    refine lv_aload_n hx hb dL_law_550 rfl (lv_at hl 4 rfl) ?_
    refine lv_iload hx hb dL_law_551 (lv_at hl 0 rfl) ?_
    refine lv_iconst (v := nI 1) hx hb dL_law_553 (by decide) ?_
    refine xn_add hx hb dL_law_554 ?_
    refine va_sld hx hb hX hbl hbA hS (vp_in_nI (show i + 1 < L by omega) (by omega)) dL_law_555 ?_
    refine xt_i (show xs (nI (i + 1)).toNatClampNeg = (xs (i + 1)) from (congrArg xs (nI_clamp (by omega))).trans (rfl)) ?_
    refine lv_aload_n hx hb dL_law_556 rfl (lv_at hl 4 rfl) ?_
    refine lv_iload hx hb dL_law_557 (lv_at hl 0 rfl) ?_
    refine lv_iconst (v := nI 2) hx hb dL_law_559 (by decide) ?_
    refine xn_add hx hb dL_law_560 ?_
    refine va_sld hx hb hX hbl hbA hS (vp_in_nI (show i + 2 < L by omega) (by omega)) dL_law_561 ?_
    refine xt_i (show xs (nI (i + 2)).toNatClampNeg = (xs (i + 2)) from (congrArg xs (nI_clamp (by omega))).trans (rfl)) ?_
    refine lv_aload_n hx hb dL_law_562 rfl (lv_at hl 1 rfl) ?_
    refine xw_Si (As := [.ref (qx 17), .int (xs (i + 1)), .int (xs (i + 2)), .ref ao]) (wr := wM qm cI cZ y) ⟨hx, hb, hml, hown, hts⟩ (hx_rule l hl0 dC dI qx cI cZ cJ ao H.size r k a o tN _ _ h1) (vx_cwSW 4 hts (gSW tw_383 tw_384 tw_0 tw_385) rfl rfl rfl (by decide +kernel) ⟨Nat.le_of_ble_eq_true rfl, Nat.le_of_ble_eq_true rfl⟩) rfl hl.1 rfl (Nat.le_of_ble_eq_true rfl) dL_law_563 ⟨by show ce + 1 ≤ 1072; omega, by show sl + 6 ≤ 9025; omega⟩ hP hD hK hS hA [0, 1, 2, 3, 4, 5, 6, 7, 8, 9, 10, 11, 12, 13, 14, 15, 16, 17, 32] [18, 19, 20, 21, 22, 23, 24, 25, 26, 27, 28, 29, 30, 31] rfl rfl (by decide) (by decide) (by decide) [0, 1, 2] rfl (eX_W _ _) (eX_kn hE hS (va_free (wc := wH qx cI cZ cJ ao r k a o) hD hS hA [0, 1, 2, 3, 4, 5, 6, 7, 8, 9, 10, 11, 12, 13, 14, 15, 16, 17, 32] rfl)) (fun r_1 u_2 H locs w_3 hP hD hS => ?_)
    obtain ⟨rfl, rfl⟩ := w_3
    have hP : va_P (dC, dI) vwCl (wZ qx qm cI cZ cJ ao r k a y o) H := hP.sub [14, 15, 16, 17, 18, 19, 20, 21, 22, 23, 24, 25, 26, 27, 28, 29, 30, 31, 0, 1, 2, 3, 4, 5, 6, 7, 8, 9, 10, 11, 12, 13, 32] rfl
    have hD : va_D A (wZ qx qm cI cZ cJ ao r k a y o) := hD.sub [14, 15, 16, 17, 18, 19, 20, 21, 22, 23, 24, 25, 26, 27, 28, 29, 30, 31, 0, 1, 2, 3, 4, 5, 6, 7, 8, 9, 10, 11, 12, 13, 32] (by decide) rfl
    refine lv_istore (lv' := [(5, .int (nI 1)), (4, .int (nI i)), (3, .ref ao), (2, .ref (qm 0)), (1, .ref (qx 17)), (0, .ref b)]) hx hb dL_law_566 hl (by decide) rfl (fun ls hl => ?_)
    refine lv_aload_n hx hb dL_law_568 rfl (lv_at hl 3 rfl) ?_
    refine lv_aload_n hx hb dL_law_569 rfl (lv_at hl 5 rfl) ?_
    refine lv_iload hx hb dL_law_570 (lv_at hl 1 rfl) ?_
    refine lv_iconst (v := nI 1) hx hb dL_law_572 (by decide) ?_
    refine xn_add hx hb dL_law_573 ?_
    refine va_sld hx hb hX hbl hbA hS (vp_in_nI (show i + 1 < L by omega) (by omega)) dL_law_574 ?_
    refine xt_i (show xs (nI (i + 1)).toNatClampNeg = (xs (i + 1)) from (congrArg xs (nI_clamp (by omega))).trans (rfl)) ?_
    refine lv_aload_n hx hb dL_law_575 rfl (lv_at hl 5 rfl) ?_
    refine lv_iload hx hb dL_law_576 (lv_at hl 1 rfl) ?_
    refine lv_iconst (v := nI 2) hx hb dL_law_578 (by decide) ?_
    refine xn_add hx hb dL_law_579 ?_
    refine va_sld hx hb hX hbl hbA hS (vp_in_nI (show i + 2 < L by omega) (by omega)) dL_law_580 ?_
    refine xt_i (show xs (nI (i + 2)).toNatClampNeg = (xs (i + 2)) from (congrArg xs (nI_clamp (by omega))).trans (rfl)) ?_
    refine xc_Vi (As := [.int (xs (i + 1)), .int (xs (i + 2))]) (wr := wX qx cI cZ r k a ++ wO cJ ao o) ⟨hx, hb, hml, hown, hts⟩ (c_M_rule1 l dC dI qm cI cZ H.size y _ _ h1 (by omega)) (cwV 2 hts (gV tw_699 tw_700 tw_701 tw_5 tw_702) rfl rfl rfl (by decide +kernel) ⟨Nat.le_of_ble_eq_true rfl, Nat.le_of_ble_eq_true rfl⟩) rfl hl.1 rfl (Nat.le_of_ble_eq_true rfl) dL_law_581 ⟨by show _ ≤ 1072; omega, by show _ ≤ 9025; omega⟩ hP hD hK hS hA [18, 19, 20, 21, 22, 23, 24, 25, 26, 27, 28, 29, 30, 31] [0, 1, 2, 3, 4, 5, 6, 7, 8, 9, 10, 11, 12, 13, 14, 15, 16, 17, 32] rfl rfl (by decide) (by decide) (by decide) [0, 1] rfl (q0 := 0) rfl rfl rfl eT_M (trivial) (fun r_4 u_5 H locs w_6 hP hD hS => ?_)
    obtain ⟨rfl, rfl⟩ := w_6
    have hP : va_P (dC, dI) vwCl (wZ qx qm cI cZ cJ ao r k a (MS.s_th y 1) o) H := hP.sub [0, 1, 2, 3, 4, 5, 6, 7, 8, 9, 10, 11, 12, 13, 14, 15, 16, 17, 19, 20, 21, 22, 23, 24, 25, 26, 27, 28, 29, 30, 31, 32, 18] rfl
    have hD : va_D A (wZ qx qm cI cZ cJ ao r k a (MS.s_th y 1) o) := hD.sub [0, 1, 2, 3, 4, 5, 6, 7, 8, 9, 10, 11, 12, 13, 14, 15, 16, 17, 19, 20, 21, 22, 23, 24, 25, 26, 27, 28, 29, 30, 31, 32, 18] (by decide) rfl
    refine lv_istore (lv' := [(6, .int (nI 0)), (5, .int (nI 1)), (4, .int (nI i)), (3, .ref ao), (2, .ref (qm 0)), (1, .ref (qx 17)), (0, .ref b)]) hx hb dL_law_584 hl (by decide) rfl (fun ls hl => ?_)
    refine lv_aload_n hx hb dL_law_586 rfl (lv_at hl 4 rfl) ?_
    refine xc_Vi (As := []) (wr := wX qx cI cZ r k a ++ wO cJ ao o) ⟨hx, hb, hml, hown, hts⟩ (c_ScanRowsModel_thrown l dC dI qm cI cZ H.size (MS.s_th y 1)) (cwV 0 hts (gV tw_642 tw_643 tw_644 tw_5 tw_645) rfl rfl rfl (by decide +kernel) ⟨Nat.le_of_ble_eq_true rfl, Nat.le_of_ble_eq_true rfl⟩) rfl hl.1 rfl (Nat.le_of_ble_eq_true rfl) dL_law_587 ⟨by show _ ≤ 1072; omega, by show _ ≤ 9025; omega⟩ hP hD hK hS hA [18, 19, 20, 21, 22, 23, 24, 25, 26, 27, 28, 29, 30, 31] [0, 1, 2, 3, 4, 5, 6, 7, 8, 9, 10, 11, 12, 13, 14, 15, 16, 17, 32] rfl rfl (by decide) (by decide) (by decide) [0, 1] rfl (q0 := 0) rfl rfl rfl eT_M (trivial) (fun r_7 u_8 H locs w_9 hP hD hS => ?_)
    obtain rfl := w_9
    have hP : va_P (dC, dI) vwCl (wZ qx qm cI cZ cJ ao r k a (MS.s_th y 1) o) H := hP.sub [0, 1, 2, 3, 4, 5, 6, 7, 8, 9, 10, 11, 12, 13, 14, 15, 16, 17, 19, 20, 21, 22, 23, 24, 25, 26, 27, 28, 29, 30, 31, 32, 18] rfl
    have hD : va_D A (wZ qx qm cI cZ cJ ao r k a (MS.s_th y 1) o) := hD.sub [0, 1, 2, 3, 4, 5, 6, 7, 8, 9, 10, 11, 12, 13, 14, 15, 16, 17, 19, 20, 21, 22, 23, 24, 25, 26, 27, 28, 29, 30, 31, 32, 18] (by decide) rfl
    refine xt_i (show nI (MS.th (MS.s_th y 1)) = nI 1 from congrArg nI (rfl)) ?_
    refine lv_iload hx hb dL_law_590 (lv_at hl 1 rfl) ?_
    refine xn_ceq (tgt := 597) hx hb (by omega) (by omega) dL_law_592 (by decide) (fun c_10 => ?_) (fun c_10 => ?_)
    · refine lv_iload hx hb dL_law_597 (lv_at hl 1 rfl) ?_
      refine xn_zne (tgt := 614) hx hb (by omega) dL_law_599 (by decide) (fun c_11 => ?_) (fun c_11 => ?_)
      · refine lv_goto (tgt := 1190) hx hb dL_law_614 (by decide) ?_
        refine W.widen (k := ce + 1) (n := sl + 6) (by omega) (by omega) ?_
        exact hend r k a (MS.s_th y 1) o (Rel_th hR 1) H locs hP hD hS ls (lv_sub hl [2, 3, 4, 5, 6] rfl)
        
      · exact absurd (show False by omega) id
    · exact absurd (show False by omega) id
  · refine lv_aload_n hx hb dL_law_549 rfl (lv_at hl 3 rfl) ?_
    refine lv_aload_n hx hb dL_law_550 rfl (lv_at hl 4 rfl) ?_
    refine lv_iload hx hb dL_law_551 (lv_at hl 0 rfl) ?_
    refine lv_iconst (v := nI 1) hx hb dL_law_553 (by decide) ?_
    refine xn_add hx hb dL_law_554 ?_
    refine va_sld hx hb hX hbl hbA hS (vp_in_nI (show i + 1 < L by omega) (by omega)) dL_law_555 ?_
    refine xt_i (show xs (nI (i + 1)).toNatClampNeg = nI kq from (congrArg xs (nI_clamp (by omega))).trans (e1)) ?_
    refine lv_aload_n hx hb dL_law_556 rfl (lv_at hl 4 rfl) ?_
    refine lv_iload hx hb dL_law_557 (lv_at hl 0 rfl) ?_
    refine lv_iconst (v := nI 2) hx hb dL_law_559 (by decide) ?_
    refine xn_add hx hb dL_law_560 ?_
    refine va_sld hx hb hX hbl hbA hS (vp_in_nI (show i + 2 < L by omega) (by omega)) dL_law_561 ?_
    refine xt_i (show xs (nI (i + 2)).toNatClampNeg = nI w0 from (congrArg xs (nI_clamp (by omega))).trans (e2)) ?_
    refine lv_aload_n hx hb dL_law_562 rfl (lv_at hl 1 rfl) ?_
    refine xw_Si (As := [.ref (qx 17), .int (nI kq), .int (nI w0), .ref ao]) (wr := wM qm cI cZ y) ⟨hx, hb, hml, hown, hts⟩ (h_rule l dC dI qx cI cZ cJ ao H.size r k a o kq w0 hB h1 h2) (vx_cwSW 4 hts (gSW tw_383 tw_384 tw_0 tw_385) rfl rfl rfl (by decide +kernel) ⟨Nat.le_of_ble_eq_true rfl, Nat.le_of_ble_eq_true rfl⟩) rfl hl.1 rfl (Nat.le_of_ble_eq_true rfl) dL_law_563 ⟨by show ce + 0 ≤ 1072; omega, by show sl + 0 ≤ 9025; omega⟩ hP hD hK hS hA [0, 1, 2, 3, 4, 5, 6, 7, 8, 9, 10, 11, 12, 13, 14, 15, 16, 17, 32] [18, 19, 20, 21, 22, 23, 24, 25, 26, 27, 28, 29, 30, 31] rfl rfl (by decide) (by decide) (by decide) [0, 1, 2] rfl (eW_of eT_M) trivial (fun r_1 u_2 H locs w_3 hP hD hS => ?_)
    obtain ⟨z, hq, rfl, hu1, hu2⟩ := w_3
    have hP : va_P (dC, dI) vwCl (wZ qx qm cI cZ cJ ao u_2.1.1 u_2.1.2.1 u_2.1.2.2 y u_2.2) H := hP.sub [14, 15, 16, 17, 18, 19, 20, 21, 22, 23, 24, 25, 26, 27, 28, 29, 30, 31, 0, 1, 2, 3, 4, 5, 6, 7, 8, 9, 10, 11, 12, 13, 32] rfl
    have hD : va_D A (wZ qx qm cI cZ cJ ao u_2.1.1 u_2.1.2.1 u_2.1.2.2 y u_2.2) := hD.sub [14, 15, 16, 17, 18, 19, 20, 21, 22, 23, 24, 25, 26, 27, 28, 29, 30, 31, 0, 1, 2, 3, 4, 5, 6, 7, 8, 9, 10, 11, 12, 13, 32] (by decide) rfl
    refine lv_istore (lv' := [(5, .int (nI 0)), (4, .int (nI i)), (3, .ref ao), (2, .ref (qm 0)), (1, .ref (qx 17)), (0, .ref b)]) hx hb dL_law_566 hl (by decide) rfl (fun ls hl => ?_)
    refine lv_aload_n hx hb dL_law_568 rfl (lv_at hl 3 rfl) ?_
    refine lv_aload_n hx hb dL_law_569 rfl (lv_at hl 5 rfl) ?_
    refine lv_iload hx hb dL_law_570 (lv_at hl 1 rfl) ?_
    refine lv_iconst (v := nI 1) hx hb dL_law_572 (by decide) ?_
    refine xn_add hx hb dL_law_573 ?_
    refine va_sld hx hb hX hbl hbA hS (vp_in_nI (show i + 1 < L by omega) (by omega)) dL_law_574 ?_
    refine xt_i (show xs (nI (i + 1)).toNatClampNeg = nI kq from (congrArg xs (nI_clamp (by omega))).trans (e1)) ?_
    refine lv_aload_n hx hb dL_law_575 rfl (lv_at hl 5 rfl) ?_
    refine lv_iload hx hb dL_law_576 (lv_at hl 1 rfl) ?_
    refine lv_iconst (v := nI 2) hx hb dL_law_578 (by decide) ?_
    refine xn_add hx hb dL_law_579 ?_
    refine va_sld hx hb hX hbl hbA hS (vp_in_nI (show i + 2 < L by omega) (by omega)) dL_law_580 ?_
    refine xt_i (show xs (nI (i + 2)).toNatClampNeg = nI w0 from (congrArg xs (nI_clamp (by omega))).trans (e2)) ?_
    refine xc_Vi (As := [.int (nI kq), .int (nI w0)]) (wr := wX qx cI cZ u_2.1.1 u_2.1.2.1 u_2.1.2.2 ++ wO cJ ao u_2.2) ⟨hx, hb, hml, hown, hts⟩ (c_ScanRowsModel_rule l dC dI qm cI cZ H.size y kq w0 hM h1 h2) (cwV 2 hts (gV tw_699 tw_700 tw_701 tw_5 tw_702) rfl rfl rfl (by decide +kernel) ⟨Nat.le_of_ble_eq_true rfl, Nat.le_of_ble_eq_true rfl⟩) rfl hl.1 rfl (Nat.le_of_ble_eq_true rfl) dL_law_581 ⟨by show _ ≤ 1072; omega, by show _ ≤ 9025; omega⟩ hP hD hK hS hA [18, 19, 20, 21, 22, 23, 24, 25, 26, 27, 28, 29, 30, 31] [0, 1, 2, 3, 4, 5, 6, 7, 8, 9, 10, 11, 12, 13, 14, 15, 16, 17, 32] rfl rfl (by decide) (by decide) (by decide) [0, 1] rfl (q0 := 0) rfl rfl rfl eT_M (trivial) (fun r_4 u_5 H locs w_6 hP hD hS => ?_)
    obtain ⟨hq9, rfl⟩ := w_6
    have hP : va_P (dC, dI) vwCl (wZ qx qm cI cZ cJ ao u_2.1.1 u_2.1.2.1 u_2.1.2.2 (MS.s_th y 0) u_2.2) H := hP.sub [0, 1, 2, 3, 4, 5, 6, 7, 8, 9, 10, 11, 12, 13, 14, 15, 16, 17, 19, 20, 21, 22, 23, 24, 25, 26, 27, 28, 29, 30, 31, 32, 18] rfl
    have hD : va_D A (wZ qx qm cI cZ cJ ao u_2.1.1 u_2.1.2.1 u_2.1.2.2 (MS.s_th y 0) u_2.2) := hD.sub [0, 1, 2, 3, 4, 5, 6, 7, 8, 9, 10, 11, 12, 13, 14, 15, 16, 17, 19, 20, 21, 22, 23, 24, 25, 26, 27, 28, 29, 30, 31, 32, 18] (by decide) rfl
    refine lv_istore (lv' := [(6, .int r_4), (5, .int (nI 0)), (4, .int (nI i)), (3, .ref ao), (2, .ref (qm 0)), (1, .ref (qx 17)), (0, .ref b)]) hx hb dL_law_584 hl (by decide) rfl (fun ls hl => ?_)
    refine lv_aload_n hx hb dL_law_586 rfl (lv_at hl 4 rfl) ?_
    refine xc_Vi (As := []) (wr := wX qx cI cZ u_2.1.1 u_2.1.2.1 u_2.1.2.2 ++ wO cJ ao u_2.2) ⟨hx, hb, hml, hown, hts⟩ (c_ScanRowsModel_thrown l dC dI qm cI cZ H.size (MS.s_th y 0)) (cwV 0 hts (gV tw_642 tw_643 tw_644 tw_5 tw_645) rfl rfl rfl (by decide +kernel) ⟨Nat.le_of_ble_eq_true rfl, Nat.le_of_ble_eq_true rfl⟩) rfl hl.1 rfl (Nat.le_of_ble_eq_true rfl) dL_law_587 ⟨by show _ ≤ 1072; omega, by show _ ≤ 9025; omega⟩ hP hD hK hS hA [18, 19, 20, 21, 22, 23, 24, 25, 26, 27, 28, 29, 30, 31] [0, 1, 2, 3, 4, 5, 6, 7, 8, 9, 10, 11, 12, 13, 14, 15, 16, 17, 32] rfl rfl (by decide) (by decide) (by decide) [0, 1] rfl (q0 := 0) rfl rfl rfl eT_M (trivial) (fun r_7 u_8 H locs w_9 hP hD hS => ?_)
    obtain rfl := w_9
    have hP : va_P (dC, dI) vwCl (wZ qx qm cI cZ cJ ao u_2.1.1 u_2.1.2.1 u_2.1.2.2 (MS.s_th y 0) u_2.2) H := hP.sub [0, 1, 2, 3, 4, 5, 6, 7, 8, 9, 10, 11, 12, 13, 14, 15, 16, 17, 19, 20, 21, 22, 23, 24, 25, 26, 27, 28, 29, 30, 31, 32, 18] rfl
    have hD : va_D A (wZ qx qm cI cZ cJ ao u_2.1.1 u_2.1.2.1 u_2.1.2.2 (MS.s_th y 0) u_2.2) := hD.sub [0, 1, 2, 3, 4, 5, 6, 7, 8, 9, 10, 11, 12, 13, 14, 15, 16, 17, 19, 20, 21, 22, 23, 24, 25, 26, 27, 28, 29, 30, 31, 32, 18] (by decide) rfl
    refine xt_i (show nI (MS.th (MS.s_th y 0)) = nI 0 from congrArg nI (rfl)) ?_
    refine lv_iload hx hb dL_law_590 (lv_at hl 1 rfl) ?_
    refine xn_ceq (tgt := 597) hx hb (by omega) (by omega) dL_law_592 (by decide) (fun c_10 => ?_) (fun c_10 => ?_)
    · refine lv_iload hx hb dL_law_597 (lv_at hl 1 rfl) ?_
      refine xn_zne (tgt := 614) hx hb (by omega) dL_law_599 (by decide) (fun c_11 => ?_) (fun c_11 => ?_)
      · refine lv_goto (tgt := 1190) hx hb dL_law_614 (by decide) ?_
        refine W.widen (k := ce + 1) (n := sl + 6) (by omega) (by omega) ?_
        exact hend u_2.1.1 u_2.1.2.1 u_2.1.2.2 (MS.s_th y 0) u_2.2 (by rw [hu1]; exact Rel_th hR 0) H locs hP hD hS ls (lv_sub hl [2, 3, 4, 5, 6] rfl)
        
      · refine lv_aload_n hx hb dL_law_602 rfl (lv_at hl 3 rfl) ?_
        refine lv_iconst (v := nI 0) hx hb dL_law_603 (by decide) ?_
        refine va_lald hx hb hK hP 32 2 rfl rfl (vp_in_nI (show 0 < 1 by decide) (by decide)) dL_law_604 ?_
        refine xt_l (show u_2.2 (nI 0).toNatClampNeg = z.toInt64 from (congrArg u_2.2 (show (nI 0).toNatClampNeg = 0 by decide)).trans hu2) ?_
        refine lv_iload hx hb dL_law_605 (lv_at hl 0 rfl) ?_
        refine lv_i2l hx hb dL_law_607 rfl ?_
        refine W.lcmp hx hb dL_law_608 ?_
        refine xt_i (show (lg_cmp z.toInt64 r_4.toInt64) = nI 0 from lg_eq (by rw [rul_eq (fun t ht => br_eq hR.2.2.1 hR.2.2.2.2.1 ht) hq (by rw [← e_n]; exact hq9)])) ?_
        refine xn_zeq (tgt := 614) hx hb (by omega) dL_law_609 (by decide) (fun c_12 => ?_) (fun c_12 => ?_)
        · refine lv_goto (tgt := 1190) hx hb dL_law_614 (by decide) ?_
          refine W.widen (k := ce + 1) (n := sl + 6) (by omega) (by omega) ?_
          exact hend u_2.1.1 u_2.1.2.1 u_2.1.2.2 (MS.s_th y 0) u_2.2 (by rw [hu1]; exact Rel_th hR 0) H locs hP hD hS ls (lv_sub hl [2, 3, 4, 5, 6] rfl)
          
        · exact absurd (show False by omega) id
    · exact absurd (show False by omega) id
