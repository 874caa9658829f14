theorem tw_160 : (Cond.methodLink "ScanRowsLaw" (121 : Nat) ({ cls := "ScanRows", name := "shift", desc := "(I)I" } : Jvm.MethodName)) ∈ ALLG := al_t (i := 160) (by decide +kernel) (by decide +kernel)
theorem tw_161 : (Cond.instanceMethod ({ cls := "ScanRows", name := "shift", desc := "(I)I" } : Jvm.MethodName)) ∈ ALLG := al_t (i := 161) (by decide +kernel) (by decide +kernel)
theorem tw_162 : (Cond.selects "ScanRows" ({ cls := "ScanRows", name := "shift", desc := "(I)I" } : Jvm.MethodName) ({ cls := "ScanRows", name := "shift", desc := "(I)I" } : Jvm.MethodName)) ∈ ALLG := al_t (i := 162) (by decide +kernel) (by decide +kernel)
theorem tw_163 : (Cond.code ({ cls := "ScanRows", name := "shift", desc := "(I)I" } : Jvm.MethodName) prog_1_method_12_code (2 : Nat) (Option.some FieldType.int)) ∈ ALLG := al_t (i := 163) (by decide +kernel) (by decide +kernel)
theorem tw_399 : (Cond.methodLink "ScanRowsLaw" (110 : Nat) ({ cls := "ScanRowsLaw", name := "set", desc := "(LScanRows;IZ[J)I" } : Jvm.MethodName)) ∈ ALLG := al_t (i := 399) (by decide +kernel) (by decide +kernel)
theorem tw_400 : (Cond.static ({ cls := "ScanRowsLaw", name := "set", desc := "(LScanRows;IZ[J)I" } : Jvm.MethodName)) ∈ ALLG := al_t (i := 400) (by decide +kernel) (by decide +kernel)
theorem tw_401 : (Cond.codeWith ({ cls := "ScanRowsLaw", name := "set", desc := "(LScanRows;IZ[J)I" } : Jvm.MethodName) method_9_code (5 : Nat) (Option.some FieldType.int) [((0 : Nat), (17 : Nat), (20 : Nat), (25 : Nat))]) ∈ ALLG := al_t (i := 401) (by decide +kernel) (by decide +kernel)
theorem tw_415 : (Cond.methodLink "ScanRowsLaw" (114 : Nat) ({ cls := "ScanRowsLaw", name := "load", desc := "(LScanRows;II)I" } : Jvm.MethodName)) ∈ ALLG := al_t (i := 415) (by decide +kernel) (by decide +kernel)
theorem tw_416 : (Cond.static ({ cls := "ScanRowsLaw", name := "load", desc := "(LScanRows;II)I" } : Jvm.MethodName)) ∈ ALLG := al_t (i := 416) (by decide +kernel) (by decide +kernel)
theorem tw_417 : (Cond.codeWith ({ cls := "ScanRowsLaw", name := "load", desc := "(LScanRows;II)I" } : Jvm.MethodName) method_10_code (4 : Nat) (Option.some FieldType.int) [((0 : Nat), (6 : Nat), (9 : Nat), (25 : Nat))]) ∈ ALLG := al_t (i := 417) (by decide +kernel) (by decide +kernel)
theorem tw_425 : (Cond.methodLink "ScanRowsLaw" (118 : Nat) ({ cls := "ScanRowsLaw", name := "value", desc := "(LScanRows;I[J)I" } : Jvm.MethodName)) ∈ ALLG := al_t (i := 425) (by decide +kernel) (by decide +kernel)
theorem tw_426 : (Cond.static ({ cls := "ScanRowsLaw", name := "value", desc := "(LScanRows;I[J)I" } : Jvm.MethodName)) ∈ ALLG := al_t (i := 426) (by decide +kernel) (by decide +kernel)
theorem tw_427 : (Cond.codeWith ({ cls := "ScanRowsLaw", name := "value", desc := "(LScanRows;I[J)I" } : Jvm.MethodName) method_11_code (4 : Nat) (Option.some FieldType.int) [((0 : Nat), (9 : Nat), (12 : Nat), (25 : Nat))]) ∈ ALLG := al_t (i := 427) (by decide +kernel) (by decide +kernel)
theorem tw_432 : (Cond.methodLink "ScanRowsLaw" (125 : Nat) ({ cls := "ScanRowsLaw", name := "port", desc := "(LScanRows;I[J)I" } : Jvm.MethodName)) ∈ ALLG := al_t (i := 432) (by decide +kernel) (by decide +kernel)
theorem tw_433 : (Cond.static ({ cls := "ScanRowsLaw", name := "port", desc := "(LScanRows;I[J)I" } : Jvm.MethodName)) ∈ ALLG := al_t (i := 433) (by decide +kernel) (by decide +kernel)
theorem tw_434 : (Cond.codeWith ({ cls := "ScanRowsLaw", name := "port", desc := "(LScanRows;I[J)I" } : Jvm.MethodName) method_12_code (4 : Nat) (Option.some FieldType.int) [((0 : Nat), (9 : Nat), (12 : Nat), (13 : Nat)), ((0 : Nat), (9 : Nat), (15 : Nat), (15 : Nat))]) ∈ ALLG := al_t (i := 434) (by decide +kernel) (by decide +kernel)
theorem tw_445 : (Cond.methodLink "ScanRowsLaw" (128 : Nat) ({ cls := "ScanRowsLaw", name := "pin", desc := "(LScanRows;II)I" } : Jvm.MethodName)) ∈ ALLG := al_t (i := 445) (by decide +kernel) (by decide +kernel)
theorem tw_446 : (Cond.static ({ cls := "ScanRowsLaw", name := "pin", desc := "(LScanRows;II)I" } : Jvm.MethodName)) ∈ ALLG := al_t (i := 446) (by decide +kernel) (by decide +kernel)
theorem tw_447 : (Cond.codeWith ({ cls := "ScanRowsLaw", name := "pin", desc := "(LScanRows;II)I" } : Jvm.MethodName) method_13_code (4 : Nat) (Option.some FieldType.int) [((0 : Nat), (6 : Nat), (9 : Nat), (25 : Nat))]) ∈ ALLG := al_t (i := 447) (by decide +kernel) (by decide +kernel)
theorem tw_703 : (Cond.methodLink "ScanRowsLaw" (113 : Nat) ({ cls := "ScanRowsModel", name := "set", desc := "(IZ)Z" } : Jvm.MethodName)) ∈ ALLG := al_t (i := 703) (by decide +kernel) (by decide +kernel)
theorem tw_704 : (Cond.instanceMethod ({ cls := "ScanRowsModel", name := "set", desc := "(IZ)Z" } : Jvm.MethodName)) ∈ ALLG := al_t (i := 704) (by decide +kernel) (by decide +kernel)
theorem tw_705 : (Cond.selects "ScanRowsModel" ({ cls := "ScanRowsModel", name := "set", desc := "(IZ)Z" } : Jvm.MethodName) ({ cls := "ScanRowsModel", name := "set", desc := "(IZ)Z" } : Jvm.MethodName)) ∈ ALLG := al_t (i := 705) (by decide +kernel) (by decide +kernel)
theorem tw_706 : (Cond.code ({ cls := "ScanRowsModel", name := "set", desc := "(IZ)Z" } : Jvm.MethodName) prog_6_method_19_code (4 : Nat) (Option.some FieldType.boolean)) ∈ ALLG := al_t (i := 706) (by decide +kernel) (by decide +kernel)
theorem tw_711 : (Cond.methodLink "ScanRowsLaw" (117 : Nat) ({ cls := "ScanRowsModel", name := "load", desc := "(II)V" } : Jvm.MethodName)) ∈ ALLG := al_t (i := 711) (by decide +kernel) (by decide +kernel)
theorem tw_712 : (Cond.instanceMethod ({ cls := "ScanRowsModel", name := "load", desc := "(II)V" } : Jvm.MethodName)) ∈ ALLG := al_t (i := 712) (by decide +kernel) (by decide +kernel)
theorem tw_713 : (Cond.selects "ScanRowsModel" ({ cls := "ScanRowsModel", name := "load", desc := "(II)V" } : Jvm.MethodName) ({ cls := "ScanRowsModel", name := "load", desc := "(II)V" } : Jvm.MethodName)) ∈ ALLG := al_t (i := 713) (by decide +kernel) (by decide +kernel)
theorem tw_714 : (Cond.code ({ cls := "ScanRowsModel", name := "load", desc := "(II)V" } : Jvm.MethodName) prog_6_method_20_code (3 : Nat) (Option.none : Option Jvm.ClassFile.FieldType)) ∈ ALLG := al_t (i := 714) (by decide +kernel) (by decide +kernel)
theorem tw_715 : (Cond.methodLink "ScanRowsLaw" (120 : Nat) ({ cls := "ScanRowsModel", name := "value", desc := "(I)I" } : Jvm.MethodName)) ∈ ALLG := al_t (i := 715) (by decide +kernel) (by decide +kernel)
theorem tw_716 : (Cond.instanceMethod ({ cls := "ScanRowsModel", name := "value", desc := "(I)I" } : Jvm.MethodName)) ∈ ALLG := al_t (i := 716) (by decide +kernel) (by decide +kernel)
theorem tw_717 : (Cond.selects "ScanRowsModel" ({ cls := "ScanRowsModel", name := "value", desc := "(I)I" } : Jvm.MethodName) ({ cls := "ScanRowsModel", name := "value", desc := "(I)I" } : Jvm.MethodName)) ∈ ALLG := al_t (i := 717) (by decide +kernel) (by decide +kernel)
theorem tw_718 : (Cond.code ({ cls := "ScanRowsModel", name := "value", desc := "(I)I" } : Jvm.MethodName) prog_6_method_21_code (2 : Nat) (Option.some FieldType.int)) ∈ ALLG := al_t (i := 718) (by decide +kernel) (by decide +kernel)
theorem tw_719 : (Cond.methodLink "ScanRowsLaw" (124 : Nat) ({ cls := "ScanRowsModel", name := "shift", desc := "(I)I" } : Jvm.MethodName)) ∈ ALLG := al_t (i := 719) (by decide +kernel) (by decide +kernel)
theorem tw_720 : (Cond.instanceMethod ({ cls := "ScanRowsModel", name := "shift", desc := "(I)I" } : Jvm.MethodName)) ∈ ALLG := al_t (i := 720) (by decide +kernel) (by decide +kernel)
theorem tw_721 : (Cond.selects "ScanRowsModel" ({ cls := "ScanRowsModel", name := "shift", desc := "(I)I" } : Jvm.MethodName) ({ cls := "ScanRowsModel", name := "shift", desc := "(I)I" } : Jvm.MethodName)) ∈ ALLG := al_t (i := 721) (by decide +kernel) (by decide +kernel)
theorem tw_722 : (Cond.code ({ cls := "ScanRowsModel", name := "shift", desc := "(I)I" } : Jvm.MethodName) prog_6_method_23_code (4 : Nat) (Option.some FieldType.int)) ∈ ALLG := al_t (i := 722) (by decide +kernel) (by decide +kernel)
theorem tw_727 : (Cond.methodLink "ScanRowsLaw" (127 : Nat) ({ cls := "ScanRowsModel", name := "port", desc := "(I)I" } : Jvm.MethodName)) ∈ ALLG := al_t (i := 727) (by decide +kernel) (by decide +kernel)
theorem tw_728 : (Cond.instanceMethod ({ cls := "ScanRowsModel", name := "port", desc := "(I)I" } : Jvm.MethodName)) ∈ ALLG := al_t (i := 728) (by decide +kernel) (by decide +kernel)
theorem tw_729 : (Cond.selects "ScanRowsModel" ({ cls := "ScanRowsModel", name := "port", desc := "(I)I" } : Jvm.MethodName) ({ cls := "ScanRowsModel", name := "port", desc := "(I)I" } : Jvm.MethodName)) ∈ ALLG := al_t (i := 729) (by decide +kernel) (by decide +kernel)
theorem tw_730 : (Cond.code ({ cls := "ScanRowsModel", name := "port", desc := "(I)I" } : Jvm.MethodName) prog_6_method_24_code (2 : Nat) (Option.some FieldType.int)) ∈ ALLG := al_t (i := 730) (by decide +kernel) (by decide +kernel)
theorem tw_731 : (Cond.methodLink "ScanRowsLaw" (130 : Nat) ({ cls := "ScanRowsModel", name := "pin", desc := "(II)V" } : Jvm.MethodName)) ∈ ALLG := al_t (i := 731) (by decide +kernel) (by decide +kernel)
theorem tw_732 : (Cond.instanceMethod ({ cls := "ScanRowsModel", name := "pin", desc := "(II)V" } : Jvm.MethodName)) ∈ ALLG := al_t (i := 732) (by decide +kernel) (by decide +kernel)
theorem tw_733 : (Cond.selects "ScanRowsModel" ({ cls := "ScanRowsModel", name := "pin", desc := "(II)V" } : Jvm.MethodName) ({ cls := "ScanRowsModel", name := "pin", desc := "(II)V" } : Jvm.MethodName)) ∈ ALLG := al_t (i := 733) (by decide +kernel) (by decide +kernel)
theorem tw_734 : (Cond.code ({ cls := "ScanRowsModel", name := "pin", desc := "(II)V" } : Jvm.MethodName) prog_6_method_25_code (3 : Nat) (Option.none : Option Jvm.ClassFile.FieldType)) ∈ ALLG := al_t (i := 734) (by decide +kernel) (by decide +kernel)
set_option maxHeartbeats 4000000 in
set_option maxRecDepth 100000 in
theorem op_set {p : Program} {e : Env} {s : State} {m : MethodId} {below : List Frame} {meth : Method} {c : Code} (l : Launch) (hl0 : l.stackTraces = false) {b L : Nat} {xs : Nat → Int32} (hL : L ≤ 3073) (C0 : lw_At p s m meth c b L xs) (A : Nat → Prop) (hA : ∀ q : Nat, s.heap.size ≤ q → A q) (hbA : ¬ A b) (dC : Nat → ClassId) (dI : Nat → Nat → Nat) (qx qm : Nat → Nat) (cI cZ cJ : ClassId) (ao tN : Nat) (hK : va_K (dC, dI) vwCl [(cI, .int), (cZ, .boolean), (cJ, .long)] s) (hE : eX tN A s s.heap) (i : Nat) (hi : i + 5 < L) (ce sl : Nat) (hce : ce + 1 ≤ 1072) (hsl : sl + 6 ≤ 9025) (r : RS) (k : CS) (a : AS) (y : MS) (o : OS) (hR : Rel r k a y) (H : Heap) (locs : List Loc) (hP : va_P (dC, dI) vwCl (wZ qx qm cI cZ cJ ao r k a y o) H) (hD : va_D A (wZ qx qm cI cZ cJ ao r k a y o)) (hS : va_S A s.heap H locs) (ls : Array Slot) (hl : lv_has ls 7 [(4, .int (nI i)), (3, .ref ao), (2, .ref (qm 0)), (1, .ref (qx 17)), (0, .ref b)]) (hend : ∀ (r : RS) (k : CS) (a : AS) (y : MS) (o : OS), Rel r k a y → ∀ (H : Heap) (locs : List Loc), va_P (dC, dI) vwCl (wZ qx qm cI cZ cJ ao r k a y o) H → va_D A (wZ qx qm cI cZ cJ ao r k a y o) → va_S A s.heap H locs → ∀ ls : Array Slot, lv_has ls 7 [(4, .int (nI i)), (3, .ref ao), (2, .ref (qm 0)), (1, .ref (qx 17)), (0, .ref b)] → W p l e room_1 s m #[Value.ref b] below meth c H locs (ce + 1) (sl + 6) (lw_Z below #[Value.ref b] s) (F0 m 1190 ls [])) : W p l e room_1 s m #[Value.ref b] below meth c H locs (ce) (sl) (lw_Z below #[Value.ref b] s) (F0 m 617 ls []) := by
  obtain ⟨hx, hb, hr, hml, hown, hts0, hX, hbl, hlocks, hgv⟩ := id C0
  have hown : s.vm.findClass "ScanRowsLaw" = some m.cls := hown
  have hts : ∀ w ∈ ALLG, w.before #[Value.ref b] s = true := fun w h => hts0 w (List.mem_filter.mp h).1
  have b_n : r.n ≤ 32 := hR.1.1.1
  have b_c : r.c ≤ 8 := hR.1.1.2.1
  have b_p : r.p ≤ r.n := hR.1.1.2.2.1
  have k_n : k.n ≤ 20 := hR.1.2.1.1
  have hB : RB r := hR.1.1
  have hM : MB y := hR.2.1
  have hmo : mono y := Rel_mono hR
  have hC : RC r := PI_RC hR.2.2.1
  have e_n : y.n = r.n := hR.2.2.2.2.1.1
  have e_c : y.c = r.c := hR.2.2.2.2.1.2.1
  have e_p : y.p = r.p := hR.2.2.2.2.1.2.2.1
  have e_vb : y.vb = r.vb := hR.2.2.2.2.1.2.2.2.1
  have e_fl : y.fl = r.fl := hR.2.2.2.2.1.2.2.2.2.2.2.2.1
  have e_st : y.st = r.st := hR.2.2.2.2.1.2.2.2.2.2.2.2.2.2
  have e_k : toK y = k := hR.2.2.2.2.2.1
  have e_cn : y.cn = k.n := congrArg CS.n e_k
  have e_co : y.co = a.co := hR.2.2.2.2.2.2.2.1
  have a_co : a.co < 16 := hR.1.2.2.2.1
  have e_sa : y.sa = a.st := hR.2.2.2.2.2.2.1
  rcases hc_cs (xs (i + 1)) b_n with h1 | ⟨ix, h1, e1⟩
  · refine lv_aload_n hx hb dL_law_617 rfl (lv_at hl 3 rfl) ?_
    refine lv_aload_n hx hb dL_law_618 rfl (lv_at hl 4 rfl) ?_
    refine lv_iload hx hb dL_law_619 (lv_at hl 0 rfl) ?_
    refine lv_iconst (v := nI 1) hx hb dL_law_621 (by decide) ?_
    refine xn_add hx hb dL_law_622 ?_
    refine va_sld hx hb hX hbl hbA hS (vp_in_nI (show i + 1 < L by omega) (by omega)) dL_law_623 ?_
    refine xt_i (show xs (nI (i + 1)).toNatClampNeg = (xs (i + 1)) from (congrArg xs (nI_clamp (by omega))).trans (rfl)) ?_
    refine lv_aload_n hx hb dL_law_624 rfl (lv_at hl 4 rfl) ?_
    refine lv_iload hx hb dL_law_625 (lv_at hl 0 rfl) ?_
    refine lv_iconst (v := nI 2) hx hb dL_law_627 (by decide) ?_
    refine xn_add hx hb dL_law_628 ?_
    refine va_sld hx hb hX hbl hbA hS (vp_in_nI (show i + 2 < L by omega) (by omega)) dL_law_629 ?_
    refine xt_i (show xs (nI (i + 2)).toNatClampNeg = (xs (i + 2)) from (congrArg xs (nI_clamp (by omega))).trans (rfl)) ?_
    refine lv_if_eq (tgt := 637) hx hb dL_law_630 (by decide) (fun c_1 => ?_) (fun c_1 => ?_)
    · refine lv_iconst (v := nI 0) hx hb dL_law_637 (by decide) ?_
      refine lv_aload_n hx hb dL_law_638 rfl (lv_at hl 1 rfl) ?_
      refine xw_Si (As := [.ref (qx 17), .int (xs (i + 1)), .int (nI 0), .ref ao]) (wr := wM qm cI cZ y) ⟨hx, hb, hml, hown, hts⟩ (hx_set l hl0 dC dI qx cI cZ cJ ao H.size r k a o tN _ 0 h1) (vx_cwSW 4 hts (gSW tw_399 tw_400 tw_0 tw_401) rfl rfl rfl (by decide +kernel) ⟨Nat.le_of_ble_eq_true rfl, Nat.le_of_ble_eq_true rfl⟩) rfl hl.1 rfl (Nat.le_of_ble_eq_true rfl) dL_law_639 ⟨by show ce + 1 ≤ 1072; omega, by show sl + 6 ≤ 9025; omega⟩ hP hD hK hS hA [0, 1, 2, 3, 4, 5, 6, 7, 8, 9, 10, 11, 12, 13, 14, 15, 16, 17, 32] [18, 19, 20, 21, 22, 23, 24, 25, 26, 27, 28, 29, 30, 31] rfl rfl (by decide) (by decide) (by decide) [0, 1, 2] rfl (eX_W _ _) (eX_kn hE hS (va_free (wc := wH qx cI cZ cJ ao r k a o) hD hS hA [0, 1, 2, 3, 4, 5, 6, 7, 8, 9, 10, 11, 12, 13, 14, 15, 16, 17, 32] rfl)) (fun r_2 u_3 H locs w_4 hP hD hS => ?_)
      obtain ⟨rfl, rfl⟩ := w_4
      have hP : va_P (dC, dI) vwCl (wZ qx qm cI cZ cJ ao r k a y o) H := hP.sub [14, 15, 16, 17, 18, 19, 20, 21, 22, 23, 24, 25, 26, 27, 28, 29, 30, 31, 0, 1, 2, 3, 4, 5, 6, 7, 8, 9, 10, 11, 12, 13, 32] rfl
      have hD : va_D A (wZ qx qm cI cZ cJ ao r k a y o) := hD.sub [14, 15, 16, 17, 18, 19, 20, 21, 22, 23, 24, 25, 26, 27, 28, 29, 30, 31, 0, 1, 2, 3, 4, 5, 6, 7, 8, 9, 10, 11, 12, 13, 32] (by decide) rfl
      refine lv_istore (lv' := [(5, .int (nI 1)), (4, .int (nI i)), (3, .ref ao), (2, .ref (qm 0)), (1, .ref (qx 17)), (0, .ref b)]) hx hb dL_law_642 hl (by decide) rfl (fun ls hl => ?_)
      refine lv_aload_n hx hb dL_law_644 rfl (lv_at hl 3 rfl) ?_
      refine lv_aload_n hx hb dL_law_645 rfl (lv_at hl 5 rfl) ?_
      refine lv_iload hx hb dL_law_646 (lv_at hl 1 rfl) ?_
      refine lv_iconst (v := nI 1) hx hb dL_law_648 (by decide) ?_
      refine xn_add hx hb dL_law_649 ?_
      refine va_sld hx hb hX hbl hbA hS (vp_in_nI (show i + 1 < L by omega) (by omega)) dL_law_650 ?_
      refine xt_i (show xs (nI (i + 1)).toNatClampNeg = (xs (i + 1)) from (congrArg xs (nI_clamp (by omega))).trans (rfl)) ?_
      refine lv_aload_n hx hb dL_law_651 rfl (lv_at hl 5 rfl) ?_
      refine lv_iload hx hb dL_law_652 (lv_at hl 1 rfl) ?_
      refine lv_iconst (v := nI 2) hx hb dL_law_654 (by decide) ?_
      refine xn_add hx hb dL_law_655 ?_
      refine va_sld hx hb hX hbl hbA hS (vp_in_nI (show i + 2 < L by omega) (by omega)) dL_law_656 ?_
      refine xt_i (show xs (nI (i + 2)).toNatClampNeg = (xs (i + 2)) from (congrArg xs (nI_clamp (by omega))).trans (rfl)) ?_
      refine lv_if_eq (tgt := 664) hx hb dL_law_657 (by decide) (fun c_5 => ?_) (fun c_5 => ?_)
      · refine lv_iconst (v := nI 0) hx hb dL_law_664 (by decide) ?_
        refine xc_Vi (As := [.int (xs (i + 1)), .int (nI 0)]) (wr := wX qx cI cZ r k a ++ wO cJ ao o) ⟨hx, hb, hml, hown, hts⟩ (c_M_set1 l dC dI qm cI cZ H.size y _ 0 (by rw [e_n]; exact h1)) (cwV 2 hts (gV tw_703 tw_704 tw_705 tw_5 tw_706) rfl rfl rfl (by decide +kernel) ⟨Nat.le_of_ble_eq_true rfl, Nat.le_of_ble_eq_true rfl⟩) rfl hl.1 rfl (Nat.le_of_ble_eq_true rfl) dL_law_665 ⟨by show _ ≤ 1072; omega, by show _ ≤ 9025; omega⟩ hP hD hK hS hA [18, 19, 20, 21, 22, 23, 24, 25, 26, 27, 28, 29, 30, 31] [0, 1, 2, 3, 4, 5, 6, 7, 8, 9, 10, 11, 12, 13, 14, 15, 16, 17, 32] rfl rfl (by decide) (by decide) (by decide) [0, 1] rfl (q0 := 0) rfl rfl rfl eT_M (trivial) (fun r_6 u_7 H locs w_8 hP hD hS => ?_)
        obtain ⟨rfl, rfl⟩ := w_8
        have hP : va_P (dC, dI) vwCl (wZ qx qm cI cZ cJ ao r k a (MS.s_th y 1) o) H := hP.sub [0, 1, 2, 3, 4, 5, 6, 7, 8, 9, 10, 11, 12, 13, 14, 15, 16, 17, 19, 20, 21, 22, 23, 24, 25, 26, 27, 28, 29, 30, 31, 32, 18] rfl
        have hD : va_D A (wZ qx qm cI cZ cJ ao r k a (MS.s_th y 1) o) := hD.sub [0, 1, 2, 3, 4, 5, 6, 7, 8, 9, 10, 11, 12, 13, 14, 15, 16, 17, 19, 20, 21, 22, 23, 24, 25, 26, 27, 28, 29, 30, 31, 32, 18] (by decide) rfl
        refine lv_istore (lv' := [(6, .int (nI 0)), (5, .int (nI 1)), (4, .int (nI i)), (3, .ref ao), (2, .ref (qm 0)), (1, .ref (qx 17)), (0, .ref b)]) hx hb dL_law_668 hl (by decide) rfl (fun ls hl => ?_)
        refine lv_aload_n hx hb dL_law_670 rfl (lv_at hl 4 rfl) ?_
        refine xc_Vi (As := []) (wr := wX qx cI cZ r k a ++ wO cJ ao o) ⟨hx, hb, hml, hown, hts⟩ (c_ScanRowsModel_thrown l dC dI qm cI cZ H.size (MS.s_th y 1)) (cwV 0 hts (gV tw_642 tw_643 tw_644 tw_5 tw_645) rfl rfl rfl (by decide +kernel) ⟨Nat.le_of_ble_eq_true rfl, Nat.le_of_ble_eq_true rfl⟩) rfl hl.1 rfl (Nat.le_of_ble_eq_true rfl) dL_law_671 ⟨by show _ ≤ 1072; omega, by show _ ≤ 9025; omega⟩ hP hD hK hS hA [18, 19, 20, 21, 22, 23, 24, 25, 26, 27, 28, 29, 30, 31] [0, 1, 2, 3, 4, 5, 6, 7, 8, 9, 10, 11, 12, 13, 14, 15, 16, 17, 32] rfl rfl (by decide) (by decide) (by decide) [0, 1] rfl (q0 := 0) rfl rfl rfl eT_M (trivial) (fun r_9 u_10 H locs w_11 hP hD hS => ?_)
        obtain rfl := w_11
        have hP : va_P (dC, dI) vwCl (wZ qx qm cI cZ cJ ao r k a (MS.s_th y 1) o) H := hP.sub [0, 1, 2, 3, 4, 5, 6, 7, 8, 9, 10, 11, 12, 13, 14, 15, 16, 17, 19, 20, 21, 22, 23, 24, 25, 26, 27, 28, 29, 30, 31, 32, 18] rfl
        have hD : va_D A (wZ qx qm cI cZ cJ ao r k a (MS.s_th y 1) o) := hD.sub [0, 1, 2, 3, 4, 5, 6, 7, 8, 9, 10, 11, 12, 13, 14, 15, 16, 17, 19, 20, 21, 22, 23, 24, 25, 26, 27, 28, 29, 30, 31, 32, 18] (by decide) rfl
        refine xt_i (show nI (MS.th (MS.s_th y 1)) = nI 1 from congrArg nI (rfl)) ?_
        refine lv_iload hx hb dL_law_674 (lv_at hl 1 rfl) ?_
        refine xn_ceq (tgt := 681) hx hb (by omega) (by omega) dL_law_676 (by decide) (fun c_12 => ?_) (fun c_12 => ?_)
        · refine lv_iload hx hb dL_law_681 (lv_at hl 1 rfl) ?_
          refine xn_zne (tgt := 705) hx hb (by omega) dL_law_683 (by decide) (fun c_13 => ?_) (fun c_13 => ?_)
          · refine lv_goto (tgt := 1190) hx hb dL_law_705 (by decide) ?_
            refine W.widen (k := ce + 1) (n := sl + 6) (by omega) (by omega) ?_
            exact hend r k a (MS.s_th y 1) o (Rel_th hR 1) H locs hP hD hS ls (lv_sub hl [2, 3, 4, 5, 6] rfl)
            
          · exact absurd (show False by omega) id
        · exact absurd (show False by omega) id
      · exact absurd c_1 c_5
    · refine lv_iconst (v := nI 1) hx hb dL_law_633 (by decide) ?_
      refine lv_goto (tgt := 638) hx hb dL_law_634 (by decide) ?_
      refine lv_aload_n hx hb dL_law_638 rfl (lv_at hl 1 rfl) ?_
      refine xw_Si (As := [.ref (qx 17), .int (xs (i + 1)), .int (nI 1), .ref ao]) (wr := wM qm cI cZ y) ⟨hx, hb, hml, hown, hts⟩ (hx_set l hl0 dC dI qx cI cZ cJ ao H.size r k a o tN _ 1 h1) (vx_cwSW 4 hts (gSW tw_399 tw_400 tw_0 tw_401) rfl rfl rfl (by decide +kernel) ⟨Nat.le_of_ble_eq_true rfl, Nat.le_of_ble_eq_true rfl⟩) rfl hl.1 rfl (Nat.le_of_ble_eq_true rfl) dL_law_639 ⟨by show ce + 1 ≤ 1072; omega, by show sl + 6 ≤ 9025; omega⟩ hP hD hK hS hA [0, 1, 2, 3, 4, 5, 6, 7, 8, 9, 10, 11, 12, 13, 14, 15, 16, 17, 32] [18, 19, 20, 21, 22, 23, 24, 25, 26, 27, 28, 29, 30, 31] rfl rfl (by decide) (by decide) (by decide) [0, 1, 2] rfl (eX_W _ _) (eX_kn hE hS (va_free (wc := wH qx cI cZ cJ ao r k a o) hD hS hA [0, 1, 2, 3, 4, 5, 6, 7, 8, 9, 10, 11, 12, 13, 14, 15, 16, 17, 32] rfl)) (fun r_14 u_15 H locs w_16 hP hD hS => ?_)
      obtain ⟨rfl, rfl⟩ := w_16
      have hP : va_P (dC, dI) vwCl (wZ qx qm cI cZ cJ ao r k a y o) H := hP.sub [14, 15, 16, 17, 18, 19, 20, 21, 22, 23, 24, 25, 26, 27, 28, 29, 30, 31, 0, 1, 2, 3, 4, 5, 6, 7, 8, 9, 10, 11, 12, 13, 32] rfl
      have hD : va_D A (wZ qx qm cI cZ cJ ao r k a y o) := hD.sub [14, 15, 16, 17, 18, 19, 20, 21, 22, 23, 24, 25, 26, 27, 28, 29, 30, 31, 0, 1, 2, 3, 4, 5, 6, 7, 8, 9, 10, 11, 12, 13, 32] (by decide) rfl
      refine lv_istore (lv' := [(5, .int (nI 1)), (4, .int (nI i)), (3, .ref ao), (2, .ref (qm 0)), (1, .ref (qx 17)), (0, .ref b)]) hx hb dL_law_642 hl (by decide) rfl (fun ls hl => ?_)
      refine lv_aload_n hx hb dL_law_644 rfl (lv_at hl 3 rfl) ?_
      refine lv_aload_n hx hb dL_law_645 rfl (lv_at hl 5 rfl) ?_
      refine lv_iload hx hb dL_law_646 (lv_at hl 1 rfl) ?_
      refine lv_iconst (v := nI 1) hx hb dL_law_648 (by decide) ?_
      refine xn_add hx hb dL_law_649 ?_
      refine va_sld hx hb hX hbl hbA hS (vp_in_nI (show i + 1 < L by omega) (by omega)) dL_law_650 ?_
      refine xt_i (show xs (nI (i + 1)).toNatClampNeg = (xs (i + 1)) from (congrArg xs (nI_clamp (by omega))).trans (rfl)) ?_
      refine lv_aload_n hx hb dL_law_651 rfl (lv_at hl 5 rfl) ?_
      refine lv_iload hx hb dL_law_652 (lv_at hl 1 rfl) ?_
      refine lv_iconst (v := nI 2) hx hb dL_law_654 (by decide) ?_
      refine xn_add hx hb dL_law_655 ?_
      refine va_sld hx hb hX hbl hbA hS (vp_in_nI (show i + 2 < L by omega) (by omega)) dL_law_656 ?_
      refine xt_i (show xs (nI (i + 2)).toNatClampNeg = (xs (i + 2)) from (congrArg xs (nI_clamp (by omega))).trans (rfl)) ?_
      refine lv_if_eq (tgt := 664) hx hb dL_law_657 (by decide) (fun c_17 => ?_) (fun c_17 => ?_)
      · exact absurd c_17 c_1
      · refine lv_iconst (v := nI 1) hx hb dL_law_660 (by decide) ?_
        refine lv_goto (tgt := 665) hx hb dL_law_661 (by decide) ?_
        refine xc_Vi (As := [.int (xs (i + 1)), .int (nI 1)]) (wr := wX qx cI cZ r k a ++ wO cJ ao o) ⟨hx, hb, hml, hown, hts⟩ (c_M_set1 l dC dI qm cI cZ H.size y _ 1 (by rw [e_n]; exact h1)) (cwV 2 hts (gV tw_703 tw_704 tw_705 tw_5 tw_706) rfl rfl rfl (by decide +kernel) ⟨Nat.le_of_ble_eq_true rfl, Nat.le_of_ble_eq_true rfl⟩) rfl hl.1 rfl (Nat.le_of_ble_eq_true rfl) dL_law_665 ⟨by show _ ≤ 1072; omega, by show _ ≤ 9025; omega⟩ hP hD hK hS hA [18, 19, 20, 21, 22, 23, 24, 25, 26, 27, 28, 29, 30, 31] [0, 1, 2, 3, 4, 5, 6, 7, 8, 9, 10, 11, 12, 13, 14, 15, 16, 17, 32] rfl rfl (by decide) (by decide) (by decide) [0, 1] rfl (q0 := 0) rfl rfl rfl eT_M (trivial) (fun r_18 u_19 H locs w_20 hP hD hS => ?_)
        obtain ⟨rfl, rfl⟩ := w_20
        have hP : va_P (dC, dI) vwCl (wZ qx qm cI cZ cJ ao r k a (MS.s_th y 1) o) H := hP.sub [0, 1, 2, 3, 4, 5, 6, 7, 8, 9, 10, 11, 12, 13, 14, 15, 16, 17, 19, 20, 21, 22, 23, 24, 25, 26, 27, 28, 29, 30, 31, 32, 18] rfl
        have hD : va_D A (wZ qx qm cI cZ cJ ao r k a (MS.s_th y 1) o) := hD.sub [0, 1, 2, 3, 4, 5, 6, 7, 8, 9, 10, 11, 12, 13, 14, 15, 16, 17, 19, 20, 21, 22, 23, 24, 25, 26, 27, 28, 29, 30, 31, 32, 18] (by decide) rfl
        refine lv_istore (lv' := [(6, .int (nI 0)), (5, .int (nI 1)), (4, .int (nI i)), (3, .ref ao), (2, .ref (qm 0)), (1, .ref (qx 17)), (0, .ref b)]) hx hb dL_law_668 hl (by decide) rfl (fun ls hl => ?_)
        refine lv_aload_n hx hb dL_law_670 rfl (lv_at hl 4 rfl) ?_
        refine xc_Vi (As := []) (wr := wX qx cI cZ r k a ++ wO cJ ao o) ⟨hx, hb, hml, hown, hts⟩ (c_ScanRowsModel_thrown l dC dI qm cI cZ H.size (MS.s_th y 1)) (cwV 0 hts (gV tw_642 tw_643 tw_644 tw_5 tw_645) rfl rfl rfl (by decide +kernel) ⟨Nat.le_of_ble_eq_true rfl, Nat.le_of_ble_eq_true rfl⟩) rfl hl.1 rfl (Nat.le_of_ble_eq_true rfl) dL_law_671 ⟨by show _ ≤ 1072; omega, by show _ ≤ 9025; omega⟩ hP hD hK hS hA [18, 19, 20, 21, 22, 23, 24, 25, 26, 27, 28, 29, 30, 31] [0, 1, 2, 3, 4, 5, 6, 7, 8, 9, 10, 11, 12, 13, 14, 15, 16, 17, 32] rfl rfl (by decide) (by decide) (by decide) [0, 1] rfl (q0 := 0) rfl rfl rfl eT_M (trivial) (fun r_21 u_22 H locs w_23 hP hD hS => ?_)
        obtain rfl := w_23
        have hP : va_P (dC, dI) vwCl (wZ qx qm cI cZ cJ ao r k a (MS.s_th y 1) o) H := hP.sub [0, 1, 2, 3, 4, 5, 6, 7, 8, 9, 10, 11, 12, 13, 14, 15, 16, 17, 19, 20, 21, 22, 23, 24, 25, 26, 27, 28, 29, 30, 31, 32, 18] rfl
        have hD : va_D A (wZ qx qm cI cZ cJ ao r k a (MS.s_th y 1) o) := hD.sub [0, 1, 2, 3, 4, 5, 6, 7, 8, 9, 10, 11, 12, 13, 14, 15, 16, 17, 19, 20, 21, 22, 23, 24, 25, 26, 27, 28, 29, 30, 31, 32, 18] (by decide) rfl
        refine xt_i (show nI (MS.th (MS.s_th y 1)) = nI 1 from congrArg nI (rfl)) ?_
        refine lv_iload hx hb dL_law_674 (lv_at hl 1 rfl) ?_
        refine xn_ceq (tgt := 681) hx hb (by omega) (by omega) dL_law_676 (by decide) (fun c_24 => ?_) (fun c_24 => ?_)
        · refine lv_iload hx hb dL_law_681 (lv_at hl 1 rfl) ?_
          refine xn_zne (tgt := 705) hx hb (by omega) dL_law_683 (by decide) (fun c_25 => ?_) (fun c_25 => ?_)
          · refine lv_goto (tgt := 1190) hx hb dL_law_705 (by decide) ?_
            refine W.widen (k := ce + 1) (n := sl + 6) (by omega) (by omega) ?_
            exact hend r k a (MS.s_th y 1) o (Rel_th hR 1) H locs hP hD hS ls (lv_sub hl [2, 3, 4, 5, 6] rfl)
            
          · exact absurd (show False by omega) id
        · exact absurd (show False by omega) id
  · refine lv_aload_n hx hb dL_law_617 rfl (lv_at hl 3 rfl) ?_
    refine lv_aload_n hx hb dL_law_618 rfl (lv_at hl 4 rfl) ?_
    refine lv_iload hx hb dL_law_619 (lv_at hl 0 rfl) ?_
    refine lv_iconst (v := nI 1) hx hb dL_law_621 (by decide) ?_
    refine xn_add hx hb dL_law_622 ?_
    refine va_sld hx hb hX hbl hbA hS (vp_in_nI (show i + 1 < L by omega) (by omega)) dL_law_623 ?_
    refine xt_i (show xs (nI (i + 1)).toNatClampNeg = nI ix from (congrArg xs (nI_clamp (by omega))).trans (e1)) ?_
    refine lv_aload_n hx hb dL_law_624 rfl (lv_at hl 4 rfl) ?_
    refine lv_iload hx hb dL_law_625 (lv_at hl 0 rfl) ?_
    refine lv_iconst (v := nI 2) hx hb dL_law_627 (by decide) ?_
    refine xn_add hx hb dL_law_628 ?_
    refine va_sld hx hb hX hbl hbA hS (vp_in_nI (show i + 2 < L by omega) (by omega)) dL_law_629 ?_
    refine xt_i (show xs (nI (i + 2)).toNatClampNeg = (xs (i + 2)) from (congrArg xs (nI_clamp (by omega))).trans (rfl)) ?_
    refine lv_if_eq (tgt := 637) hx hb dL_law_630 (by decide) (fun c_1 => ?_) (fun c_1 => ?_)
    · refine lv_iconst (v := nI 0) hx hb dL_law_637 (by decide) ?_
      refine lv_aload_n hx hb dL_law_638 rfl (lv_at hl 1 rfl) ?_
      refine xw_Si (As := [.ref (qx 17), .int (nI ix), .int (nI 0), .ref ao]) (wr := wM qm cI cZ y) ⟨hx, hb, hml, hown, hts⟩ (h_set l dC dI qx cI cZ cJ ao H.size r k a o ix 0 hB h1 (by decide)) (vx_cwSW 4 hts (gSW tw_399 tw_400 tw_0 tw_401) rfl rfl rfl (by decide +kernel) ⟨Nat.le_of_ble_eq_true rfl, Nat.le_of_ble_eq_true rfl⟩) rfl hl.1 rfl (Nat.le_of_ble_eq_true rfl) dL_law_639 ⟨by show ce + 0 ≤ 1072; omega, by show sl + 0 ≤ 9025; omega⟩ hP hD hK hS hA [0, 1, 2, 3, 4, 5, 6, 7, 8, 9, 10, 11, 12, 13, 14, 15, 16, 17, 32] [18, 19, 20, 21, 22, 23, 24, 25, 26, 27, 28, 29, 30, 31] rfl rfl (by decide) (by decide) (by decide) [0, 1, 2] rfl (eW_of eT_M) trivial (fun r_2 u_3 H locs w_4 hP hD hS => ?_)
      obtain ⟨rfl, hu1, hu2⟩ := w_4
      have hP : va_P (dC, dI) vwCl (wZ qx qm cI cZ cJ ao u_3.1.1 u_3.1.2.1 u_3.1.2.2 y u_3.2) H := hP.sub [14, 15, 16, 17, 18, 19, 20, 21, 22, 23, 24, 25, 26, 27, 28, 29, 30, 31, 0, 1, 2, 3, 4, 5, 6, 7, 8, 9, 10, 11, 12, 13, 32] rfl
      have hD : va_D A (wZ qx qm cI cZ cJ ao u_3.1.1 u_3.1.2.1 u_3.1.2.2 y u_3.2) := hD.sub [14, 15, 16, 17, 18, 19, 20, 21, 22, 23, 24, 25, 26, 27, 28, 29, 30, 31, 0, 1, 2, 3, 4, 5, 6, 7, 8, 9, 10, 11, 12, 13, 32] (by decide) rfl
      refine lv_istore (lv' := [(5, .int (nI 0)), (4, .int (nI i)), (3, .ref ao), (2, .ref (qm 0)), (1, .ref (qx 17)), (0, .ref b)]) hx hb dL_law_642 hl (by decide) rfl (fun ls hl => ?_)
      refine lv_aload_n hx hb dL_law_644 rfl (lv_at hl 3 rfl) ?_
      refine lv_aload_n hx hb dL_law_645 rfl (lv_at hl 5 rfl) ?_
      refine lv_iload hx hb dL_law_646 (lv_at hl 1 rfl) ?_
      refine lv_iconst (v := nI 1) hx hb dL_law_648 (by decide) ?_
      refine xn_add hx hb dL_law_649 ?_
      refine va_sld hx hb hX hbl hbA hS (vp_in_nI (show i + 1 < L by omega) (by omega)) dL_law_650 ?_
      refine xt_i (show xs (nI (i + 1)).toNatClampNeg = nI ix from (congrArg xs (nI_clamp (by omega))).trans (e1)) ?_
      refine lv_aload_n hx hb dL_law_651 rfl (lv_at hl 5 rfl) ?_
      refine lv_iload hx hb dL_law_652 (lv_at hl 1 rfl) ?_
      refine lv_iconst (v := nI 2) hx hb dL_law_654 (by decide) ?_
      refine xn_add hx hb dL_law_655 ?_
      refine va_sld hx hb hX hbl hbA hS (vp_in_nI (show i + 2 < L by omega) (by omega)) dL_law_656 ?_
      refine xt_i (show xs (nI (i + 2)).toNatClampNeg = (xs (i + 2)) from (congrArg xs (nI_clamp (by omega))).trans (rfl)) ?_
      refine lv_if_eq (tgt := 664) hx hb dL_law_657 (by decide) (fun c_5 => ?_) (fun c_5 => ?_)
      · refine lv_iconst (v := nI 0) hx hb dL_law_664 (by decide) ?_
        refine xc_Vi (As := [.int (nI ix), .int (nI 0)]) (wr := wX qx cI cZ u_3.1.1 u_3.1.2.1 u_3.1.2.2 ++ wO cJ ao u_3.2) ⟨hx, hb, hml, hown, hts⟩ (c_ScanRowsModel_set l dC dI qm cI cZ H.size y ix 0 hM (by omega) (by decide)) (cwV 2 hts (gV tw_703 tw_704 tw_705 tw_5 tw_706) rfl rfl rfl (by decide +kernel) ⟨Nat.le_of_ble_eq_true rfl, Nat.le_of_ble_eq_true rfl⟩) rfl hl.1 rfl (Nat.le_of_ble_eq_true rfl) dL_law_665 ⟨by show _ ≤ 1072; omega, by show _ ≤ 9025; omega⟩ hP hD hK hS hA [18, 19, 20, 21, 22, 23, 24, 25, 26, 27, 28, 29, 30, 31] [0, 1, 2, 3, 4, 5, 6, 7, 8, 9, 10, 11, 12, 13, 14, 15, 16, 17, 32] rfl rfl (by decide) (by decide) (by decide) [0, 1] rfl (q0 := 0) rfl rfl rfl eT_M (trivial) (fun r_6 u_7 H locs w_8 hP hD hS => ?_)
        obtain ⟨rfl, rfl⟩ := w_8
        have hP : va_P (dC, dI) vwCl (wZ qx qm cI cZ cJ ao u_3.1.1 u_3.1.2.1 u_3.1.2.2 (MS.s_fl (MS.s_th y 0) (va_up y.fl ix 0)) u_3.2) H := hP.sub [0, 1, 2, 3, 4, 5, 6, 7, 8, 9, 10, 11, 12, 13, 14, 15, 16, 17, 19, 20, 21, 22, 23, 24, 25, 26, 27, 28, 29, 30, 31, 32, 18] rfl
        have hD : va_D A (wZ qx qm cI cZ cJ ao u_3.1.1 u_3.1.2.1 u_3.1.2.2 (MS.s_fl (MS.s_th y 0) (va_up y.fl ix 0)) u_3.2) := hD.sub [0, 1, 2, 3, 4, 5, 6, 7, 8, 9, 10, 11, 12, 13, 14, 15, 16, 17, 19, 20, 21, 22, 23, 24, 25, 26, 27, 28, 29, 30, 31, 32, 18] (by decide) rfl
        refine lv_istore (lv' := [(6, .int (nI (if y.fl ix = 0 then 0 else 1))), (5, .int (nI 0)), (4, .int (nI i)), (3, .ref ao), (2, .ref (qm 0)), (1, .ref (qx 17)), (0, .ref b)]) hx hb dL_law_668 hl (by decide) rfl (fun ls hl => ?_)
        refine lv_aload_n hx hb dL_law_670 rfl (lv_at hl 4 rfl) ?_
        refine xc_Vi (As := []) (wr := wX qx cI cZ u_3.1.1 u_3.1.2.1 u_3.1.2.2 ++ wO cJ ao u_3.2) ⟨hx, hb, hml, hown, hts⟩ (c_ScanRowsModel_thrown l dC dI qm cI cZ H.size (MS.s_fl (MS.s_th y 0) (va_up y.fl ix 0))) (cwV 0 hts (gV tw_642 tw_643 tw_644 tw_5 tw_645) rfl rfl rfl (by decide +kernel) ⟨Nat.le_of_ble_eq_true rfl, Nat.le_of_ble_eq_true rfl⟩) rfl hl.1 rfl (Nat.le_of_ble_eq_true rfl) dL_law_671 ⟨by show _ ≤ 1072; omega, by show _ ≤ 9025; omega⟩ hP hD hK hS hA [18, 19, 20, 21, 22, 23, 24, 25, 26, 27, 28, 29, 30, 31] [0, 1, 2, 3, 4, 5, 6, 7, 8, 9, 10, 11, 12, 13, 14, 15, 16, 17, 32] rfl rfl (by decide) (by decide) (by decide) [0, 1] rfl (q0 := 0) rfl rfl rfl eT_M (trivial) (fun r_9 u_10 H locs w_11 hP hD hS => ?_)
        obtain rfl := w_11
        have hP : va_P (dC, dI) vwCl (wZ qx qm cI cZ cJ ao u_3.1.1 u_3.1.2.1 u_3.1.2.2 (MS.s_fl (MS.s_th y 0) (va_up y.fl ix 0)) u_3.2) H := hP.sub [0, 1, 2, 3, 4, 5, 6, 7, 8, 9, 10, 11, 12, 13, 14, 15, 16, 17, 19, 20, 21, 22, 23, 24, 25, 26, 27, 28, 29, 30, 31, 32, 18] rfl
        have hD : va_D A (wZ qx qm cI cZ cJ ao u_3.1.1 u_3.1.2.1 u_3.1.2.2 (MS.s_fl (MS.s_th y 0) (va_up y.fl ix 0)) u_3.2) := hD.sub [0, 1, 2, 3, 4, 5, 6, 7, 8, 9, 10, 11, 12, 13, 14, 15, 16, 17, 19, 20, 21, 22, 23, 24, 25, 26, 27, 28, 29, 30, 31, 32, 18] (by decide) rfl
        refine xt_i (show nI (MS.th (MS.s_fl (MS.s_th y 0) (va_up y.fl ix 0))) = nI 0 from congrArg nI (rfl)) ?_
        refine lv_iload hx hb dL_law_674 (lv_at hl 1 rfl) ?_
        refine xn_ceq (tgt := 681) hx hb (by omega) (by omega) dL_law_676 (by decide) (fun c_12 => ?_) (fun c_12 => ?_)
        · refine lv_iload hx hb dL_law_681 (lv_at hl 1 rfl) ?_
          refine xn_zne (tgt := 705) hx hb (by omega) dL_law_683 (by decide) (fun c_13 => ?_) (fun c_13 => ?_)
          · refine lv_goto (tgt := 1190) hx hb dL_law_705 (by decide) ?_
            refine W.widen (k := ce + 1) (n := sl + 6) (by omega) (by omega) ?_
            exact hend u_3.1.1 u_3.1.2.1 u_3.1.2.2 (MS.s_fl (MS.s_th y 0) (va_up y.fl ix 0)) u_3.2 (by rw [hu1]; exact Rel_set hR ix (by decide)) H locs hP hD hS ls (lv_sub hl [2, 3, 4, 5, 6] rfl)
            
          · refine lv_aload_n hx hb dL_law_686 rfl (lv_at hl 3 rfl) ?_
            refine lv_iconst (v := nI 0) hx hb dL_law_687 (by decide) ?_
            refine va_lald hx hb hK hP 32 2 rfl rfl (vp_in_nI (show 0 < 1 by decide) (by decide)) dL_law_688 ?_
            refine xt_l (show u_3.2 (nI 0).toNatClampNeg = lN (if r.fl ix = 0 then 0 else 1) from (congrArg u_3.2 (show (nI 0).toNatClampNeg = 0 by decide)).trans hu2) ?_
            have g8 : (if y.fl ix = 0 then 0 else 1) < 2 := by split <;> decide
            refine lv_iload hx hb dL_law_689 (lv_at hl 0 rfl) ?_
            refine xn_zeq (tgt := 698) hx hb (by omega) dL_law_691 (by decide) (fun c_14 => ?_) (fun c_14 => ?_)
            · refine lv_lconst (v := 0) hx hb dL_law_698 (by decide) ?_
              refine W.lcmp hx hb dL_law_699 ?_
              refine xt_i (show (lg_cmp (lN (if r.fl ix = 0 then 0 else 1)) 0) = nI 0 from lg_eq (by rw [show (if r.fl ix = 0 then 0 else 1) = 0 by (have h8 : (if y.fl ix = 0 then 0 else 1) = 0 := by omega); rw [e_fl] at h8; exact h8]; rfl)) ?_
              refine xn_zeq (tgt := 705) hx hb (by omega) dL_law_700 (by decide) (fun c_15 => ?_) (fun c_15 => ?_)
              · refine lv_goto (tgt := 1190) hx hb dL_law_705 (by decide) ?_
                refine W.widen (k := ce + 1) (n := sl + 6) (by omega) (by omega) ?_
                exact hend u_3.1.1 u_3.1.2.1 u_3.1.2.2 (MS.s_fl (MS.s_th y 0) (va_up y.fl ix 0)) u_3.2 (by rw [hu1]; exact Rel_set hR ix (by decide)) H locs hP hD hS ls (lv_sub hl [2, 3, 4, 5, 6] rfl)
                
              · exact absurd (show False by omega) id
            · refine lv_lconst (v := 1) hx hb dL_law_694 (by decide) ?_
              refine lv_goto (tgt := 699) hx hb dL_law_695 (by decide) ?_
              refine W.lcmp hx hb dL_law_699 ?_
              refine xt_i (show (lg_cmp (lN (if r.fl ix = 0 then 0 else 1)) 1) = nI 0 from lg_eq (by rw [show (if r.fl ix = 0 then 0 else 1) = 1 by (have h8 : (if y.fl ix = 0 then 0 else 1) = 1 := by omega); rw [e_fl] at h8; exact h8]; rfl)) ?_
              refine xn_zeq (tgt := 705) hx hb (by omega) dL_law_700 (by decide) (fun c_16 => ?_) (fun c_16 => ?_)
              · refine lv_goto (tgt := 1190) hx hb dL_law_705 (by decide) ?_
                refine W.widen (k := ce + 1) (n := sl + 6) (by omega) (by omega) ?_
                exact hend u_3.1.1 u_3.1.2.1 u_3.1.2.2 (MS.s_fl (MS.s_th y 0) (va_up y.fl ix 0)) u_3.2 (by rw [hu1]; exact Rel_set hR ix (by decide)) H locs hP hD hS ls (lv_sub hl [2, 3, 4, 5, 6] rfl)
                
              · exact absurd (show False by omega) id
        · exact absurd (show False by omega) id
      · exact absurd c_1 c_5
    · refine lv_iconst (v := nI 1) hx hb dL_law_633 (by decide) ?_
      refine lv_goto (tgt := 638) hx hb dL_law_634 (by decide) ?_
      refine lv_aload_n hx hb dL_law_638 rfl (lv_at hl 1 rfl) ?_
      refine xw_Si (As := [.ref (qx 17), .int (nI ix), .int (nI 1), .ref ao]) (wr := wM qm cI cZ y) ⟨hx, hb, hml, hown, hts⟩ (h_set l dC dI qx cI cZ cJ ao H.size r k a o ix 1 hB h1 (by decide)) (vx_cwSW 4 hts (gSW tw_399 tw_400 tw_0 tw_401) rfl rfl rfl (by decide +kernel) ⟨Nat.le_of_ble_eq_true rfl, Nat.le_of_ble_eq_true rfl⟩) rfl hl.1 rfl (Nat.le_of_ble_eq_true rfl) dL_law_639 ⟨by show ce + 0 ≤ 1072; omega, by show sl + 0 ≤ 9025; omega⟩ hP hD hK hS hA [0, 1, 2, 3, 4, 5, 6, 7, 8, 9, 10, 11, 12, 13, 14, 15, 16, 17, 32] [18, 19, 20, 21, 22, 23, 24, 25, 26, 27, 28, 29, 30, 31] rfl rfl (by decide) (by decide) (by decide) [0, 1, 2] rfl (eW_of eT_M) trivial (fun r_17 u_18 H locs w_19 hP hD hS => ?_)
      obtain ⟨rfl, hu1, hu2⟩ := w_19
      have hP : va_P (dC, dI) vwCl (wZ qx qm cI cZ cJ ao u_18.1.1 u_18.1.2.1 u_18.1.2.2 y u_18.2) H := hP.sub [14, 15, 16, 17, 18, 19, 20, 21, 22, 23, 24, 25, 26, 27, 28, 29, 30, 31, 0, 1, 2, 3, 4, 5, 6, 7, 8, 9, 10, 11, 12, 13, 32] rfl
      have hD : va_D A (wZ qx qm cI cZ cJ ao u_18.1.1 u_18.1.2.1 u_18.1.2.2 y u_18.2) := hD.sub [14, 15, 16, 17, 18, 19, 20, 21, 22, 23, 24, 25, 26, 27, 28, 29, 30, 31, 0, 1, 2, 3, 4, 5, 6, 7, 8, 9, 10, 11, 12, 13, 32] (by decide) rfl
      refine lv_istore (lv' := [(5, .int (nI 0)), (4, .int (nI i)), (3, .ref ao), (2, .ref (qm 0)), (1, .ref (qx 17)), (0, .ref b)]) hx hb dL_law_642 hl (by decide) rfl (fun ls hl => ?_)
      refine lv_aload_n hx hb dL_law_644 rfl (lv_at hl 3 rfl) ?_
      refine lv_aload_n hx hb dL_law_645 rfl (lv_at hl 5 rfl) ?_
      refine lv_iload hx hb dL_law_646 (lv_at hl 1 rfl) ?_
      refine lv_iconst (v := nI 1) hx hb dL_law_648 (by decide) ?_
      refine xn_add hx hb dL_law_649 ?_
      refine va_sld hx hb hX hbl hbA hS (vp_in_nI (show i + 1 < L by omega) (by omega)) dL_law_650 ?_
      refine xt_i (show xs (nI (i + 1)).toNatClampNeg = nI ix from (congrArg xs (nI_clamp (by omega))).trans (e1)) ?_
      refine lv_aload_n hx hb dL_law_651 rfl (lv_at hl 5 rfl) ?_
      refine lv_iload hx hb dL_law_652 (lv_at hl 1 rfl) ?_
      refine lv_iconst (v := nI 2) hx hb dL_law_654 (by decide) ?_
      refine xn_add hx hb dL_law_655 ?_
      refine va_sld hx hb hX hbl hbA hS (vp_in_nI (show i + 2 < L by omega) (by omega)) dL_law_656 ?_
      refine xt_i (show xs (nI (i + 2)).toNatClampNeg = (xs (i + 2)) from (congrArg xs (nI_clamp (by omega))).trans (rfl)) ?_
      refine lv_if_eq (tgt := 664) hx hb dL_law_657 (by decide) (fun c_20 => ?_) (fun c_20 => ?_)
      · exact absurd c_20 c_1
      · refine lv_iconst (v := nI 1) hx hb dL_law_660 (by decide) ?_
        refine lv_goto (tgt := 665) hx hb dL_law_661 (by decide) ?_
        refine xc_Vi (As := [.int (nI ix), .int (nI 1)]) (wr := wX qx cI cZ u_18.1.1 u_18.1.2.1 u_18.1.2.2 ++ wO cJ ao u_18.2) ⟨hx, hb, hml, hown, hts⟩ (c_ScanRowsModel_set l dC dI qm cI cZ H.size y ix 1 hM (by omega) (by decide)) (cwV 2 hts (gV tw_703 tw_704 tw_705 tw_5 tw_706) rfl rfl rfl (by decide +kernel) ⟨Nat.le_of_ble_eq_true rfl, Nat.le_of_ble_eq_true rfl⟩) rfl hl.1 rfl (Nat.le_of_ble_eq_true rfl) dL_law_665 ⟨by show _ ≤ 1072; omega, by show _ ≤ 9025; omega⟩ hP hD hK hS hA [18, 19, 20, 21, 22, 23, 24, 25, 26, 27, 28, 29, 30, 31] [0, 1, 2, 3, 4, 5, 6, 7, 8, 9, 10, 11, 12, 13, 14, 15, 16, 17, 32] rfl rfl (by decide) (by decide) (by decide) [0, 1] rfl (q0 := 0) rfl rfl rfl eT_M (trivial) (fun r_21 u_22 H locs w_23 hP hD hS => ?_)
        obtain ⟨rfl, rfl⟩ := w_23
        have hP : va_P (dC, dI) vwCl (wZ qx qm cI cZ cJ ao u_18.1.1 u_18.1.2.1 u_18.1.2.2 (MS.s_fl (MS.s_th y 0) (va_up y.fl ix 1)) u_18.2) H := hP.sub [0, 1, 2, 3, 4, 5, 6, 7, 8, 9, 10, 11, 12, 13, 14, 15, 16, 17, 19, 20, 21, 22, 23, 24, 25, 26, 27, 28, 29, 30, 31, 32, 18] rfl
        have hD : va_D A (wZ qx qm cI cZ cJ ao u_18.1.1 u_18.1.2.1 u_18.1.2.2 (MS.s_fl (MS.s_th y 0) (va_up y.fl ix 1)) u_18.2) := hD.sub [0, 1, 2, 3, 4, 5, 6, 7, 8, 9, 10, 11, 12, 13, 14, 15, 16, 17, 19, 20, 21, 22, 23, 24, 25, 26, 27, 28, 29, 30, 31, 32, 18] (by decide) rfl
        refine lv_istore (lv' := [(6, .int (nI (if y.fl ix = 1 then 0 else 1))), (5, .int (nI 0)), (4, .int (nI i)), (3, .ref ao), (2, .ref (qm 0)), (1, .ref (qx 17)), (0, .ref b)]) hx hb dL_law_668 hl (by decide) rfl (fun ls hl => ?_)
        refine lv_aload_n hx hb dL_law_670 rfl (lv_at hl 4 rfl) ?_
        refine xc_Vi (As := []) (wr := wX qx cI cZ u_18.1.1 u_18.1.2.1 u_18.1.2.2 ++ wO cJ ao u_18.2) ⟨hx, hb, hml, hown, hts⟩ (c_ScanRowsModel_thrown l dC dI qm cI cZ H.size (MS.s_fl (MS.s_th y 0) (va_up y.fl ix 1))) (cwV 0 hts (gV tw_642 tw_643 tw_644 tw_5 tw_645) rfl rfl rfl (by decide +kernel) ⟨Nat.le_of_ble_eq_true rfl, Nat.le_of_ble_eq_true rfl⟩) rfl hl.1 rfl (Nat.le_of_ble_eq_true rfl) dL_law_671 ⟨by show _ ≤ 1072; omega, by show _ ≤ 9025; omega⟩ hP hD hK hS hA [18, 19, 20, 21, 22, 23, 24, 25, 26, 27, 28, 29, 30, 31] [0, 1, 2, 3, 4, 5, 6, 7, 8, 9, 10, 11, 12, 13, 14, 15, 16, 17, 32] rfl rfl (by decide) (by decide) (by decide) [0, 1] rfl (q0 := 0) rfl rfl rfl eT_M (trivial) (fun r_24 u_25 H locs w_26 hP hD hS => ?_)
        obtain rfl := w_26
        have hP : va_P (dC, dI) vwCl (wZ qx qm cI cZ cJ ao u_18.1.1 u_18.1.2.1 u_18.1.2.2 (MS.s_fl (MS.s_th y 0) (va_up y.fl ix 1)) u_18.2) H := hP.sub [0, 1, 2, 3, 4, 5, 6, 7, 8, 9, 10, 11, 12, 13, 14, 15, 16, 17, 19, 20, 21, 22, 23, 24, 25, 26, 27, 28, 29, 30, 31, 32, 18] rfl
        have hD : va_D A (wZ qx qm cI cZ cJ ao u_18.1.1 u_18.1.2.1 u_18.1.2.2 (MS.s_fl (MS.s_th y 0) (va_up y.fl ix 1)) u_18.2) := hD.sub [0, 1, 2, 3, 4, 5, 6, 7, 8, 9, 10, 11, 12, 13, 14, 15, 16, 17, 19, 20, 21, 22, 23, 24, 25, 26, 27, 28, 29, 30, 31, 32, 18] (by decide) rfl
        refine xt_i (show nI (MS.th (MS.s_fl (MS.s_th y 0) (va_up y.fl ix 1))) = nI 0 from congrArg nI (rfl)) ?_
        refine lv_iload hx hb dL_law_674 (lv_at hl 1 rfl) ?_
        refine xn_ceq (tgt := 681) hx hb (by omega) (by omega) dL_law_676 (by decide) (fun c_27 => ?_) (fun c_27 => ?_)
        · refine lv_iload hx hb dL_law_681 (lv_at hl 1 rfl) ?_
          refine xn_zne (tgt := 705) hx hb (by omega) dL_law_683 (by decide) (fun c_28 => ?_) (fun c_28 => ?_)
          · refine lv_goto (tgt := 1190) hx hb dL_law_705 (by decide) ?_
            refine W.widen (k := ce + 1) (n := sl + 6) (by omega) (by omega) ?_
            exact hend u_18.1.1 u_18.1.2.1 u_18.1.2.2 (MS.s_fl (MS.s_th y 0) (va_up y.fl ix 1)) u_18.2 (by rw [hu1]; exact Rel_set hR ix (by decide)) H locs hP hD hS ls (lv_sub hl [2, 3, 4, 5, 6] rfl)
            
          · refine lv_aload_n hx hb dL_law_686 rfl (lv_at hl 3 rfl) ?_
            refine lv_iconst (v := nI 0) hx hb dL_law_687 (by decide) ?_
            refine va_lald hx hb hK hP 32 2 rfl rfl (vp_in_nI (show 0 < 1 by decide) (by decide)) dL_law_688 ?_
            refine xt_l (show u_18.2 (nI 0).toNatClampNeg = lN (if r.fl ix = 1 then 0 else 1) from (congrArg u_18.2 (show (nI 0).toNatClampNeg = 0 by decide)).trans hu2) ?_
            have g8 : (if y.fl ix = 1 then 0 else 1) < 2 := by split <;> decide
            refine lv_iload hx hb dL_law_689 (lv_at hl 0 rfl) ?_
            refine xn_zeq (tgt := 698) hx hb (by omega) dL_law_691 (by decide) (fun c_29 => ?_) (fun c_29 => ?_)
            · refine lv_lconst (v := 0) hx hb dL_law_698 (by decide) ?_
              refine W.lcmp hx hb dL_law_699 ?_
              refine xt_i (show (lg_cmp (lN (if r.fl ix = 1 then 0 else 1)) 0) = nI 0 from lg_eq (by rw [show (if r.fl ix = 1 then 0 else 1) = 0 by (have h8 : (if y.fl ix = 1 then 0 else 1) = 0 := by omega); rw [e_fl] at h8; exact h8]; rfl)) ?_
              refine xn_zeq (tgt := 705) hx hb (by omega) dL_law_700 (by decide) (fun c_30 => ?_) (fun c_30 => ?_)
              · refine lv_goto (tgt := 1190) hx hb dL_law_705 (by decide) ?_
                refine W.widen (k := ce + 1) (n := sl + 6) (by omega) (by omega) ?_
                exact hend u_18.1.1 u_18.1.2.1 u_18.1.2.2 (MS.s_fl (MS.s_th y 0) (va_up y.fl ix 1)) u_18.2 (by rw [hu1]; exact Rel_set hR ix (by decide)) H locs hP hD hS ls (lv_sub hl [2, 3, 4, 5, 6] rfl)
                
              · exact absurd (show False by omega) id
            · refine lv_lconst (v := 1) hx hb dL_law_694 (by decide) ?_
              refine lv_goto (tgt := 699) hx hb dL_law_695 (by decide) ?_
              refine W.lcmp hx hb dL_law_699 ?_
              refine xt_i (show (lg_cmp (lN (if r.fl ix = 1 then 0 else 1)) 1) = nI 0 from lg_eq (by rw [show (if r.fl ix = 1 then 0 else 1) = 1 by (have h8 : (if y.fl ix = 1 then 0 else 1) = 1 := by omega); rw [e_fl] at h8; exact h8]; rfl)) ?_
              refine xn_zeq (tgt := 705) hx hb (by omega) dL_law_700 (by decide) (fun c_31 => ?_) (fun c_31 => ?_)
              · refine lv_goto (tgt := 1190) hx hb dL_law_705 (by decide) ?_
                refine W.widen (k := ce + 1) (n := sl + 6) (by omega) (by omega) ?_
                exact hend u_18.1.1 u_18.1.2.1 u_18.1.2.2 (MS.s_fl (MS.s_th y 0) (va_up y.fl ix 1)) u_18.2 (by rw [hu1]; exact Rel_set hR ix (by decide)) H locs hP hD hS ls (lv_sub hl [2, 3, 4, 5, 6] rfl)
                
              · exact absurd (show False by omega) id
        · exact absurd (show False by omega) id
set_option maxHeartbeats 4000000 in
set_option maxRecDepth 100000 in
theorem op_load {p : Program} {e : Env} {s : State} {m : MethodId} {below : List Frame} {meth : Method} {c : Code} (l : Launch) (hl0 : l.stackTraces = false) {b L : Nat} {xs : Nat → Int32} (hL : L ≤ 3073) (C0 : lw_At p s m meth c b L xs) (A : Nat → Prop) (hA : ∀ q : Nat, s.heap.size ≤ q → A q) (hbA : ¬ A b) (dC : Nat → ClassId) (dI : Nat → Nat → Nat) (qx qm : Nat → Nat) (cI cZ cJ : ClassId) (ao tN : Nat) (hK : va_K (dC, dI) vwCl [(cI, .int), (cZ, .boolean), (cJ, .long)] s) (hE : eX tN A s s.heap) (i : Nat) (hi : i + 5 < L) (ce sl : Nat) (hce : ce + 1 ≤ 1072) (hsl : sl + 6 ≤ 9025) (r : RS) (k : CS) (a : AS) (y : MS) (o : OS) (hR : Rel r k a y) (H : Heap) (locs : List Loc) (hP : va_P (dC, dI) vwCl (wZ qx qm cI cZ cJ ao r k a y o) H) (hD : va_D A (wZ qx qm cI cZ cJ ao r k a y o)) (hS : va_S A s.heap H locs) (ls : Array Slot) (hl : lv_has ls 7 [(4, .int (nI i)), (3, .ref ao), (2, .ref (qm 0)), (1, .ref (qx 17)), (0, .ref b)]) (hend : ∀ (r : RS) (k : CS) (a : AS) (y : MS) (o : OS), Rel r k a y → ∀ (H : Heap) (locs : List Loc), va_P (dC, dI) vwCl (wZ qx qm cI cZ cJ ao r k a y o) H → va_D A (wZ qx qm cI cZ cJ ao r k a y o) → va_S A s.heap H locs → ∀ ls : Array Slot, lv_has ls 7 [(4, .int (nI i)), (3, .ref ao), (2, .ref (qm 0)), (1, .ref (qx 17)), (0, .ref b)] → W p l e room_1 s m #[Value.ref b] below meth c H locs (ce + 1) (sl + 6) (lw_Z below #[Value.ref b] s) (F0 m 1190 ls [])) : W p l e room_1 s m #[Value.ref b] below meth c H locs (ce) (sl) (lw_Z below #[Value.ref b] s) (F0 m 708 ls []) := by
  obtain ⟨hx, hb, hr, hml, hown, hts0, hX, hbl, hlocks, hgv⟩ := id C0
  have hown : s.vm.findClass "ScanRowsLaw" = some m.cls := hown
  have hts : ∀ w ∈ ALLG, w.before #[Value.ref b] s = true := fun w h => hts0 w (List.mem_filter.mp h).1
  have b_n : r.n ≤ 32 := hR.1.1.1
  have b_c : r.c ≤ 8 := hR.1.1.2.1
  have b_p : r.p ≤ r.n := hR.1.1.2.2.1
  have k_n : k.n ≤ 20 := hR.1.2.1.1
  have hB : RB r := hR.1.1
  have hM : MB y := hR.2.1
  have hmo : mono y := Rel_mono hR
  have hC : RC r := PI_RC hR.2.2.1
  have e_n : y.n = r.n := hR.2.2.2.2.1.1
  have e_c : y.c = r.c := hR.2.2.2.2.1.2.1
  have e_p : y.p = r.p := hR.2.2.2.2.1.2.2.1
  have e_vb : y.vb = r.vb := hR.2.2.2.2.1.2.2.2.1
  have e_fl : y.fl = r.fl := hR.2.2.2.2.1.2.2.2.2.2.2.2.1
  have e_st : y.st = r.st := hR.2.2.2.2.1.2.2.2.2.2.2.2.2.2
  have e_k : toK y = k := hR.2.2.2.2.2.1
  have e_cn : y.cn = k.n := congrArg CS.n e_k
  have e_co : y.co = a.co := hR.2.2.2.2.2.2.2.1
  have a_co : a.co < 16 := hR.1.2.2.2.1
  have e_sa : y.sa = a.st := hR.2.2.2.2.2.2.1
  rcases hc_cs (xs (i + 1)) b_n with h1 | ⟨ix, h1, e1⟩
  · refine lv_aload_n hx hb dL_law_708 rfl (lv_at hl 3 rfl) ?_
    refine lv_aload_n hx hb dL_law_709 rfl (lv_at hl 4 rfl) ?_
    refine lv_iload hx hb dL_law_710 (lv_at hl 0 rfl) ?_
    refine lv_iconst (v := nI 1) hx hb dL_law_712 (by decide) ?_
    refine xn_add hx hb dL_law_713 ?_
    refine va_sld hx hb hX hbl hbA hS (vp_in_nI (show i + 1 < L by omega) (by omega)) dL_law_714 ?_
    refine xt_i (show xs (nI (i + 1)).toNatClampNeg = (xs (i + 1)) from (congrArg xs (nI_clamp (by omega))).trans (rfl)) ?_
    refine lv_aload_n hx hb dL_law_715 rfl (lv_at hl 4 rfl) ?_
    refine lv_iload hx hb dL_law_716 (lv_at hl 0 rfl) ?_
    refine lv_iconst (v := nI 2) hx hb dL_law_718 (by decide) ?_
    refine xn_add hx hb dL_law_719 ?_
    refine va_sld hx hb hX hbl hbA hS (vp_in_nI (show i + 2 < L by omega) (by omega)) dL_law_720 ?_
    refine xt_i (show xs (nI (i + 2)).toNatClampNeg = (xs (i + 2)) from (congrArg xs (nI_clamp (by omega))).trans (rfl)) ?_
    refine xw_Si (As := [.ref (qx 17), .int (xs (i + 1)), .int (xs (i + 2))]) (wr := wM qm cI cZ y ++ wO cJ ao o) ⟨hx, hb, hml, hown, hts⟩ (hx_load l hl0 dC dI qx cI cZ H.size r k a tN _ _ h1) (vx_cwSW 3 hts (gSW tw_415 tw_416 tw_0 tw_417) rfl rfl rfl (by decide +kernel) ⟨Nat.le_of_ble_eq_true rfl, Nat.le_of_ble_eq_true rfl⟩) rfl hl.1 rfl (Nat.le_of_ble_eq_true rfl) dL_law_721 ⟨by show ce + 1 ≤ 1072; omega, by show sl + 6 ≤ 9025; omega⟩ hP hD hK hS hA [0, 1, 2, 3, 4, 5, 6, 7, 8, 9, 10, 11, 12, 13, 14, 15, 16, 17] [18, 19, 20, 21, 22, 23, 24, 25, 26, 27, 28, 29, 30, 31, 32] rfl rfl (by decide) (by decide) (by decide) [0, 1] rfl (eX_W _ _) (eX_kn hE hS (va_free (wc := wX qx cI cZ r k a) hD hS hA [0, 1, 2, 3, 4, 5, 6, 7, 8, 9, 10, 11, 12, 13, 14, 15, 16, 17] rfl)) (fun r_1 u_2 H locs w_3 hP hD hS => ?_)
    obtain ⟨rfl, rfl⟩ := w_3
    have hP : va_P (dC, dI) vwCl (wZ qx qm cI cZ cJ ao r k a y o) H := hP.sub [15, 16, 17, 18, 19, 20, 21, 22, 23, 24, 25, 26, 27, 28, 29, 30, 31, 32, 0, 1, 2, 3, 4, 5, 6, 7, 8, 9, 10, 11, 12, 13, 14] rfl
    have hD : va_D A (wZ qx qm cI cZ cJ ao r k a y o) := hD.sub [15, 16, 17, 18, 19, 20, 21, 22, 23, 24, 25, 26, 27, 28, 29, 30, 31, 32, 0, 1, 2, 3, 4, 5, 6, 7, 8, 9, 10, 11, 12, 13, 14] (by decide) rfl
    refine lv_istore (lv' := [(5, .int (nI 1)), (4, .int (nI i)), (3, .ref ao), (2, .ref (qm 0)), (1, .ref (qx 17)), (0, .ref b)]) hx hb dL_law_724 hl (by decide) rfl (fun ls hl => ?_)
    refine lv_aload_n hx hb dL_law_726 rfl (lv_at hl 3 rfl) ?_
    refine lv_aload_n hx hb dL_law_727 rfl (lv_at hl 5 rfl) ?_
    refine lv_iload hx hb dL_law_728 (lv_at hl 1 rfl) ?_
    refine lv_iconst (v := nI 1) hx hb dL_law_730 (by decide) ?_
    refine xn_add hx hb dL_law_731 ?_
    refine va_sld hx hb hX hbl hbA hS (vp_in_nI (show i + 1 < L by omega) (by omega)) dL_law_732 ?_
    refine xt_i (show xs (nI (i + 1)).toNatClampNeg = (xs (i + 1)) from (congrArg xs (nI_clamp (by omega))).trans (rfl)) ?_
    refine lv_aload_n hx hb dL_law_733 rfl (lv_at hl 5 rfl) ?_
    refine lv_iload hx hb dL_law_734 (lv_at hl 1 rfl) ?_
    refine lv_iconst (v := nI 2) hx hb dL_law_736 (by decide) ?_
    refine xn_add hx hb dL_law_737 ?_
    refine va_sld hx hb hX hbl hbA hS (vp_in_nI (show i + 2 < L by omega) (by omega)) dL_law_738 ?_
    refine xt_i (show xs (nI (i + 2)).toNatClampNeg = (xs (i + 2)) from (congrArg xs (nI_clamp (by omega))).trans (rfl)) ?_
    refine xc_Vv (As := [.int (xs (i + 1)), .int (xs (i + 2))]) (wr := wX qx cI cZ r k a ++ wO cJ ao o) ⟨hx, hb, hml, hown, hts⟩ (c_M_load1 l dC dI qm cI cZ H.size y _ _ (by rw [e_n]; exact h1)) (cwV 2 hts (gV tw_711 tw_712 tw_713 tw_5 tw_714) rfl rfl rfl (by decide +kernel) ⟨Nat.le_of_ble_eq_true rfl, Nat.le_of_ble_eq_true rfl⟩) rfl hl.1 rfl (Nat.le_of_ble_eq_true rfl) dL_law_739 ⟨by show _ ≤ 1072; omega, by show _ ≤ 9025; omega⟩ hP hD hK hS hA [18, 19, 20, 21, 22, 23, 24, 25, 26, 27, 28, 29, 30, 31] [0, 1, 2, 3, 4, 5, 6, 7, 8, 9, 10, 11, 12, 13, 14, 15, 16, 17, 32] rfl rfl (by decide) (by decide) (by decide) [0, 1] rfl (q0 := 0) rfl rfl rfl eT_M (trivial) (fun u_5 H locs w_6 hP hD hS => ?_)
    obtain rfl := w_6
    have hP : va_P (dC, dI) vwCl (wZ qx qm cI cZ cJ ao r k a (MS.s_th y 1) o) H := hP.sub [0, 1, 2, 3, 4, 5, 6, 7, 8, 9, 10, 11, 12, 13, 14, 15, 16, 17, 19, 20, 21, 22, 23, 24, 25, 26, 27, 28, 29, 30, 31, 32, 18] rfl
    have hD : va_D A (wZ qx qm cI cZ cJ ao r k a (MS.s_th y 1) o) := hD.sub [0, 1, 2, 3, 4, 5, 6, 7, 8, 9, 10, 11, 12, 13, 14, 15, 16, 17, 19, 20, 21, 22, 23, 24, 25, 26, 27, 28, 29, 30, 31, 32, 18] (by decide) rfl
    refine lv_aload_n hx hb dL_law_742 rfl (lv_at hl 3 rfl) ?_
    refine xc_Vi (As := []) (wr := wX qx cI cZ r k a ++ wO cJ ao o) ⟨hx, hb, hml, hown, hts⟩ (c_ScanRowsModel_thrown l dC dI qm cI cZ H.size (MS.s_th y 1)) (cwV 0 hts (gV tw_642 tw_643 tw_644 tw_5 tw_645) rfl rfl rfl (by decide +kernel) ⟨Nat.le_of_ble_eq_true rfl, Nat.le_of_ble_eq_true rfl⟩) rfl hl.1 rfl (Nat.le_of_ble_eq_true rfl) dL_law_743 ⟨by show _ ≤ 1072; omega, by show _ ≤ 9025; omega⟩ hP hD hK hS hA [18, 19, 20, 21, 22, 23, 24, 25, 26, 27, 28, 29, 30, 31] [0, 1, 2, 3, 4, 5, 6, 7, 8, 9, 10, 11, 12, 13, 14, 15, 16, 17, 32] rfl rfl (by decide) (by decide) (by decide) [0, 1] rfl (q0 := 0) rfl rfl rfl eT_M (trivial) (fun r_7 u_8 H locs w_9 hP hD hS => ?_)
    obtain rfl := w_9
    have hP : va_P (dC, dI) vwCl (wZ qx qm cI cZ cJ ao r k a (MS.s_th y 1) o) H := hP.sub [0, 1, 2, 3, 4, 5, 6, 7, 8, 9, 10, 11, 12, 13, 14, 15, 16, 17, 19, 20, 21, 22, 23, 24, 25, 26, 27, 28, 29, 30, 31, 32, 18] rfl
    have hD : va_D A (wZ qx qm cI cZ cJ ao r k a (MS.s_th y 1) o) := hD.sub [0, 1, 2, 3, 4, 5, 6, 7, 8, 9, 10, 11, 12, 13, 14, 15, 16, 17, 19, 20, 21, 22, 23, 24, 25, 26, 27, 28, 29, 30, 31, 32, 18] (by decide) rfl
    refine xt_i (show nI (MS.th (MS.s_th y 1)) = nI 1 from congrArg nI (rfl)) ?_
    refine lv_iload hx hb dL_law_746 (lv_at hl 0 rfl) ?_
    refine xn_ceq (tgt := 753) hx hb (by omega) (by omega) dL_law_748 (by decide) (fun c_10 => ?_) (fun c_10 => ?_)
    · refine lv_goto (tgt := 1190) hx hb dL_law_753 (by decide) ?_
      refine W.widen (k := ce + 1) (n := sl + 6) (by omega) (by omega) ?_
      exact hend r k a (MS.s_th y 1) o (Rel_th hR 1) H locs hP hD hS ls (lv_sub hl [1, 2, 3, 4, 5] rfl)
      
    · exact absurd (show False by omega) id
  · refine lv_aload_n hx hb dL_law_708 rfl (lv_at hl 3 rfl) ?_
    refine lv_aload_n hx hb dL_law_709 rfl (lv_at hl 4 rfl) ?_
    refine lv_iload hx hb dL_law_710 (lv_at hl 0 rfl) ?_
    refine lv_iconst (v := nI 1) hx hb dL_law_712 (by decide) ?_
    refine xn_add hx hb dL_law_713 ?_
    refine va_sld hx hb hX hbl hbA hS (vp_in_nI (show i + 1 < L by omega) (by omega)) dL_law_714 ?_
    refine xt_i (show xs (nI (i + 1)).toNatClampNeg = nI ix from (congrArg xs (nI_clamp (by omega))).trans (e1)) ?_
    refine lv_aload_n hx hb dL_law_715 rfl (lv_at hl 4 rfl) ?_
    refine lv_iload hx hb dL_law_716 (lv_at hl 0 rfl) ?_
    refine lv_iconst (v := nI 2) hx hb dL_law_718 (by decide) ?_
    refine xn_add hx hb dL_law_719 ?_
    refine va_sld hx hb hX hbl hbA hS (vp_in_nI (show i + 2 < L by omega) (by omega)) dL_law_720 ?_
    refine xt_i (show xs (nI (i + 2)).toNatClampNeg = (xs (i + 2)) from (congrArg xs (nI_clamp (by omega))).trans (rfl)) ?_
    refine xw_Si (As := [.ref (qx 17), .int (nI ix), .int (xs (i + 2))]) (wr := wM qm cI cZ y ++ wO cJ ao o) ⟨hx, hb, hml, hown, hts⟩ (h_load l dC dI qx cI cZ H.size r k a ix _ hB h1) (vx_cwSW 3 hts (gSW tw_415 tw_416 tw_0 tw_417) rfl rfl rfl (by decide +kernel) ⟨Nat.le_of_ble_eq_true rfl, Nat.le_of_ble_eq_true rfl⟩) rfl hl.1 rfl (Nat.le_of_ble_eq_true rfl) dL_law_721 ⟨by show ce + 0 ≤ 1072; omega, by show sl + 0 ≤ 9025; omega⟩ hP hD hK hS hA [0, 1, 2, 3, 4, 5, 6, 7, 8, 9, 10, 11, 12, 13, 14, 15, 16, 17] [18, 19, 20, 21, 22, 23, 24, 25, 26, 27, 28, 29, 30, 31, 32] rfl rfl (by decide) (by decide) (by decide) [0, 1] rfl (eW_of eT_M) trivial (fun r_1 u_2 H locs w_3 hP hD hS => ?_)
    obtain ⟨rfl, rfl⟩ := w_3
    have hP : va_P (dC, dI) vwCl (wZ qx qm cI cZ cJ ao (RS.s_vb r (va_up (RS.vb r) ix (bitN (xs (i + 2))))) k a y o) H := hP.sub [15, 16, 17, 18, 19, 20, 21, 22, 23, 24, 25, 26, 27, 28, 29, 30, 31, 32, 0, 1, 2, 3, 4, 5, 6, 7, 8, 9, 10, 11, 12, 13, 14] rfl
    have hD : va_D A (wZ qx qm cI cZ cJ ao (RS.s_vb r (va_up (RS.vb r) ix (bitN (xs (i + 2))))) k a y o) := hD.sub [15, 16, 17, 18, 19, 20, 21, 22, 23, 24, 25, 26, 27, 28, 29, 30, 31, 32, 0, 1, 2, 3, 4, 5, 6, 7, 8, 9, 10, 11, 12, 13, 14] (by decide) rfl
    refine lv_istore (lv' := [(5, .int (nI 0)), (4, .int (nI i)), (3, .ref ao), (2, .ref (qm 0)), (1, .ref (qx 17)), (0, .ref b)]) hx hb dL_law_724 hl (by decide) rfl (fun ls hl => ?_)
    refine lv_aload_n hx hb dL_law_726 rfl (lv_at hl 3 rfl) ?_
    refine lv_aload_n hx hb dL_law_727 rfl (lv_at hl 5 rfl) ?_
    refine lv_iload hx hb dL_law_728 (lv_at hl 1 rfl) ?_
    refine lv_iconst (v := nI 1) hx hb dL_law_730 (by decide) ?_
    refine xn_add hx hb dL_law_731 ?_
    refine va_sld hx hb hX hbl hbA hS (vp_in_nI (show i + 1 < L by omega) (by omega)) dL_law_732 ?_
    refine xt_i (show xs (nI (i + 1)).toNatClampNeg = nI ix from (congrArg xs (nI_clamp (by omega))).trans (e1)) ?_
    refine lv_aload_n hx hb dL_law_733 rfl (lv_at hl 5 rfl) ?_
    refine lv_iload hx hb dL_law_734 (lv_at hl 1 rfl) ?_
    refine lv_iconst (v := nI 2) hx hb dL_law_736 (by decide) ?_
    refine xn_add hx hb dL_law_737 ?_
    refine va_sld hx hb hX hbl hbA hS (vp_in_nI (show i + 2 < L by omega) (by omega)) dL_law_738 ?_
    refine xt_i (show xs (nI (i + 2)).toNatClampNeg = (xs (i + 2)) from (congrArg xs (nI_clamp (by omega))).trans (rfl)) ?_
    refine xc_Vv (As := [.int (nI ix), .int (xs (i + 2))]) (wr := wX qx cI cZ (RS.s_vb r (va_up (RS.vb r) ix (bitN (xs (i + 2))))) k a ++ wO cJ ao o) ⟨hx, hb, hml, hown, hts⟩ (c_ScanRowsModel_load l dC dI qm cI cZ H.size y ix _ hM (by omega)) (cwV 2 hts (gV tw_711 tw_712 tw_713 tw_5 tw_714) rfl rfl rfl (by decide +kernel) ⟨Nat.le_of_ble_eq_true rfl, Nat.le_of_ble_eq_true rfl⟩) rfl hl.1 rfl (Nat.le_of_ble_eq_true rfl) dL_law_739 ⟨by show _ ≤ 1072; omega, by show _ ≤ 9025; omega⟩ hP hD hK hS hA [18, 19, 20, 21, 22, 23, 24, 25, 26, 27, 28, 29, 30, 31] [0, 1, 2, 3, 4, 5, 6, 7, 8, 9, 10, 11, 12, 13, 14, 15, 16, 17, 32] rfl rfl (by decide) (by decide) (by decide) [0, 1] rfl (q0 := 0) rfl rfl rfl eT_M (trivial) (fun u_5 H locs w_6 hP hD hS => ?_)
    obtain rfl := w_6
    have hP : va_P (dC, dI) vwCl (wZ qx qm cI cZ cJ ao (RS.s_vb r (va_up (RS.vb r) ix (bitN (xs (i + 2))))) k a (MS.s_vb (MS.s_th y 0) (va_up y.vb ix (bitN (xs (i + 2))))) o) H := hP.sub [0, 1, 2, 3, 4, 5, 6, 7, 8, 9, 10, 11, 12, 13, 14, 15, 16, 17, 19, 20, 21, 22, 23, 24, 25, 26, 27, 28, 29, 30, 31, 32, 18] rfl
    have hD : va_D A (wZ qx qm cI cZ cJ ao (RS.s_vb r (va_up (RS.vb r) ix (bitN (xs (i + 2))))) k a (MS.s_vb (MS.s_th y 0) (va_up y.vb ix (bitN (xs (i + 2))))) o) := hD.sub [0, 1, 2, 3, 4, 5, 6, 7, 8, 9, 10, 11, 12, 13, 14, 15, 16, 17, 19, 20, 21, 22, 23, 24, 25, 26, 27, 28, 29, 30, 31, 32, 18] (by decide) rfl
    refine lv_aload_n hx hb dL_law_742 rfl (lv_at hl 3 rfl) ?_
    refine xc_Vi (As := []) (wr := wX qx cI cZ (RS.s_vb r (va_up (RS.vb r) ix (bitN (xs (i + 2))))) k a ++ wO cJ ao o) ⟨hx, hb, hml, hown, hts⟩ (c_ScanRowsModel_thrown l dC dI qm cI cZ H.size (MS.s_vb (MS.s_th y 0) (va_up y.vb ix (bitN (xs (i + 2)))))) (cwV 0 hts (gV tw_642 tw_643 tw_644 tw_5 tw_645) rfl rfl rfl (by decide +kernel) ⟨Nat.le_of_ble_eq_true rfl, Nat.le_of_ble_eq_true rfl⟩) rfl hl.1 rfl (Nat.le_of_ble_eq_true rfl) dL_law_743 ⟨by show _ ≤ 1072; omega, by show _ ≤ 9025; omega⟩ hP hD hK hS hA [18, 19, 20, 21, 22, 23, 24, 25, 26, 27, 28, 29, 30, 31] [0, 1, 2, 3, 4, 5, 6, 7, 8, 9, 10, 11, 12, 13, 14, 15, 16, 17, 32] rfl rfl (by decide) (by decide) (by decide) [0, 1] rfl (q0 := 0) rfl rfl rfl eT_M (trivial) (fun r_7 u_8 H locs w_9 hP hD hS => ?_)
    obtain rfl := w_9
    have hP : va_P (dC, dI) vwCl (wZ qx qm cI cZ cJ ao (RS.s_vb r (va_up (RS.vb r) ix (bitN (xs (i + 2))))) k a (MS.s_vb (MS.s_th y 0) (va_up y.vb ix (bitN (xs (i + 2))))) o) H := hP.sub [0, 1, 2, 3, 4, 5, 6, 7, 8, 9, 10, 11, 12, 13, 14, 15, 16, 17, 19, 20, 21, 22, 23, 24, 25, 26, 27, 28, 29, 30, 31, 32, 18] rfl
    have hD : va_D A (wZ qx qm cI cZ cJ ao (RS.s_vb r (va_up (RS.vb r) ix (bitN (xs (i + 2))))) k a (MS.s_vb (MS.s_th y 0) (va_up y.vb ix (bitN (xs (i + 2))))) o) := hD.sub [0, 1, 2, 3, 4, 5, 6, 7, 8, 9, 10, 11, 12, 13, 14, 15, 16, 17, 19, 20, 21, 22, 23, 24, 25, 26, 27, 28, 29, 30, 31, 32, 18] (by decide) rfl
    refine xt_i (show nI (MS.th (MS.s_vb (MS.s_th y 0) (va_up y.vb ix (bitN (xs (i + 2)))))) = nI 0 from congrArg nI (rfl)) ?_
    refine lv_iload hx hb dL_law_746 (lv_at hl 0 rfl) ?_
    refine xn_ceq (tgt := 753) hx hb (by omega) (by omega) dL_law_748 (by decide) (fun c_10 => ?_) (fun c_10 => ?_)
    · refine lv_goto (tgt := 1190) hx hb dL_law_753 (by decide) ?_
      refine W.widen (k := ce + 1) (n := sl + 6) (by omega) (by omega) ?_
      exact hend (RS.s_vb r (va_up (RS.vb r) ix (bitN (xs (i + 2))))) k a (MS.s_vb (MS.s_th y 0) (va_up y.vb ix (bitN (xs (i + 2))))) o (Rel_load hR ix _) H locs hP hD hS ls (lv_sub hl [1, 2, 3, 4, 5] rfl)
      
    · exact absurd (show False by omega) id
set_option maxHeartbeats 4000000 in
set_option maxRecDepth 100000 in
theorem op_value {p : Program} {e : Env} {s : State} {m : MethodId} {below : List Frame} {meth : Method} {c : Code} (l : Launch) (hl0 : l.stackTraces = false) {b L : Nat} {xs : Nat → Int32} (hL : L ≤ 3073) (C0 : lw_At p s m meth c b L xs) (A : Nat → Prop) (hA : ∀ q : Nat, s.heap.size ≤ q → A q) (hbA : ¬ A b) (dC : Nat → ClassId) (dI : Nat → Nat → Nat) (qx qm : Nat → Nat) (cI cZ cJ : ClassId) (ao tN : Nat) (hK : va_K (dC, dI) vwCl [(cI, .int), (cZ, .boolean), (cJ, .long)] s) (hE : eX tN A s s.heap) (i : Nat) (hi : i + 5 < L) (ce sl : Nat) (hce : ce + 1 ≤ 1072) (hsl : sl + 6 ≤ 9025) (r : RS) (k : CS) (a : AS) (y : MS) (o : OS) (hR : Rel r k a y) (H : Heap) (locs : List Loc) (hP : va_P (dC, dI) vwCl (wZ qx qm cI cZ cJ ao r k a y o) H) (hD : va_D A (wZ qx qm cI cZ cJ ao r k a y o)) (hS : va_S A s.heap H locs) (ls : Array Slot) (hl : lv_has ls 7 [(4, .int (nI i)), (3, .ref ao), (2, .ref (qm 0)), (1, .ref (qx 17)), (0, .ref b)]) (hend : ∀ (r : RS) (k : CS) (a : AS) (y : MS) (o : OS), Rel r k a y → ∀ (H : Heap) (locs : List Loc), va_P (dC, dI) vwCl (wZ qx qm cI cZ cJ ao r k a y o) H → va_D A (wZ qx qm cI cZ cJ ao r k a y o) → va_S A s.heap H locs → ∀ ls : Array Slot, lv_has ls 7 [(4, .int (nI i)), (3, .ref ao), (2, .ref (qm 0)), (1, .ref (qx 17)), (0, .ref b)] → W p l e room_1 s m #[Value.ref b] below meth c H locs (ce + 1) (sl + 6) (lw_Z below #[Value.ref b] s) (F0 m 1190 ls [])) : W p l e room_1 s m #[Value.ref b] below meth c H locs (ce) (sl) (lw_Z below #[Value.ref b] s) (F0 m 756 ls []) := by
  obtain ⟨hx, hb, hr, hml, hown, hts0, hX, hbl, hlocks, hgv⟩ := id C0
  have hown : s.vm.findClass "ScanRowsLaw" = some m.cls := hown
  have hts : ∀ w ∈ ALLG, w.before #[Value.ref b] s = true := fun w h => hts0 w (List.mem_filter.mp h).1
  have b_n : r.n ≤ 32 := hR.1.1.1
  have b_c : r.c ≤ 8 := hR.1.1.2.1
  have b_p : r.p ≤ r.n := hR.1.1.2.2.1
  have k_n : k.n ≤ 20 := hR.1.2.1.1
  have hB : RB r := hR.1.1
  have hM : MB y := hR.2.1
  have hmo : mono y := Rel_mono hR
  have hC : RC r := PI_RC hR.2.2.1
  have e_n : y.n = r.n := hR.2.2.2.2.1.1
  have e_c : y.c = r.c := hR.2.2.2.2.1.2.1
  have e_p : y.p = r.p := hR.2.2.2.2.1.2.2.1
  have e_vb : y.vb = r.vb := hR.2.2.2.2.1.2.2.2.1
  have e_fl : y.fl = r.fl := hR.2.2.2.2.1.2.2.2.2.2.2.2.1
  have e_st : y.st = r.st := hR.2.2.2.2.1.2.2.2.2.2.2.2.2.2
  have e_k : toK y = k := hR.2.2.2.2.2.1
  have e_cn : y.cn = k.n := congrArg CS.n e_k
  have e_co : y.co = a.co := hR.2.2.2.2.2.2.2.1
  have a_co : a.co < 16 := hR.1.2.2.2.1
  have e_sa : y.sa = a.st := hR.2.2.2.2.2.2.1
  rcases hc_cs (xs (i + 1)) b_n with h1 | ⟨ix, h1, e1⟩
  · refine lv_aload_n hx hb dL_law_756 rfl (lv_at hl 3 rfl) ?_
    refine lv_aload_n hx hb dL_law_757 rfl (lv_at hl 4 rfl) ?_
    refine lv_iload hx hb dL_law_758 (lv_at hl 0 rfl) ?_
    refine lv_iconst (v := nI 1) hx hb dL_law_760 (by decide) ?_
    refine xn_add hx hb dL_law_761 ?_
    refine va_sld hx hb hX hbl hbA hS (vp_in_nI (show i + 1 < L by omega) (by omega)) dL_law_762 ?_
    refine xt_i (show xs (nI (i + 1)).toNatClampNeg = (xs (i + 1)) from (congrArg xs (nI_clamp (by omega))).trans (rfl)) ?_
    refine lv_aload_n hx hb dL_law_763 rfl (lv_at hl 1 rfl) ?_
    refine xw_Si (As := [.ref (qx 17), .int (xs (i + 1)), .ref ao]) (wr := wM qm cI cZ y) ⟨hx, hb, hml, hown, hts⟩ (hx_value l hl0 dC dI qx cI cZ cJ ao H.size r k a o tN _ h1) (vx_cwSW 3 hts (gSW tw_425 tw_426 tw_0 tw_427) rfl rfl rfl (by decide +kernel) ⟨Nat.le_of_ble_eq_true rfl, Nat.le_of_ble_eq_true rfl⟩) rfl hl.1 rfl (Nat.le_of_ble_eq_true rfl) dL_law_764 ⟨by show ce + 1 ≤ 1072; omega, by show sl + 6 ≤ 9025; omega⟩ hP hD hK hS hA [0, 1, 2, 3, 4, 5, 6, 7, 8, 9, 10, 11, 12, 13, 14, 15, 16, 17, 32] [18, 19, 20, 21, 22, 23, 24, 25, 26, 27, 28, 29, 30, 31] rfl rfl (by decide) (by decide) (by decide) [0, 1, 2] rfl (eX_W _ _) (eX_kn hE hS (va_free (wc := wH qx cI cZ cJ ao r k a o) hD hS hA [0, 1, 2, 3, 4, 5, 6, 7, 8, 9, 10, 11, 12, 13, 14, 15, 16, 17, 32] rfl)) (fun r_1 u_2 H locs w_3 hP hD hS => ?_)
    obtain ⟨rfl, rfl⟩ := w_3
    have hP : va_P (dC, dI) vwCl (wZ qx qm cI cZ cJ ao r k a y o) H := hP.sub [14, 15, 16, 17, 18, 19, 20, 21, 22, 23, 24, 25, 26, 27, 28, 29, 30, 31, 0, 1, 2, 3, 4, 5, 6, 7, 8, 9, 10, 11, 12, 13, 32] rfl
    have hD : va_D A (wZ qx qm cI cZ cJ ao r k a y o) := hD.sub [14, 15, 16, 17, 18, 19, 20, 21, 22, 23, 24, 25, 26, 27, 28, 29, 30, 31, 0, 1, 2, 3, 4, 5, 6, 7, 8, 9, 10, 11, 12, 13, 32] (by decide) rfl
    refine lv_istore (lv' := [(5, .int (nI 1)), (4, .int (nI i)), (3, .ref ao), (2, .ref (qm 0)), (1, .ref (qx 17)), (0, .ref b)]) hx hb dL_law_767 hl (by decide) rfl (fun ls hl => ?_)
    refine lv_aload_n hx hb dL_law_769 rfl (lv_at hl 3 rfl) ?_
    refine lv_aload_n hx hb dL_law_770 rfl (lv_at hl 5 rfl) ?_
    refine lv_iload hx hb dL_law_771 (lv_at hl 1 rfl) ?_
    refine lv_iconst (v := nI 1) hx hb dL_law_773 (by decide) ?_
    refine xn_add hx hb dL_law_774 ?_
    refine va_sld hx hb hX hbl hbA hS (vp_in_nI (show i + 1 < L by omega) (by omega)) dL_law_775 ?_
    refine xt_i (show xs (nI (i + 1)).toNatClampNeg = (xs (i + 1)) from (congrArg xs (nI_clamp (by omega))).trans (rfl)) ?_
    refine xc_Vi (As := [.int (xs (i + 1))]) (wr := wX qx cI cZ r k a ++ wO cJ ao o) ⟨hx, hb, hml, hown, hts⟩ (c_M_value1 l dC dI qm cI cZ H.size y _ (by rw [e_n]; exact h1)) (cwV 1 hts (gV tw_715 tw_716 tw_717 tw_5 tw_718) rfl rfl rfl (by decide +kernel) ⟨Nat.le_of_ble_eq_true rfl, Nat.le_of_ble_eq_true rfl⟩) rfl hl.1 rfl (Nat.le_of_ble_eq_true rfl) dL_law_776 ⟨by show _ ≤ 1072; omega, by show _ ≤ 9025; omega⟩ hP hD hK hS hA [18, 19, 20, 21, 22, 23, 24, 25, 26, 27, 28, 29, 30, 31] [0, 1, 2, 3, 4, 5, 6, 7, 8, 9, 10, 11, 12, 13, 14, 15, 16, 17, 32] rfl rfl (by decide) (by decide) (by decide) [0, 1] rfl (q0 := 0) rfl rfl rfl eT_M (trivial) (fun r_4 u_5 H locs w_6 hP hD hS => ?_)
    obtain ⟨rfl, rfl⟩ := w_6
    have hP : va_P (dC, dI) vwCl (wZ qx qm cI cZ cJ ao r k a (MS.s_th y 1) o) H := hP.sub [0, 1, 2, 3, 4, 5, 6, 7, 8, 9, 10, 11, 12, 13, 14, 15, 16, 17, 19, 20, 21, 22, 23, 24, 25, 26, 27, 28, 29, 30, 31, 32, 18] rfl
    have hD : va_D A (wZ qx qm cI cZ cJ ao r k a (MS.s_th y 1) o) := hD.sub [0, 1, 2, 3, 4, 5, 6, 7, 8, 9, 10, 11, 12, 13, 14, 15, 16, 17, 19, 20, 21, 22, 23, 24, 25, 26, 27, 28, 29, 30, 31, 32, 18] (by decide) rfl
    refine lv_istore (lv' := [(6, .int (nI 0)), (5, .int (nI 1)), (4, .int (nI i)), (3, .ref ao), (2, .ref (qm 0)), (1, .ref (qx 17)), (0, .ref b)]) hx hb dL_law_779 hl (by decide) rfl (fun ls hl => ?_)
    refine lv_aload_n hx hb dL_law_781 rfl (lv_at hl 4 rfl) ?_
    refine xc_Vi (As := []) (wr := wX qx cI cZ r k a ++ wO cJ ao o) ⟨hx, hb, hml, hown, hts⟩ (c_ScanRowsModel_thrown l dC dI qm cI cZ H.size (MS.s_th y 1)) (cwV 0 hts (gV tw_642 tw_643 tw_644 tw_5 tw_645) rfl rfl rfl (by decide +kernel) ⟨Nat.le_of_ble_eq_true rfl, Nat.le_of_ble_eq_true rfl⟩) rfl hl.1 rfl (Nat.le_of_ble_eq_true rfl) dL_law_782 ⟨by show _ ≤ 1072; omega, by show _ ≤ 9025; omega⟩ hP hD hK hS hA [18, 19, 20, 21, 22, 23, 24, 25, 26, 27, 28, 29, 30, 31] [0, 1, 2, 3, 4, 5, 6, 7, 8, 9, 10, 11, 12, 13, 14, 15, 16, 17, 32] rfl rfl (by decide) (by decide) (by decide) [0, 1] rfl (q0 := 0) rfl rfl rfl eT_M (trivial) (fun r_7 u_8 H locs w_9 hP hD hS => ?_)
    obtain rfl := w_9
    have hP : va_P (dC, dI) vwCl (wZ qx qm cI cZ cJ ao r k a (MS.s_th y 1) o) H := hP.sub [0, 1, 2, 3, 4, 5, 6, 7, 8, 9, 10, 11, 12, 13, 14, 15, 16, 17, 19, 20, 21, 22, 23, 24, 25, 26, 27, 28, 29, 30, 31, 32, 18] rfl
    have hD : va_D A (wZ qx qm cI cZ cJ ao r k a (MS.s_th y 1) o) := hD.sub [0, 1, 2, 3, 4, 5, 6, 7, 8, 9, 10, 11, 12, 13, 14, 15, 16, 17, 19, 20, 21, 22, 23, 24, 25, 26, 27, 28, 29, 30, 31, 32, 18] (by decide) rfl
    refine xt_i (show nI (MS.th (MS.s_th y 1)) = nI 1 from congrArg nI (rfl)) ?_
    refine lv_iload hx hb dL_law_785 (lv_at hl 1 rfl) ?_
    refine xn_ceq (tgt := 792) hx hb (by omega) (by omega) dL_law_787 (by decide) (fun c_10 => ?_) (fun c_10 => ?_)
    · refine lv_iload hx hb dL_law_792 (lv_at hl 1 rfl) ?_
      refine xn_zne (tgt := 809) hx hb (by omega) dL_law_794 (by decide) (fun c_11 => ?_) (fun c_11 => ?_)
      · refine lv_goto (tgt := 1190) hx hb dL_law_809 (by decide) ?_
        refine W.widen (k := ce + 1) (n := sl + 6) (by omega) (by omega) ?_
        exact hend r k a (MS.s_th y 1) o (Rel_th hR 1) H locs hP hD hS ls (lv_sub hl [2, 3, 4, 5, 6] rfl)
        
      · exact absurd (show False by omega) id
    · exact absurd (show False by omega) id
  · refine lv_aload_n hx hb dL_law_756 rfl (lv_at hl 3 rfl) ?_
    refine lv_aload_n hx hb dL_law_757 rfl (lv_at hl 4 rfl) ?_
    refine lv_iload hx hb dL_law_758 (lv_at hl 0 rfl) ?_
    refine lv_iconst (v := nI 1) hx hb dL_law_760 (by decide) ?_
    refine xn_add hx hb dL_law_761 ?_
    refine va_sld hx hb hX hbl hbA hS (vp_in_nI (show i + 1 < L by omega) (by omega)) dL_law_762 ?_
    refine xt_i (show xs (nI (i + 1)).toNatClampNeg = nI ix from (congrArg xs (nI_clamp (by omega))).trans (e1)) ?_
    refine lv_aload_n hx hb dL_law_763 rfl (lv_at hl 1 rfl) ?_
    refine xw_Si (As := [.ref (qx 17), .int (nI ix), .ref ao]) (wr := wM qm cI cZ y) ⟨hx, hb, hml, hown, hts⟩ (h_value l dC dI qx cI cZ cJ ao H.size r k a o ix hB h1) (vx_cwSW 3 hts (gSW tw_425 tw_426 tw_0 tw_427) rfl rfl rfl (by decide +kernel) ⟨Nat.le_of_ble_eq_true rfl, Nat.le_of_ble_eq_true rfl⟩) rfl hl.1 rfl (Nat.le_of_ble_eq_true rfl) dL_law_764 ⟨by show ce + 0 ≤ 1072; omega, by show sl + 0 ≤ 9025; omega⟩ hP hD hK hS hA [0, 1, 2, 3, 4, 5, 6, 7, 8, 9, 10, 11, 12, 13, 14, 15, 16, 17, 32] [18, 19, 20, 21, 22, 23, 24, 25, 26, 27, 28, 29, 30, 31] rfl rfl (by decide) (by decide) (by decide) [0, 1, 2] rfl (eW_of eT_M) trivial (fun r_1 u_2 H locs w_3 hP hD hS => ?_)
    obtain ⟨rfl, hu1, hu2⟩ := w_3
    have hP : va_P (dC, dI) vwCl (wZ qx qm cI cZ cJ ao u_2.1.1 u_2.1.2.1 u_2.1.2.2 y u_2.2) H := hP.sub [14, 15, 16, 17, 18, 19, 20, 21, 22, 23, 24, 25, 26, 27, 28, 29, 30, 31, 0, 1, 2, 3, 4, 5, 6, 7, 8, 9, 10, 11, 12, 13, 32] rfl
    have hD : va_D A (wZ qx qm cI cZ cJ ao u_2.1.1 u_2.1.2.1 u_2.1.2.2 y u_2.2) := hD.sub [14, 15, 16, 17, 18, 19, 20, 21, 22, 23, 24, 25, 26, 27, 28, 29, 30, 31, 0, 1, 2, 3, 4, 5, 6, 7, 8, 9, 10, 11, 12, 13, 32] (by decide) rfl
    refine lv_istore (lv' := [(5, .int (nI 0)), (4, .int (nI i)), (3, .ref ao), (2, .ref (qm 0)), (1, .ref (qx 17)), (0, .ref b)]) hx hb dL_law_767 hl (by decide) rfl (fun ls hl => ?_)
    refine lv_aload_n hx hb dL_law_769 rfl (lv_at hl 3 rfl) ?_
    refine lv_aload_n hx hb dL_law_770 rfl (lv_at hl 5 rfl) ?_
    refine lv_iload hx hb dL_law_771 (lv_at hl 1 rfl) ?_
    refine lv_iconst (v := nI 1) hx hb dL_law_773 (by decide) ?_
    refine xn_add hx hb dL_law_774 ?_
    refine va_sld hx hb hX hbl hbA hS (vp_in_nI (show i + 1 < L by omega) (by omega)) dL_law_775 ?_
    refine xt_i (show xs (nI (i + 1)).toNatClampNeg = nI ix from (congrArg xs (nI_clamp (by omega))).trans (e1)) ?_
    refine xc_Vi (As := [.int (nI ix)]) (wr := wX qx cI cZ u_2.1.1 u_2.1.2.1 u_2.1.2.2 ++ wO cJ ao u_2.2) ⟨hx, hb, hml, hown, hts⟩ (c_ScanRowsModel_value l dC dI qm cI cZ H.size y ix hM (by omega)) (cwV 1 hts (gV tw_715 tw_716 tw_717 tw_5 tw_718) rfl rfl rfl (by decide +kernel) ⟨Nat.le_of_ble_eq_true rfl, Nat.le_of_ble_eq_true rfl⟩) rfl hl.1 rfl (Nat.le_of_ble_eq_true rfl) dL_law_776 ⟨by show _ ≤ 1072; omega, by show _ ≤ 9025; omega⟩ hP hD hK hS hA [18, 19, 20, 21, 22, 23, 24, 25, 26, 27, 28, 29, 30, 31] [0, 1, 2, 3, 4, 5, 6, 7, 8, 9, 10, 11, 12, 13, 14, 15, 16, 17, 32] rfl rfl (by decide) (by decide) (by decide) [0, 1] rfl (q0 := 0) rfl rfl rfl eT_M (trivial) (fun r_4 u_5 H locs w_6 hP hD hS => ?_)
    obtain ⟨rfl, rfl⟩ := w_6
    have hP : va_P (dC, dI) vwCl (wZ qx qm cI cZ cJ ao u_2.1.1 u_2.1.2.1 u_2.1.2.2 (MS.s_th y 0) u_2.2) H := hP.sub [0, 1, 2, 3, 4, 5, 6, 7, 8, 9, 10, 11, 12, 13, 14, 15, 16, 17, 19, 20, 21, 22, 23, 24, 25, 26, 27, 28, 29, 30, 31, 32, 18] rfl
    have hD : va_D A (wZ qx qm cI cZ cJ ao u_2.1.1 u_2.1.2.1 u_2.1.2.2 (MS.s_th y 0) u_2.2) := hD.sub [0, 1, 2, 3, 4, 5, 6, 7, 8, 9, 10, 11, 12, 13, 14, 15, 16, 17, 19, 20, 21, 22, 23, 24, 25, 26, 27, 28, 29, 30, 31, 32, 18] (by decide) rfl
    refine lv_istore (lv' := [(6, .int (nI (y.vb ix))), (5, .int (nI 0)), (4, .int (nI i)), (3, .ref ao), (2, .ref (qm 0)), (1, .ref (qx 17)), (0, .ref b)]) hx hb dL_law_779 hl (by decide) rfl (fun ls hl => ?_)
    refine lv_aload_n hx hb dL_law_781 rfl (lv_at hl 4 rfl) ?_
    refine xc_Vi (As := []) (wr := wX qx cI cZ u_2.1.1 u_2.1.2.1 u_2.1.2.2 ++ wO cJ ao u_2.2) ⟨hx, hb, hml, hown, hts⟩ (c_ScanRowsModel_thrown l dC dI qm cI cZ H.size (MS.s_th y 0)) (cwV 0 hts (gV tw_642 tw_643 tw_644 tw_5 tw_645) rfl rfl rfl (by decide +kernel) ⟨Nat.le_of_ble_eq_true rfl, Nat.le_of_ble_eq_true rfl⟩) rfl hl.1 rfl (Nat.le_of_ble_eq_true rfl) dL_law_782 ⟨by show _ ≤ 1072; omega, by show _ ≤ 9025; omega⟩ hP hD hK hS hA [18, 19, 20, 21, 22, 23, 24, 25, 26, 27, 28, 29, 30, 31] [0, 1, 2, 3, 4, 5, 6, 7, 8, 9, 10, 11, 12, 13, 14, 15, 16, 17, 32] rfl rfl (by decide) (by decide) (by decide) [0, 1] rfl (q0 := 0) rfl rfl rfl eT_M (trivial) (fun r_7 u_8 H locs w_9 hP hD hS => ?_)
    obtain rfl := w_9
    have hP : va_P (dC, dI) vwCl (wZ qx qm cI cZ cJ ao u_2.1.1 u_2.1.2.1 u_2.1.2.2 (MS.s_th y 0) u_2.2) H := hP.sub [0, 1, 2, 3, 4, 5, 6, 7, 8, 9, 10, 11, 12, 13, 14, 15, 16, 17, 19, 20, 21, 22, 23, 24, 25, 26, 27, 28, 29, 30, 31, 32, 18] rfl
    have hD : va_D A (wZ qx qm cI cZ cJ ao u_2.1.1 u_2.1.2.1 u_2.1.2.2 (MS.s_th y 0) u_2.2) := hD.sub [0, 1, 2, 3, 4, 5, 6, 7, 8, 9, 10, 11, 12, 13, 14, 15, 16, 17, 19, 20, 21, 22, 23, 24, 25, 26, 27, 28, 29, 30, 31, 32, 18] (by decide) rfl
    refine xt_i (show nI (MS.th (MS.s_th y 0)) = nI 0 from congrArg nI (rfl)) ?_
    refine lv_iload hx hb dL_law_785 (lv_at hl 1 rfl) ?_
    refine xn_ceq (tgt := 792) hx hb (by omega) (by omega) dL_law_787 (by decide) (fun c_10 => ?_) (fun c_10 => ?_)
    · refine lv_iload hx hb dL_law_792 (lv_at hl 1 rfl) ?_
      refine xn_zne (tgt := 809) hx hb (by omega) dL_law_794 (by decide) (fun c_11 => ?_) (fun c_11 => ?_)
      · refine lv_goto (tgt := 1190) hx hb dL_law_809 (by decide) ?_
        refine W.widen (k := ce + 1) (n := sl + 6) (by omega) (by omega) ?_
        exact hend u_2.1.1 u_2.1.2.1 u_2.1.2.2 (MS.s_th y 0) u_2.2 (by rw [hu1]; exact Rel_th hR 0) H locs hP hD hS ls (lv_sub hl [2, 3, 4, 5, 6] rfl)
        
      · refine lv_aload_n hx hb dL_law_797 rfl (lv_at hl 3 rfl) ?_
        refine lv_iconst (v := nI 0) hx hb dL_law_798 (by decide) ?_
        refine va_lald hx hb hK hP 32 2 rfl rfl (vp_in_nI (show 0 < 1 by decide) (by decide)) dL_law_799 ?_
        refine xt_l (show u_2.2 (nI 0).toNatClampNeg = (nI (r.vb ix)).toInt64 from (congrArg u_2.2 (show (nI 0).toNatClampNeg = 0 by decide)).trans hu2) ?_
        refine lv_iload hx hb dL_law_800 (lv_at hl 0 rfl) ?_
        refine lv_i2l hx hb dL_law_802 rfl ?_
        refine W.lcmp hx hb dL_law_803 ?_
        refine xt_i (show (lg_cmp ((nI (r.vb ix)).toInt64) ((nI (y.vb ix)).toInt64)) = nI 0 from lg_eq (by rw [e_vb])) ?_
        refine xn_zeq (tgt := 809) hx hb (by omega) dL_law_804 (by decide) (fun c_12 => ?_) (fun c_12 => ?_)
        · refine lv_goto (tgt := 1190) hx hb dL_law_809 (by decide) ?_
          refine W.widen (k := ce + 1) (n := sl + 6) (by omega) (by omega) ?_
          exact hend u_2.1.1 u_2.1.2.1 u_2.1.2.2 (MS.s_th y 0) u_2.2 (by rw [hu1]; exact Rel_th hR 0) H locs hP hD hS ls (lv_sub hl [2, 3, 4, 5, 6] rfl)
          
        · exact absurd (show False by omega) id
    · exact absurd (show False by omega) id
set_option maxHeartbeats 4000000 in
set_option maxRecDepth 100000 in
theorem op_shift {p : Program} {e : Env} {s : State} {m : MethodId} {below : List Frame} {meth : Method} {c : Code} (l : Launch) (hl0 : l.stackTraces = false) {b L : Nat} {xs : Nat → Int32} (hL : L ≤ 3073) (C0 : lw_At p s m meth c b L xs) (A : Nat → Prop) (hA : ∀ q : Nat, s.heap.size ≤ q → A q) (hbA : ¬ A b) (dC : Nat → ClassId) (dI : Nat → Nat → Nat) (qx qm : Nat → Nat) (cI cZ cJ : ClassId) (ao tN : Nat) (hK : va_K (dC, dI) vwCl [(cI, .int), (cZ, .boolean), (cJ, .long)] s) (hE : eX tN A s s.heap) (i : Nat) (hi : i + 5 < L) (ce sl : Nat) (hce : ce + 1 ≤ 1072) (hsl : sl + 6 ≤ 9025) (r : RS) (k : CS) (a : AS) (y : MS) (o : OS) (hR : Rel r k a y) (H : Heap) (locs : List Loc) (hP : va_P (dC, dI) vwCl (wZ qx qm cI cZ cJ ao r k a y o) H) (hD : va_D A (wZ qx qm cI cZ cJ ao r k a y o)) (hS : va_S A s.heap H locs) (ls : Array Slot) (hl : lv_has ls 7 [(4, .int (nI i)), (3, .ref ao), (2, .ref (qm 0)), (1, .ref (qx 17)), (0, .ref b)]) (hend : ∀ (r : RS) (k : CS) (a : AS) (y : MS) (o : OS), Rel r k a y → ∀ (H : Heap) (locs : List Loc), va_P (dC, dI) vwCl (wZ qx qm cI cZ cJ ao r k a y o) H → va_D A (wZ qx qm cI cZ cJ ao r k a y o) → va_S A s.heap H locs → ∀ ls : Array Slot, lv_has ls 7 [(4, .int (nI i)), (3, .ref ao), (2, .ref (qm 0)), (1, .ref (qx 17)), (0, .ref b)] → W p l e room_1 s m #[Value.ref b] below meth c H locs (ce + 1) (sl + 6) (lw_Z below #[Value.ref b] s) (F0 m 1190 ls [])) : W p l e room_1 s m #[Value.ref b] below meth c H locs (ce) (sl) (lw_Z below #[Value.ref b] s) (F0 m 812 ls []) := by
  obtain ⟨hx, hb, hr, hml, hown, hts0, hX, hbl, hlocks, hgv⟩ := id C0
  have hown : s.vm.findClass "ScanRowsLaw" = some m.cls := hown
  have hts : ∀ w ∈ ALLG, w.before #[Value.ref b] s = true := fun w h => hts0 w (List.mem_filter.mp h).1
  have b_n : r.n ≤ 32 := hR.1.1.1
  have b_c : r.c ≤ 8 := hR.1.1.2.1
  have b_p : r.p ≤ r.n := hR.1.1.2.2.1
  have k_n : k.n ≤ 20 := hR.1.2.1.1
  have hB : RB r := hR.1.1
  have hM : MB y := hR.2.1
  have hmo : mono y := Rel_mono hR
  have hC : RC r := PI_RC hR.2.2.1
  have e_n : y.n = r.n := hR.2.2.2.2.1.1
  have e_c : y.c = r.c := hR.2.2.2.2.1.2.1
  have e_p : y.p = r.p := hR.2.2.2.2.1.2.2.1
  have e_vb : y.vb = r.vb := hR.2.2.2.2.1.2.2.2.1
  have e_fl : y.fl = r.fl := hR.2.2.2.2.1.2.2.2.2.2.2.2.1
  have e_st : y.st = r.st := hR.2.2.2.2.1.2.2.2.2.2.2.2.2.2
  have e_k : toK y = k := hR.2.2.2.2.2.1
  have e_cn : y.cn = k.n := congrArg CS.n e_k
  have e_co : y.co = a.co := hR.2.2.2.2.2.2.2.1
  have a_co : a.co < 16 := hR.1.2.2.2.1
  have e_sa : y.sa = a.st := hR.2.2.2.2.2.2.1
  refine lv_aload_n hx hb dL_law_812 rfl (lv_at hl 3 rfl) ?_
  refine lv_aload_n hx hb dL_law_813 rfl (lv_at hl 4 rfl) ?_
  refine lv_iload hx hb dL_law_814 (lv_at hl 0 rfl) ?_
  refine lv_iconst (v := nI 1) hx hb dL_law_816 (by decide) ?_
  refine xn_add hx hb dL_law_817 ?_
  refine va_sld hx hb hX hbl hbA hS (vp_in_nI (show i + 1 < L by omega) (by omega)) dL_law_818 ?_
  refine xt_i (show xs (nI (i + 1)).toNatClampNeg = (xs (i + 1)) from (congrArg xs (nI_clamp (by omega))).trans (rfl)) ?_
  refine xc_Vi (As := [.int (xs (i + 1))]) (wr := wM qm cI cZ y ++ wO cJ ao o) ⟨hx, hb, hml, hown, hts⟩ (c_ScanRows_shift l dC dI qx cI cZ H.size r k a _ hB) (cwV 1 hts (gV tw_160 tw_161 tw_162 tw_1 tw_163) rfl rfl rfl (by decide +kernel) ⟨Nat.le_of_ble_eq_true rfl, Nat.le_of_ble_eq_true rfl⟩) rfl hl.1 rfl (Nat.le_of_ble_eq_true rfl) dL_law_819 ⟨by show _ ≤ 1072; omega, by show _ ≤ 9025; omega⟩ hP hD hK hS hA [0, 1, 2, 3, 4, 5, 6, 7, 8, 9, 10, 11, 12, 13, 14, 15, 16, 17] [18, 19, 20, 21, 22, 23, 24, 25, 26, 27, 28, 29, 30, 31, 32] rfl rfl (by decide) (by decide) (by decide) [0, 1] rfl (q0 := 17) rfl rfl rfl eT_M (trivial) (fun r_1 u_2 H locs w_3 hP hD hS => ?_)
  obtain ⟨rfl, rfl⟩ := w_3
  have hP : va_P (dC, dI) vwCl (wZ qx qm cI cZ cJ ao (RS.s_vb r (shC r (xs (i + 1)) r.c).2) k a y o) H := hP.sub [15, 16, 17, 18, 19, 20, 21, 22, 23, 24, 25, 26, 27, 28, 29, 30, 31, 32, 0, 1, 2, 3, 4, 5, 6, 7, 8, 9, 10, 11, 12, 13, 14] rfl
  have hD : va_D A (wZ qx qm cI cZ cJ ao (RS.s_vb r (shC r (xs (i + 1)) r.c).2) k a y o) := hD.sub [15, 16, 17, 18, 19, 20, 21, 22, 23, 24, 25, 26, 27, 28, 29, 30, 31, 32, 0, 1, 2, 3, 4, 5, 6, 7, 8, 9, 10, 11, 12, 13, 14] (by decide) rfl
  refine lv_aload_n hx hb dL_law_822 rfl (lv_at hl 2 rfl) ?_
  refine lv_aload_n hx hb dL_law_823 rfl (lv_at hl 4 rfl) ?_
  refine lv_iload hx hb dL_law_824 (lv_at hl 0 rfl) ?_
  refine lv_iconst (v := nI 1) hx hb dL_law_826 (by decide) ?_
  refine xn_add hx hb dL_law_827 ?_
  refine va_sld hx hb hX hbl hbA hS (vp_in_nI (show i + 1 < L by omega) (by omega)) dL_law_828 ?_
  refine xt_i (show xs (nI (i + 1)).toNatClampNeg = (xs (i + 1)) from (congrArg xs (nI_clamp (by omega))).trans (rfl)) ?_
  refine xc_Vi (As := [.int (xs (i + 1))]) (wr := wX qx cI cZ (RS.s_vb r (shC r (xs (i + 1)) r.c).2) k a ++ wO cJ ao o) ⟨hx, hb, hml, hown, hts⟩ (c_ScanRowsModel_shift l dC dI qm cI cZ H.size y _ hM hmo) (cwV 1 hts (gV tw_719 tw_720 tw_721 tw_5 tw_722) rfl rfl rfl (by decide +kernel) ⟨Nat.le_of_ble_eq_true rfl, Nat.le_of_ble_eq_true rfl⟩) rfl hl.1 rfl (Nat.le_of_ble_eq_true rfl) dL_law_829 ⟨by show _ ≤ 1072; omega, by show _ ≤ 9025; omega⟩ hP hD hK hS hA [18, 19, 20, 21, 22, 23, 24, 25, 26, 27, 28, 29, 30, 31] [0, 1, 2, 3, 4, 5, 6, 7, 8, 9, 10, 11, 12, 13, 14, 15, 16, 17, 32] rfl rfl (by decide) (by decide) (by decide) [0, 1] rfl (q0 := 0) rfl rfl rfl eT_M (trivial) (fun r_4 u_5 H locs w_6 hP hD hS => ?_)
  obtain ⟨rfl, rfl⟩ := w_6
  have hP : va_P (dC, dI) vwCl (wZ qx qm cI cZ cJ ao (RS.s_vb r (shC r (xs (i + 1)) r.c).2) k a (MS.s_vb (MS.s_th y 0) (msC y (xs (i + 1)) y.c).2) o) H := hP.sub [0, 1, 2, 3, 4, 5, 6, 7, 8, 9, 10, 11, 12, 13, 14, 15, 16, 17, 19, 20, 21, 22, 23, 24, 25, 26, 27, 28, 29, 30, 31, 32, 18] rfl
  have hD : va_D A (wZ qx qm cI cZ cJ ao (RS.s_vb r (shC r (xs (i + 1)) r.c).2) k a (MS.s_vb (MS.s_th y 0) (msC y (xs (i + 1)) y.c).2) o) := hD.sub [0, 1, 2, 3, 4, 5, 6, 7, 8, 9, 10, 11, 12, 13, 14, 15, 16, 17, 19, 20, 21, 22, 23, 24, 25, 26, 27, 28, 29, 30, 31, 32, 18] (by decide) rfl
  refine lv_icmp_eq (tgt := 1190) hx hb dL_law_832 (by decide) (fun c_7 => ?_) (fun c_7 => ?_)
  · refine W.widen (k := ce + 1) (n := sl + 6) (by omega) (by omega) ?_
    exact hend (RS.s_vb r (shC r (xs (i + 1)) r.c).2) k a (MS.s_vb (MS.s_th y 0) (msC y (xs (i + 1)) y.c).2) o ((Rel_shift hR (xs (i + 1))).2) H locs hP hD hS ls (lv_sub hl [0, 1, 2, 3, 4] rfl)
    
  · exact absurd (Rel_shift hR (xs (i + 1))).1 c_7
set_option maxHeartbeats 4000000 in
set_option maxRecDepth 100000 in
theorem op_port {p : Program} {e : Env} {s : State} {m : MethodId} {below : List Frame} {meth : Method} {c : Code} (l : Launch) (hl0 : l.stackTraces = false) {b L : Nat} {xs : Nat → Int32} (hL : L ≤ 3073) (C0 : lw_At p s m meth c b L xs) (A : Nat → Prop) (hA : ∀ q : Nat, s.heap.size ≤ q → A q) (hbA : ¬ A b) (dC : Nat → ClassId) (dI : Nat → Nat → Nat) (qx qm : Nat → Nat) (cI cZ cJ : ClassId) (ao tN : Nat) (hK : va_K (dC, dI) vwCl [(cI, .int), (cZ, .boolean), (cJ, .long)] s) (hE : eX tN A s s.heap) (i : Nat) (hi : i + 5 < L) (ce sl : Nat) (hce : ce + 1 ≤ 1072) (hsl : sl + 6 ≤ 9025) (r : RS) (k : CS) (a : AS) (y : MS) (o : OS) (hR : Rel r k a y) (H : Heap) (locs : List Loc) (hP : va_P (dC, dI) vwCl (wZ qx qm cI cZ cJ ao r k a y o) H) (hD : va_D A (wZ qx qm cI cZ cJ ao r k a y o)) (hS : va_S A s.heap H locs) (ls : Array Slot) (hl : lv_has ls 7 [(4, .int (nI i)), (3, .ref ao), (2, .ref (qm 0)), (1, .ref (qx 17)), (0, .ref b)]) (hend : ∀ (r : RS) (k : CS) (a : AS) (y : MS) (o : OS), Rel r k a y → ∀ (H : Heap) (locs : List Loc), va_P (dC, dI) vwCl (wZ qx qm cI cZ cJ ao r k a y o) H → va_D A (wZ qx qm cI cZ cJ ao r k a y o) → va_S A s.heap H locs → ∀ ls : Array Slot, lv_has ls 7 [(4, .int (nI i)), (3, .ref ao), (2, .ref (qm 0)), (1, .ref (qx 17)), (0, .ref b)] → W p l e room_1 s m #[Value.ref b] below meth c H locs (ce + 1) (sl + 6) (lw_Z below #[Value.ref b] s) (F0 m 1190 ls [])) : W p l e room_1 s m #[Value.ref b] below meth c H locs (ce) (sl) (lw_Z below #[Value.ref b] s) (F0 m 837 ls []) := by
  obtain ⟨hx, hb, hr, hml, hown, hts0, hX, hbl, hlocks, hgv⟩ := id C0
  have hown : s.vm.findClass "ScanRowsLaw" = some m.cls := hown
  have hts : ∀ w ∈ ALLG, w.before #[Value.ref b] s = true := fun w h => hts0 w (List.mem_filter.mp h).1
  have b_n : r.n ≤ 32 := hR.1.1.1
  have b_c : r.c ≤ 8 := hR.1.1.2.1
  have b_p : r.p ≤ r.n := hR.1.1.2.2.1
  have k_n : k.n ≤ 20 := hR.1.2.1.1
  have hB : RB r := hR.1.1
  have hM : MB y := hR.2.1
  have hmo : mono y := Rel_mono hR
  have hC : RC r := PI_RC hR.2.2.1
  have e_n : y.n = r.n := hR.2.2.2.2.1.1
  have e_c : y.c = r.c := hR.2.2.2.2.1.2.1
  have e_p : y.p = r.p := hR.2.2.2.2.1.2.2.1
  have e_vb : y.vb = r.vb := hR.2.2.2.2.1.2.2.2.1
  have e_fl : y.fl = r.fl := hR.2.2.2.2.1.2.2.2.2.2.2.2.1
  have e_st : y.st = r.st := hR.2.2.2.2.1.2.2.2.2.2.2.2.2.2
  have e_k : toK y = k := hR.2.2.2.2.2.1
  have e_cn : y.cn = k.n := congrArg CS.n e_k
  have e_co : y.co = a.co := hR.2.2.2.2.2.2.2.1
  have a_co : a.co < 16 := hR.1.2.2.2.1
  have e_sa : y.sa = a.st := hR.2.2.2.2.2.2.1
  rcases po_cs (xs (i + 1)) k_n with h1 | ⟨h1, h2⟩ | ⟨h1, kd, h2, e1⟩
  · refine lv_aload_n hx hb dL_law_837 rfl (lv_at hl 3 rfl) ?_
    refine lv_aload_n hx hb dL_law_838 rfl (lv_at hl 4 rfl) ?_
    refine lv_iload hx hb dL_law_839 (lv_at hl 0 rfl) ?_
    refine lv_iconst (v := nI 1) hx hb dL_law_841 (by decide) ?_
    refine xn_add hx hb dL_law_842 ?_
    refine va_sld hx hb hX hbl hbA hS (vp_in_nI (show i + 1 < L by omega) (by omega)) dL_law_843 ?_
    refine xt_i (show xs (nI (i + 1)).toNatClampNeg = (xs (i + 1)) from (congrArg xs (nI_clamp (by omega))).trans (rfl)) ?_
    refine lv_aload_n hx hb dL_law_844 rfl (lv_at hl 1 rfl) ?_
    refine xw_Si (As := [.ref (qx 17), .int (xs (i + 1)), .ref ao]) (wr := wM qm cI cZ y) ⟨hx, hb, hml, hown, hts⟩ (hx_port1 l hl0 dC dI qx cI cZ cJ ao H.size r k a o tN _ h1) (vx_cwSW 3 hts (gSW tw_432 tw_433 tw_0 tw_434) rfl rfl rfl (by decide +kernel) ⟨Nat.le_of_ble_eq_true rfl, Nat.le_of_ble_eq_true rfl⟩) rfl hl.1 rfl (Nat.le_of_ble_eq_true rfl) dL_law_845 ⟨by show ce + 1 ≤ 1072; omega, by show sl + 6 ≤ 9025; omega⟩ hP hD hK hS hA [0, 1, 2, 3, 4, 5, 6, 7, 8, 9, 10, 11, 12, 13, 14, 15, 16, 17, 32] [18, 19, 20, 21, 22, 23, 24, 25, 26, 27, 28, 29, 30, 31] rfl rfl (by decide) (by decide) (by decide) [0, 1, 2] rfl (eX_W _ _) (eX_kn hE hS (va_free (wc := wH qx cI cZ cJ ao r k a o) hD hS hA [0, 1, 2, 3, 4, 5, 6, 7, 8, 9, 10, 11, 12, 13, 14, 15, 16, 17, 32] rfl)) (fun r_1 u_2 H locs w_3 hP hD hS => ?_)
    obtain ⟨rfl, rfl⟩ := w_3
    have hP : va_P (dC, dI) vwCl (wZ qx qm cI cZ cJ ao r k a y o) H := hP.sub [14, 15, 16, 17, 18, 19, 20, 21, 22, 23, 24, 25, 26, 27, 28, 29, 30, 31, 0, 1, 2, 3, 4, 5, 6, 7, 8, 9, 10, 11, 12, 13, 32] rfl
    have hD : va_D A (wZ qx qm cI cZ cJ ao r k a y o) := hD.sub [14, 15, 16, 17, 18, 19, 20, 21, 22, 23, 24, 25, 26, 27, 28, 29, 30, 31, 0, 1, 2, 3, 4, 5, 6, 7, 8, 9, 10, 11, 12, 13, 32] (by decide) rfl
    refine lv_istore (lv' := [(5, .int (nI 1)), (4, .int (nI i)), (3, .ref ao), (2, .ref (qm 0)), (1, .ref (qx 17)), (0, .ref b)]) hx hb dL_law_848 hl (by decide) rfl (fun ls hl => ?_)
    refine lv_aload_n hx hb dL_law_850 rfl (lv_at hl 3 rfl) ?_
    refine lv_aload_n hx hb dL_law_851 rfl (lv_at hl 5 rfl) ?_
    refine lv_iload hx hb dL_law_852 (lv_at hl 1 rfl) ?_
    refine lv_iconst (v := nI 1) hx hb dL_law_854 (by decide) ?_
    refine xn_add hx hb dL_law_855 ?_
    refine va_sld hx hb hX hbl hbA hS (vp_in_nI (show i + 1 < L by omega) (by omega)) dL_law_856 ?_
    refine xt_i (show xs (nI (i + 1)).toNatClampNeg = (xs (i + 1)) from (congrArg xs (nI_clamp (by omega))).trans (rfl)) ?_
    refine xc_Vi (As := [.int (xs (i + 1))]) (wr := wX qx cI cZ r k a ++ wO cJ ao o) ⟨hx, hb, hml, hown, hts⟩ (c_M_port1 l dC dI qm cI cZ H.size y _ (by omega)) (cwV 1 hts (gV tw_727 tw_728 tw_729 tw_5 tw_730) rfl rfl rfl (by decide +kernel) ⟨Nat.le_of_ble_eq_true rfl, Nat.le_of_ble_eq_true rfl⟩) rfl hl.1 rfl (Nat.le_of_ble_eq_true rfl) dL_law_857 ⟨by show _ ≤ 1072; omega, by show _ ≤ 9025; omega⟩ hP hD hK hS hA [18, 19, 20, 21, 22, 23, 24, 25, 26, 27, 28, 29, 30, 31] [0, 1, 2, 3, 4, 5, 6, 7, 8, 9, 10, 11, 12, 13, 14, 15, 16, 17, 32] rfl rfl (by decide) (by decide) (by decide) [0, 1] rfl (q0 := 0) rfl rfl rfl eT_M (trivial) (fun r_4 u_5 H locs w_6 hP hD hS => ?_)
    obtain ⟨rfl, rfl⟩ := w_6
    have hP : va_P (dC, dI) vwCl (wZ qx qm cI cZ cJ ao r k a (MS.s_th y 1) o) H := hP.sub [0, 1, 2, 3, 4, 5, 6, 7, 8, 9, 10, 11, 12, 13, 14, 15, 16, 17, 19, 20, 21, 22, 23, 24, 25, 26, 27, 28, 29, 30, 31, 32, 18] rfl
    have hD : va_D A (wZ qx qm cI cZ cJ ao r k a (MS.s_th y 1) o) := hD.sub [0, 1, 2, 3, 4, 5, 6, 7, 8, 9, 10, 11, 12, 13, 14, 15, 16, 17, 19, 20, 21, 22, 23, 24, 25, 26, 27, 28, 29, 30, 31, 32, 18] (by decide) rfl
    refine lv_istore (lv' := [(6, .int (nI 0)), (5, .int (nI 1)), (4, .int (nI i)), (3, .ref ao), (2, .ref (qm 0)), (1, .ref (qx 17)), (0, .ref b)]) hx hb dL_law_860 hl (by decide) rfl (fun ls hl => ?_)
    refine lv_aload_n hx hb dL_law_862 rfl (lv_at hl 4 rfl) ?_
    refine xc_Vi (As := []) (wr := wX qx cI cZ r k a ++ wO cJ ao o) ⟨hx, hb, hml, hown, hts⟩ (c_ScanRowsModel_thrown l dC dI qm cI cZ H.size (MS.s_th y 1)) (cwV 0 hts (gV tw_642 tw_643 tw_644 tw_5 tw_645) rfl rfl rfl (by decide +kernel) ⟨Nat.le_of_ble_eq_true rfl, Nat.le_of_ble_eq_true rfl⟩) rfl hl.1 rfl (Nat.le_of_ble_eq_true rfl) dL_law_863 ⟨by show _ ≤ 1072; omega, by show _ ≤ 9025; omega⟩ hP hD hK hS hA [18, 19, 20, 21, 22, 23, 24, 25, 26, 27, 28, 29, 30, 31] [0, 1, 2, 3, 4, 5, 6, 7, 8, 9, 10, 11, 12, 13, 14, 15, 16, 17, 32] rfl rfl (by decide) (by decide) (by decide) [0, 1] rfl (q0 := 0) rfl rfl rfl eT_M (trivial) (fun r_7 u_8 H locs w_9 hP hD hS => ?_)
    obtain rfl := w_9
    have hP : va_P (dC, dI) vwCl (wZ qx qm cI cZ cJ ao r k a (MS.s_th y 1) o) H := hP.sub [0, 1, 2, 3, 4, 5, 6, 7, 8, 9, 10, 11, 12, 13, 14, 15, 16, 17, 19, 20, 21, 22, 23, 24, 25, 26, 27, 28, 29, 30, 31, 32, 18] rfl
    have hD : va_D A (wZ qx qm cI cZ cJ ao r k a (MS.s_th y 1) o) := hD.sub [0, 1, 2, 3, 4, 5, 6, 7, 8, 9, 10, 11, 12, 13, 14, 15, 16, 17, 19, 20, 21, 22, 23, 24, 25, 26, 27, 28, 29, 30, 31, 32, 18] (by decide) rfl
    refine xt_i (show nI (MS.th (MS.s_th y 1)) = nI 1 from congrArg nI (rfl)) ?_
    refine lv_iload hx hb dL_law_866 (lv_at hl 1 rfl) ?_
    refine xn_ceq (tgt := 873) hx hb (by omega) (by omega) dL_law_868 (by decide) (fun c_10 => ?_) (fun c_10 => ?_)
    · refine lv_iload hx hb dL_law_873 (lv_at hl 1 rfl) ?_
      refine xn_zne (tgt := 890) hx hb (by omega) dL_law_875 (by decide) (fun c_11 => ?_) (fun c_11 => ?_)
      · refine lv_goto (tgt := 1190) hx hb dL_law_890 (by decide) ?_
        refine W.widen (k := ce + 1) (n := sl + 6) (by omega) (by omega) ?_
        exact hend r k a (MS.s_th y 1) o (Rel_th hR 1) H locs hP hD hS ls (lv_sub hl [2, 3, 4, 5, 6] rfl)
        
      · exact absurd (show False by omega) id
    · exact absurd (show False by omega) id
  · refine lv_aload_n hx hb dL_law_837 rfl (lv_at hl 3 rfl) ?_
    refine lv_aload_n hx hb dL_law_838 rfl (lv_at hl 4 rfl) ?_
    refine lv_iload hx hb dL_law_839 (lv_at hl 0 rfl) ?_
    refine lv_iconst (v := nI 1) hx hb dL_law_841 (by decide) ?_
    refine xn_add hx hb dL_law_842 ?_
    refine va_sld hx hb hX hbl hbA hS (vp_in_nI (show i + 1 < L by omega) (by omega)) dL_law_843 ?_
    refine xt_i (show xs (nI (i + 1)).toNatClampNeg = (xs (i + 1)) from (congrArg xs (nI_clamp (by omega))).trans (rfl)) ?_
    refine lv_aload_n hx hb dL_law_844 rfl (lv_at hl 1 rfl) ?_
    refine xw_Si (As := [.ref (qx 17), .int (xs (i + 1)), .ref ao]) (wr := wM qm cI cZ y) ⟨hx, hb, hml, hown, hts⟩ (hx_port2 l hl0 dC dI qx cI cZ cJ ao H.size r k a o tN _ h1 h2) (vx_cwSW 3 hts (gSW tw_432 tw_433 tw_0 tw_434) rfl rfl rfl (by decide +kernel) ⟨Nat.le_of_ble_eq_true rfl, Nat.le_of_ble_eq_true rfl⟩) rfl hl.1 rfl (Nat.le_of_ble_eq_true rfl) dL_law_845 ⟨by show ce + 1 ≤ 1072; omega, by show sl + 6 ≤ 9025; omega⟩ hP hD hK hS hA [0, 1, 2, 3, 4, 5, 6, 7, 8, 9, 10, 11, 12, 13, 14, 15, 16, 17, 32] [18, 19, 20, 21, 22, 23, 24, 25, 26, 27, 28, 29, 30, 31] rfl rfl (by decide) (by decide) (by decide) [0, 1, 2] rfl (eX_W _ _) (eX_kn hE hS (va_free (wc := wH qx cI cZ cJ ao r k a o) hD hS hA [0, 1, 2, 3, 4, 5, 6, 7, 8, 9, 10, 11, 12, 13, 14, 15, 16, 17, 32] rfl)) (fun r_1 u_2 H locs w_3 hP hD hS => ?_)
    obtain ⟨rfl, rfl⟩ := w_3
    have hP : va_P (dC, dI) vwCl (wZ qx qm cI cZ cJ ao r k a y o) H := hP.sub [14, 15, 16, 17, 18, 19, 20, 21, 22, 23, 24, 25, 26, 27, 28, 29, 30, 31, 0, 1, 2, 3, 4, 5, 6, 7, 8, 9, 10, 11, 12, 13, 32] rfl
    have hD : va_D A (wZ qx qm cI cZ cJ ao r k a y o) := hD.sub [14, 15, 16, 17, 18, 19, 20, 21, 22, 23, 24, 25, 26, 27, 28, 29, 30, 31, 0, 1, 2, 3, 4, 5, 6, 7, 8, 9, 10, 11, 12, 13, 32] (by decide) rfl
    refine lv_istore (lv' := [(5, .int (nI 2)), (4, .int (nI i)), (3, .ref ao), (2, .ref (qm 0)), (1, .ref (qx 17)), (0, .ref b)]) hx hb dL_law_848 hl (by decide) rfl (fun ls hl => ?_)
    refine lv_aload_n hx hb dL_law_850 rfl (lv_at hl 3 rfl) ?_
    refine lv_aload_n hx hb dL_law_851 rfl (lv_at hl 5 rfl) ?_
    refine lv_iload hx hb dL_law_852 (lv_at hl 1 rfl) ?_
    refine lv_iconst (v := nI 1) hx hb dL_law_854 (by decide) ?_
    refine xn_add hx hb dL_law_855 ?_
    refine va_sld hx hb hX hbl hbA hS (vp_in_nI (show i + 1 < L by omega) (by omega)) dL_law_856 ?_
    refine xt_i (show xs (nI (i + 1)).toNatClampNeg = (xs (i + 1)) from (congrArg xs (nI_clamp (by omega))).trans (rfl)) ?_
    refine xc_Vi (As := [.int (xs (i + 1))]) (wr := wX qx cI cZ r k a ++ wO cJ ao o) ⟨hx, hb, hml, hown, hts⟩ (c_M_port2 l dC dI qm cI cZ H.size y _ (by omega) h2) (cwV 1 hts (gV tw_727 tw_728 tw_729 tw_5 tw_730) rfl rfl rfl (by decide +kernel) ⟨Nat.le_of_ble_eq_true rfl, Nat.le_of_ble_eq_true rfl⟩) rfl hl.1 rfl (Nat.le_of_ble_eq_true rfl) dL_law_857 ⟨by show _ ≤ 1072; omega, by show _ ≤ 9025; omega⟩ hP hD hK hS hA [18, 19, 20, 21, 22, 23, 24, 25, 26, 27, 28, 29, 30, 31] [0, 1, 2, 3, 4, 5, 6, 7, 8, 9, 10, 11, 12, 13, 14, 15, 16, 17, 32] rfl rfl (by decide) (by decide) (by decide) [0, 1] rfl (q0 := 0) rfl rfl rfl eT_M (trivial) (fun r_4 u_5 H locs w_6 hP hD hS => ?_)
    obtain ⟨rfl, rfl⟩ := w_6
    have hP : va_P (dC, dI) vwCl (wZ qx qm cI cZ cJ ao r k a (MS.s_th y 2) o) H := hP.sub [0, 1, 2, 3, 4, 5, 6, 7, 8, 9, 10, 11, 12, 13, 14, 15, 16, 17, 19, 20, 21, 22, 23, 24, 25, 26, 27, 28, 29, 30, 31, 32, 18] rfl
    have hD : va_D A (wZ qx qm cI cZ cJ ao r k a (MS.s_th y 2) o) := hD.sub [0, 1, 2, 3, 4, 5, 6, 7, 8, 9, 10, 11, 12, 13, 14, 15, 16, 17, 19, 20, 21, 22, 23, 24, 25, 26, 27, 28, 29, 30, 31, 32, 18] (by decide) rfl
    refine lv_istore (lv' := [(6, .int (nI 0)), (5, .int (nI 2)), (4, .int (nI i)), (3, .ref ao), (2, .ref (qm 0)), (1, .ref (qx 17)), (0, .ref b)]) hx hb dL_law_860 hl (by decide) rfl (fun ls hl => ?_)
    refine lv_aload_n hx hb dL_law_862 rfl (lv_at hl 4 rfl) ?_
    refine xc_Vi (As := []) (wr := wX qx cI cZ r k a ++ wO cJ ao o) ⟨hx, hb, hml, hown, hts⟩ (c_ScanRowsModel_thrown l dC dI qm cI cZ H.size (MS.s_th y 2)) (cwV 0 hts (gV tw_642 tw_643 tw_644 tw_5 tw_645) rfl rfl rfl (by decide +kernel) ⟨Nat.le_of_ble_eq_true rfl, Nat.le_of_ble_eq_true rfl⟩) rfl hl.1 rfl (Nat.le_of_ble_eq_true rfl) dL_law_863 ⟨by show _ ≤ 1072; omega, by show _ ≤ 9025; omega⟩ hP hD hK hS hA [18, 19, 20, 21, 22, 23, 24, 25, 26, 27, 28, 29, 30, 31] [0, 1, 2, 3, 4, 5, 6, 7, 8, 9, 10, 11, 12, 13, 14, 15, 16, 17, 32] rfl rfl (by decide) (by decide) (by decide) [0, 1] rfl (q0 := 0) rfl rfl rfl eT_M (trivial) (fun r_7 u_8 H locs w_9 hP hD hS => ?_)
    obtain rfl := w_9
    have hP : va_P (dC, dI) vwCl (wZ qx qm cI cZ cJ ao r k a (MS.s_th y 2) o) H := hP.sub [0, 1, 2, 3, 4, 5, 6, 7, 8, 9, 10, 11, 12, 13, 14, 15, 16, 17, 19, 20, 21, 22, 23, 24, 25, 26, 27, 28, 29, 30, 31, 32, 18] rfl
    have hD : va_D A (wZ qx qm cI cZ cJ ao r k a (MS.s_th y 2) o) := hD.sub [0, 1, 2, 3, 4, 5, 6, 7, 8, 9, 10, 11, 12, 13, 14, 15, 16, 17, 19, 20, 21, 22, 23, 24, 25, 26, 27, 28, 29, 30, 31, 32, 18] (by decide) rfl
    refine xt_i (show nI (MS.th (MS.s_th y 2)) = nI 2 from congrArg nI (rfl)) ?_
    refine lv_iload hx hb dL_law_866 (lv_at hl 1 rfl) ?_
    refine xn_ceq (tgt := 873) hx hb (by omega) (by omega) dL_law_868 (by decide) (fun c_10 => ?_) (fun c_10 => ?_)
    · refine lv_iload hx hb dL_law_873 (lv_at hl 1 rfl) ?_
      refine xn_zne (tgt := 890) hx hb (by omega) dL_law_875 (by decide) (fun c_11 => ?_) (fun c_11 => ?_)
      · refine lv_goto (tgt := 1190) hx hb dL_law_890 (by decide) ?_
        refine W.widen (k := ce + 1) (n := sl + 6) (by omega) (by omega) ?_
        exact hend r k a (MS.s_th y 2) o (Rel_th hR 2) H locs hP hD hS ls (lv_sub hl [2, 3, 4, 5, 6] rfl)
        
      · exact absurd (show False by omega) id
    · exact absurd (show False by omega) id
  · refine lv_aload_n hx hb dL_law_837 rfl (lv_at hl 3 rfl) ?_
    refine lv_aload_n hx hb dL_law_838 rfl (lv_at hl 4 rfl) ?_
    refine lv_iload hx hb dL_law_839 (lv_at hl 0 rfl) ?_
    refine lv_iconst (v := nI 1) hx hb dL_law_841 (by decide) ?_
    refine xn_add hx hb dL_law_842 ?_
    refine va_sld hx hb hX hbl hbA hS (vp_in_nI (show i + 1 < L by omega) (by omega)) dL_law_843 ?_
    refine xt_i (show xs (nI (i + 1)).toNatClampNeg = nI kd from (congrArg xs (nI_clamp (by omega))).trans (e1)) ?_
    refine lv_aload_n hx hb dL_law_844 rfl (lv_at hl 1 rfl) ?_
    refine xw_Si (As := [.ref (qx 17), .int (nI kd), .ref ao]) (wr := wM qm cI cZ y) ⟨hx, hb, hml, hown, hts⟩ (h_port l dC dI qx cI cZ cJ ao H.size r k a o kd h1 h2) (vx_cwSW 3 hts (gSW tw_432 tw_433 tw_0 tw_434) rfl rfl rfl (by decide +kernel) ⟨Nat.le_of_ble_eq_true rfl, Nat.le_of_ble_eq_true rfl⟩) rfl hl.1 rfl (Nat.le_of_ble_eq_true rfl) dL_law_845 ⟨by show ce + 0 ≤ 1072; omega, by show sl + 0 ≤ 9025; omega⟩ hP hD hK hS hA [0, 1, 2, 3, 4, 5, 6, 7, 8, 9, 10, 11, 12, 13, 14, 15, 16, 17, 32] [18, 19, 20, 21, 22, 23, 24, 25, 26, 27, 28, 29, 30, 31] rfl rfl (by decide) (by decide) (by decide) [0, 1, 2] rfl (eW_of eT_M) trivial (fun r_1 u_2 H locs w_3 hP hD hS => ?_)
    obtain ⟨rfl, hu1, hu2⟩ := w_3
    have hP : va_P (dC, dI) vwCl (wZ qx qm cI cZ cJ ao u_2.1.1 u_2.1.2.1 u_2.1.2.2 y u_2.2) H := hP.sub [14, 15, 16, 17, 18, 19, 20, 21, 22, 23, 24, 25, 26, 27, 28, 29, 30, 31, 0, 1, 2, 3, 4, 5, 6, 7, 8, 9, 10, 11, 12, 13, 32] rfl
    have hD : va_D A (wZ qx qm cI cZ cJ ao u_2.1.1 u_2.1.2.1 u_2.1.2.2 y u_2.2) := hD.sub [14, 15, 16, 17, 18, 19, 20, 21, 22, 23, 24, 25, 26, 27, 28, 29, 30, 31, 0, 1, 2, 3, 4, 5, 6, 7, 8, 9, 10, 11, 12, 13, 32] (by decide) rfl
    refine lv_istore (lv' := [(5, .int (nI 0)), (4, .int (nI i)), (3, .ref ao), (2, .ref (qm 0)), (1, .ref (qx 17)), (0, .ref b)]) hx hb dL_law_848 hl (by decide) rfl (fun ls hl => ?_)
    refine lv_aload_n hx hb dL_law_850 rfl (lv_at hl 3 rfl) ?_
    refine lv_aload_n hx hb dL_law_851 rfl (lv_at hl 5 rfl) ?_
    refine lv_iload hx hb dL_law_852 (lv_at hl 1 rfl) ?_
    refine lv_iconst (v := nI 1) hx hb dL_law_854 (by decide) ?_
    refine xn_add hx hb dL_law_855 ?_
    refine va_sld hx hb hX hbl hbA hS (vp_in_nI (show i + 1 < L by omega) (by omega)) dL_law_856 ?_
    refine xt_i (show xs (nI (i + 1)).toNatClampNeg = nI kd from (congrArg xs (nI_clamp (by omega))).trans (e1)) ?_
    refine xc_Vi (As := [.int (nI kd)]) (wr := wX qx cI cZ u_2.1.1 u_2.1.2.1 u_2.1.2.2 ++ wO cJ ao u_2.2) ⟨hx, hb, hml, hown, hts⟩ (c_ScanRowsModel_port l dC dI qm cI cZ H.size y kd (by omega) h2) (cwV 1 hts (gV tw_727 tw_728 tw_729 tw_5 tw_730) rfl rfl rfl (by decide +kernel) ⟨Nat.le_of_ble_eq_true rfl, Nat.le_of_ble_eq_true rfl⟩) rfl hl.1 rfl (Nat.le_of_ble_eq_true rfl) dL_law_857 ⟨by show _ ≤ 1072; omega, by show _ ≤ 9025; omega⟩ hP hD hK hS hA [18, 19, 20, 21, 22, 23, 24, 25, 26, 27, 28, 29, 30, 31] [0, 1, 2, 3, 4, 5, 6, 7, 8, 9, 10, 11, 12, 13, 14, 15, 16, 17, 32] rfl rfl (by decide) (by decide) (by decide) [0, 1] rfl (q0 := 0) rfl rfl rfl eT_M (trivial) (fun r_4 u_5 H locs w_6 hP hD hS => ?_)
    obtain ⟨rfl, rfl⟩ := w_6
    have hP : va_P (dC, dI) vwCl (wZ qx qm cI cZ cJ ao u_2.1.1 u_2.1.2.1 u_2.1.2.2 (MS.s_cn (MS.s_ki (MS.s_th y 0) (va_up y.ki y.cn kd)) (y.cn + 1)) u_2.2) H := hP.sub [0, 1, 2, 3, 4, 5, 6, 7, 8, 9, 10, 11, 12, 13, 14, 15, 16, 17, 19, 20, 21, 22, 23, 24, 25, 26, 27, 28, 29, 30, 31, 32, 18] rfl
    have hD : va_D A (wZ qx qm cI cZ cJ ao u_2.1.1 u_2.1.2.1 u_2.1.2.2 (MS.s_cn (MS.s_ki (MS.s_th y 0) (va_up y.ki y.cn kd)) (y.cn + 1)) u_2.2) := hD.sub [0, 1, 2, 3, 4, 5, 6, 7, 8, 9, 10, 11, 12, 13, 14, 15, 16, 17, 19, 20, 21, 22, 23, 24, 25, 26, 27, 28, 29, 30, 31, 32, 18] (by decide) rfl
    refine lv_istore (lv' := [(6, .int (nI y.cn)), (5, .int (nI 0)), (4, .int (nI i)), (3, .ref ao), (2, .ref (qm 0)), (1, .ref (qx 17)), (0, .ref b)]) hx hb dL_law_860 hl (by decide) rfl (fun ls hl => ?_)
    refine lv_aload_n hx hb dL_law_862 rfl (lv_at hl 4 rfl) ?_
    refine xc_Vi (As := []) (wr := wX qx cI cZ u_2.1.1 u_2.1.2.1 u_2.1.2.2 ++ wO cJ ao u_2.2) ⟨hx, hb, hml, hown, hts⟩ (c_ScanRowsModel_thrown l dC dI qm cI cZ H.size (MS.s_cn (MS.s_ki (MS.s_th y 0) (va_up y.ki y.cn kd)) (y.cn + 1))) (cwV 0 hts (gV tw_642 tw_643 tw_644 tw_5 tw_645) rfl rfl rfl (by decide +kernel) ⟨Nat.le_of_ble_eq_true rfl, Nat.le_of_ble_eq_true rfl⟩) rfl hl.1 rfl (Nat.le_of_ble_eq_true rfl) dL_law_863 ⟨by show _ ≤ 1072; omega, by show _ ≤ 9025; omega⟩ hP hD hK hS hA [18, 19, 20, 21, 22, 23, 24, 25, 26, 27, 28, 29, 30, 31] [0, 1, 2, 3, 4, 5, 6, 7, 8, 9, 10, 11, 12, 13, 14, 15, 16, 17, 32] rfl rfl (by decide) (by decide) (by decide) [0, 1] rfl (q0 := 0) rfl rfl rfl eT_M (trivial) (fun r_7 u_8 H locs w_9 hP hD hS => ?_)
    obtain rfl := w_9
    have hP : va_P (dC, dI) vwCl (wZ qx qm cI cZ cJ ao u_2.1.1 u_2.1.2.1 u_2.1.2.2 (MS.s_cn (MS.s_ki (MS.s_th y 0) (va_up y.ki y.cn kd)) (y.cn + 1)) u_2.2) H := hP.sub [0, 1, 2, 3, 4, 5, 6, 7, 8, 9, 10, 11, 12, 13, 14, 15, 16, 17, 19, 20, 21, 22, 23, 24, 25, 26, 27, 28, 29, 30, 31, 32, 18] rfl
    have hD : va_D A (wZ qx qm cI cZ cJ ao u_2.1.1 u_2.1.2.1 u_2.1.2.2 (MS.s_cn (MS.s_ki (MS.s_th y 0) (va_up y.ki y.cn kd)) (y.cn + 1)) u_2.2) := hD.sub [0, 1, 2, 3, 4, 5, 6, 7, 8, 9, 10, 11, 12, 13, 14, 15, 16, 17, 19, 20, 21, 22, 23, 24, 25, 26, 27, 28, 29, 30, 31, 32, 18] (by decide) rfl
    refine xt_i (show nI (MS.th (MS.s_cn (MS.s_ki (MS.s_th y 0) (va_up y.ki y.cn kd)) (y.cn + 1))) = nI 0 from congrArg nI (rfl)) ?_
    refine lv_iload hx hb dL_law_866 (lv_at hl 1 rfl) ?_
    refine xn_ceq (tgt := 873) hx hb (by omega) (by omega) dL_law_868 (by decide) (fun c_10 => ?_) (fun c_10 => ?_)
    · refine lv_iload hx hb dL_law_873 (lv_at hl 1 rfl) ?_
      refine xn_zne (tgt := 890) hx hb (by omega) dL_law_875 (by decide) (fun c_11 => ?_) (fun c_11 => ?_)
      · refine lv_goto (tgt := 1190) hx hb dL_law_890 (by decide) ?_
        refine W.widen (k := ce + 1) (n := sl + 6) (by omega) (by omega) ?_
        exact hend u_2.1.1 u_2.1.2.1 u_2.1.2.2 (MS.s_cn (MS.s_ki (MS.s_th y 0) (va_up y.ki y.cn kd)) (y.cn + 1)) u_2.2 (by rw [hu1]; exact Rel_port hR h1 h2) H locs hP hD hS ls (lv_sub hl [2, 3, 4, 5, 6] rfl)
        
      · refine lv_aload_n hx hb dL_law_878 rfl (lv_at hl 3 rfl) ?_
        refine lv_iconst (v := nI 0) hx hb dL_law_879 (by decide) ?_
        refine va_lald hx hb hK hP 32 2 rfl rfl (vp_in_nI (show 0 < 1 by decide) (by decide)) dL_law_880 ?_
        refine xt_l (show u_2.2 (nI 0).toNatClampNeg = (nI k.n).toInt64 from (congrArg u_2.2 (show (nI 0).toNatClampNeg = 0 by decide)).trans hu2) ?_
        refine lv_iload hx hb dL_law_881 (lv_at hl 0 rfl) ?_
        refine lv_i2l hx hb dL_law_883 rfl ?_
        refine W.lcmp hx hb dL_law_884 ?_
        refine xt_i (show (lg_cmp ((nI k.n).toInt64) ((nI y.cn).toInt64)) = nI 0 from lg_eq (by rw [e_cn])) ?_
        refine xn_zeq (tgt := 890) hx hb (by omega) dL_law_885 (by decide) (fun c_12 => ?_) (fun c_12 => ?_)
        · refine lv_goto (tgt := 1190) hx hb dL_law_890 (by decide) ?_
          refine W.widen (k := ce + 1) (n := sl + 6) (by omega) (by omega) ?_
          exact hend u_2.1.1 u_2.1.2.1 u_2.1.2.2 (MS.s_cn (MS.s_ki (MS.s_th y 0) (va_up y.ki y.cn kd)) (y.cn + 1)) u_2.2 (by rw [hu1]; exact Rel_port hR h1 h2) H locs hP hD hS ls (lv_sub hl [2, 3, 4, 5, 6] rfl)
          
        · exact absurd (show False by omega) id
    · exact absurd (show False by omega) id
set_option maxHeartbeats 4000000 in
set_option maxRecDepth 100000 in
theorem op_pin {p : Program} {e : Env} {s : State} {m : MethodId} {below : List Frame} {meth : Method} {c : Code} (l : Launch) (hl0 : l.stackTraces = false) {b L : Nat} {xs : Nat → Int32} (hL : L ≤ 3073) (C0 : lw_At p s m meth c b L xs) (A : Nat → Prop) (hA : ∀ q : Nat, s.heap.size ≤ q → A q) (hbA : ¬ A b) (dC : Nat → ClassId) (dI : Nat → Nat → Nat) (qx qm : Nat → Nat) (cI cZ cJ : ClassId) (ao tN : Nat) (hK : va_K (dC, dI) vwCl [(cI, .int), (cZ, .boolean), (cJ, .long)] s) (hE : eX tN A s s.heap) (i : Nat) (hi : i + 5 < L) (ce sl : Nat) (hce : ce + 1 ≤ 1072) (hsl : sl + 6 ≤ 9025) (r : RS) (k : CS) (a : AS) (y : MS) (o : OS) (hR : Rel r k a y) (H : Heap) (locs : List Loc) (hP : va_P (dC, dI) vwCl (wZ qx qm cI cZ cJ ao r k a y o) H) (hD : va_D A (wZ qx qm cI cZ cJ ao r k a y o)) (hS : va_S A s.heap H locs) (ls : Array Slot) (hl : lv_has ls 7 [(4, .int (nI i)), (3, .ref ao), (2, .ref (qm 0)), (1, .ref (qx 17)), (0, .ref b)]) (hend : ∀ (r : RS) (k : CS) (a : AS) (y : MS) (o : OS), Rel r k a y → ∀ (H : Heap) (locs : List Loc), va_P (dC, dI) vwCl (wZ qx qm cI cZ cJ ao r k a y o) H → va_D A (wZ qx qm cI cZ cJ ao r k a y o) → va_S A s.heap H locs → ∀ ls : Array Slot, lv_has ls 7 [(4, .int (nI i)), (3, .ref ao), (2, .ref (qm 0)), (1, .ref (qx 17)), (0, .ref b)] → W p l e room_1 s m #[Value.ref b] below meth c H locs (ce + 1) (sl + 6) (lw_Z below #[Value.ref b] s) (F0 m 1190 ls [])) : W p l e room_1 s m #[Value.ref b] below meth c H locs (ce) (sl) (lw_Z below #[Value.ref b] s) (F0 m 893 ls []) := by
  obtain ⟨hx, hb, hr, hml, hown, hts0, hX, hbl, hlocks, hgv⟩ := id C0
  have hown : s.vm.findClass "ScanRowsLaw" = some m.cls := hown
  have hts : ∀ w ∈ ALLG, w.before #[Value.ref b] s = true := fun w h => hts0 w (List.mem_filter.mp h).1
  have b_n : r.n ≤ 32 := hR.1.1.1
  have b_c : r.c ≤ 8 := hR.1.1.2.1
  have b_p : r.p ≤ r.n := hR.1.1.2.2.1
  have k_n : k.n ≤ 20 := hR.1.2.1.1
  have hB : RB r := hR.1.1
  have hM : MB y := hR.2.1
  have hmo : mono y := Rel_mono hR
  have hC : RC r := PI_RC hR.2.2.1
  have e_n : y.n = r.n := hR.2.2.2.2.1.1
  have e_c : y.c = r.c := hR.2.2.2.2.1.2.1
  have e_p : y.p = r.p := hR.2.2.2.2.1.2.2.1
  have e_vb : y.vb = r.vb := hR.2.2.2.2.1.2.2.2.1
  have e_fl : y.fl = r.fl := hR.2.2.2.2.1.2.2.2.2.2.2.2.1
  have e_st : y.st = r.st := hR.2.2.2.2.1.2.2.2.2.2.2.2.2.2
  have e_k : toK y = k := hR.2.2.2.2.2.1
  have e_cn : y.cn = k.n := congrArg CS.n e_k
  have e_co : y.co = a.co := hR.2.2.2.2.2.2.2.1
  have a_co : a.co < 16 := hR.1.2.2.2.1
  have e_sa : y.sa = a.st := hR.2.2.2.2.2.2.1
  rcases hc_cs (xs (i + 1)) (show k.n ≤ 32 by omega) with h1 | ⟨ix, h1, e1⟩
  · refine lv_aload_n hx hb dL_law_893 rfl (lv_at hl 3 rfl) ?_
    refine lv_aload_n hx hb dL_law_894 rfl (lv_at hl 4 rfl) ?_
    refine lv_iload hx hb dL_law_895 (lv_at hl 0 rfl) ?_
    refine lv_iconst (v := nI 1) hx hb dL_law_897 (by decide) ?_
    refine xn_add hx hb dL_law_898 ?_
    refine va_sld hx hb hX hbl hbA hS (vp_in_nI (show i + 1 < L by omega) (by omega)) dL_law_899 ?_
    refine xt_i (show xs (nI (i + 1)).toNatClampNeg = (xs (i + 1)) from (congrArg xs (nI_clamp (by omega))).trans (rfl)) ?_
    refine lv_aload_n hx hb dL_law_900 rfl (lv_at hl 4 rfl) ?_
    refine lv_iload hx hb dL_law_901 (lv_at hl 0 rfl) ?_
    refine lv_iconst (v := nI 2) hx hb dL_law_903 (by decide) ?_
    refine xn_add hx hb dL_law_904 ?_
    refine va_sld hx hb hX hbl hbA hS (vp_in_nI (show i + 2 < L by omega) (by omega)) dL_law_905 ?_
    refine xt_i (show xs (nI (i + 2)).toNatClampNeg = (xs (i + 2)) from (congrArg xs (nI_clamp (by omega))).trans (rfl)) ?_
    refine xw_Si (As := [.ref (qx 17), .int (xs (i + 1)), .int (xs (i + 2))]) (wr := wM qm cI cZ y ++ wO cJ ao o) ⟨hx, hb, hml, hown, hts⟩ (hx_pin l hl0 dC dI qx cI cZ H.size r k a tN _ _ h1) (vx_cwSW 3 hts (gSW tw_445 tw_446 tw_0 tw_447) rfl rfl rfl (by decide +kernel) ⟨Nat.le_of_ble_eq_true rfl, Nat.le_of_ble_eq_true rfl⟩) rfl hl.1 rfl (Nat.le_of_ble_eq_true rfl) dL_law_906 ⟨by show ce + 1 ≤ 1072; omega, by show sl + 6 ≤ 9025; omega⟩ hP hD hK hS hA [0, 1, 2, 3, 4, 5, 6, 7, 8, 9, 10, 11, 12, 13, 14, 15, 16, 17] [18, 19, 20, 21, 22, 23, 24, 25, 26, 27, 28, 29, 30, 31, 32] rfl rfl (by decide) (by decide) (by decide) [0, 1] rfl (eX_W _ _) (eX_kn hE hS (va_free (wc := wX qx cI cZ r k a) hD hS hA [0, 1, 2, 3, 4, 5, 6, 7, 8, 9, 10, 11, 12, 13, 14, 15, 16, 17] rfl)) (fun r_1 u_2 H locs w_3 hP hD hS => ?_)
    obtain ⟨rfl, rfl⟩ := w_3
    have hP : va_P (dC, dI) vwCl (wZ qx qm cI cZ cJ ao r k a y o) H := hP.sub [15, 16, 17, 18, 19, 20, 21, 22, 23, 24, 25, 26, 27, 28, 29, 30, 31, 32, 0, 1, 2, 3, 4, 5, 6, 7, 8, 9, 10, 11, 12, 13, 14] rfl
    have hD : va_D A (wZ qx qm cI cZ cJ ao r k a y o) := hD.sub [15, 16, 17, 18, 19, 20, 21, 22, 23, 24, 25, 26, 27, 28, 29, 30, 31, 32, 0, 1, 2, 3, 4, 5, 6, 7, 8, 9, 10, 11, 12, 13, 14] (by decide) rfl
    refine lv_istore (lv' := [(5, .int (nI 1)), (4, .int (nI i)), (3, .ref ao), (2, .ref (qm 0)), (1, .ref (qx 17)), (0, .ref b)]) hx hb dL_law_909 hl (by decide) rfl (fun ls hl => ?_)
    refine lv_aload_n hx hb dL_law_911 rfl (lv_at hl 3 rfl) ?_
    refine lv_aload_n hx hb dL_law_912 rfl (lv_at hl 5 rfl) ?_
    refine lv_iload hx hb dL_law_913 (lv_at hl 1 rfl) ?_
    refine lv_iconst (v := nI 1) hx hb dL_law_915 (by decide) ?_
    refine xn_add hx hb dL_law_916 ?_
    refine va_sld hx hb hX hbl hbA hS (vp_in_nI (show i + 1 < L by omega) (by omega)) dL_law_917 ?_
    refine xt_i (show xs (nI (i + 1)).toNatClampNeg = (xs (i + 1)) from (congrArg xs (nI_clamp (by omega))).trans (rfl)) ?_
    refine lv_aload_n hx hb dL_law_918 rfl (lv_at hl 5 rfl) ?_
    refine lv_iload hx hb dL_law_919 (lv_at hl 1 rfl) ?_
    refine lv_iconst (v := nI 2) hx hb dL_law_921 (by decide) ?_
    refine xn_add hx hb dL_law_922 ?_
    refine va_sld hx hb hX hbl hbA hS (vp_in_nI (show i + 2 < L by omega) (by omega)) dL_law_923 ?_
    refine xt_i (show xs (nI (i + 2)).toNatClampNeg = (xs (i + 2)) from (congrArg xs (nI_clamp (by omega))).trans (rfl)) ?_
    refine xc_Vv (As := [.int (xs (i + 1)), .int (xs (i + 2))]) (wr := wX qx cI cZ r k a ++ wO cJ ao o) ⟨hx, hb, hml, hown, hts⟩ (c_M_pin1 l dC dI qm cI cZ H.size y _ _ (by rw [e_cn]; exact h1)) (cwV 2 hts (gV tw_731 tw_732 tw_733 tw_5 tw_734) rfl rfl rfl (by decide +kernel) ⟨Nat.le_of_ble_eq_true rfl, Nat.le_of_ble_eq_true rfl⟩) rfl hl.1 rfl (Nat.le_of_ble_eq_true rfl) dL_law_924 ⟨by show _ ≤ 1072; omega, by show _ ≤ 9025; omega⟩ hP hD hK hS hA [18, 19, 20, 21, 22, 23, 24, 25, 26, 27, 28, 29, 30, 31] [0, 1, 2, 3, 4, 5, 6, 7, 8, 9, 10, 11, 12, 13, 14, 15, 16, 17, 32] rfl rfl (by decide) (by decide) (by decide) [0, 1] rfl (q0 := 0) rfl rfl rfl eT_M (trivial) (fun u_5 H locs w_6 hP hD hS => ?_)
    obtain rfl := w_6
    have hP : va_P (dC, dI) vwCl (wZ qx qm cI cZ cJ ao r k a (MS.s_th y 1) o) H := hP.sub [0, 1, 2, 3, 4, 5, 6, 7, 8, 9, 10, 11, 12, 13, 14, 15, 16, 17, 19, 20, 21, 22, 23, 24, 25, 26, 27, 28, 29, 30, 31, 32, 18] rfl
    have hD : va_D A (wZ qx qm cI cZ cJ ao r k a (MS.s_th y 1) o) := hD.sub [0, 1, 2, 3, 4, 5, 6, 7, 8, 9, 10, 11, 12, 13, 14, 15, 16, 17, 19, 20, 21, 22, 23, 24, 25, 26, 27, 28, 29, 30, 31, 32, 18] (by decide) rfl
    refine lv_aload_n hx hb dL_law_927 rfl (lv_at hl 3 rfl) ?_
    refine xc_Vi (As := []) (wr := wX qx cI cZ r k a ++ wO cJ ao o) ⟨hx, hb, hml, hown, hts⟩ (c_ScanRowsModel_thrown l dC dI qm cI cZ H.size (MS.s_th y 1)) (cwV 0 hts (gV tw_642 tw_643 tw_644 tw_5 tw_645) rfl rfl rfl (by decide +kernel) ⟨Nat.le_of_ble_eq_true rfl, Nat.le_of_ble_eq_true rfl⟩) rfl hl.1 rfl (Nat.le_of_ble_eq_true rfl) dL_law_928 ⟨by show _ ≤ 1072; omega, by show _ ≤ 9025; omega⟩ hP hD hK hS hA [18, 19, 20, 21, 22, 23, 24, 25, 26, 27, 28, 29, 30, 31] [0, 1, 2, 3, 4, 5, 6, 7, 8, 9, 10, 11, 12, 13, 14, 15, 16, 17, 32] rfl rfl (by decide) (by decide) (by decide) [0, 1] rfl (q0 := 0) rfl rfl rfl eT_M (trivial) (fun r_7 u_8 H locs w_9 hP hD hS => ?_)
    obtain rfl := w_9
    have hP : va_P (dC, dI) vwCl (wZ qx qm cI cZ cJ ao r k a (MS.s_th y 1) o) H := hP.sub [0, 1, 2, 3, 4, 5, 6, 7, 8, 9, 10, 11, 12, 13, 14, 15, 16, 17, 19, 20, 21, 22, 23, 24, 25, 26, 27, 28, 29, 30, 31, 32, 18] rfl
    have hD : va_D A (wZ qx qm cI cZ cJ ao r k a (MS.s_th y 1) o) := hD.sub [0, 1, 2, 3, 4, 5, 6, 7, 8, 9, 10, 11, 12, 13, 14, 15, 16, 17, 19, 20, 21, 22, 23, 24, 25, 26, 27, 28, 29, 30, 31, 32, 18] (by decide) rfl
    refine xt_i (show nI (MS.th (MS.s_th y 1)) = nI 1 from congrArg nI (rfl)) ?_
    refine lv_iload hx hb dL_law_931 (lv_at hl 0 rfl) ?_
    refine xn_ceq (tgt := 938) hx hb (by omega) (by omega) dL_law_933 (by decide) (fun c_10 => ?_) (fun c_10 => ?_)
    · refine lv_goto (tgt := 1190) hx hb dL_law_938 (by decide) ?_
      refine W.widen (k := ce + 1) (n := sl + 6) (by omega) (by omega) ?_
      exact hend r k a (MS.s_th y 1) o (Rel_th hR 1) H locs hP hD hS ls (lv_sub hl [1, 2, 3, 4, 5] rfl)
      
    · exact absurd (show False by omega) id
  · refine lv_aload_n hx hb dL_law_893 rfl (lv_at hl 3 rfl) ?_
    refine lv_aload_n hx hb dL_law_894 rfl (lv_at hl 4 rfl) ?_
    refine lv_iload hx hb dL_law_895 (lv_at hl 0 rfl) ?_
    refine lv_iconst (v := nI 1) hx hb dL_law_897 (by decide) ?_
    refine xn_add hx hb dL_law_898 ?_
    refine va_sld hx hb hX hbl hbA hS (vp_in_nI (show i + 1 < L by omega) (by omega)) dL_law_899 ?_
    refine xt_i (show xs (nI (i + 1)).toNatClampNeg = nI ix from (congrArg xs (nI_clamp (by omega))).trans (e1)) ?_
    refine lv_aload_n hx hb dL_law_900 rfl (lv_at hl 4 rfl) ?_
    refine lv_iload hx hb dL_law_901 (lv_at hl 0 rfl) ?_
    refine lv_iconst (v := nI 2) hx hb dL_law_903 (by decide) ?_
    refine xn_add hx hb dL_law_904 ?_
    refine va_sld hx hb hX hbl hbA hS (vp_in_nI (show i + 2 < L by omega) (by omega)) dL_law_905 ?_
    refine xt_i (show xs (nI (i + 2)).toNatClampNeg = (xs (i + 2)) from (congrArg xs (nI_clamp (by omega))).trans (rfl)) ?_
    refine xw_Si (As := [.ref (qx 17), .int (nI ix), .int (xs (i + 2))]) (wr := wM qm cI cZ y ++ wO cJ ao o) ⟨hx, hb, hml, hown, hts⟩ (h_pin l dC dI qx cI cZ H.size r k a ix _ h1 k_n) (vx_cwSW 3 hts (gSW tw_445 tw_446 tw_0 tw_447) rfl rfl rfl (by decide +kernel) ⟨Nat.le_of_ble_eq_true rfl, Nat.le_of_ble_eq_true rfl⟩) rfl hl.1 rfl (Nat.le_of_ble_eq_true rfl) dL_law_906 ⟨by show ce + 0 ≤ 1072; omega, by show sl + 0 ≤ 9025; omega⟩ hP hD hK hS hA [0, 1, 2, 3, 4, 5, 6, 7, 8, 9, 10, 11, 12, 13, 14, 15, 16, 17] [18, 19, 20, 21, 22, 23, 24, 25, 26, 27, 28, 29, 30, 31, 32] rfl rfl (by decide) (by decide) (by decide) [0, 1] rfl (eW_of eT_M) trivial (fun r_1 u_2 H locs w_3 hP hD hS => ?_)
    obtain ⟨rfl, rfl⟩ := w_3
    have hP : va_P (dC, dI) vwCl (wZ qx qm cI cZ cJ ao r (CS.s_pin k (va_up (CS.pin k) ix (bitN (xs (i + 2))))) a y o) H := hP.sub [15, 16, 17, 18, 19, 20, 21, 22, 23, 24, 25, 26, 27, 28, 29, 30, 31, 32, 0, 1, 2, 3, 4, 5, 6, 7, 8, 9, 10, 11, 12, 13, 14] rfl
    have hD : va_D A (wZ qx qm cI cZ cJ ao r (CS.s_pin k (va_up (CS.pin k) ix (bitN (xs (i + 2))))) a y o) := hD.sub [15, 16, 17, 18, 19, 20, 21, 22, 23, 24, 25, 26, 27, 28, 29, 30, 31, 32, 0, 1, 2, 3, 4, 5, 6, 7, 8, 9, 10, 11, 12, 13, 14] (by decide) rfl
    refine lv_istore (lv' := [(5, .int (nI 0)), (4, .int (nI i)), (3, .ref ao), (2, .ref (qm 0)), (1, .ref (qx 17)), (0, .ref b)]) hx hb dL_law_909 hl (by decide) rfl (fun ls hl => ?_)
    refine lv_aload_n hx hb dL_law_911 rfl (lv_at hl 3 rfl) ?_
    refine lv_aload_n hx hb dL_law_912 rfl (lv_at hl 5 rfl) ?_
    refine lv_iload hx hb dL_law_913 (lv_at hl 1 rfl) ?_
    refine lv_iconst (v := nI 1) hx hb dL_law_915 (by decide) ?_
    refine xn_add hx hb dL_law_916 ?_
    refine va_sld hx hb hX hbl hbA hS (vp_in_nI (show i + 1 < L by omega) (by omega)) dL_law_917 ?_
    refine xt_i (show xs (nI (i + 1)).toNatClampNeg = nI ix from (congrArg xs (nI_clamp (by omega))).trans (e1)) ?_
    refine lv_aload_n hx hb dL_law_918 rfl (lv_at hl 5 rfl) ?_
    refine lv_iload hx hb dL_law_919 (lv_at hl 1 rfl) ?_
    refine lv_iconst (v := nI 2) hx hb dL_law_921 (by decide) ?_
    refine xn_add hx hb dL_law_922 ?_
    refine va_sld hx hb hX hbl hbA hS (vp_in_nI (show i + 2 < L by omega) (by omega)) dL_law_923 ?_
    refine xt_i (show xs (nI (i + 2)).toNatClampNeg = (xs (i + 2)) from (congrArg xs (nI_clamp (by omega))).trans (rfl)) ?_
    refine xc_Vv (As := [.int (nI ix), .int (xs (i + 2))]) (wr := wX qx cI cZ r (CS.s_pin k (va_up (CS.pin k) ix (bitN (xs (i + 2))))) a ++ wO cJ ao o) ⟨hx, hb, hml, hown, hts⟩ (c_ScanRowsModel_pin l dC dI qm cI cZ H.size y ix _ (by omega) (by omega)) (cwV 2 hts (gV tw_731 tw_732 tw_733 tw_5 tw_734) rfl rfl rfl (by decide +kernel) ⟨Nat.le_of_ble_eq_true rfl, Nat.le_of_ble_eq_true rfl⟩) rfl hl.1 rfl (Nat.le_of_ble_eq_true rfl) dL_law_924 ⟨by show _ ≤ 1072; omega, by show _ ≤ 9025; omega⟩ hP hD hK hS hA [18, 19, 20, 21, 22, 23, 24, 25, 26, 27, 28, 29, 30, 31] [0, 1, 2, 3, 4, 5, 6, 7, 8, 9, 10, 11, 12, 13, 14, 15, 16, 17, 32] rfl rfl (by decide) (by decide) (by decide) [0, 1] rfl (q0 := 0) rfl rfl rfl eT_M (trivial) (fun u_5 H locs w_6 hP hD hS => ?_)
    obtain rfl := w_6
    have hP : va_P (dC, dI) vwCl (wZ qx qm cI cZ cJ ao r (CS.s_pin k (va_up (CS.pin k) ix (bitN (xs (i + 2))))) a (MS.s_pin (MS.s_th y 0) (va_up y.pin ix (bitN (xs (i + 2))))) o) H := hP.sub [0, 1, 2, 3, 4, 5, 6, 7, 8, 9, 10, 11, 12, 13, 14, 15, 16, 17, 19, 20, 21, 22, 23, 24, 25, 26, 27, 28, 29, 30, 31, 32, 18] rfl
    have hD : va_D A (wZ qx qm cI cZ cJ ao r (CS.s_pin k (va_up (CS.pin k) ix (bitN (xs (i + 2))))) a (MS.s_pin (MS.s_th y 0) (va_up y.pin ix (bitN (xs (i + 2))))) o) := hD.sub [0, 1, 2, 3, 4, 5, 6, 7, 8, 9, 10, 11, 12, 13, 14, 15, 16, 17, 19, 20, 21, 22, 23, 24, 25, 26, 27, 28, 29, 30, 31, 32, 18] (by decide) rfl
    refine lv_aload_n hx hb dL_law_927 rfl (lv_at hl 3 rfl) ?_
    refine xc_Vi (As := []) (wr := wX qx cI cZ r (CS.s_pin k (va_up (CS.pin k) ix (bitN (xs (i + 2))))) a ++ wO cJ ao o) ⟨hx, hb, hml, hown, hts⟩ (c_ScanRowsModel_thrown l dC dI qm cI cZ H.size (MS.s_pin (MS.s_th y 0) (va_up y.pin ix (bitN (xs (i + 2)))))) (cwV 0 hts (gV tw_642 tw_643 tw_644 tw_5 tw_645) rfl rfl rfl (by decide +kernel) ⟨Nat.le_of_ble_eq_true rfl, Nat.le_of_ble_eq_true rfl⟩) rfl hl.1 rfl (Nat.le_of_ble_eq_true rfl) dL_law_928 ⟨by show _ ≤ 1072; omega, by show _ ≤ 9025; omega⟩ hP hD hK hS hA [18, 19, 20, 21, 22, 23, 24, 25, 26, 27, 28, 29, 30, 31] [0, 1, 2, 3, 4, 5, 6, 7, 8, 9, 10, 11, 12, 13, 14, 15, 16, 17, 32] rfl rfl (by decide) (by decide) (by decide) [0, 1] rfl (q0 := 0) rfl rfl rfl eT_M (trivial) (fun r_7 u_8 H locs w_9 hP hD hS => ?_)
    obtain rfl := w_9
    have hP : va_P (dC, dI) vwCl (wZ qx qm cI cZ cJ ao r (CS.s_pin k (va_up (CS.pin k) ix (bitN (xs (i + 2))))) a (MS.s_pin (MS.s_th y 0) (va_up y.pin ix (bitN (xs (i + 2))))) o) H := hP.sub [0, 1, 2, 3, 4, 5, 6, 7, 8, 9, 10, 11, 12, 13, 14, 15, 16, 17, 19, 20, 21, 22, 23, 24, 25, 26, 27, 28, 29, 30, 31, 32, 18] rfl
    have hD : va_D A (wZ qx qm cI cZ cJ ao r (CS.s_pin k (va_up (CS.pin k) ix (bitN (xs (i + 2))))) a (MS.s_pin (MS.s_th y 0) (va_up y.pin ix (bitN (xs (i + 2))))) o) := hD.sub [0, 1, 2, 3, 4, 5, 6, 7, 8, 9, 10, 11, 12, 13, 14, 15, 16, 17, 19, 20, 21, 22, 23, 24, 25, 26, 27, 28, 29, 30, 31, 32, 18] (by decide) rfl
    refine xt_i (show nI (MS.th (MS.s_pin (MS.s_th y 0) (va_up y.pin ix (bitN (xs (i + 2)))))) = nI 0 from congrArg nI (rfl)) ?_
    refine lv_iload hx hb dL_law_931 (lv_at hl 0 rfl) ?_
    refine xn_ceq (tgt := 938) hx hb (by omega) (by omega) dL_law_933 (by decide) (fun c_10 => ?_) (fun c_10 => ?_)
    · refine lv_goto (tgt := 1190) hx hb dL_law_938 (by decide) ?_
      refine W.widen (k := ce + 1) (n := sl + 6) (by omega) (by omega) ?_
      exact hend r (CS.s_pin k (va_up (CS.pin k) ix (bitN (xs (i + 2))))) a (MS.s_pin (MS.s_th y 0) (va_up y.pin ix (bitN (xs (i + 2))))) o (Rel_pin hR ix _) H locs hP hD hS ls (lv_sub hl [1, 2, 3, 4, 5] rfl)
      
    · exact absurd (show False by omega) id
