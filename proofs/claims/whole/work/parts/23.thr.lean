theorem i32k {n : Nat} (h : n < 2 ^ 31) (v : Int32) : (v < nI n ↔ v.toInt < n) ∧ (v ≤ nI n ↔ v.toInt ≤ n) ∧ (nI n < v ↔ (n : Int) < v.toInt) := by
  rw [Int32.lt_iff_toInt_lt, Int32.le_iff_toInt_le, Int32.lt_iff_toInt_lt, nI_toInt h]; exact ⟨Iff.rfl, Iff.rfl, Iff.rfl⟩
theorem nlt4 {v : Int32} (h : v < nI 4) : ¬ nI 3 < v := by
  have a := (i32k (n := 4) (by decide) v).1.mp h
  intro z
  have b := (i32k (n := 3) (by decide) v).2.2.mp z
  omega
theorem le15 {v : Int32} (h : v < nI 16) : v ≤ nI 15 := by
  have a := (i32k (n := 16) (by decide) v).1.mp h
  exact (i32k (n := 15) (by decide) v).2.1.mpr (by omega)
theorem cnt_out {v : Int32} (h : v < 0 ∨ ¬ v ≤ nI 4) : v.toInt < 0 ∨ 4 < v.toInt := by
  rcases h with h | h
  · left; rw [Int32.lt_iff_toInt_lt] at h; exact h
  · right
    have b := (i32k (n := 4) (by decide) v).2.1
    have c : ¬ v.toInt ≤ ((4 : Nat) : Int) := fun z => h (b.mpr z)
    omega
theorem tw_9 : (Cond.initialized "java/lang/UnsupportedOperationException") ∈ ALLG := al_t (i := 9) (by decide +kernel) (by decide +kernel)
theorem tw_10 : (Cond.initialized "java/lang/IllegalArgumentException") ∈ ALLG := al_t (i := 10) (by decide +kernel) (by decide +kernel)
theorem tw_11 : (Cond.initialized "java/lang/IndexOutOfBoundsException") ∈ ALLG := al_t (i := 11) (by decide +kernel) (by decide +kernel)
theorem tw_188 : (Cond.classLink "ScanRows" (36 : Nat) "java/lang/UnsupportedOperationException") ∈ ALLG := al_t (i := 188) (by decide +kernel) (by decide +kernel)
theorem tw_256 : (Cond.classLink "ScanRows" (43 : Nat) "java/lang/IllegalArgumentException") ∈ ALLG := al_t (i := 256) (by decide +kernel) (by decide +kernel)
theorem tw_319 : (Cond.classLink "ScanRows" (68 : Nat) "java/lang/IndexOutOfBoundsException") ∈ ALLG := al_t (i := 319) (by decide +kernel) (by decide +kernel)
set_option maxHeartbeats 4000000 in
set_option maxRecDepth 100000 in
theorem tx_latch1 (l : Launch) (hl0 : l.stackTraces = false) (dC : Nat → ClassId) (dI : Nat → Nat → Nat) (q : Nat → Nat) (cI cZ : ClassId) (sz : Nat) (r : RS) (k : CS) (a : AS) (tN : Nat) (ck : Int32) (xl yl : Int64) (h1 : r.n = 32) : vx_Met l yX3_latch (.code yX3_latch cX3_latch 6 (some .int) :: ALLG) ({ frames := 6, cells := 1, slots := 6, locals := 90 }) (va_Pc [.ref (q 17), .int ck, .long xl, .long yl] (cP (dC, dI) vwCl [(cI, .int), (cZ, .boolean)] (wX q cI cZ r k a) (eX tN (va_A (wX q cI cZ r k a) sz)) sz)) (qNi (va_A (wX q cI cZ r k a) sz)) (xE (dC, dI) vwCl [(cI, .int), (cZ, .boolean)] xUOE (wX q cI cZ r k a) (va_A (wX q cI cZ r k a) sz)) 1 6 (va_A (wX q cI cZ r k a) sz) := by
  refine xm_x (cc := cX3_latch) (maxL := 6) (ret := some .int) (by decide) rfl (Nat.le_of_ble_eq_true rfl) ?_
  intro p e s m below meth c A hAe hx hb hr hml hts0 hown hlk hout hsz H locs hP hK hD hA hS hE ls hl
  have hts : ∀ w ∈ ALLG, w.before _ s = true := fun w h => hts0 w (List.mem_cons_of_mem _ h)
  rw [← hAe]
  rw [← hAe] at hE
  have hl : lv_has ls 6 [(0, .ref (q 17)), (1, .int ck), (2, .long xl), (4, .long yl)] := hl
  refine lv_aload_n hx hb dX3_latch_0 rfl (lv_at hl 0 rfl) ?_
  refine va_get (D := (dC, dI)) (ci := 3) (v := .ref (q 0)) (C := RX3) (T := TX3) (N := 3) hx hb hts inX3 hown hK hP 17 rfl rfl 0 (by decide) (hts _ tw_131) (fun _ h9 => h9) rfl dX3_latch_1 ?_
  refine va_get (D := (dC, dI)) (ci := 2) (v := .int (nI (RS.n r))) (C := RX2) (T := TX2) (N := 12) hx hb hts inX2 hown hK hP 0 rfl rfl 0 (by decide) (hts _ tw_28) (fun _ h9 => h9) rfl dX3_latch_4 ?_
  refine lv_bipush (v := nI 32) hx hb dX3_latch_7 (by decide) ?_
  refine xn_clt (tgt := 22) hx hb (by omega) (by omega) dX3_latch_9 (by decide) (fun c_1 => ?_) (fun c_1 => ?_)
  · exact absurd (show False by omega) id
  · exact xt_S hx hb hl0 hown hts hlk hout (hl.1.trans hml.symm) hE hP hK hD hS (X := xUOE) (text := "there are as many latches as there can be") (ik := 36) (is := 38) (ic := 40) tw_188 tw_9 (by decide) xg_u xn_u xo_u xf_u dX3_latch_12 dX3_latch_15 dX3_latch_16 dX3_latch_18 dX3_latch_21 (Nat.le_of_ble_eq_true rfl) (Nat.le_of_ble_eq_true rfl) (Nat.le_of_ble_eq_true rfl) (Nat.le_of_ble_eq_true rfl) (Nat.le_refl _) (Nat.le_refl _)
set_option maxHeartbeats 4000000 in
set_option maxRecDepth 100000 in
theorem tx_latch2 (l : Launch) (hl0 : l.stackTraces = false) (dC : Nat → ClassId) (dI : Nat → Nat → Nat) (q : Nat → Nat) (cI cZ : ClassId) (sz : Nat) (r : RS) (k : CS) (a : AS) (tN : Nat) (ck : Int32) (xl yl : Int64) (h1 : r.n < 32) (h2 : mBad ck xl yl) : vx_Met l yX3_latch (.code yX3_latch cX3_latch 6 (some .int) :: ALLG) ({ frames := 6, cells := 1, slots := 6, locals := 90 }) (va_Pc [.ref (q 17), .int ck, .long xl, .long yl] (cP (dC, dI) vwCl [(cI, .int), (cZ, .boolean)] (wX q cI cZ r k a) (eX tN (va_A (wX q cI cZ r k a) sz)) sz)) (qNi (va_A (wX q cI cZ r k a) sz)) (xE (dC, dI) vwCl [(cI, .int), (cZ, .boolean)] xIAE (wX q cI cZ r k a) (va_A (wX q cI cZ r k a) sz)) 1 6 (va_A (wX q cI cZ r k a) sz) := by
  refine xm_x (cc := cX3_latch) (maxL := 6) (ret := some .int) (by decide) rfl (Nat.le_of_ble_eq_true rfl) ?_
  intro p e s m below meth c A hAe hx hb hr hml hts0 hown hlk hout hsz H locs hP hK hD hA hS hE ls hl
  have hts : ∀ w ∈ ALLG, w.before _ s = true := fun w h => hts0 w (List.mem_cons_of_mem _ h)
  rw [← hAe]
  rw [← hAe] at hE
  have hl : lv_has ls 6 [(0, .ref (q 17)), (1, .int ck), (2, .long xl), (4, .long yl)] := hl
  refine lv_aload_n hx hb dX3_latch_0 rfl (lv_at hl 0 rfl) ?_
  refine va_get (D := (dC, dI)) (ci := 3) (v := .ref (q 0)) (C := RX3) (T := TX3) (N := 3) hx hb hts inX3 hown hK hP 17 rfl rfl 0 (by decide) (hts _ tw_131) (fun _ h9 => h9) rfl dX3_latch_1 ?_
  refine va_get (D := (dC, dI)) (ci := 2) (v := .int (nI (RS.n r))) (C := RX2) (T := TX2) (N := 12) hx hb hts inX2 hown hK hP 0 rfl rfl 0 (by decide) (hts _ tw_28) (fun _ h9 => h9) rfl dX3_latch_4 ?_
  refine lv_bipush (v := nI 32) hx hb dX3_latch_7 (by decide) ?_
  refine xn_clt (tgt := 22) hx hb (by omega) (by omega) dX3_latch_9 (by decide) (fun c_1 => ?_) (fun c_1 => ?_)
  · refine lv_iload_n hx hb dX3_latch_22 rfl (lv_at hl 1 rfl) ?_
    refine lv_if_lt (tgt := 31) hx hb dX3_latch_23 (by decide) (fun c_2 => ?_) (fun c_2 => ?_)
    · exact xt_S hx hb hl0 hown hts hlk hout (hl.1.trans hml.symm) hE hP hK hD hS (X := xIAE) (text := "no such clock") (ik := 43) (is := 45) (ic := 47) tw_256 tw_10 (by decide) xg_a xn_a xo_a xf_a dX3_latch_31 dX3_latch_34 dX3_latch_35 dX3_latch_37 dX3_latch_40 (Nat.le_of_ble_eq_true rfl) (Nat.le_of_ble_eq_true rfl) (Nat.le_of_ble_eq_true rfl) (Nat.le_of_ble_eq_true rfl) (Nat.le_refl _) (Nat.le_refl _)
    · refine lv_iload_n hx hb dX3_latch_26 rfl (lv_at hl 1 rfl) ?_
      refine lv_iconst (v := nI 4) hx hb dX3_latch_27 (by decide) ?_
      refine lv_icmp_lt (tgt := 41) hx hb dX3_latch_28 (by decide) (fun c_3 => ?_) (fun c_3 => ?_)
      · refine lv_lload_n hx hb dX3_latch_41 rfl (lv_at hl 2 rfl) ?_
        refine lv_ldc2 (v := (-1000 : Int64)) hx hb hown (hts _ tw_272) dX3_latch_42 ?_
        refine W.lcmp hx hb dX3_latch_45 ?_
        refine lv_if_lt (tgt := 75) hx hb dX3_latch_46 (by decide) (fun c_4 => ?_) (fun c_4 => ?_)
        · exact xt_S hx hb hl0 hown hts hlk hout (hl.1.trans hml.symm) hE hP hK hD hS (X := xIAE) (text := "no such place") (ik := 43) (is := 52) (ic := 47) tw_256 tw_10 (by decide) xg_a xn_a xo_a xf_a dX3_latch_75 dX3_latch_78 dX3_latch_79 dX3_latch_81 dX3_latch_84 (Nat.le_of_ble_eq_true rfl) (Nat.le_of_ble_eq_true rfl) (Nat.le_of_ble_eq_true rfl) (Nat.le_of_ble_eq_true rfl) (Nat.le_refl _) (Nat.le_refl _)
        · refine lv_lload_n hx hb dX3_latch_49 rfl (lv_at hl 2 rfl) ?_
          refine lv_ldc2 (v := (1000 : Int64)) hx hb hown (hts _ tw_273) dX3_latch_50 ?_
          refine W.lcmp hx hb dX3_latch_53 ?_
          refine lv_if_gt (tgt := 75) hx hb dX3_latch_54 (by decide) (fun c_5 => ?_) (fun c_5 => ?_)
          · exact xt_S hx hb hl0 hown hts hlk hout (hl.1.trans hml.symm) hE hP hK hD hS (X := xIAE) (text := "no such place") (ik := 43) (is := 52) (ic := 47) tw_256 tw_10 (by decide) xg_a xn_a xo_a xf_a dX3_latch_75 dX3_latch_78 dX3_latch_79 dX3_latch_81 dX3_latch_84 (Nat.le_of_ble_eq_true rfl) (Nat.le_of_ble_eq_true rfl) (Nat.le_of_ble_eq_true rfl) (Nat.le_of_ble_eq_true rfl) (Nat.le_refl _) (Nat.le_refl _)
          · refine lv_lload hx hb dX3_latch_57 (lv_at hl 3 rfl) ?_
            refine lv_ldc2 (v := (-1000 : Int64)) hx hb hown (hts _ tw_272) dX3_latch_59 ?_
            refine W.lcmp hx hb dX3_latch_62 ?_
            refine lv_if_lt (tgt := 75) hx hb dX3_latch_63 (by decide) (fun c_6 => ?_) (fun c_6 => ?_)
            · exact xt_S hx hb hl0 hown hts hlk hout (hl.1.trans hml.symm) hE hP hK hD hS (X := xIAE) (text := "no such place") (ik := 43) (is := 52) (ic := 47) tw_256 tw_10 (by decide) xg_a xn_a xo_a xf_a dX3_latch_75 dX3_latch_78 dX3_latch_79 dX3_latch_81 dX3_latch_84 (Nat.le_of_ble_eq_true rfl) (Nat.le_of_ble_eq_true rfl) (Nat.le_of_ble_eq_true rfl) (Nat.le_of_ble_eq_true rfl) (Nat.le_refl _) (Nat.le_refl _)
            · refine lv_lload hx hb dX3_latch_66 (lv_at hl 3 rfl) ?_
              refine lv_ldc2 (v := (1000 : Int64)) hx hb hown (hts _ tw_273) dX3_latch_68 ?_
              refine W.lcmp hx hb dX3_latch_71 ?_
              refine lv_if_le (tgt := 85) hx hb dX3_latch_72 (by decide) (fun c_7 => ?_) (fun c_7 => ?_)
              · exact absurd ⟨c_2, nlt4 c_3, fun z => c_4 ((lg_cmp_lt _ _).mpr z), fun z => c_5 ((lg_cmp_gt _ _).mpr z), fun z => c_6 ((lg_cmp_lt _ _).mpr z), Int64.not_lt.mpr ((lg_cmp_le _ _).mp c_7)⟩ h2
              · exact xt_S hx hb hl0 hown hts hlk hout (hl.1.trans hml.symm) hE hP hK hD hS (X := xIAE) (text := "no such place") (ik := 43) (is := 52) (ic := 47) tw_256 tw_10 (by decide) xg_a xn_a xo_a xf_a dX3_latch_75 dX3_latch_78 dX3_latch_79 dX3_latch_81 dX3_latch_84 (Nat.le_of_ble_eq_true rfl) (Nat.le_of_ble_eq_true rfl) (Nat.le_of_ble_eq_true rfl) (Nat.le_of_ble_eq_true rfl) (Nat.le_refl _) (Nat.le_refl _)
      · exact xt_S hx hb hl0 hown hts hlk hout (hl.1.trans hml.symm) hE hP hK hD hS (X := xIAE) (text := "no such clock") (ik := 43) (is := 45) (ic := 47) tw_256 tw_10 (by decide) xg_a xn_a xo_a xf_a dX3_latch_31 dX3_latch_34 dX3_latch_35 dX3_latch_37 dX3_latch_40 (Nat.le_of_ble_eq_true rfl) (Nat.le_of_ble_eq_true rfl) (Nat.le_of_ble_eq_true rfl) (Nat.le_of_ble_eq_true rfl) (Nat.le_refl _) (Nat.le_refl _)
  · exact absurd (show False by omega) id
set_option maxHeartbeats 4000000 in
set_option maxRecDepth 100000 in
theorem tx_make (l : Launch) (hl0 : l.stackTraces = false) (dC : Nat → ClassId) (dI : Nat → Nat → Nat) (q : Nat → Nat) (cI cZ : ClassId) (sz : Nat) (r : RS) (k : CS) (a : AS) (tN : Nat) (v : Int32) (h1 : v < nI 1 ∨ ¬ v ≤ nI 8) : vx_Met l yX3_make (.code yX3_make cX3_make 2 (some .int) :: ALLG) ({ frames := 6, cells := 1, slots := 6, locals := 90 }) (va_Pc [.ref (q 17), .int v] (cP (dC, dI) vwCl [(cI, .int), (cZ, .boolean)] (wX q cI cZ r k a) (eX tN (va_A (wX q cI cZ r k a) sz)) sz)) (qNi (va_A (wX q cI cZ r k a) sz)) (xE (dC, dI) vwCl [(cI, .int), (cZ, .boolean)] xIAE (wX q cI cZ r k a) (va_A (wX q cI cZ r k a) sz)) 1 6 (va_A (wX q cI cZ r k a) sz) := by
  refine xm_x (cc := cX3_make) (maxL := 2) (ret := some .int) (by decide) rfl (Nat.le_of_ble_eq_true rfl) ?_
  intro p e s m below meth c A hAe hx hb hr hml hts0 hown hlk hout hsz H locs hP hK hD hA hS hE ls hl
  have hts : ∀ w ∈ ALLG, w.before _ s = true := fun w h => hts0 w (List.mem_cons_of_mem _ h)
  rw [← hAe]
  rw [← hAe] at hE
  have hl : lv_has ls 2 [(0, .ref (q 17)), (1, .int v)] := hl
  refine lv_iload_n hx hb dX3_make_0 rfl (lv_at hl 1 rfl) ?_
  refine lv_iconst (v := nI 1) hx hb dX3_make_1 (by decide) ?_
  refine lv_icmp_lt (tgt := 11) hx hb dX3_make_2 (by decide) (fun c_1 => ?_) (fun c_1 => ?_)
  · exact xt_S hx hb hl0 hown hts hlk hout (hl.1.trans hml.symm) hE hP hK hD hS (X := xIAE) (text := "chains are not 1 to 8") (ik := 43) (is := 58) (ic := 47) tw_256 tw_10 (by decide) xg_a xn_a xo_a xf_a dX3_make_11 dX3_make_14 dX3_make_15 dX3_make_17 dX3_make_20 (Nat.le_of_ble_eq_true rfl) (Nat.le_of_ble_eq_true rfl) (Nat.le_of_ble_eq_true rfl) (Nat.le_of_ble_eq_true rfl) (Nat.le_refl _) (Nat.le_refl _)
  · refine lv_iload_n hx hb dX3_make_5 rfl (lv_at hl 1 rfl) ?_
    refine lv_bipush (v := nI 8) hx hb dX3_make_6 (by decide) ?_
    refine lv_icmp_le (tgt := 21) hx hb dX3_make_8 (by decide) (fun c_2 => ?_) (fun c_2 => ?_)
    · exact absurd h1 (fun z => z.elim c_1 (fun z => z c_2))
    · exact xt_S hx hb hl0 hown hts hlk hout (hl.1.trans hml.symm) hE hP hK hD hS (X := xIAE) (text := "chains are not 1 to 8") (ik := 43) (is := 58) (ic := 47) tw_256 tw_10 (by decide) xg_a xn_a xo_a xf_a dX3_make_11 dX3_make_14 dX3_make_15 dX3_make_17 dX3_make_20 (Nat.le_of_ble_eq_true rfl) (Nat.le_of_ble_eq_true rfl) (Nat.le_of_ble_eq_true rfl) (Nat.le_of_ble_eq_true rfl) (Nat.le_refl _) (Nat.le_refl _)
set_option maxHeartbeats 4000000 in
set_option maxRecDepth 100000 in
theorem tx_at (l : Launch) (hl0 : l.stackTraces = false) (dC : Nat → ClassId) (dI : Nat → Nat → Nat) (q : Nat → Nat) (cI cZ : ClassId) (sz : Nat) (r : RS) (k : CS) (a : AS) (tN : Nat) (v kv : Int32) (h1 : hcN v r.c = 0 ∨ kv < 0) : vx_Met l yX3_at (.code yX3_at cX3_at 3 (some .int) :: ALLG) ({ frames := 6, cells := 1, slots := 6, locals := 90 }) (va_Pc [.ref (q 17), .int v, .int kv] (cP (dC, dI) vwCl [(cI, .int), (cZ, .boolean)] (wX q cI cZ r k a) (eX tN (va_A (wX q cI cZ r k a) sz)) sz)) (qNi (va_A (wX q cI cZ r k a) sz)) (xE (dC, dI) vwCl [(cI, .int), (cZ, .boolean)] xIOB (wX q cI cZ r k a) (va_A (wX q cI cZ r k a) sz)) 1 6 (va_A (wX q cI cZ r k a) sz) := by
  refine xm_x (cc := cX3_at) (maxL := 3) (ret := some .int) (by decide) rfl (Nat.le_of_ble_eq_true rfl) ?_
  intro p e s m below meth c A hAe hx hb hr hml hts0 hown hlk hout hsz H locs hP hK hD hA hS hE ls hl
  have hts : ∀ w ∈ ALLG, w.before _ s = true := fun w h => hts0 w (List.mem_cons_of_mem _ h)
  rw [← hAe]
  rw [← hAe] at hE
  have g1 := hcN_le v r.c
  have hl : lv_has ls 3 [(0, .ref (q 17)), (1, .int v), (2, .int kv)] := hl
  refine lv_aload_n hx hb dX3_at_0 rfl (lv_at hl 0 rfl) ?_
  refine va_get (D := (dC, dI)) (ci := 3) (v := .ref (q 0)) (C := RX3) (T := TX3) (N := 3) hx hb hts inX3 hown hK hP 17 rfl rfl 0 (by decide) (hts _ tw_131) (fun _ h9 => h9) rfl dX3_at_1 ?_
  refine lv_iload_n hx hb dX3_at_4 rfl (lv_at hl 1 rfl) ?_
  refine xc_Vi (As := [.int v]) (wr := wC q cI k ++ wA q cI a ++ wSf q) ⟨hx, hb, hml, hown, hts⟩ (c_Rows_hasChain l dC dI q cI cZ H.size r v) (cwV 1 hts (gV tw_315 tw_316 tw_317 tw_2 tw_318) rfl rfl rfl (by decide +kernel) ⟨Nat.le_of_ble_eq_true rfl, Nat.le_of_ble_eq_true rfl⟩) rfl hl.1 rfl (Nat.le_of_ble_eq_true rfl) dX3_at_5 ⟨Nat.zero_le _, Nat.zero_le _⟩ hP hD hK hS hA [0, 1, 2, 3, 4, 5, 6, 7, 8, 9] [10, 11, 12, 13, 14, 15, 16, 17] rfl rfl (by decide) (by decide) (by decide) [0, 1] rfl (q0 := 0) rfl rfl rfl eT_M (trivial) (fun r_1 u_2 H locs w_3 hP hD hS => ?_)
  obtain rfl := w_3
  have hP : va_P (dC, dI) vwCl (wX q cI cZ r k a) H := hP.sub [8, 9, 10, 11, 12, 13, 14, 15, 16, 17, 0, 1, 2, 3, 4, 5, 6, 7] rfl
  have hD : va_D A (wX q cI cZ r k a) := hD.sub [8, 9, 10, 11, 12, 13, 14, 15, 16, 17, 0, 1, 2, 3, 4, 5, 6, 7] (by decide) rfl
  refine xn_zeq (tgt := 15) hx hb (by omega) dX3_at_8 (by decide) (fun c_4 => ?_) (fun c_4 => ?_)
  · exact xt_S hx hb hl0 hown hts hlk hout (hl.1.trans hml.symm) hE hP hK hD hS (X := xIOB) (text := "no such chain or place") (ik := 68) (is := 70) (ic := 72) tw_319 tw_11 (by decide) xg_i xn_i xo_i xf_i dX3_at_15 dX3_at_18 dX3_at_19 dX3_at_21 dX3_at_24 (Nat.le_of_ble_eq_true rfl) (Nat.le_of_ble_eq_true rfl) (Nat.le_of_ble_eq_true rfl) (Nat.le_of_ble_eq_true rfl) (Nat.le_refl _) (Nat.le_refl _)
  · refine lv_iload_n hx hb dX3_at_11 rfl (lv_at hl 2 rfl) ?_
    refine lv_if_ge (tgt := 25) hx hb dX3_at_12 (by decide) (fun c_5 => ?_) (fun c_5 => ?_)
    · exact absurd h1 (fun z => z.elim (fun z => by omega) (fun z => absurd c_5 (Int32.not_le.mpr z)))
    · exact xt_S hx hb hl0 hown hts hlk hout (hl.1.trans hml.symm) hE hP hK hD hS (X := xIOB) (text := "no such chain or place") (ik := 68) (is := 70) (ic := 72) tw_319 tw_11 (by decide) xg_i xn_i xo_i xf_i dX3_at_15 dX3_at_18 dX3_at_19 dX3_at_21 dX3_at_24 (Nat.le_of_ble_eq_true rfl) (Nat.le_of_ble_eq_true rfl) (Nat.le_of_ble_eq_true rfl) (Nat.le_of_ble_eq_true rfl) (Nat.le_refl _) (Nat.le_refl _)
set_option maxHeartbeats 4000000 in
set_option maxRecDepth 100000 in
theorem tx_lockUp1 (l : Launch) (hl0 : l.stackTraces = false) (dC : Nat → ClassId) (dI : Nat → Nat → Nat) (q : Nat → Nat) (cI cZ : ClassId) (sz : Nat) (r : RS) (k : CS) (a : AS) (tN : Nat) (v kv : Int32) (h1 : hcN v r.c = 0 ∨ kv < 0) : vx_Met l yX3_lockUp (.code yX3_lockUp cX3_lockUp 3 (some .boolean) :: ALLG) ({ frames := 6, cells := 1, slots := 6, locals := 90 }) (va_Pc [.ref (q 17), .int v, .int kv] (cP (dC, dI) vwCl [(cI, .int), (cZ, .boolean)] (wX q cI cZ r k a) (eX tN (va_A (wX q cI cZ r k a) sz)) sz)) (qNi (va_A (wX q cI cZ r k a) sz)) (xE (dC, dI) vwCl [(cI, .int), (cZ, .boolean)] xIOB (wX q cI cZ r k a) (va_A (wX q cI cZ r k a) sz)) 1 6 (va_A (wX q cI cZ r k a) sz) := by
  refine xm_x (cc := cX3_lockUp) (maxL := 3) (ret := some .boolean) (by decide) rfl (Nat.le_of_ble_eq_true rfl) ?_
  intro p e s m below meth c A hAe hx hb hr hml hts0 hown hlk hout hsz H locs hP hK hD hA hS hE ls hl
  have hts : ∀ w ∈ ALLG, w.before _ s = true := fun w h => hts0 w (List.mem_cons_of_mem _ h)
  rw [← hAe]
  rw [← hAe] at hE
  have g1 := hcN_le v r.c
  have hl : lv_has ls 3 [(0, .ref (q 17)), (1, .int v), (2, .int kv)] := hl
  refine lv_aload_n hx hb dX3_lockUp_0 rfl (lv_at hl 0 rfl) ?_
  refine va_get (D := (dC, dI)) (ci := 3) (v := .ref (q 0)) (C := RX3) (T := TX3) (N := 3) hx hb hts inX3 hown hK hP 17 rfl rfl 0 (by decide) (hts _ tw_131) (fun _ h9 => h9) rfl dX3_lockUp_1 ?_
  refine lv_iload_n hx hb dX3_lockUp_4 rfl (lv_at hl 1 rfl) ?_
  refine xc_Vi (As := [.int v]) (wr := wC q cI k ++ wA q cI a ++ wSf q) ⟨hx, hb, hml, hown, hts⟩ (c_Rows_hasChain l dC dI q cI cZ H.size r v) (cwV 1 hts (gV tw_315 tw_316 tw_317 tw_2 tw_318) rfl rfl rfl (by decide +kernel) ⟨Nat.le_of_ble_eq_true rfl, Nat.le_of_ble_eq_true rfl⟩) rfl hl.1 rfl (Nat.le_of_ble_eq_true rfl) dX3_lockUp_5 ⟨Nat.zero_le _, Nat.zero_le _⟩ hP hD hK hS hA [0, 1, 2, 3, 4, 5, 6, 7, 8, 9] [10, 11, 12, 13, 14, 15, 16, 17] rfl rfl (by decide) (by decide) (by decide) [0, 1] rfl (q0 := 0) rfl rfl rfl eT_M (trivial) (fun r_1 u_2 H locs w_3 hP hD hS => ?_)
  obtain rfl := w_3
  have hP : va_P (dC, dI) vwCl (wX q cI cZ r k a) H := hP.sub [8, 9, 10, 11, 12, 13, 14, 15, 16, 17, 0, 1, 2, 3, 4, 5, 6, 7] rfl
  have hD : va_D A (wX q cI cZ r k a) := hD.sub [8, 9, 10, 11, 12, 13, 14, 15, 16, 17, 0, 1, 2, 3, 4, 5, 6, 7] (by decide) rfl
  refine xn_zeq (tgt := 27) hx hb (by omega) dX3_lockUp_8 (by decide) (fun c_4 => ?_) (fun c_4 => ?_)
  · exact xt_S hx hb hl0 hown hts hlk hout (hl.1.trans hml.symm) hE hP hK hD hS (X := xIOB) (text := "no such chain or place") (ik := 68) (is := 70) (ic := 72) tw_319 tw_11 (by decide) xg_i xn_i xo_i xf_i dX3_lockUp_27 dX3_lockUp_30 dX3_lockUp_31 dX3_lockUp_33 dX3_lockUp_36 (Nat.le_of_ble_eq_true rfl) (Nat.le_of_ble_eq_true rfl) (Nat.le_of_ble_eq_true rfl) (Nat.le_of_ble_eq_true rfl) (Nat.le_refl _) (Nat.le_refl _)
  · refine lv_iload_n hx hb dX3_lockUp_11 rfl (lv_at hl 2 rfl) ?_
    refine lv_if_lt (tgt := 27) hx hb dX3_lockUp_12 (by decide) (fun c_5 => ?_) (fun c_5 => ?_)
    · exact xt_S hx hb hl0 hown hts hlk hout (hl.1.trans hml.symm) hE hP hK hD hS (X := xIOB) (text := "no such chain or place") (ik := 68) (is := 70) (ic := 72) tw_319 tw_11 (by decide) xg_i xn_i xo_i xf_i dX3_lockUp_27 dX3_lockUp_30 dX3_lockUp_31 dX3_lockUp_33 dX3_lockUp_36 (Nat.le_of_ble_eq_true rfl) (Nat.le_of_ble_eq_true rfl) (Nat.le_of_ble_eq_true rfl) (Nat.le_of_ble_eq_true rfl) (Nat.le_refl _) (Nat.le_refl _)
    · exact absurd h1 (fun z => z.elim (fun z => by omega) c_5)
set_option maxHeartbeats 4000000 in
set_option maxRecDepth 100000 in
theorem tx_lockUp2 (l : Launch) (hl0 : l.stackTraces = false) (dC : Nat → ClassId) (dI : Nat → Nat → Nat) (q : Nat → Nat) (cI cZ : ClassId) (sz : Nat) (r : RS) (k : CS) (a : AS) (tN : Nat) (ch kk : Nat) (h0 : r.c ≤ 8) (h1 : ch < r.c) (h2 : r.st ch ≤ r.st (ch + 1)) (h3 : r.st (ch + 1) ≤ 32) (h4 : r.st (ch + 1) - r.st ch ≤ kk) (h5 : kk < 2 ^ 31) : vx_Met l yX3_lockUp (.code yX3_lockUp cX3_lockUp 3 (some .boolean) :: ALLG) ({ frames := 6, cells := 1, slots := 6, locals := 90 }) (va_Pc [.ref (q 17), .int (nI ch), .int (nI kk)] (cP (dC, dI) vwCl [(cI, .int), (cZ, .boolean)] (wX q cI cZ r k a) (eX tN (va_A (wX q cI cZ r k a) sz)) sz)) (qNi (va_A (wX q cI cZ r k a) sz)) (xE (dC, dI) vwCl [(cI, .int), (cZ, .boolean)] xIOB (wX q cI cZ r k a) (va_A (wX q cI cZ r k a) sz)) 1 6 (va_A (wX q cI cZ r k a) sz) := by
  refine xm_x (cc := cX3_lockUp) (maxL := 3) (ret := some .boolean) (by decide) rfl (Nat.le_of_ble_eq_true rfl) ?_
  intro p e s m below meth c A hAe hx hb hr hml hts0 hown hlk hout hsz H locs hP hK hD hA hS hE ls hl
  have hts : ∀ w ∈ ALLG, w.before _ s = true := fun w h => hts0 w (List.mem_cons_of_mem _ h)
  rw [← hAe]
  rw [← hAe] at hE
  have hl : lv_has ls 3 [(0, .ref (q 17)), (1, .int (nI ch)), (2, .int (nI kk))] := hl
  refine lv_aload_n hx hb dX3_lockUp_0 rfl (lv_at hl 0 rfl) ?_
  refine va_get (D := (dC, dI)) (ci := 3) (v := .ref (q 0)) (C := RX3) (T := TX3) (N := 3) hx hb hts inX3 hown hK hP 17 rfl rfl 0 (by decide) (hts _ tw_131) (fun _ h9 => h9) rfl dX3_lockUp_1 ?_
  refine lv_iload_n hx hb dX3_lockUp_4 rfl (lv_at hl 1 rfl) ?_
  refine xc_Vi (As := [.int (nI ch)]) (wr := wC q cI k ++ wA q cI a ++ wSf q) ⟨hx, hb, hml, hown, hts⟩ (c_Rows_hasChain l dC dI q cI cZ H.size r (nI ch)) (cwV 1 hts (gV tw_315 tw_316 tw_317 tw_2 tw_318) rfl rfl rfl (by decide +kernel) ⟨Nat.le_of_ble_eq_true rfl, Nat.le_of_ble_eq_true rfl⟩) rfl hl.1 rfl (Nat.le_of_ble_eq_true rfl) dX3_lockUp_5 ⟨Nat.zero_le _, Nat.zero_le _⟩ hP hD hK hS hA [0, 1, 2, 3, 4, 5, 6, 7, 8, 9] [10, 11, 12, 13, 14, 15, 16, 17] rfl rfl (by decide) (by decide) (by decide) [0, 1] rfl (q0 := 0) rfl rfl rfl eT_M (trivial) (fun r_1 u_2 H locs w_3 hP hD hS => ?_)
  obtain rfl := w_3
  have hP : va_P (dC, dI) vwCl (wX q cI cZ r k a) H := hP.sub [8, 9, 10, 11, 12, 13, 14, 15, 16, 17, 0, 1, 2, 3, 4, 5, 6, 7] rfl
  have hD : va_D A (wX q cI cZ r k a) := hD.sub [8, 9, 10, 11, 12, 13, 14, 15, 16, 17, 0, 1, 2, 3, 4, 5, 6, 7] (by decide) rfl
  refine xt_i (show nI (hcN (nI ch) r.c) = nI 1 from congrArg nI (hcN_1 h1 h0)) ?_
  refine xn_zeq (tgt := 27) hx hb (by omega) dX3_lockUp_8 (by decide) (fun c_4 => ?_) (fun c_4 => ?_)
  · exact absurd (show False by omega) id
  · refine lv_iload_n hx hb dX3_lockUp_11 rfl (lv_at hl 2 rfl) ?_
    refine xn_zlt (tgt := 27) hx hb (by omega) dX3_lockUp_12 (by decide) ?_
    refine lv_iload_n hx hb dX3_lockUp_15 rfl (lv_at hl 2 rfl) ?_
    refine lv_aload_n hx hb dX3_lockUp_16 rfl (lv_at hl 0 rfl) ?_
    refine va_get (D := (dC, dI)) (ci := 3) (v := .ref (q 0)) (C := RX3) (T := TX3) (N := 3) hx hb hts inX3 hown hK hP 17 rfl rfl 0 (by decide) (hts _ tw_131) (fun _ h9 => h9) rfl dX3_lockUp_17 ?_
    refine lv_iload_n hx hb dX3_lockUp_20 rfl (lv_at hl 1 rfl) ?_
    refine xc_Vi (As := [.int (nI ch)]) (wr := wC q cI k ++ wA q cI a ++ wSf q) ⟨hx, hb, hml, hown, hts⟩ (c_Rows_lengthOf l dC dI q cI cZ H.size r ch (by omega) h2) (cwV 1 hts (gV tw_335 tw_304 tw_305 tw_2 tw_306) rfl rfl rfl (by decide +kernel) ⟨Nat.le_of_ble_eq_true rfl, Nat.le_of_ble_eq_true rfl⟩) rfl hl.1 rfl (Nat.le_of_ble_eq_true rfl) dX3_lockUp_21 ⟨Nat.zero_le _, Nat.zero_le _⟩ hP hD hK hS hA [0, 1, 2, 3, 4, 5, 6, 7, 8, 9] [10, 11, 12, 13, 14, 15, 16, 17] rfl rfl (by decide) (by decide) (by decide) [0, 1] rfl (q0 := 0) rfl rfl rfl eT_M (trivial) (fun r_6 u_7 H locs w_8 hP hD hS => ?_)
    obtain rfl := w_8
    have hP : va_P (dC, dI) vwCl (wX q cI cZ r k a) H := hP.sub [8, 9, 10, 11, 12, 13, 14, 15, 16, 17, 0, 1, 2, 3, 4, 5, 6, 7] rfl
    have hD : va_D A (wX q cI cZ r k a) := hD.sub [8, 9, 10, 11, 12, 13, 14, 15, 16, 17, 0, 1, 2, 3, 4, 5, 6, 7] (by decide) rfl
    refine xn_clt (tgt := 37) hx hb (by omega) (by omega) dX3_lockUp_24 (by decide) (fun c_9 => ?_) (fun c_9 => ?_)
    · exact absurd (show False by omega) id
    · exact xt_S hx hb hl0 hown hts hlk hout (hl.1.trans hml.symm) hE hP hK hD hS (X := xIOB) (text := "no such chain or place") (ik := 68) (is := 70) (ic := 72) tw_319 tw_11 (by decide) xg_i xn_i xo_i xf_i dX3_lockUp_27 dX3_lockUp_30 dX3_lockUp_31 dX3_lockUp_33 dX3_lockUp_36 (Nat.le_of_ble_eq_true rfl) (Nat.le_of_ble_eq_true rfl) (Nat.le_of_ble_eq_true rfl) (Nat.le_of_ble_eq_true rfl) (Nat.le_refl _) (Nat.le_refl _)
set_option maxHeartbeats 4000000 in
set_option maxRecDepth 100000 in
theorem tx_improve (l : Launch) (hl0 : l.stackTraces = false) (dC : Nat → ClassId) (dI : Nat → Nat → Nat) (q : Nat → Nat) (cI cZ : ClassId) (sz : Nat) (r : RS) (k : CS) (a : AS) (tN : Nat) (v : Int32) (h1 : v < 0) : vx_Met l yX3_improve (.code yX3_improve cX3_improve 2 (some .int) :: ALLG) ({ frames := 6, cells := 1, slots := 6, locals := 90 }) (va_Pc [.ref (q 17), .int v] (cP (dC, dI) vwCl [(cI, .int), (cZ, .boolean)] (wX q cI cZ r k a) (eX tN (va_A (wX q cI cZ r k a) sz)) sz)) (qNi (va_A (wX q cI cZ r k a) sz)) (xE (dC, dI) vwCl [(cI, .int), (cZ, .boolean)] xIAE (wX q cI cZ r k a) (va_A (wX q cI cZ r k a) sz)) 1 6 (va_A (wX q cI cZ r k a) sz) := by
  refine xm_x (cc := cX3_improve) (maxL := 2) (ret := some .int) (by decide) rfl (Nat.le_of_ble_eq_true rfl) ?_
  intro p e s m below meth c A hAe hx hb hr hml hts0 hown hlk hout hsz H locs hP hK hD hA hS hE ls hl
  have hts : ∀ w ∈ ALLG, w.before _ s = true := fun w h => hts0 w (List.mem_cons_of_mem _ h)
  rw [← hAe]
  rw [← hAe] at hE
  have hl : lv_has ls 2 [(0, .ref (q 17)), (1, .int v)] := hl
  refine lv_iload_n hx hb dX3_improve_0 rfl (lv_at hl 1 rfl) ?_
  refine lv_if_ge (tgt := 14) hx hb dX3_improve_1 (by decide) (fun c_1 => ?_) (fun c_1 => ?_)
  · exact absurd c_1 (Int32.not_le.mpr h1)
  · exact xt_S hx hb hl0 hown hts hlk hout (hl.1.trans hml.symm) hE hP hK hD hS (X := xIAE) (text := "steps are below 0") (ik := 43) (is := 88) (ic := 47) tw_256 tw_10 (by decide) xg_a xn_a xo_a xf_a dX3_improve_4 dX3_improve_7 dX3_improve_8 dX3_improve_10 dX3_improve_13 (Nat.le_of_ble_eq_true rfl) (Nat.le_of_ble_eq_true rfl) (Nat.le_of_ble_eq_true rfl) (Nat.le_of_ble_eq_true rfl) (Nat.le_refl _) (Nat.le_refl _)
set_option maxHeartbeats 4000000 in
set_option maxRecDepth 100000 in
theorem tx_rule (l : Launch) (hl0 : l.stackTraces = false) (dC : Nat → ClassId) (dI : Nat → Nat → Nat) (q : Nat → Nat) (cI cZ : ClassId) (sz : Nat) (r : RS) (k : CS) (a : AS) (tN : Nat) (kv wv : Int32) (h1 : kv < 0 ∨ wv < 0 ∨ ¬ wv ≤ nI 1) : vx_Met l yX3_rule (.code yX3_rule cX3_rule 3 (some .int) :: ALLG) ({ frames := 6, cells := 1, slots := 6, locals := 90 }) (va_Pc [.ref (q 17), .int kv, .int wv] (cP (dC, dI) vwCl [(cI, .int), (cZ, .boolean)] (wX q cI cZ r k a) (eX tN (va_A (wX q cI cZ r k a) sz)) sz)) (qNi (va_A (wX q cI cZ r k a) sz)) (xE (dC, dI) vwCl [(cI, .int), (cZ, .boolean)] xIOB (wX q cI cZ r k a) (va_A (wX q cI cZ r k a) sz)) 1 6 (va_A (wX q cI cZ r k a) sz) := by
  refine xm_x (cc := cX3_rule) (maxL := 3) (ret := some .int) (by decide) rfl (Nat.le_of_ble_eq_true rfl) ?_
  intro p e s m below meth c A hAe hx hb hr hml hts0 hown hlk hout hsz H locs hP hK hD hA hS hE ls hl
  have hts : ∀ w ∈ ALLG, w.before _ s = true := fun w h => hts0 w (List.mem_cons_of_mem _ h)
  rw [← hAe]
  rw [← hAe] at hE
  have hl : lv_has ls 3 [(0, .ref (q 17)), (1, .int kv), (2, .int wv)] := hl
  refine lv_iload_n hx hb dX3_rule_0 rfl (lv_at hl 1 rfl) ?_
  refine lv_if_lt (tgt := 13) hx hb dX3_rule_1 (by decide) (fun c_1 => ?_) (fun c_1 => ?_)
  · exact xt_S hx hb hl0 hown hts hlk hout (hl.1.trans hml.symm) hE hP hK hD hS (X := xIOB) (text := "no such rule or no such what") (ik := 68) (is := 93) (ic := 72) tw_319 tw_11 (by decide) xg_i xn_i xo_i xf_i dX3_rule_13 dX3_rule_16 dX3_rule_17 dX3_rule_19 dX3_rule_22 (Nat.le_of_ble_eq_true rfl) (Nat.le_of_ble_eq_true rfl) (Nat.le_of_ble_eq_true rfl) (Nat.le_of_ble_eq_true rfl) (Nat.le_refl _) (Nat.le_refl _)
  · refine lv_iload_n hx hb dX3_rule_4 rfl (lv_at hl 2 rfl) ?_
    refine lv_if_lt (tgt := 13) hx hb dX3_rule_5 (by decide) (fun c_2 => ?_) (fun c_2 => ?_)
    · exact xt_S hx hb hl0 hown hts hlk hout (hl.1.trans hml.symm) hE hP hK hD hS (X := xIOB) (text := "no such rule or no such what") (ik := 68) (is := 93) (ic := 72) tw_319 tw_11 (by decide) xg_i xn_i xo_i xf_i dX3_rule_13 dX3_rule_16 dX3_rule_17 dX3_rule_19 dX3_rule_22 (Nat.le_of_ble_eq_true rfl) (Nat.le_of_ble_eq_true rfl) (Nat.le_of_ble_eq_true rfl) (Nat.le_of_ble_eq_true rfl) (Nat.le_refl _) (Nat.le_refl _)
    · refine lv_iload_n hx hb dX3_rule_8 rfl (lv_at hl 2 rfl) ?_
      refine lv_iconst (v := nI 1) hx hb dX3_rule_9 (by decide) ?_
      refine lv_icmp_le (tgt := 23) hx hb dX3_rule_10 (by decide) (fun c_3 => ?_) (fun c_3 => ?_)
      · exact absurd h1 (fun z => z.elim c_1 (fun z => z.elim c_2 (fun z => z c_3)))
      · exact xt_S hx hb hl0 hown hts hlk hout (hl.1.trans hml.symm) hE hP hK hD hS (X := xIOB) (text := "no such rule or no such what") (ik := 68) (is := 93) (ic := 72) tw_319 tw_11 (by decide) xg_i xn_i xo_i xf_i dX3_rule_13 dX3_rule_16 dX3_rule_17 dX3_rule_19 dX3_rule_22 (Nat.le_of_ble_eq_true rfl) (Nat.le_of_ble_eq_true rfl) (Nat.le_of_ble_eq_true rfl) (Nat.le_of_ble_eq_true rfl) (Nat.le_refl _) (Nat.le_refl _)
set_option maxHeartbeats 4000000 in
set_option maxRecDepth 100000 in
theorem tx_requireLatch (l : Launch) (hl0 : l.stackTraces = false) (dC : Nat → ClassId) (dI : Nat → Nat → Nat) (q : Nat → Nat) (cI cZ : ClassId) (sz : Nat) (r : RS) (k : CS) (a : AS) (tN : Nat) (v : Int32) (h1 : hcN v r.n = 0) : vx_Met l yX3_requireLatch (.code yX3_requireLatch cX3_requireLatch 2 none :: ALLG) ({ frames := 6, cells := 1, slots := 6, locals := 90 }) (va_Pc [.ref (q 17), .int v] (cP (dC, dI) vwCl [(cI, .int), (cZ, .boolean)] (wX q cI cZ r k a) (eX tN (va_A (wX q cI cZ r k a) sz)) sz)) (qNv (va_A (wX q cI cZ r k a) sz)) (xE (dC, dI) vwCl [(cI, .int), (cZ, .boolean)] xIOB (wX q cI cZ r k a) (va_A (wX q cI cZ r k a) sz)) 1 6 (va_A (wX q cI cZ r k a) sz) := by
  refine xm_x (cc := cX3_requireLatch) (maxL := 2) (ret := none) (by decide) rfl (Nat.le_of_ble_eq_true rfl) ?_
  intro p e s m below meth c A hAe hx hb hr hml hts0 hown hlk hout hsz H locs hP hK hD hA hS hE ls hl
  have hts : ∀ w ∈ ALLG, w.before _ s = true := fun w h => hts0 w (List.mem_cons_of_mem _ h)
  rw [← hAe]
  rw [← hAe] at hE
  have hl : lv_has ls 2 [(0, .ref (q 17)), (1, .int v)] := hl
  refine lv_iload_n hx hb dX3_requireLatch_0 rfl (lv_at hl 1 rfl) ?_
  refine lv_if_lt (tgt := 15) hx hb dX3_requireLatch_1 (by decide) (fun c_1 => ?_) (fun c_1 => ?_)
  · exact xt_S hx hb hl0 hown hts hlk hout (hl.1.trans hml.symm) hE hP hK hD hS (X := xIOB) (text := "no such latch") (ik := 68) (is := 161) (ic := 72) tw_319 tw_11 (by decide) xg_i xn_i xo_i xf_i dX3_requireLatch_15 dX3_requireLatch_18 dX3_requireLatch_19 dX3_requireLatch_21 dX3_requireLatch_24 (Nat.le_of_ble_eq_true rfl) (Nat.le_of_ble_eq_true rfl) (Nat.le_of_ble_eq_true rfl) (Nat.le_of_ble_eq_true rfl) (Nat.le_refl _) (Nat.le_refl _)
  · refine lv_iload_n hx hb dX3_requireLatch_4 rfl (lv_at hl 1 rfl) ?_
    refine lv_aload_n hx hb dX3_requireLatch_5 rfl (lv_at hl 0 rfl) ?_
    refine va_get (D := (dC, dI)) (ci := 3) (v := .ref (q 0)) (C := RX3) (T := TX3) (N := 3) hx hb hts inX3 hown hK hP 17 rfl rfl 0 (by decide) (hts _ tw_131) (fun _ h9 => h9) rfl dX3_requireLatch_6 ?_
    refine va_get (D := (dC, dI)) (ci := 2) (v := .int (nI (RS.n r))) (C := RX2) (T := TX2) (N := 12) hx hb hts inX2 hown hK hP 0 rfl rfl 0 (by decide) (hts _ tw_28) (fun _ h9 => h9) rfl dX3_requireLatch_9 ?_
    refine lv_icmp_lt (tgt := 25) hx hb dX3_requireLatch_12 (by decide) (fun c_2 => ?_) (fun c_2 => ?_)
    · exact absurd h1 (by unfold hcN; rw [if_pos ⟨c_1, c_2⟩]; decide)
    · exact xt_S hx hb hl0 hown hts hlk hout (hl.1.trans hml.symm) hE hP hK hD hS (X := xIOB) (text := "no such latch") (ik := 68) (is := 161) (ic := 72) tw_319 tw_11 (by decide) xg_i xn_i xo_i xf_i dX3_requireLatch_15 dX3_requireLatch_18 dX3_requireLatch_19 dX3_requireLatch_21 dX3_requireLatch_24 (Nat.le_of_ble_eq_true rfl) (Nat.le_of_ble_eq_true rfl) (Nat.le_of_ble_eq_true rfl) (Nat.le_of_ble_eq_true rfl) (Nat.le_refl _) (Nat.le_refl _)
set_option maxHeartbeats 4000000 in
set_option maxRecDepth 100000 in
theorem tx_requireCell (l : Launch) (hl0 : l.stackTraces = false) (dC : Nat → ClassId) (dI : Nat → Nat → Nat) (q : Nat → Nat) (cI cZ : ClassId) (sz : Nat) (r : RS) (k : CS) (a : AS) (tN : Nat) (v : Int32) (h1 : hcN v k.n = 0) : vx_Met l yX3_requireCell (.code yX3_requireCell cX3_requireCell 2 none :: ALLG) ({ frames := 6, cells := 1, slots := 6, locals := 90 }) (va_Pc [.ref (q 17), .int v] (cP (dC, dI) vwCl [(cI, .int), (cZ, .boolean)] (wX q cI cZ r k a) (eX tN (va_A (wX q cI cZ r k a) sz)) sz)) (qNv (va_A (wX q cI cZ r k a) sz)) (xE (dC, dI) vwCl [(cI, .int), (cZ, .boolean)] xIOB (wX q cI cZ r k a) (va_A (wX q cI cZ r k a) sz)) 1 6 (va_A (wX q cI cZ r k a) sz) := by
  refine xm_x (cc := cX3_requireCell) (maxL := 2) (ret := none) (by decide) rfl (Nat.le_of_ble_eq_true rfl) ?_
  intro p e s m below meth c A hAe hx hb hr hml hts0 hown hlk hout hsz H locs hP hK hD hA hS hE ls hl
  have hts : ∀ w ∈ ALLG, w.before _ s = true := fun w h => hts0 w (List.mem_cons_of_mem _ h)
  rw [← hAe]
  rw [← hAe] at hE
  have hl : lv_has ls 2 [(0, .ref (q 17)), (1, .int v)] := hl
  refine lv_iload_n hx hb dX3_requireCell_0 rfl (lv_at hl 1 rfl) ?_
  refine lv_if_lt (tgt := 15) hx hb dX3_requireCell_1 (by decide) (fun c_1 => ?_) (fun c_1 => ?_)
  · exact xt_S hx hb hl0 hown hts hlk hout (hl.1.trans hml.symm) hE hP hK hD hS (X := xIOB) (text := "no such cell") (ik := 68) (is := 163) (ic := 72) tw_319 tw_11 (by decide) xg_i xn_i xo_i xf_i dX3_requireCell_15 dX3_requireCell_18 dX3_requireCell_19 dX3_requireCell_21 dX3_requireCell_24 (Nat.le_of_ble_eq_true rfl) (Nat.le_of_ble_eq_true rfl) (Nat.le_of_ble_eq_true rfl) (Nat.le_of_ble_eq_true rfl) (Nat.le_refl _) (Nat.le_refl _)
  · refine lv_iload_n hx hb dX3_requireCell_4 rfl (lv_at hl 1 rfl) ?_
    refine lv_aload_n hx hb dX3_requireCell_5 rfl (lv_at hl 0 rfl) ?_
    refine va_get (D := (dC, dI)) (ci := 3) (v := .ref (q 10)) (C := RX3) (T := TX3) (N := 3) hx hb hts inX3 hown hK hP 17 rfl rfl 1 (by decide) (hts _ tw_132) (fun _ h9 => h9) rfl dX3_requireCell_6 ?_
    refine va_get (D := (dC, dI)) (ci := 1) (v := .int (nI (CS.n k))) (C := RX1) (T := TX1) (N := 5) hx hb hts inX1 hown hK hP 10 rfl rfl 0 (by decide) (hts _ tw_78) (fun _ h9 => h9) rfl dX3_requireCell_9 ?_
    refine lv_icmp_lt (tgt := 25) hx hb dX3_requireCell_12 (by decide) (fun c_2 => ?_) (fun c_2 => ?_)
    · exact absurd h1 (by unfold hcN; rw [if_pos ⟨c_1, c_2⟩]; decide)
    · exact xt_S hx hb hl0 hown hts hlk hout (hl.1.trans hml.symm) hE hP hK hD hS (X := xIOB) (text := "no such cell") (ik := 68) (is := 163) (ic := 72) tw_319 tw_11 (by decide) xg_i xn_i xo_i xf_i dX3_requireCell_15 dX3_requireCell_18 dX3_requireCell_19 dX3_requireCell_21 dX3_requireCell_24 (Nat.le_of_ble_eq_true rfl) (Nat.le_of_ble_eq_true rfl) (Nat.le_of_ble_eq_true rfl) (Nat.le_of_ble_eq_true rfl) (Nat.le_refl _) (Nat.le_refl _)
set_option maxHeartbeats 4000000 in
set_option maxRecDepth 100000 in
theorem tx_set (l : Launch) (hl0 : l.stackTraces = false) (dC : Nat → ClassId) (dI : Nat → Nat → Nat) (q : Nat → Nat) (cI cZ : ClassId) (sz : Nat) (r : RS) (k : CS) (a : AS) (tN : Nat) (v : Int32) (f : Nat) (h1 : hcN v r.n = 0) : vx_Met l yX3_set (.code yX3_set cX3_set 3 (some .boolean) :: ALLG) ({ frames := 7, cells := 1, slots := 6, locals := 125 }) (va_Pc [.ref (q 17), .int v, .int (nI f)] (cP (dC, dI) vwCl [(cI, .int), (cZ, .boolean)] (wX q cI cZ r k a) (eX tN (va_A (wX q cI cZ r k a) sz)) sz)) (qNi (va_A (wX q cI cZ r k a) sz)) (xE (dC, dI) vwCl [(cI, .int), (cZ, .boolean)] xIOB (wX q cI cZ r k a) (va_A (wX q cI cZ r k a) sz)) 1 6 (va_A (wX q cI cZ r k a) sz) := by
  refine xm_x (cc := cX3_set) (maxL := 3) (ret := some .boolean) (by decide) rfl (Nat.le_of_ble_eq_true rfl) ?_
  intro p e s m below meth c A hAe hx hb hr hml hts0 hown hlk hout hsz H locs hP hK hD hA hS hE ls hl
  have hts : ∀ w ∈ ALLG, w.before _ s = true := fun w h => hts0 w (List.mem_cons_of_mem _ h)
  rw [← hAe]
  rw [← hAe] at hE
  have hl : lv_has ls 3 [(0, .ref (q 17)), (1, .int v), (2, .int (nI f))] := hl
  refine lv_aload_n hx hb dX3_set_0 rfl (lv_at hl 0 rfl) ?_
  refine lv_iload_n hx hb dX3_set_1 rfl (lv_at hl 1 rfl) ?_
  refine xv_Vv (As := [.int v]) (wr := []) ⟨hx, hb, hml, hown, hts⟩ (tx_requireLatch l hl0 dC dI q cI cZ H.size r k a tN v h1) (cwV 1 hts (gV tw_406 tw_408 sw_13 tw_1 tw_409) rfl rfl rfl (by decide +kernel) ⟨Nat.le_of_ble_eq_true rfl, Nat.le_of_ble_eq_true rfl⟩) rfl hl.1 rfl (Nat.le_of_ble_eq_true rfl) dX3_set_2 ⟨Nat.le_of_ble_eq_true rfl, Nat.le_of_ble_eq_true rfl⟩ hP hD hK hS hA [0, 1, 2, 3, 4, 5, 6, 7, 8, 9, 10, 11, 12, 13, 14, 15, 16, 17] [] rfl rfl (by decide) (by decide) (by decide) [0, 1] rfl (q0 := 17) rfl rfl rfl (eX_W _ _) (eX_kn hE hS (va_free (wc := wX q cI cZ r k a) hD hS hA [0, 1, 2, 3, 4, 5, 6, 7, 8, 9, 10, 11, 12, 13, 14, 15, 16, 17] rfl)) (fun ce q9 H locs hP hD hS hce hcv hcl => ?_)
  exact xt_out hlk hout hce hcv hcl (ws := wX q cI cZ r k a) hP hK hD hS (Nat.le_refl _) (Nat.le_refl _)
set_option maxHeartbeats 4000000 in
set_option maxRecDepth 100000 in
theorem tx_load (l : Launch) (hl0 : l.stackTraces = false) (dC : Nat → ClassId) (dI : Nat → Nat → Nat) (q : Nat → Nat) (cI cZ : ClassId) (sz : Nat) (r : RS) (k : CS) (a : AS) (tN : Nat) (v lv : Int32) (h1 : hcN v r.n = 0) : vx_Met l yX3_load (.code yX3_load cX3_load 3 none :: ALLG) ({ frames := 7, cells := 1, slots := 6, locals := 125 }) (va_Pc [.ref (q 17), .int v, .int lv] (cP (dC, dI) vwCl [(cI, .int), (cZ, .boolean)] (wX q cI cZ r k a) (eX tN (va_A (wX q cI cZ r k a) sz)) sz)) (qNv (va_A (wX q cI cZ r k a) sz)) (xE (dC, dI) vwCl [(cI, .int), (cZ, .boolean)] xIOB (wX q cI cZ r k a) (va_A (wX q cI cZ r k a) sz)) 1 6 (va_A (wX q cI cZ r k a) sz) := by
  refine xm_x (cc := cX3_load) (maxL := 3) (ret := none) (by decide) rfl (Nat.le_of_ble_eq_true rfl) ?_
  intro p e s m below meth c A hAe hx hb hr hml hts0 hown hlk hout hsz H locs hP hK hD hA hS hE ls hl
  have hts : ∀ w ∈ ALLG, w.before _ s = true := fun w h => hts0 w (List.mem_cons_of_mem _ h)
  rw [← hAe]
  rw [← hAe] at hE
  have hl : lv_has ls 3 [(0, .ref (q 17)), (1, .int v), (2, .int lv)] := hl
  refine lv_aload_n hx hb dX3_load_0 rfl (lv_at hl 0 rfl) ?_
  refine lv_iload_n hx hb dX3_load_1 rfl (lv_at hl 1 rfl) ?_
  refine xv_Vv (As := [.int v]) (wr := []) ⟨hx, hb, hml, hown, hts⟩ (tx_requireLatch l hl0 dC dI q cI cZ H.size r k a tN v h1) (cwV 1 hts (gV tw_406 tw_408 sw_13 tw_1 tw_409) rfl rfl rfl (by decide +kernel) ⟨Nat.le_of_ble_eq_true rfl, Nat.le_of_ble_eq_true rfl⟩) rfl hl.1 rfl (Nat.le_of_ble_eq_true rfl) dX3_load_2 ⟨Nat.le_of_ble_eq_true rfl, Nat.le_of_ble_eq_true rfl⟩ hP hD hK hS hA [0, 1, 2, 3, 4, 5, 6, 7, 8, 9, 10, 11, 12, 13, 14, 15, 16, 17] [] rfl rfl (by decide) (by decide) (by decide) [0, 1] rfl (q0 := 17) rfl rfl rfl (eX_W _ _) (eX_kn hE hS (va_free (wc := wX q cI cZ r k a) hD hS hA [0, 1, 2, 3, 4, 5, 6, 7, 8, 9, 10, 11, 12, 13, 14, 15, 16, 17] rfl)) (fun ce q9 H locs hP hD hS hce hcv hcl => ?_)
  exact xt_out hlk hout hce hcv hcl (ws := wX q cI cZ r k a) hP hK hD hS (Nat.le_refl _) (Nat.le_refl _)
set_option maxHeartbeats 4000000 in
set_option maxRecDepth 100000 in
theorem tx_value (l : Launch) (hl0 : l.stackTraces = false) (dC : Nat → ClassId) (dI : Nat → Nat → Nat) (q : Nat → Nat) (cI cZ : ClassId) (sz : Nat) (r : RS) (k : CS) (a : AS) (tN : Nat) (v : Int32) (h1 : hcN v r.n = 0) : vx_Met l yX3_value (.code yX3_value cX3_value 2 (some .int) :: ALLG) ({ frames := 7, cells := 1, slots := 6, locals := 125 }) (va_Pc [.ref (q 17), .int v] (cP (dC, dI) vwCl [(cI, .int), (cZ, .boolean)] (wX q cI cZ r k a) (eX tN (va_A (wX q cI cZ r k a) sz)) sz)) (qNi (va_A (wX q cI cZ r k a) sz)) (xE (dC, dI) vwCl [(cI, .int), (cZ, .boolean)] xIOB (wX q cI cZ r k a) (va_A (wX q cI cZ r k a) sz)) 1 6 (va_A (wX q cI cZ r k a) sz) := by
  refine xm_x (cc := cX3_value) (maxL := 2) (ret := some .int) (by decide) rfl (Nat.le_of_ble_eq_true rfl) ?_
  intro p e s m below meth c A hAe hx hb hr hml hts0 hown hlk hout hsz H locs hP hK hD hA hS hE ls hl
  have hts : ∀ w ∈ ALLG, w.before _ s = true := fun w h => hts0 w (List.mem_cons_of_mem _ h)
  rw [← hAe]
  rw [← hAe] at hE
  have hl : lv_has ls 2 [(0, .ref (q 17)), (1, .int v)] := hl
  refine lv_aload_n hx hb dX3_value_0 rfl (lv_at hl 0 rfl) ?_
  refine lv_iload_n hx hb dX3_value_1 rfl (lv_at hl 1 rfl) ?_
  refine xv_Vv (As := [.int v]) (wr := []) ⟨hx, hb, hml, hown, hts⟩ (tx_requireLatch l hl0 dC dI q cI cZ H.size r k a tN v h1) (cwV 1 hts (gV tw_406 tw_408 sw_13 tw_1 tw_409) rfl rfl rfl (by decide +kernel) ⟨Nat.le_of_ble_eq_true rfl, Nat.le_of_ble_eq_true rfl⟩) rfl hl.1 rfl (Nat.le_of_ble_eq_true rfl) dX3_value_2 ⟨Nat.le_of_ble_eq_true rfl, Nat.le_of_ble_eq_true rfl⟩ hP hD hK hS hA [0, 1, 2, 3, 4, 5, 6, 7, 8, 9, 10, 11, 12, 13, 14, 15, 16, 17] [] rfl rfl (by decide) (by decide) (by decide) [0, 1] rfl (q0 := 17) rfl rfl rfl (eX_W _ _) (eX_kn hE hS (va_free (wc := wX q cI cZ r k a) hD hS hA [0, 1, 2, 3, 4, 5, 6, 7, 8, 9, 10, 11, 12, 13, 14, 15, 16, 17] rfl)) (fun ce q9 H locs hP hD hS hce hcv hcl => ?_)
  exact xt_out hlk hout hce hcv hcl (ws := wX q cI cZ r k a) hP hK hD hS (Nat.le_refl _) (Nat.le_refl _)
set_option maxHeartbeats 4000000 in
set_option maxRecDepth 100000 in
theorem tx_port1 (l : Launch) (hl0 : l.stackTraces = false) (dC : Nat → ClassId) (dI : Nat → Nat → Nat) (q : Nat → Nat) (cI cZ : ClassId) (sz : Nat) (r : RS) (k : CS) (a : AS) (tN : Nat) (v : Int32) (h1 : k.n = 20) : vx_Met l yX3_port (.code yX3_port cX3_port 2 (some .int) :: ALLG) ({ frames := 6, cells := 1, slots := 6, locals := 90 }) (va_Pc [.ref (q 17), .int v] (cP (dC, dI) vwCl [(cI, .int), (cZ, .boolean)] (wX q cI cZ r k a) (eX tN (va_A (wX q cI cZ r k a) sz)) sz)) (qNi (va_A (wX q cI cZ r k a) sz)) (xE (dC, dI) vwCl [(cI, .int), (cZ, .boolean)] xUOE (wX q cI cZ r k a) (va_A (wX q cI cZ r k a) sz)) 1 6 (va_A (wX q cI cZ r k a) sz) := by
  refine xm_x (cc := cX3_port) (maxL := 2) (ret := some .int) (by decide) rfl (Nat.le_of_ble_eq_true rfl) ?_
  intro p e s m below meth c A hAe hx hb hr hml hts0 hown hlk hout hsz H locs hP hK hD hA hS hE ls hl
  have hts : ∀ w ∈ ALLG, w.before _ s = true := fun w h => hts0 w (List.mem_cons_of_mem _ h)
  rw [← hAe]
  rw [← hAe] at hE
  have hl : lv_has ls 2 [(0, .ref (q 17)), (1, .int v)] := hl
  refine lv_aload_n hx hb dX3_port_0 rfl (lv_at hl 0 rfl) ?_
  refine va_get (D := (dC, dI)) (ci := 3) (v := .ref (q 10)) (C := RX3) (T := TX3) (N := 3) hx hb hts inX3 hown hK hP 17 rfl rfl 1 (by decide) (hts _ tw_132) (fun _ h9 => h9) rfl dX3_port_1 ?_
  refine va_get (D := (dC, dI)) (ci := 1) (v := .int (nI (CS.n k))) (C := RX1) (T := TX1) (N := 5) hx hb hts inX1 hown hK hP 10 rfl rfl 0 (by decide) (hts _ tw_78) (fun _ h9 => h9) rfl dX3_port_4 ?_
  refine lv_bipush (v := nI 20) hx hb dX3_port_7 (by decide) ?_
  refine xn_clt (tgt := 22) hx hb (by omega) (by omega) dX3_port_9 (by decide) (fun c_1 => ?_) (fun c_1 => ?_)
  · exact absurd (show False by omega) id
  · exact xt_S hx hb hl0 hown hts hlk hout (hl.1.trans hml.symm) hE hP hK hD hS (X := xUOE) (text := "there are as many cells as there can be") (ik := 36) (is := 119) (ic := 40) tw_188 tw_9 (by decide) xg_u xn_u xo_u xf_u dX3_port_12 dX3_port_15 dX3_port_16 dX3_port_18 dX3_port_21 (Nat.le_of_ble_eq_true rfl) (Nat.le_of_ble_eq_true rfl) (Nat.le_of_ble_eq_true rfl) (Nat.le_of_ble_eq_true rfl) (Nat.le_refl _) (Nat.le_refl _)
set_option maxHeartbeats 4000000 in
set_option maxRecDepth 100000 in
theorem tx_port2 (l : Launch) (hl0 : l.stackTraces = false) (dC : Nat → ClassId) (dI : Nat → Nat → Nat) (q : Nat → Nat) (cI cZ : ClassId) (sz : Nat) (r : RS) (k : CS) (a : AS) (tN : Nat) (v : Int32) (h1 : k.n < 20) (h2 : ¬ v = 0 ∧ ¬ v = nI 1) : vx_Met l yX3_port (.code yX3_port cX3_port 2 (some .int) :: ALLG) ({ frames := 6, cells := 1, slots := 6, locals := 90 }) (va_Pc [.ref (q 17), .int v] (cP (dC, dI) vwCl [(cI, .int), (cZ, .boolean)] (wX q cI cZ r k a) (eX tN (va_A (wX q cI cZ r k a) sz)) sz)) (qNi (va_A (wX q cI cZ r k a) sz)) (xE (dC, dI) vwCl [(cI, .int), (cZ, .boolean)] xIAE (wX q cI cZ r k a) (va_A (wX q cI cZ r k a) sz)) 1 6 (va_A (wX q cI cZ r k a) sz) := by
  refine xm_x (cc := cX3_port) (maxL := 2) (ret := some .int) (by decide) rfl (Nat.le_of_ble_eq_true rfl) ?_
  intro p e s m below meth c A hAe hx hb hr hml hts0 hown hlk hout hsz H locs hP hK hD hA hS hE ls hl
  have hts : ∀ w ∈ ALLG, w.before _ s = true := fun w h => hts0 w (List.mem_cons_of_mem _ h)
  rw [← hAe]
  rw [← hAe] at hE
  have hl : lv_has ls 2 [(0, .ref (q 17)), (1, .int v)] := hl
  refine lv_aload_n hx hb dX3_port_0 rfl (lv_at hl 0 rfl) ?_
  refine va_get (D := (dC, dI)) (ci := 3) (v := .ref (q 10)) (C := RX3) (T := TX3) (N := 3) hx hb hts inX3 hown hK hP 17 rfl rfl 1 (by decide) (hts _ tw_132) (fun _ h9 => h9) rfl dX3_port_1 ?_
  refine va_get (D := (dC, dI)) (ci := 1) (v := .int (nI (CS.n k))) (C := RX1) (T := TX1) (N := 5) hx hb hts inX1 hown hK hP 10 rfl rfl 0 (by decide) (hts _ tw_78) (fun _ h9 => h9) rfl dX3_port_4 ?_
  refine lv_bipush (v := nI 20) hx hb dX3_port_7 (by decide) ?_
  refine xn_clt (tgt := 22) hx hb (by omega) (by omega) dX3_port_9 (by decide) (fun c_1 => ?_) (fun c_1 => ?_)
  · refine lv_iload_n hx hb dX3_port_22 rfl (lv_at hl 1 rfl) ?_
    refine lv_if_eq (tgt := 41) hx hb dX3_port_23 (by decide) (fun c_2 => ?_) (fun c_2 => ?_)
    · exact absurd c_2 h2.1
    · refine lv_iload_n hx hb dX3_port_26 rfl (lv_at hl 1 rfl) ?_
      refine lv_iconst (v := nI 1) hx hb dX3_port_27 (by decide) ?_
      refine lv_icmp_eq (tgt := 41) hx hb dX3_port_28 (by decide) (fun c_3 => ?_) (fun c_3 => ?_)
      · exact absurd c_3 h2.2
      · exact xt_S hx hb hl0 hown hts hlk hout (hl.1.trans hml.symm) hE hP hK hD hS (X := xIAE) (text := "no such kind") (ik := 43) (is := 121) (ic := 47) tw_256 tw_10 (by decide) xg_a xn_a xo_a xf_a dX3_port_31 dX3_port_34 dX3_port_35 dX3_port_37 dX3_port_40 (Nat.le_of_ble_eq_true rfl) (Nat.le_of_ble_eq_true rfl) (Nat.le_of_ble_eq_true rfl) (Nat.le_of_ble_eq_true rfl) (Nat.le_refl _) (Nat.le_refl _)
  · exact absurd (show False by omega) id
set_option maxHeartbeats 4000000 in
set_option maxRecDepth 100000 in
theorem tx_pin (l : Launch) (hl0 : l.stackTraces = false) (dC : Nat → ClassId) (dI : Nat → Nat → Nat) (q : Nat → Nat) (cI cZ : ClassId) (sz : Nat) (r : RS) (k : CS) (a : AS) (tN : Nat) (v lv : Int32) (h1 : hcN v k.n = 0) : vx_Met l yX3_pin (.code yX3_pin cX3_pin 3 none :: ALLG) ({ frames := 7, cells := 1, slots := 6, locals := 125 }) (va_Pc [.ref (q 17), .int v, .int lv] (cP (dC, dI) vwCl [(cI, .int), (cZ, .boolean)] (wX q cI cZ r k a) (eX tN (va_A (wX q cI cZ r k a) sz)) sz)) (qNv (va_A (wX q cI cZ r k a) sz)) (xE (dC, dI) vwCl [(cI, .int), (cZ, .boolean)] xIOB (wX q cI cZ r k a) (va_A (wX q cI cZ r k a) sz)) 1 6 (va_A (wX q cI cZ r k a) sz) := by
  refine xm_x (cc := cX3_pin) (maxL := 3) (ret := none) (by decide) rfl (Nat.le_of_ble_eq_true rfl) ?_
  intro p e s m below meth c A hAe hx hb hr hml hts0 hown hlk hout hsz H locs hP hK hD hA hS hE ls hl
  have hts : ∀ w ∈ ALLG, w.before _ s = true := fun w h => hts0 w (List.mem_cons_of_mem _ h)
  rw [← hAe]
  rw [← hAe] at hE
  have hl : lv_has ls 3 [(0, .ref (q 17)), (1, .int v), (2, .int lv)] := hl
  refine lv_aload_n hx hb dX3_pin_0 rfl (lv_at hl 0 rfl) ?_
  refine lv_iload_n hx hb dX3_pin_1 rfl (lv_at hl 1 rfl) ?_
  refine xv_Vv (As := [.int v]) (wr := []) ⟨hx, hb, hml, hown, hts⟩ (tx_requireCell l hl0 dC dI q cI cZ H.size r k a tN v h1) (cwV 1 hts (gV tw_452 tw_454 sw_14 tw_1 tw_455) rfl rfl rfl (by decide +kernel) ⟨Nat.le_of_ble_eq_true rfl, Nat.le_of_ble_eq_true rfl⟩) rfl hl.1 rfl (Nat.le_of_ble_eq_true rfl) dX3_pin_2 ⟨Nat.le_of_ble_eq_true rfl, Nat.le_of_ble_eq_true rfl⟩ hP hD hK hS hA [0, 1, 2, 3, 4, 5, 6, 7, 8, 9, 10, 11, 12, 13, 14, 15, 16, 17] [] rfl rfl (by decide) (by decide) (by decide) [0, 1] rfl (q0 := 17) rfl rfl rfl (eX_W _ _) (eX_kn hE hS (va_free (wc := wX q cI cZ r k a) hD hS hA [0, 1, 2, 3, 4, 5, 6, 7, 8, 9, 10, 11, 12, 13, 14, 15, 16, 17] rfl)) (fun ce q9 H locs hP hD hS hce hcv hcl => ?_)
  exact xt_out hlk hout hce hcv hcl (ws := wX q cI cZ r k a) hP hK hD hS (Nat.le_refl _) (Nat.le_refl _)
set_option maxHeartbeats 4000000 in
set_option maxRecDepth 100000 in
theorem tx_boundary (l : Launch) (hl0 : l.stackTraces = false) (dC : Nat → ClassId) (dI : Nat → Nat → Nat) (q : Nat → Nat) (cI cZ : ClassId) (sz : Nat) (r : RS) (k : CS) (a : AS) (tN : Nat) (v : Int32) (h1 : hcN v k.n = 0) : vx_Met l yX3_boundary (.code yX3_boundary cX3_boundary 2 (some .int) :: ALLG) ({ frames := 7, cells := 1, slots := 6, locals := 125 }) (va_Pc [.ref (q 17), .int v] (cP (dC, dI) vwCl [(cI, .int), (cZ, .boolean)] (wX q cI cZ r k a) (eX tN (va_A (wX q cI cZ r k a) sz)) sz)) (qNi (va_A (wX q cI cZ r k a) sz)) (xE (dC, dI) vwCl [(cI, .int), (cZ, .boolean)] xIOB (wX q cI cZ r k a) (va_A (wX q cI cZ r k a) sz)) 1 6 (va_A (wX q cI cZ r k a) sz) := by
  refine xm_x (cc := cX3_boundary) (maxL := 2) (ret := some .int) (by decide) rfl (Nat.le_of_ble_eq_true rfl) ?_
  intro p e s m below meth c A hAe hx hb hr hml hts0 hown hlk hout hsz H locs hP hK hD hA hS hE ls hl
  have hts : ∀ w ∈ ALLG, w.before _ s = true := fun w h => hts0 w (List.mem_cons_of_mem _ h)
  rw [← hAe]
  rw [← hAe] at hE
  have hl : lv_has ls 2 [(0, .ref (q 17)), (1, .int v)] := hl
  refine lv_aload_n hx hb dX3_boundary_0 rfl (lv_at hl 0 rfl) ?_
  refine lv_iload_n hx hb dX3_boundary_1 rfl (lv_at hl 1 rfl) ?_
  refine xv_Vv (As := [.int v]) (wr := []) ⟨hx, hb, hml, hown, hts⟩ (tx_requireCell l hl0 dC dI q cI cZ H.size r k a tN v h1) (cwV 1 hts (gV tw_452 tw_454 sw_14 tw_1 tw_455) rfl rfl rfl (by decide +kernel) ⟨Nat.le_of_ble_eq_true rfl, Nat.le_of_ble_eq_true rfl⟩) rfl hl.1 rfl (Nat.le_of_ble_eq_true rfl) dX3_boundary_2 ⟨Nat.le_of_ble_eq_true rfl, Nat.le_of_ble_eq_true rfl⟩ hP hD hK hS hA [0, 1, 2, 3, 4, 5, 6, 7, 8, 9, 10, 11, 12, 13, 14, 15, 16, 17] [] rfl rfl (by decide) (by decide) (by decide) [0, 1] rfl (q0 := 17) rfl rfl rfl (eX_W _ _) (eX_kn hE hS (va_free (wc := wX q cI cZ r k a) hD hS hA [0, 1, 2, 3, 4, 5, 6, 7, 8, 9, 10, 11, 12, 13, 14, 15, 16, 17] rfl)) (fun ce q9 H locs hP hD hS hce hcv hcl => ?_)
  exact xt_out hlk hout hce hcv hcl (ws := wX q cI cZ r k a) hP hK hD hS (Nat.le_refl _) (Nat.le_refl _)
set_option maxHeartbeats 4000000 in
set_option maxRecDepth 100000 in
theorem tx_tick (l : Launch) (hl0 : l.stackTraces = false) (dC : Nat → ClassId) (dI : Nat → Nat → Nat) (q : Nat → Nat) (cI cZ : ClassId) (sz : Nat) (r : RS) (k : CS) (a : AS) (tN : Nat) (mv bv : Int32) (h1 : mBadT mv bv) : vx_Met l yX3_tick (.code yX3_tick cX3_tick 3 (some .int) :: ALLG) ({ frames := 6, cells := 1, slots := 6, locals := 90 }) (va_Pc [.ref (q 17), .int mv, .int bv] (cP (dC, dI) vwCl [(cI, .int), (cZ, .boolean)] (wX q cI cZ r k a) (eX tN (va_A (wX q cI cZ r k a) sz)) sz)) (qNi (va_A (wX q cI cZ r k a) sz)) (xE (dC, dI) vwCl [(cI, .int), (cZ, .boolean)] xIAE (wX q cI cZ r k a) (va_A (wX q cI cZ r k a) sz)) 1 6 (va_A (wX q cI cZ r k a) sz) := by
  refine xm_x (cc := cX3_tick) (maxL := 3) (ret := some .int) (by decide) rfl (Nat.le_of_ble_eq_true rfl) ?_
  intro p e s m below meth c A hAe hx hb hr hml hts0 hown hlk hout hsz H locs hP hK hD hA hS hE ls hl
  have hts : ∀ w ∈ ALLG, w.before _ s = true := fun w h => hts0 w (List.mem_cons_of_mem _ h)
  rw [← hAe]
  rw [← hAe] at hE
  have hl : lv_has ls 3 [(0, .ref (q 17)), (1, .int mv), (2, .int bv)] := hl
  refine lv_iload_n hx hb dX3_tick_0 rfl (lv_at hl 1 rfl) ?_
  refine lv_if_lt (tgt := 18) hx hb dX3_tick_1 (by decide) (fun c_1 => ?_) (fun c_1 => ?_)
  · exact xt_S hx hb hl0 hown hts hlk hout (hl.1.trans hml.symm) hE hP hK hD hS (X := xIAE) (text := "mode or bit is not 0 or 1") (ik := 43) (is := 132) (ic := 47) tw_256 tw_10 (by decide) xg_a xn_a xo_a xf_a dX3_tick_18 dX3_tick_21 dX3_tick_22 dX3_tick_24 dX3_tick_27 (Nat.le_of_ble_eq_true rfl) (Nat.le_of_ble_eq_true rfl) (Nat.le_of_ble_eq_true rfl) (Nat.le_of_ble_eq_true rfl) (Nat.le_refl _) (Nat.le_refl _)
  · refine lv_iload_n hx hb dX3_tick_4 rfl (lv_at hl 1 rfl) ?_
    refine lv_iconst (v := nI 1) hx hb dX3_tick_5 (by decide) ?_
    refine lv_icmp_gt (tgt := 18) hx hb dX3_tick_6 (by decide) (fun c_2 => ?_) (fun c_2 => ?_)
    · exact xt_S hx hb hl0 hown hts hlk hout (hl.1.trans hml.symm) hE hP hK hD hS (X := xIAE) (text := "mode or bit is not 0 or 1") (ik := 43) (is := 132) (ic := 47) tw_256 tw_10 (by decide) xg_a xn_a xo_a xf_a dX3_tick_18 dX3_tick_21 dX3_tick_22 dX3_tick_24 dX3_tick_27 (Nat.le_of_ble_eq_true rfl) (Nat.le_of_ble_eq_true rfl) (Nat.le_of_ble_eq_true rfl) (Nat.le_of_ble_eq_true rfl) (Nat.le_refl _) (Nat.le_refl _)
    · refine lv_iload_n hx hb dX3_tick_9 rfl (lv_at hl 2 rfl) ?_
      refine lv_if_lt (tgt := 18) hx hb dX3_tick_10 (by decide) (fun c_3 => ?_) (fun c_3 => ?_)
      · exact xt_S hx hb hl0 hown hts hlk hout (hl.1.trans hml.symm) hE hP hK hD hS (X := xIAE) (text := "mode or bit is not 0 or 1") (ik := 43) (is := 132) (ic := 47) tw_256 tw_10 (by decide) xg_a xn_a xo_a xf_a dX3_tick_18 dX3_tick_21 dX3_tick_22 dX3_tick_24 dX3_tick_27 (Nat.le_of_ble_eq_true rfl) (Nat.le_of_ble_eq_true rfl) (Nat.le_of_ble_eq_true rfl) (Nat.le_of_ble_eq_true rfl) (Nat.le_refl _) (Nat.le_refl _)
      · refine lv_iload_n hx hb dX3_tick_13 rfl (lv_at hl 2 rfl) ?_
        refine lv_iconst (v := nI 1) hx hb dX3_tick_14 (by decide) ?_
        refine lv_icmp_le (tgt := 28) hx hb dX3_tick_15 (by decide) (fun c_4 => ?_) (fun c_4 => ?_)
        · exact absurd h1 (fun z => z.elim c_1 (fun z => z.elim c_2 (fun z => z.elim c_3 (fun z => z c_4))))
        · exact xt_S hx hb hl0 hown hts hlk hout (hl.1.trans hml.symm) hE hP hK hD hS (X := xIAE) (text := "mode or bit is not 0 or 1") (ik := 43) (is := 132) (ic := 47) tw_256 tw_10 (by decide) xg_a xn_a xo_a xf_a dX3_tick_18 dX3_tick_21 dX3_tick_22 dX3_tick_24 dX3_tick_27 (Nat.le_of_ble_eq_true rfl) (Nat.le_of_ble_eq_true rfl) (Nat.le_of_ble_eq_true rfl) (Nat.le_of_ble_eq_true rfl) (Nat.le_refl _) (Nat.le_refl _)
set_option maxHeartbeats 4000000 in
set_option maxRecDepth 100000 in
theorem tx_go (l : Launch) (hl0 : l.stackTraces = false) (dC : Nat → ClassId) (dI : Nat → Nat → Nat) (q : Nat → Nat) (cI cZ : ClassId) (sz : Nat) (r : RS) (k : CS) (a : AS) (tN : Nat) (v : Int32) (h1 : v < 0 ∨ ¬ v ≤ nI 15) : vx_Met l yX3_go (.code yX3_go cX3_go 2 (some .int) :: ALLG) ({ frames := 6, cells := 1, slots := 6, locals := 90 }) (va_Pc [.ref (q 17), .int v] (cP (dC, dI) vwCl [(cI, .int), (cZ, .boolean)] (wX q cI cZ r k a) (eX tN (va_A (wX q cI cZ r k a) sz)) sz)) (qNi (va_A (wX q cI cZ r k a) sz)) (xE (dC, dI) vwCl [(cI, .int), (cZ, .boolean)] xIAE (wX q cI cZ r k a) (va_A (wX q cI cZ r k a) sz)) 1 6 (va_A (wX q cI cZ r k a) sz) := by
  refine xm_x (cc := cX3_go) (maxL := 2) (ret := some .int) (by decide) rfl (Nat.le_of_ble_eq_true rfl) ?_
  intro p e s m below meth c A hAe hx hb hr hml hts0 hown hlk hout hsz H locs hP hK hD hA hS hE ls hl
  have hts : ∀ w ∈ ALLG, w.before _ s = true := fun w h => hts0 w (List.mem_cons_of_mem _ h)
  rw [← hAe]
  rw [← hAe] at hE
  have hl : lv_has ls 2 [(0, .ref (q 17)), (1, .int v)] := hl
  refine lv_iload_n hx hb dX3_go_0 rfl (lv_at hl 1 rfl) ?_
  refine lv_if_lt (tgt := 10) hx hb dX3_go_1 (by decide) (fun c_1 => ?_) (fun c_1 => ?_)
  · exact xt_S hx hb hl0 hown hts hlk hout (hl.1.trans hml.symm) hE hP hK hD hS (X := xIAE) (text := "no such state") (ik := 43) (is := 140) (ic := 47) tw_256 tw_10 (by decide) xg_a xn_a xo_a xf_a dX3_go_10 dX3_go_13 dX3_go_14 dX3_go_16 dX3_go_19 (Nat.le_of_ble_eq_true rfl) (Nat.le_of_ble_eq_true rfl) (Nat.le_of_ble_eq_true rfl) (Nat.le_of_ble_eq_true rfl) (Nat.le_refl _) (Nat.le_refl _)
  · refine lv_iload_n hx hb dX3_go_4 rfl (lv_at hl 1 rfl) ?_
    refine lv_bipush (v := nI 16) hx hb dX3_go_5 (by decide) ?_
    refine lv_icmp_lt (tgt := 20) hx hb dX3_go_7 (by decide) (fun c_2 => ?_) (fun c_2 => ?_)
    · exact absurd h1 (fun z => z.elim c_1 (fun z => z (le15 c_2)))
    · exact xt_S hx hb hl0 hown hts hlk hout (hl.1.trans hml.symm) hE hP hK hD hS (X := xIAE) (text := "no such state") (ik := 43) (is := 140) (ic := 47) tw_256 tw_10 (by decide) xg_a xn_a xo_a xf_a dX3_go_10 dX3_go_13 dX3_go_14 dX3_go_16 dX3_go_19 (Nat.le_of_ble_eq_true rfl) (Nat.le_of_ble_eq_true rfl) (Nat.le_of_ble_eq_true rfl) (Nat.le_of_ble_eq_true rfl) (Nat.le_refl _) (Nat.le_refl _)
set_option maxHeartbeats 4000000 in
set_option maxRecDepth 100000 in
theorem tx_count (l : Launch) (hl0 : l.stackTraces = false) (dC : Nat → ClassId) (dI : Nat → Nat → Nat) (q : Nat → Nat) (cI cZ : ClassId) (sz : Nat) (r : RS) (k : CS) (a : AS) (tN : Nat) (v : Int32) (h1 : v < 0 ∨ ¬ v ≤ nI 4) : vx_Met l yX3_count (.code yX3_count cX3_count 2 (some .int) :: ALLG) ({ frames := 6, cells := 1, slots := 6, locals := 90 }) (va_Pc [.ref (q 17), .int v] (cP (dC, dI) vwCl [(cI, .int), (cZ, .boolean)] (wX q cI cZ r k a) (eX tN (va_A (wX q cI cZ r k a) sz)) sz)) (qNi (va_A (wX q cI cZ r k a) sz)) (xE (dC, dI) vwCl [(cI, .int), (cZ, .boolean)] xIOB (wX q cI cZ r k a) (va_A (wX q cI cZ r k a) sz)) 1 6 (va_A (wX q cI cZ r k a) sz) := by
  refine xm_x (cc := cX3_count) (maxL := 2) (ret := some .int) (by decide) rfl (Nat.le_of_ble_eq_true rfl) ?_
  intro p e s m below meth c A hAe hx hb hr hml hts0 hown hlk hout hsz H locs hP hK hD hA hS hE ls hl
  have hts : ∀ w ∈ ALLG, w.before _ s = true := fun w h => hts0 w (List.mem_cons_of_mem _ h)
  rw [← hAe]
  rw [← hAe] at hE
  have hl : lv_has ls 2 [(0, .ref (q 17)), (1, .int v)] := hl
  refine lv_iload_n hx hb dX3_count_0 rfl (lv_at hl 1 rfl) ?_
  refine lv_tableOut (tgt := 76) hx hb dX3_count_1 (cnt_out h1) (by decide) ?_
  exact xt_S hx hb hl0 hown hts hlk hout (hl.1.trans hml.symm) hE hP hK hD hS (X := xIOB) (text := "no such what") (ik := 68) (is := 159) (ic := 72) tw_319 tw_11 (by decide) xg_i xn_i xo_i xf_i dX3_count_76 dX3_count_79 dX3_count_80 dX3_count_82 dX3_count_85 (Nat.le_of_ble_eq_true rfl) (Nat.le_of_ble_eq_true rfl) (Nat.le_of_ble_eq_true rfl) (Nat.le_of_ble_eq_true rfl) (Nat.le_refl _) (Nat.le_refl _)
