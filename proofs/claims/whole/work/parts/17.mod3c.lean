theorem va_eqP {D : va_G} {cl : List vw_C} {w w' : va_W} {H : Heap} (e : w = w') (h : va_P D cl w H) : va_P D cl w' H := e ▸ h
theorem va_eqD {A : Nat → Prop} {w w' : va_W} (e : w = w') (h : va_D A w) : va_D A w' := e ▸ h
abbrev fM (q : Nat → Nat) (y : MS) : List Value := [.int (nI (MS.th y)), .int (MS.nu y), .ref (q 1), .ref (q 2), .ref (q 3), .ref (q 4), .ref (q 5), .int (nI (MS.n y)), .ref (q 6), .int (nI (MS.p y)), .ref (q 7), .int (nI (MS.c y)), .ref (q 8), .ref (q 9), .ref (q 10), .ref (q 11), .int (nI (MS.cn y)), .ref (q 12), .int (nI (MS.by_ y)), .int (nI (MS.cr y)), .int (nI (MS.co y)), .int (nI (MS.sa y)), .ref (q 13)]
theorem wM_s_th (q : Nat → Nat) (cI cZ : ClassId) (y : MS) (v : Nat) : (wM q cI cZ y).set 0 (q 0, .inr (4, (fM q y).set 0 (.int (nI v)))) = wM q cI cZ (y.s_th v) := rfl
theorem wM_s_nu (q : Nat → Nat) (cI cZ : ClassId) (y : MS) (v : Int32) : (wM q cI cZ y).set 0 (q 0, .inr (4, (fM q y).set 1 (.int v))) = wM q cI cZ (y.s_nu v) := rfl
theorem wM_s_n (q : Nat → Nat) (cI cZ : ClassId) (y : MS) (v : Nat) : (wM q cI cZ y).set 0 (q 0, .inr (4, (fM q y).set 7 (.int (nI v)))) = wM q cI cZ (y.s_n v) := rfl
theorem wM_s_p (q : Nat → Nat) (cI cZ : ClassId) (y : MS) (v : Nat) : (wM q cI cZ y).set 0 (q 0, .inr (4, (fM q y).set 9 (.int (nI v)))) = wM q cI cZ (y.s_p v) := rfl
theorem wM_s_c (q : Nat → Nat) (cI cZ : ClassId) (y : MS) (v : Nat) : (wM q cI cZ y).set 0 (q 0, .inr (4, (fM q y).set 11 (.int (nI v)))) = wM q cI cZ (y.s_c v) := rfl
theorem wM_s_cn (q : Nat → Nat) (cI cZ : ClassId) (y : MS) (v : Nat) : (wM q cI cZ y).set 0 (q 0, .inr (4, (fM q y).set 16 (.int (nI v)))) = wM q cI cZ (y.s_cn v) := rfl
theorem wM_s_by_ (q : Nat → Nat) (cI cZ : ClassId) (y : MS) (v : Nat) : (wM q cI cZ y).set 0 (q 0, .inr (4, (fM q y).set 18 (.int (nI v)))) = wM q cI cZ (y.s_by_ v) := rfl
theorem wM_s_cr (q : Nat → Nat) (cI cZ : ClassId) (y : MS) (v : Nat) : (wM q cI cZ y).set 0 (q 0, .inr (4, (fM q y).set 19 (.int (nI v)))) = wM q cI cZ (y.s_cr v) := rfl
theorem wM_s_co (q : Nat → Nat) (cI cZ : ClassId) (y : MS) (v : Nat) : (wM q cI cZ y).set 0 (q 0, .inr (4, (fM q y).set 20 (.int (nI v)))) = wM q cI cZ (y.s_co v) := rfl
theorem wM_s_sa (q : Nat → Nat) (cI cZ : ClassId) (y : MS) (v : Nat) : (wM q cI cZ y).set 0 (q 0, .inr (4, (fM q y).set 21 (.int (nI v)))) = wM q cI cZ (y.s_sa v) := rfl
theorem wM_s_ck (q : Nat → Nat) (cI cZ : ClassId) (y : MS) (v : Nat → Nat) : (wM q cI cZ y).set 1 (q 1, .inl (cI, 32, .inl (aN v))) = wM q cI cZ (y.s_ck v) := rfl
theorem wM_s_xx (q : Nat → Nat) (cI cZ : ClassId) (y : MS) (v : Nat → Int) : (wM q cI cZ y).set 2 (q 2, .inl (cI, 32, .inl (aZ v))) = wM q cI cZ (y.s_xx v) := rfl
theorem wM_s_yy (q : Nat → Nat) (cI cZ : ClassId) (y : MS) (v : Nat → Int) : (wM q cI cZ y).set 3 (q 3, .inl (cI, 32, .inl (aZ v))) = wM q cI cZ (y.s_yy v) := rfl
theorem wM_s_vb (q : Nat → Nat) (cI cZ : ClassId) (y : MS) (v : Nat → Nat) : (wM q cI cZ y).set 4 (q 4, .inl (cI, 32, .inl (aN v))) = wM q cI cZ (y.s_vb v) := rfl
theorem wM_s_fl (q : Nat → Nat) (cI cZ : ClassId) (y : MS) (v : Nat → Nat) : (wM q cI cZ y).set 5 (q 5, .inl (cZ, 32, .inl (aN v))) = wM q cI cZ (y.s_fl v) := rfl
theorem wM_s_rw (q : Nat → Nat) (cI cZ : ClassId) (y : MS) (v : Nat → Nat) : (wM q cI cZ y).set 6 (q 6, .inl (cI, 32, .inl (aN v))) = wM q cI cZ (y.s_rw v) := rfl
theorem wM_s_st (q : Nat → Nat) (cI cZ : ClassId) (y : MS) (v : Nat → Nat) : (wM q cI cZ y).set 7 (q 7, .inl (cI, 9, .inl (aN v))) = wM q cI cZ (y.s_st v) := rfl
theorem wM_s_ki (q : Nat → Nat) (cI cZ : ClassId) (y : MS) (v : Nat → Nat) : (wM q cI cZ y).set 8 (q 8, .inl (cI, 20, .inl (aN v))) = wM q cI cZ (y.s_ki v) := rfl
theorem wM_s_pin (q : Nat → Nat) (cI cZ : ClassId) (y : MS) (v : Nat → Nat) : (wM q cI cZ y).set 9 (q 9, .inl (cI, 20, .inl (aN v))) = wM q cI cZ (y.s_pin v) := rfl
theorem wM_s_he (q : Nat → Nat) (cI cZ : ClassId) (y : MS) (v : Nat → Nat) : (wM q cI cZ y).set 10 (q 10, .inl (cI, 20, .inl (aN v))) = wM q cI cZ (y.s_he v) := rfl
theorem wM_s_ir (q : Nat → Nat) (cI cZ : ClassId) (y : MS) (v : Nat → Nat) : (wM q cI cZ y).set 11 (q 11, .inl (cI, 20, .inl (aN v))) = wM q cI cZ (y.s_ir v) := rfl
theorem wM_s_nb (q : Nat → Nat) (cI cZ : ClassId) (y : MS) (v : Nat → Nat) : (wM q cI cZ y).set 12 (q 12, .inl (cI, 32, .inl (aN v))) = wM q cI cZ (y.s_nb v) := rfl
theorem wM_s_fa (q : Nat → Nat) (cI cZ : ClassId) (y : MS) (v : Nat → Nat) : (wM q cI cZ y).set 13 (q 13, .inl (cI, 16, .inl (aN v))) = wM q cI cZ (y.s_fa v) := rfl
theorem sw_33 : Cond.selects "ScanRowsModel" (⟨"ScanRowsModel", "isCell", "(I)Z"⟩ : MethodName) (⟨"ScanRowsModel", "isCell", "(I)Z"⟩ : MethodName) ∈ ALLG := al_s (i := 33) (by decide +kernel) (by decide +kernel)
theorem tw_585 : (Cond.fieldLink "ScanRowsModel" (35 : Nat) "ScanRowsModel" "pins" "[I") ∈ ALLG := al_t (i := 585) (by decide +kernel) (by decide +kernel)
theorem tw_586 : (Cond.fieldLink "ScanRowsModel" (38 : Nat) "ScanRowsModel" "holds" "[I") ∈ ALLG := al_t (i := 586) (by decide +kernel) (by decide +kernel)
theorem tw_592 : (Cond.fieldLink "ScanRowsModel" (54 : Nat) "ScanRowsModel" "code" "I") ∈ ALLG := al_t (i := 592) (by decide +kernel) (by decide +kernel)
theorem tw_735 : (Cond.methodLink "ScanRowsModel" (110 : Nat) ({ cls := "ScanRowsModel", name := "isCell", desc := "(I)Z" } : Jvm.MethodName)) ∈ ALLG := al_t (i := 735) (by decide +kernel) (by decide +kernel)
theorem tw_737 : (Cond.instanceMethod ({ cls := "ScanRowsModel", name := "isCell", desc := "(I)Z" } : Jvm.MethodName)) ∈ ALLG := al_t (i := 737) (by decide +kernel) (by decide +kernel)
theorem tw_738 : (Cond.code ({ cls := "ScanRowsModel", name := "isCell", desc := "(I)Z" } : Jvm.MethodName) prog_6_method_5_code (2 : Nat) (Option.some FieldType.boolean)) ∈ ALLG := al_t (i := 738) (by decide +kernel) (by decide +kernel)
theorem dX4_pin_0 : decode cX4_pin 0 = .ok (.aload_n 0, 1) := by decide +kernel
theorem dX4_pin_1 : decode cX4_pin 1 = .ok (.aload_n 0, 1) := by decide +kernel
theorem dX4_pin_2 : decode cX4_pin 2 = .ok (.iload_n 1, 1) := by decide +kernel
theorem dX4_pin_3 : decode cX4_pin 3 = .ok (.invokevirtual 110, 3) := by decide +kernel
theorem dX4_pin_6 : decode cX4_pin 6 = .ok (.ifCond .eq 7, 3) := by decide +kernel
theorem dX4_pin_9 : decode cX4_pin 9 = .ok (.iconst 0, 1) := by decide +kernel
theorem dX4_pin_10 : decode cX4_pin 10 = .ok (.goto 4, 3) := by decide +kernel
theorem dX4_pin_13 : decode cX4_pin 13 = .ok (.iconst 1, 1) := by decide +kernel
theorem dX4_pin_14 : decode cX4_pin 14 = .ok (.putfield 57, 3) := by decide +kernel
theorem dX4_pin_17 : decode cX4_pin 17 = .ok (.aload_n 0, 1) := by decide +kernel
theorem dX4_pin_18 : decode cX4_pin 18 = .ok (.getfield 57, 3) := by decide +kernel
theorem dX4_pin_21 : decode cX4_pin 21 = .ok (.ifCond .ne 18, 3) := by decide +kernel
theorem dX4_pin_24 : decode cX4_pin 24 = .ok (.aload_n 0, 1) := by decide +kernel
theorem dX4_pin_25 : decode cX4_pin 25 = .ok (.getfield 35, 3) := by decide +kernel
theorem dX4_pin_28 : decode cX4_pin 28 = .ok (.iload_n 1, 1) := by decide +kernel
theorem dX4_pin_29 : decode cX4_pin 29 = .ok (.iload_n 2, 1) := by decide +kernel
theorem dX4_pin_30 : decode cX4_pin 30 = .ok (.ifCond .ne 7, 3) := by decide +kernel
theorem dX4_pin_33 : decode cX4_pin 33 = .ok (.iconst 0, 1) := by decide +kernel
theorem dX4_pin_34 : decode cX4_pin 34 = .ok (.goto 4, 3) := by decide +kernel
theorem dX4_pin_37 : decode cX4_pin 37 = .ok (.iconst 1, 1) := by decide +kernel
theorem dX4_pin_38 : decode cX4_pin 38 = .ok (.iastore, 1) := by decide +kernel
theorem dX4_pin_39 : decode cX4_pin 39 = .ok (.return_, 1) := by decide +kernel
theorem dX4_boundary_0 : decode cX4_boundary 0 = .ok (.aload_n 0, 1) := by decide +kernel
theorem dX4_boundary_1 : decode cX4_boundary 1 = .ok (.aload_n 0, 1) := by decide +kernel
theorem dX4_boundary_2 : decode cX4_boundary 2 = .ok (.iload_n 1, 1) := by decide +kernel
theorem dX4_boundary_3 : decode cX4_boundary 3 = .ok (.invokevirtual 110, 3) := by decide +kernel
theorem dX4_boundary_6 : decode cX4_boundary 6 = .ok (.ifCond .eq 7, 3) := by decide +kernel
theorem dX4_boundary_9 : decode cX4_boundary 9 = .ok (.iconst 0, 1) := by decide +kernel
theorem dX4_boundary_10 : decode cX4_boundary 10 = .ok (.goto 4, 3) := by decide +kernel
theorem dX4_boundary_13 : decode cX4_boundary 13 = .ok (.iconst 1, 1) := by decide +kernel
theorem dX4_boundary_14 : decode cX4_boundary 14 = .ok (.putfield 57, 3) := by decide +kernel
theorem dX4_boundary_17 : decode cX4_boundary 17 = .ok (.aload_n 0, 1) := by decide +kernel
theorem dX4_boundary_18 : decode cX4_boundary 18 = .ok (.getfield 57, 3) := by decide +kernel
theorem dX4_boundary_21 : decode cX4_boundary 21 = .ok (.ifCond .le 5, 3) := by decide +kernel
theorem dX4_boundary_24 : decode cX4_boundary 24 = .ok (.iconst 0, 1) := by decide +kernel
theorem dX4_boundary_25 : decode cX4_boundary 25 = .ok (.ireturn, 1) := by decide +kernel
theorem dX4_boundary_26 : decode cX4_boundary 26 = .ok (.aload_n 0, 1) := by decide +kernel
theorem dX4_boundary_27 : decode cX4_boundary 27 = .ok (.getfield 32, 3) := by decide +kernel
theorem dX4_boundary_30 : decode cX4_boundary 30 = .ok (.iload_n 1, 1) := by decide +kernel
theorem dX4_boundary_31 : decode cX4_boundary 31 = .ok (.iaload, 1) := by decide +kernel
theorem dX4_boundary_32 : decode cX4_boundary 32 = .ok (.iconst 1, 1) := by decide +kernel
theorem dX4_boundary_33 : decode cX4_boundary 33 = .ok (.if_icmp .ne 19, 3) := by decide +kernel
theorem dX4_boundary_36 : decode cX4_boundary 36 = .ok (.aload_n 0, 1) := by decide +kernel
theorem dX4_boundary_37 : decode cX4_boundary 37 = .ok (.getfield 54, 3) := by decide +kernel
theorem dX4_boundary_40 : decode cX4_boundary 40 = .ok (.ifCond .ne 12, 3) := by decide +kernel
theorem dX4_boundary_43 : decode cX4_boundary 43 = .ok (.aload_n 0, 1) := by decide +kernel
theorem dX4_boundary_44 : decode cX4_boundary 44 = .ok (.getfield 38, 3) := by decide +kernel
theorem dX4_boundary_47 : decode cX4_boundary 47 = .ok (.iload_n 1, 1) := by decide +kernel
theorem dX4_boundary_48 : decode cX4_boundary 48 = .ok (.iaload, 1) := by decide +kernel
theorem dX4_boundary_49 : decode cX4_boundary 49 = .ok (.goto 9, 3) := by decide +kernel
theorem dX4_boundary_52 : decode cX4_boundary 52 = .ok (.aload_n 0, 1) := by decide +kernel
theorem dX4_boundary_53 : decode cX4_boundary 53 = .ok (.getfield 35, 3) := by decide +kernel
theorem dX4_boundary_56 : decode cX4_boundary 56 = .ok (.iload_n 1, 1) := by decide +kernel
theorem dX4_boundary_57 : decode cX4_boundary 57 = .ok (.iaload, 1) := by decide +kernel
theorem dX4_boundary_58 : decode cX4_boundary 58 = .ok (.ireturn, 1) := by decide +kernel
set_option maxHeartbeats 4000000 in
set_option maxRecDepth 100000 in
theorem c_ScanRowsModel_pin (l : Launch) (dC : Nat → ClassId) (dI : Nat → Nat → Nat) (q : Nat → Nat) (cI cZ : ClassId) (sz : Nat) (y : MS) (i : Nat) (v : Int32) (h1 : i < y.cn) (h2 : y.cn ≤ 20) : Met l yX4_pin (.code yX4_pin cX4_pin 3 none :: ALLG) ({ frames := 1, cells := 0, slots := 0, locals := 21 }) (va_Pc [.ref (q 0), .int (nI i), .int v] (cP (dC, dI) vwCl [(cI, .int), (cZ, .boolean)] (wM q cI cZ y) eT sz)) (va_Qv (fun (u : MS) => u = (y.s_th 0).s_pin (va_up y.pin i (bitN v))) (fun (u : MS) => cB (dC, dI) vwCl [(cI, .int), (cZ, .boolean)] (wM q cI cZ u) (va_A (wM q cI cZ y) sz)) (va_A (wM q cI cZ y) sz)) 0 0 (va_A (wM q cI cZ y) sz) := by
  refine xm_of (cc := cX4_pin) (maxL := 3) (ret := none) (by decide) rfl (Nat.le_of_ble_eq_true rfl) ?_
  intro p e s m below meth c A hAe hx hb hr hml hts0 hown hlk hin hsz H locs hP hK hD hA hS hE ls hl
  have hts : ∀ w ∈ ALLG, w.before _ s = true := fun w h => hts0 w (List.mem_cons_of_mem _ h)
  rw [← hAe]
  have hl : lv_has ls 3 [(0, .ref (q 0)), (1, .int (nI i)), (2, .int v)] := hl
  refine lv_aload_n hx hb dX4_pin_0 rfl (lv_at hl 0 rfl) ?_
  refine lv_aload_n hx hb dX4_pin_1 rfl (lv_at hl 0 rfl) ?_
  refine lv_iload_n hx hb dX4_pin_2 rfl (lv_at hl 1 rfl) ?_
  refine xc_Vi (As := [.int (nI i)]) (wr := []) ⟨hx, hb, hml, hown, hts⟩ (c_ScanRowsModel_isCell l dC dI q cI cZ H.size y (nI i)) (cwV 1 hts (gV tw_735 tw_737 sw_33 tw_5 tw_738) rfl rfl rfl (by decide +kernel) ⟨Nat.le_of_ble_eq_true rfl, Nat.le_of_ble_eq_true rfl⟩) rfl hl.1 rfl (Nat.le_of_ble_eq_true rfl) dX4_pin_3 ⟨Nat.zero_le _, Nat.zero_le _⟩ hP hD hK hS hA [0, 1, 2, 3, 4, 5, 6, 7, 8, 9, 10, 11, 12, 13] [] rfl rfl (by decide) (by decide) (by decide) [0, 1] rfl (q0 := 0) rfl rfl rfl eT_M (trivial) (fun r_1 u_2 H locs w_3 hP hD hS => ?_)
  obtain rfl := w_3
  have hP : va_P (dC, dI) vwCl (wM q cI cZ y) H := hP
  have hD : va_D A (wM q cI cZ y) := hD
  refine xt_i (show nI (hcN (nI i) y.cn) = nI 1 from congrArg nI (hcN_k h1 (by omega))) ?_
  refine xn_zeq (tgt := 13) hx hb (by omega) dX4_pin_6 (by decide) (fun c_4 => ?_) (fun c_4 => ?_)
  · exact absurd (show False by omega) id
  · refine lv_iconst (v := nI 0) hx hb dX4_pin_9 (by decide) ?_
    refine lv_goto (tgt := 14) hx hb dX4_pin_10 (by decide) ?_
    refine va_put (D := (dC, dI)) (ci := 4) (v := .int (nI 0)) (ty := .int) (C := RX4) (T := TX4) (N := 23) hx hb hts inX4 tyX4 tyX4_ok nmX4 hown hK hP hD hS 0 rfl rfl 0 (by decide) (hts _ tw_572) (fun _ h9 => h9) rfl (by decide +kernel) rfl rfl (Nat.le_of_ble_eq_true rfl) dX4_pin_14 (fun H locs hP hD hS => ?_)
    have hP : va_P (dC, dI) vwCl (wM q cI cZ (MS.s_th y 0)) H := va_eqP (wM_s_th q cI cZ y 0) hP
    have hD : va_D A (wM q cI cZ (MS.s_th y 0)) := va_eqD (wM_s_th q cI cZ y 0) hD
    refine lv_aload_n hx hb dX4_pin_17 rfl (lv_at hl 0 rfl) ?_
    refine va_get (D := (dC, dI)) (ci := 4) (v := .int (nI 0)) (C := RX4) (T := TX4) (N := 23) hx hb hts inX4 hown hK hP 0 rfl rfl 0 (by decide) (hts _ tw_572) (fun _ h9 => h9) rfl dX4_pin_18 ?_
    refine xn_zne (tgt := 39) hx hb (by omega) dX4_pin_21 (by decide) (fun c_5 => ?_) (fun c_5 => ?_)
    · exact absurd (show False by omega) id
    · refine lv_aload_n hx hb dX4_pin_24 rfl (lv_at hl 0 rfl) ?_
      refine va_get (D := (dC, dI)) (ci := 4) (v := .ref (q 9)) (C := RX4) (T := TX4) (N := 23) hx hb hts inX4 hown hK hP 0 rfl rfl 13 (by decide) (hts _ tw_585) (fun _ h9 => h9) rfl dX4_pin_25 ?_
      refine lv_iload_n hx hb dX4_pin_28 rfl (lv_at hl 1 rfl) ?_
      refine lv_iload_n hx hb dX4_pin_29 rfl (lv_at hl 2 rfl) ?_
      refine lv_if_ne (tgt := 37) hx hb dX4_pin_30 (by decide) (fun c_6 => ?_) (fun c_6 => ?_)
      · refine lv_iconst (v := nI 1) hx hb dX4_pin_37 (by decide) ?_
        refine xt_i (show nI 1 = nI (bitN v) from congrArg nI (by unfold bitN; rw [if_neg (by assumption)])) ?_
        refine xa_ist hx hb hK hP hD hS 9 0 rfl rfl (by omega) (by decide) (aN_up _ _ _) dX4_pin_38 (fun H locs hP hD hS => ?_)
        have hP : va_P (dC, dI) vwCl (wM q cI cZ (MS.s_pin (MS.s_th y 0) (va_up (MS.pin y) i (bitN v)))) H := va_eqP (wM_s_pin q cI cZ (MS.s_th y 0) (va_up (MS.pin y) i (bitN v))) hP
        have hD : va_D A (wM q cI cZ (MS.s_pin (MS.s_th y 0) (va_up (MS.pin y) i (bitN v)))) := va_eqD (wM_s_pin q cI cZ (MS.s_th y 0) (va_up (MS.pin y) i (bitN v))) hD
        exact xr_v hx hb hr hlk (u := MS.s_pin (MS.s_th y 0) (va_up (MS.pin y) i (bitN v))) rfl hP hK hD hS dX4_pin_39
      · refine lv_iconst (v := nI 0) hx hb dX4_pin_33 (by decide) ?_
        refine lv_goto (tgt := 38) hx hb dX4_pin_34 (by decide) ?_
        refine xt_i (show nI 0 = nI (bitN v) from congrArg nI (by unfold bitN; rw [if_pos (by assumption)])) ?_
        refine xa_ist hx hb hK hP hD hS 9 0 rfl rfl (by omega) (by decide) (aN_up _ _ _) dX4_pin_38 (fun H locs hP hD hS => ?_)
        have hP : va_P (dC, dI) vwCl (wM q cI cZ (MS.s_pin (MS.s_th y 0) (va_up (MS.pin y) i (bitN v)))) H := va_eqP (wM_s_pin q cI cZ (MS.s_th y 0) (va_up (MS.pin y) i (bitN v))) hP
        have hD : va_D A (wM q cI cZ (MS.s_pin (MS.s_th y 0) (va_up (MS.pin y) i (bitN v)))) := va_eqD (wM_s_pin q cI cZ (MS.s_th y 0) (va_up (MS.pin y) i (bitN v))) hD
        exact xr_v hx hb hr hlk (u := MS.s_pin (MS.s_th y 0) (va_up (MS.pin y) i (bitN v))) rfl hP hK hD hS dX4_pin_39
set_option maxHeartbeats 4000000 in
set_option maxRecDepth 100000 in
theorem c_ScanRowsModel_boundary (l : Launch) (dC : Nat → ClassId) (dI : Nat → Nat → Nat) (q : Nat → Nat) (cI cZ : ClassId) (sz : Nat) (y : MS) (i : Nat) (h1 : i < y.cn) (h2 : y.cn ≤ 20) (h3 : y.ki i < 2) (h4 : y.co < 16) : Met l yX4_boundary (.code yX4_boundary cX4_boundary 2 (some .int) :: ALLG) ({ frames := 1, cells := 0, slots := 0, locals := 21 }) (va_Pc [.ref (q 0), .int (nI i)] (cP (dC, dI) vwCl [(cI, .int), (cZ, .boolean)] (wM q cI cZ y) eT sz)) (va_Qi (fun (x : Int32) (u : MS) => x = nI (drv (toK y) i (if y.co = 0 then 1 else 0)) ∧ u = y.s_th 0) (fun (u : MS) => cB (dC, dI) vwCl [(cI, .int), (cZ, .boolean)] (wM q cI cZ u) (va_A (wM q cI cZ y) sz)) (va_A (wM q cI cZ y) sz)) 0 0 (va_A (wM q cI cZ y) sz) := by
  refine xm_of (cc := cX4_boundary) (maxL := 2) (ret := some .int) (by decide) rfl (Nat.le_of_ble_eq_true rfl) ?_
  intro p e s m below meth c A hAe hx hb hr hml hts0 hown hlk hin hsz H locs hP hK hD hA hS hE ls hl
  have hts : ∀ w ∈ ALLG, w.before _ s = true := fun w h => hts0 w (List.mem_cons_of_mem _ h)
  rw [← hAe]
  have hl : lv_has ls 2 [(0, .ref (q 0)), (1, .int (nI i))] := hl
  refine lv_aload_n hx hb dX4_boundary_0 rfl (lv_at hl 0 rfl) ?_
  refine lv_aload_n hx hb dX4_boundary_1 rfl (lv_at hl 0 rfl) ?_
  refine lv_iload_n hx hb dX4_boundary_2 rfl (lv_at hl 1 rfl) ?_
  refine xc_Vi (As := [.int (nI i)]) (wr := []) ⟨hx, hb, hml, hown, hts⟩ (c_ScanRowsModel_isCell l dC dI q cI cZ H.size y (nI i)) (cwV 1 hts (gV tw_735 tw_737 sw_33 tw_5 tw_738) rfl rfl rfl (by decide +kernel) ⟨Nat.le_of_ble_eq_true rfl, Nat.le_of_ble_eq_true rfl⟩) rfl hl.1 rfl (Nat.le_of_ble_eq_true rfl) dX4_boundary_3 ⟨Nat.zero_le _, Nat.zero_le _⟩ hP hD hK hS hA [0, 1, 2, 3, 4, 5, 6, 7, 8, 9, 10, 11, 12, 13] [] rfl rfl (by decide) (by decide) (by decide) [0, 1] rfl (q0 := 0) rfl rfl rfl eT_M (trivial) (fun r_1 u_2 H locs w_3 hP hD hS => ?_)
  obtain rfl := w_3
  have hP : va_P (dC, dI) vwCl (wM q cI cZ y) H := hP
  have hD : va_D A (wM q cI cZ y) := hD
  refine xt_i (show nI (hcN (nI i) y.cn) = nI 1 from congrArg nI (hcN_k h1 (by omega))) ?_
  refine xn_zeq (tgt := 13) hx hb (by omega) dX4_boundary_6 (by decide) (fun c_4 => ?_) (fun c_4 => ?_)
  · exact absurd (show False by omega) id
  · refine lv_iconst (v := nI 0) hx hb dX4_boundary_9 (by decide) ?_
    refine lv_goto (tgt := 14) hx hb dX4_boundary_10 (by decide) ?_
    refine va_put (D := (dC, dI)) (ci := 4) (v := .int (nI 0)) (ty := .int) (C := RX4) (T := TX4) (N := 23) hx hb hts inX4 tyX4 tyX4_ok nmX4 hown hK hP hD hS 0 rfl rfl 0 (by decide) (hts _ tw_572) (fun _ h9 => h9) rfl (by decide +kernel) rfl rfl (Nat.le_of_ble_eq_true rfl) dX4_boundary_14 (fun H locs hP hD hS => ?_)
    have hP : va_P (dC, dI) vwCl (wM q cI cZ (MS.s_th y 0)) H := va_eqP (wM_s_th q cI cZ y 0) hP
    have hD : va_D A (wM q cI cZ (MS.s_th y 0)) := va_eqD (wM_s_th q cI cZ y 0) hD
    refine lv_aload_n hx hb dX4_boundary_17 rfl (lv_at hl 0 rfl) ?_
    refine va_get (D := (dC, dI)) (ci := 4) (v := .int (nI 0)) (C := RX4) (T := TX4) (N := 23) hx hb hts inX4 hown hK hP 0 rfl rfl 0 (by decide) (hts _ tw_572) (fun _ h9 => h9) rfl dX4_boundary_18 ?_
    refine xn_zle (tgt := 26) hx hb (by omega) dX4_boundary_21 (by decide) (fun c_5 => ?_) (fun c_5 => ?_)
    · refine lv_aload_n hx hb dX4_boundary_26 rfl (lv_at hl 0 rfl) ?_
      refine va_get (D := (dC, dI)) (ci := 4) (v := .ref (q 8)) (C := RX4) (T := TX4) (N := 23) hx hb hts inX4 hown hK hP 0 rfl rfl 12 (by decide) (hts _ tw_584) (fun _ h9 => h9) rfl dX4_boundary_27 ?_
      refine lv_iload_n hx hb dX4_boundary_30 rfl (lv_at hl 1 rfl) ?_
      refine xa_ild hx hb hK hP 8 0 rfl rfl (v := nI ((MS.ki y) i)) (by omega) (by decide) rfl dX4_boundary_31 ?_
      refine lv_iconst (v := nI 1) hx hb dX4_boundary_32 (by decide) ?_
      refine xn_cne (tgt := 52) hx hb (by omega) (by omega) dX4_boundary_33 (by decide) (fun c_6 => ?_) (fun c_6 => ?_)
      · refine lv_aload_n hx hb dX4_boundary_52 rfl (lv_at hl 0 rfl) ?_
        refine va_get (D := (dC, dI)) (ci := 4) (v := .ref (q 9)) (C := RX4) (T := TX4) (N := 23) hx hb hts inX4 hown hK hP 0 rfl rfl 13 (by decide) (hts _ tw_585) (fun _ h9 => h9) rfl dX4_boundary_53 ?_
        refine lv_iload_n hx hb dX4_boundary_56 rfl (lv_at hl 1 rfl) ?_
        refine xa_ild hx hb hK hP 9 0 rfl rfl (v := nI ((MS.pin y) i)) (by omega) (by decide) rfl dX4_boundary_57 ?_
        exact xr_i hx hb hr hlk (u := MS.s_th y 0) (⟨congrArg nI (by unfold drv; rw [if_neg (fun z => absurd z.2 (by assumption))]), rfl⟩) hP hK hD hS dX4_boundary_58
      · refine lv_aload_n hx hb dX4_boundary_36 rfl (lv_at hl 0 rfl) ?_
        refine va_get (D := (dC, dI)) (ci := 4) (v := .int (nI (MS.co y))) (C := RX4) (T := TX4) (N := 23) hx hb hts inX4 hown hK hP 0 rfl rfl 20 (by decide) (hts _ tw_592) (fun _ h9 => h9) rfl dX4_boundary_37 ?_
        refine xn_zne (tgt := 52) hx hb (by omega) dX4_boundary_40 (by decide) (fun c_7 => ?_) (fun c_7 => ?_)
        · refine lv_aload_n hx hb dX4_boundary_52 rfl (lv_at hl 0 rfl) ?_
          refine va_get (D := (dC, dI)) (ci := 4) (v := .ref (q 9)) (C := RX4) (T := TX4) (N := 23) hx hb hts inX4 hown hK hP 0 rfl rfl 13 (by decide) (hts _ tw_585) (fun _ h9 => h9) rfl dX4_boundary_53 ?_
          refine lv_iload_n hx hb dX4_boundary_56 rfl (lv_at hl 1 rfl) ?_
          refine xa_ild hx hb hK hP 9 0 rfl rfl (v := nI ((MS.pin y) i)) (by omega) (by decide) rfl dX4_boundary_57 ?_
          exact xr_i hx hb hr hlk (u := MS.s_th y 0) (⟨congrArg nI (by unfold drv; rw [if_neg (fun z => by rw [if_neg (by omega)] at z; cases z.1)]), rfl⟩) hP hK hD hS dX4_boundary_58
        · refine lv_aload_n hx hb dX4_boundary_43 rfl (lv_at hl 0 rfl) ?_
          refine va_get (D := (dC, dI)) (ci := 4) (v := .ref (q 10)) (C := RX4) (T := TX4) (N := 23) hx hb hts inX4 hown hK hP 0 rfl rfl 14 (by decide) (hts _ tw_586) (fun _ h9 => h9) rfl dX4_boundary_44 ?_
          refine lv_iload_n hx hb dX4_boundary_47 rfl (lv_at hl 1 rfl) ?_
          refine xa_ild hx hb hK hP 10 0 rfl rfl (v := nI ((MS.he y) i)) (by omega) (by decide) rfl dX4_boundary_48 ?_
          refine lv_goto (tgt := 58) hx hb dX4_boundary_49 (by decide) ?_
          exact xr_i hx hb hr hlk (u := MS.s_th y 0) (⟨congrArg nI (by unfold drv; rw [if_pos ⟨by rw [if_pos (by assumption)], by assumption⟩]), rfl⟩) hP hK hD hS dX4_boundary_58
    · exact absurd (show False by omega) id
set_option maxHeartbeats 4000000 in
set_option maxRecDepth 100000 in
theorem c_M_pin1 (l : Launch) (dC : Nat → ClassId) (dI : Nat → Nat → Nat) (q : Nat → Nat) (cI cZ : ClassId) (sz : Nat) (y : MS) (v lv : Int32) (h1 : hcN v y.cn = 0) : Met l yX4_pin (.code yX4_pin cX4_pin 3 none :: ALLG) ({ frames := 1, cells := 0, slots := 0, locals := 21 }) (va_Pc [.ref (q 0), .int v, .int lv] (cP (dC, dI) vwCl [(cI, .int), (cZ, .boolean)] (wM q cI cZ y) eT sz)) (va_Qv (fun (u : MS) => u = y.s_th 1) (fun (u : MS) => cB (dC, dI) vwCl [(cI, .int), (cZ, .boolean)] (wM q cI cZ u) (va_A (wM q cI cZ y) sz)) (va_A (wM q cI cZ y) sz)) 0 0 (va_A (wM q cI cZ y) sz) := by
  refine xm_of (cc := cX4_pin) (maxL := 3) (ret := none) (by decide) rfl (Nat.le_of_ble_eq_true rfl) ?_
  intro p e s m below meth c A hAe hx hb hr hml hts0 hown hlk hin hsz H locs hP hK hD hA hS hE ls hl
  have hts : ∀ w ∈ ALLG, w.before _ s = true := fun w h => hts0 w (List.mem_cons_of_mem _ h)
  rw [← hAe]
  have g1 := hcN_le v y.cn
  have hl : lv_has ls 3 [(0, .ref (q 0)), (1, .int v), (2, .int lv)] := hl
  refine lv_aload_n hx hb dX4_pin_0 rfl (lv_at hl 0 rfl) ?_
  refine lv_aload_n hx hb dX4_pin_1 rfl (lv_at hl 0 rfl) ?_
  refine lv_iload_n hx hb dX4_pin_2 rfl (lv_at hl 1 rfl) ?_
  refine xc_Vi (As := [.int v]) (wr := []) ⟨hx, hb, hml, hown, hts⟩ (c_ScanRowsModel_isCell l dC dI q cI cZ H.size y v) (cwV 1 hts (gV tw_735 tw_737 sw_33 tw_5 tw_738) rfl rfl rfl (by decide +kernel) ⟨Nat.le_of_ble_eq_true rfl, Nat.le_of_ble_eq_true rfl⟩) rfl hl.1 rfl (Nat.le_of_ble_eq_true rfl) dX4_pin_3 ⟨Nat.zero_le _, Nat.zero_le _⟩ hP hD hK hS hA [0, 1, 2, 3, 4, 5, 6, 7, 8, 9, 10, 11, 12, 13] [] rfl rfl (by decide) (by decide) (by decide) [0, 1] rfl (q0 := 0) rfl rfl rfl eT_M (trivial) (fun r_1 u_2 H locs w_3 hP hD hS => ?_)
  obtain rfl := w_3
  have hP : va_P (dC, dI) vwCl (wM q cI cZ y) H := hP
  have hD : va_D A (wM q cI cZ y) := hD
  refine xn_zeq (tgt := 13) hx hb (by omega) dX4_pin_6 (by decide) (fun c_4 => ?_) (fun c_4 => ?_)
  · refine lv_iconst (v := nI 1) hx hb dX4_pin_13 (by decide) ?_
    refine va_put (D := (dC, dI)) (ci := 4) (v := .int (nI 1)) (ty := .int) (C := RX4) (T := TX4) (N := 23) hx hb hts inX4 tyX4 tyX4_ok nmX4 hown hK hP hD hS 0 rfl rfl 0 (by decide) (hts _ tw_572) (fun _ h9 => h9) rfl (by decide +kernel) rfl rfl (Nat.le_of_ble_eq_true rfl) dX4_pin_14 (fun H locs hP hD hS => ?_)
    have hP : va_P (dC, dI) vwCl (wM q cI cZ (MS.s_th y 1)) H := va_eqP (wM_s_th q cI cZ y 1) hP
    have hD : va_D A (wM q cI cZ (MS.s_th y 1)) := va_eqD (wM_s_th q cI cZ y 1) hD
    refine lv_aload_n hx hb dX4_pin_17 rfl (lv_at hl 0 rfl) ?_
    refine va_get (D := (dC, dI)) (ci := 4) (v := .int (nI 1)) (C := RX4) (T := TX4) (N := 23) hx hb hts inX4 hown hK hP 0 rfl rfl 0 (by decide) (hts _ tw_572) (fun _ h9 => h9) rfl dX4_pin_18 ?_
    refine xn_zne (tgt := 39) hx hb (by omega) dX4_pin_21 (by decide) (fun c_5 => ?_) (fun c_5 => ?_)
    · exact xr_v hx hb hr hlk (u := MS.s_th y 1) rfl hP hK hD hS dX4_pin_39
    · exact absurd (show False by omega) id
  · exact absurd (show False by omega) id
set_option maxHeartbeats 4000000 in
set_option maxRecDepth 100000 in
theorem c_M_boundary1 (l : Launch) (dC : Nat → ClassId) (dI : Nat → Nat → Nat) (q : Nat → Nat) (cI cZ : ClassId) (sz : Nat) (y : MS) (v : Int32) (h1 : hcN v y.cn = 0) : Met l yX4_boundary (.code yX4_boundary cX4_boundary 2 (some .int) :: ALLG) ({ frames := 1, cells := 0, slots := 0, locals := 21 }) (va_Pc [.ref (q 0), .int v] (cP (dC, dI) vwCl [(cI, .int), (cZ, .boolean)] (wM q cI cZ y) eT sz)) (va_Qi (fun (x : Int32) (u : MS) => x = nI 0 ∧ u = y.s_th 1) (fun (u : MS) => cB (dC, dI) vwCl [(cI, .int), (cZ, .boolean)] (wM q cI cZ u) (va_A (wM q cI cZ y) sz)) (va_A (wM q cI cZ y) sz)) 0 0 (va_A (wM q cI cZ y) sz) := by
  refine xm_of (cc := cX4_boundary) (maxL := 2) (ret := some .int) (by decide) rfl (Nat.le_of_ble_eq_true rfl) ?_
  intro p e s m below meth c A hAe hx hb hr hml hts0 hown hlk hin hsz H locs hP hK hD hA hS hE ls hl
  have hts : ∀ w ∈ ALLG, w.before _ s = true := fun w h => hts0 w (List.mem_cons_of_mem _ h)
  rw [← hAe]
  have g1 := hcN_le v y.cn
  have hl : lv_has ls 2 [(0, .ref (q 0)), (1, .int v)] := hl
  refine lv_aload_n hx hb dX4_boundary_0 rfl (lv_at hl 0 rfl) ?_
  refine lv_aload_n hx hb dX4_boundary_1 rfl (lv_at hl 0 rfl) ?_
  refine lv_iload_n hx hb dX4_boundary_2 rfl (lv_at hl 1 rfl) ?_
  refine xc_Vi (As := [.int v]) (wr := []) ⟨hx, hb, hml, hown, hts⟩ (c_ScanRowsModel_isCell l dC dI q cI cZ H.size y v) (cwV 1 hts (gV tw_735 tw_737 sw_33 tw_5 tw_738) rfl rfl rfl (by decide +kernel) ⟨Nat.le_of_ble_eq_true rfl, Nat.le_of_ble_eq_true rfl⟩) rfl hl.1 rfl (Nat.le_of_ble_eq_true rfl) dX4_boundary_3 ⟨Nat.zero_le _, Nat.zero_le _⟩ hP hD hK hS hA [0, 1, 2, 3, 4, 5, 6, 7, 8, 9, 10, 11, 12, 13] [] rfl rfl (by decide) (by decide) (by decide) [0, 1] rfl (q0 := 0) rfl rfl rfl eT_M (trivial) (fun r_1 u_2 H locs w_3 hP hD hS => ?_)
  obtain rfl := w_3
  have hP : va_P (dC, dI) vwCl (wM q cI cZ y) H := hP
  have hD : va_D A (wM q cI cZ y) := hD
  refine xn_zeq (tgt := 13) hx hb (by omega) dX4_boundary_6 (by decide) (fun c_4 => ?_) (fun c_4 => ?_)
  · refine lv_iconst (v := nI 1) hx hb dX4_boundary_13 (by decide) ?_
    refine va_put (D := (dC, dI)) (ci := 4) (v := .int (nI 1)) (ty := .int) (C := RX4) (T := TX4) (N := 23) hx hb hts inX4 tyX4 tyX4_ok nmX4 hown hK hP hD hS 0 rfl rfl 0 (by decide) (hts _ tw_572) (fun _ h9 => h9) rfl (by decide +kernel) rfl rfl (Nat.le_of_ble_eq_true rfl) dX4_boundary_14 (fun H locs hP hD hS => ?_)
    have hP : va_P (dC, dI) vwCl (wM q cI cZ (MS.s_th y 1)) H := va_eqP (wM_s_th q cI cZ y 1) hP
    have hD : va_D A (wM q cI cZ (MS.s_th y 1)) := va_eqD (wM_s_th q cI cZ y 1) hD
    refine lv_aload_n hx hb dX4_boundary_17 rfl (lv_at hl 0 rfl) ?_
    refine va_get (D := (dC, dI)) (ci := 4) (v := .int (nI 1)) (C := RX4) (T := TX4) (N := 23) hx hb hts inX4 hown hK hP 0 rfl rfl 0 (by decide) (hts _ tw_572) (fun _ h9 => h9) rfl dX4_boundary_18 ?_
    refine xn_zle (tgt := 26) hx hb (by omega) dX4_boundary_21 (by decide) (fun c_5 => ?_) (fun c_5 => ?_)
    · exact absurd (show False by omega) id
    · refine lv_iconst (v := nI 0) hx hb dX4_boundary_24 (by decide) ?_
      exact xr_i hx hb hr hlk (u := MS.s_th y 1) (⟨rfl, rfl⟩) hP hK hD hS dX4_boundary_25
  · exact absurd (show False by omega) id
