theorem sw_17 : Cond.selects "ScanRows$Access" (⟨"ScanRows$Access", "register", "()I"⟩ : MethodName) (⟨"ScanRows$Access", "register", "()I"⟩ : MethodName) ∈ ALLG := al_s (i := 17) (by decide +kernel) (by decide +kernel)
theorem tw_4 : (Cond.initialized "ScanRows$Access") ∈ ALLG := al_t (i := 4) (by decide +kernel) (by decide +kernel)
theorem tw_31 : (Cond.fieldLink "ScanRows$Access" (60 : Nat) "ScanRows$Rows" "placed" "I") ∈ ALLG := al_t (i := 31) (by decide +kernel) (by decide +kernel)
theorem tw_77 : (Cond.fieldLink "ScanRows$Access" (55 : Nat) "ScanRows$Cells" "count" "I") ∈ ALLG := al_t (i := 77) (by decide +kernel) (by decide +kernel)
theorem tw_103 : (Cond.fieldLink "ScanRows$Access" (26 : Nat) "ScanRows$Access" "code" "I") ∈ ALLG := al_t (i := 103) (by decide +kernel) (by decide +kernel)
theorem tw_106 : (Cond.fieldLink "ScanRows$Access" (15 : Nat) "ScanRows$Access" "rows" "LScanRows$Rows;") ∈ ALLG := al_t (i := 106) (by decide +kernel) (by decide +kernel)
theorem tw_107 : (Cond.fieldLink "ScanRows$Access" (19 : Nat) "ScanRows$Access" "cells" "LScanRows$Cells;") ∈ ALLG := al_t (i := 107) (by decide +kernel) (by decide +kernel)
theorem tw_108 : (Cond.fieldLink "ScanRows$Access" (49 : Nat) "ScanRows$Access" "codeInRegister" "I") ∈ ALLG := al_t (i := 108) (by decide +kernel) (by decide +kernel)
theorem tw_109 : (Cond.fieldLink "ScanRows$Access" (72 : Nat) "ScanRows$Access" "numberInRegister" "I") ∈ ALLG := al_t (i := 109) (by decide +kernel) (by decide +kernel)
theorem tw_110 : (Cond.fieldLink "ScanRows$Access" (75 : Nat) "ScanRows$Access" "bypassBit" "I") ∈ ALLG := al_t (i := 110) (by decide +kernel) (by decide +kernel)
theorem tw_477 : (Cond.methodLink "ScanRows$Access" (65 : Nat) ({ cls := "ScanRows$Access", name := "register", desc := "()I" } : Jvm.MethodName)) ∈ ALLG := al_t (i := 477) (by decide +kernel) (by decide +kernel)
theorem tw_479 : (Cond.instanceMethod ({ cls := "ScanRows$Access", name := "register", desc := "()I" } : Jvm.MethodName)) ∈ ALLG := al_t (i := 479) (by decide +kernel) (by decide +kernel)
theorem tw_480 : (Cond.code ({ cls := "ScanRows$Access", name := "register", desc := "()I" } : Jvm.MethodName) prog_2_method_4_code (1 : Nat) (Option.some FieldType.int)) ∈ ALLG := al_t (i := 480) (by decide +kernel) (by decide +kernel)
theorem dX0_register_0 : decode cX0_register 0 = .ok (.aload_n 0, 1) := by decide +kernel
theorem dX0_register_1 : decode cX0_register 1 = .ok (.getfield 26, 3) := by decide +kernel
theorem dX0_register_4 : decode cX0_register 4 = .ok (.ifCond .eq 11, 3) := by decide +kernel
theorem dX0_register_7 : decode cX0_register 7 = .ok (.aload_n 0, 1) := by decide +kernel
theorem dX0_register_8 : decode cX0_register 8 = .ok (.getfield 26, 3) := by decide +kernel
theorem dX0_register_11 : decode cX0_register 11 = .ok (.iconst 1, 1) := by decide +kernel
theorem dX0_register_12 : decode cX0_register 12 = .ok (.if_icmp .ne 19, 3) := by decide +kernel
theorem dX0_register_15 : decode cX0_register 15 = .ok (.aload_n 0, 1) := by decide +kernel
theorem dX0_register_16 : decode cX0_register 16 = .ok (.getfield 19, 3) := by decide +kernel
theorem dX0_register_19 : decode cX0_register 19 = .ok (.getfield 55, 3) := by decide +kernel
theorem dX0_register_22 : decode cX0_register 22 = .ok (.ifCond .le 7, 3) := by decide +kernel
theorem dX0_register_25 : decode cX0_register 25 = .ok (.iconst 1, 1) := by decide +kernel
theorem dX0_register_26 : decode cX0_register 26 = .ok (.goto 4, 3) := by decide +kernel
theorem dX0_register_29 : decode cX0_register 29 = .ok (.iconst 0, 1) := by decide +kernel
theorem dX0_register_30 : decode cX0_register 30 = .ok (.ireturn, 1) := by decide +kernel
theorem dX0_register_31 : decode cX0_register 31 = .ok (.aload_n 0, 1) := by decide +kernel
theorem dX0_register_32 : decode cX0_register 32 = .ok (.getfield 26, 3) := by decide +kernel
theorem dX0_register_35 : decode cX0_register 35 = .ok (.iconst 2, 1) := by decide +kernel
theorem dX0_register_36 : decode cX0_register 36 = .ok (.if_icmp .ne 5, 3) := by decide +kernel
theorem dX0_register_39 : decode cX0_register 39 = .ok (.iconst 2, 1) := by decide +kernel
theorem dX0_register_40 : decode cX0_register 40 = .ok (.ireturn, 1) := by decide +kernel
theorem dX0_register_41 : decode cX0_register 41 = .ok (.aload_n 0, 1) := by decide +kernel
theorem dX0_register_42 : decode cX0_register 42 = .ok (.getfield 26, 3) := by decide +kernel
theorem dX0_register_45 : decode cX0_register 45 = .ok (.iconst 3, 1) := by decide +kernel
theorem dX0_register_46 : decode cX0_register 46 = .ok (.if_icmp .ne 17, 3) := by decide +kernel
theorem dX0_register_49 : decode cX0_register 49 = .ok (.aload_n 0, 1) := by decide +kernel
theorem dX0_register_50 : decode cX0_register 50 = .ok (.getfield 15, 3) := by decide +kernel
theorem dX0_register_53 : decode cX0_register 53 = .ok (.getfield 60, 3) := by decide +kernel
theorem dX0_register_56 : decode cX0_register 56 = .ok (.ifCond .le 7, 3) := by decide +kernel
theorem dX0_register_59 : decode cX0_register 59 = .ok (.iconst 3, 1) := by decide +kernel
theorem dX0_register_60 : decode cX0_register 60 = .ok (.goto 4, 3) := by decide +kernel
theorem dX0_register_63 : decode cX0_register 63 = .ok (.iconst 0, 1) := by decide +kernel
theorem dX0_register_64 : decode cX0_register 64 = .ok (.ireturn, 1) := by decide +kernel
theorem dX0_registerLength_0 : decode cX0_registerLength 0 = .ok (.aload_n 0, 1) := by decide +kernel
theorem dX0_registerLength_1 : decode cX0_registerLength 1 = .ok (.invokevirtual 65, 3) := by decide +kernel
theorem dX0_registerLength_4 : decode cX0_registerLength 4 = .ok (.tableswitch 47 1 3 #[28, 36, 39], 28) := by decide +kernel
theorem dX0_registerLength_32 : decode cX0_registerLength 32 = .ok (.aload_n 0, 1) := by decide +kernel
theorem dX0_registerLength_33 : decode cX0_registerLength 33 = .ok (.getfield 19, 3) := by decide +kernel
theorem dX0_registerLength_36 : decode cX0_registerLength 36 = .ok (.getfield 55, 3) := by decide +kernel
theorem dX0_registerLength_39 : decode cX0_registerLength 39 = .ok (.ireturn, 1) := by decide +kernel
theorem dX0_registerLength_40 : decode cX0_registerLength 40 = .ok (.bipush 32, 2) := by decide +kernel
theorem dX0_registerLength_42 : decode cX0_registerLength 42 = .ok (.ireturn, 1) := by decide +kernel
theorem dX0_registerLength_43 : decode cX0_registerLength 43 = .ok (.aload_n 0, 1) := by decide +kernel
theorem dX0_registerLength_44 : decode cX0_registerLength 44 = .ok (.getfield 15, 3) := by decide +kernel
theorem dX0_registerLength_47 : decode cX0_registerLength 47 = .ok (.getfield 60, 3) := by decide +kernel
theorem dX0_registerLength_50 : decode cX0_registerLength 50 = .ok (.ireturn, 1) := by decide +kernel
theorem dX0_registerLength_51 : decode cX0_registerLength 51 = .ok (.iconst 1, 1) := by decide +kernel
theorem dX0_registerLength_52 : decode cX0_registerLength 52 = .ok (.ireturn, 1) := by decide +kernel
theorem dX0_shiftBypass_0 : decode cX0_shiftBypass 0 = .ok (.aload_n 0, 1) := by decide +kernel
theorem dX0_shiftBypass_1 : decode cX0_shiftBypass 1 = .ok (.getfield 75, 3) := by decide +kernel
theorem dX0_shiftBypass_4 : decode cX0_shiftBypass 4 = .ok (.istore_n 2, 1) := by decide +kernel
theorem dX0_shiftBypass_5 : decode cX0_shiftBypass 5 = .ok (.aload_n 0, 1) := by decide +kernel
theorem dX0_shiftBypass_6 : decode cX0_shiftBypass 6 = .ok (.iload_n 1, 1) := by decide +kernel
theorem dX0_shiftBypass_7 : decode cX0_shiftBypass 7 = .ok (.putfield 75, 3) := by decide +kernel
theorem dX0_shiftBypass_10 : decode cX0_shiftBypass 10 = .ok (.iload_n 2, 1) := by decide +kernel
theorem dX0_shiftBypass_11 : decode cX0_shiftBypass 11 = .ok (.ireturn, 1) := by decide +kernel
theorem dX0_shiftNumber_0 : decode cX0_shiftNumber 0 = .ok (.aload_n 0, 1) := by decide +kernel
theorem dX0_shiftNumber_1 : decode cX0_shiftNumber 1 = .ok (.getfield 72, 3) := by decide +kernel
theorem dX0_shiftNumber_4 : decode cX0_shiftNumber 4 = .ok (.iconst 1, 1) := by decide +kernel
theorem dX0_shiftNumber_5 : decode cX0_shiftNumber 5 = .ok (.iand, 1) := by decide +kernel
theorem dX0_shiftNumber_6 : decode cX0_shiftNumber 6 = .ok (.istore_n 2, 1) := by decide +kernel
theorem dX0_shiftNumber_7 : decode cX0_shiftNumber 7 = .ok (.aload_n 0, 1) := by decide +kernel
theorem dX0_shiftNumber_8 : decode cX0_shiftNumber 8 = .ok (.aload_n 0, 1) := by decide +kernel
theorem dX0_shiftNumber_9 : decode cX0_shiftNumber 9 = .ok (.getfield 72, 3) := by decide +kernel
theorem dX0_shiftNumber_12 : decode cX0_shiftNumber 12 = .ok (.iconst 1, 1) := by decide +kernel
theorem dX0_shiftNumber_13 : decode cX0_shiftNumber 13 = .ok (.iushr, 1) := by decide +kernel
theorem dX0_shiftNumber_14 : decode cX0_shiftNumber 14 = .ok (.iload_n 1, 1) := by decide +kernel
theorem dX0_shiftNumber_15 : decode cX0_shiftNumber 15 = .ok (.bipush 31, 2) := by decide +kernel
theorem dX0_shiftNumber_17 : decode cX0_shiftNumber 17 = .ok (.ishl, 1) := by decide +kernel
theorem dX0_shiftNumber_18 : decode cX0_shiftNumber 18 = .ok (.ior, 1) := by decide +kernel
theorem dX0_shiftNumber_19 : decode cX0_shiftNumber 19 = .ok (.putfield 72, 3) := by decide +kernel
theorem dX0_shiftNumber_22 : decode cX0_shiftNumber 22 = .ok (.iload_n 2, 1) := by decide +kernel
theorem dX0_shiftNumber_23 : decode cX0_shiftNumber 23 = .ok (.ireturn, 1) := by decide +kernel
theorem dX0_shiftCode_0 : decode cX0_shiftCode 0 = .ok (.aload_n 0, 1) := by decide +kernel
theorem dX0_shiftCode_1 : decode cX0_shiftCode 1 = .ok (.getfield 49, 3) := by decide +kernel
theorem dX0_shiftCode_4 : decode cX0_shiftCode 4 = .ok (.iconst 1, 1) := by decide +kernel
theorem dX0_shiftCode_5 : decode cX0_shiftCode 5 = .ok (.iand, 1) := by decide +kernel
theorem dX0_shiftCode_6 : decode cX0_shiftCode 6 = .ok (.istore_n 2, 1) := by decide +kernel
theorem dX0_shiftCode_7 : decode cX0_shiftCode 7 = .ok (.aload_n 0, 1) := by decide +kernel
theorem dX0_shiftCode_8 : decode cX0_shiftCode 8 = .ok (.aload_n 0, 1) := by decide +kernel
theorem dX0_shiftCode_9 : decode cX0_shiftCode 9 = .ok (.getfield 49, 3) := by decide +kernel
theorem dX0_shiftCode_12 : decode cX0_shiftCode 12 = .ok (.iconst 1, 1) := by decide +kernel
theorem dX0_shiftCode_13 : decode cX0_shiftCode 13 = .ok (.iushr, 1) := by decide +kernel
theorem dX0_shiftCode_14 : decode cX0_shiftCode 14 = .ok (.iload_n 1, 1) := by decide +kernel
theorem dX0_shiftCode_15 : decode cX0_shiftCode 15 = .ok (.iconst 3, 1) := by decide +kernel
theorem dX0_shiftCode_16 : decode cX0_shiftCode 16 = .ok (.ishl, 1) := by decide +kernel
theorem dX0_shiftCode_17 : decode cX0_shiftCode 17 = .ok (.ior, 1) := by decide +kernel
theorem dX0_shiftCode_18 : decode cX0_shiftCode 18 = .ok (.putfield 49, 3) := by decide +kernel
theorem dX0_shiftCode_21 : decode cX0_shiftCode 21 = .ok (.iload_n 2, 1) := by decide +kernel
theorem dX0_shiftCode_22 : decode cX0_shiftCode 22 = .ok (.ireturn, 1) := by decide +kernel
set_option maxHeartbeats 4000000 in
set_option maxRecDepth 100000 in
theorem c_Access_register (l : Launch) (dC : Nat → ClassId) (dI : Nat → Nat → Nat) (q : Nat → Nat) (cI cZ : ClassId) (sz : Nat) (r : RS) (k : CS) (a : AS) (h1 : a.co < 16) (h2 : k.n ≤ 20) (h3 : r.p ≤ 32) : Met l yX0_register (.code yX0_register cX0_register 1 (some .int) :: ALLG) ({ frames := 0, cells := 0, slots := 0, locals := 0 }) (va_Pc [.ref (q 15)] (cP (dC, dI) vwCl [(cI, .int), (cZ, .boolean)] (wY q cI cZ r k a) eT sz)) (va_Qi (fun (x : Int32) (_ : Unit) => x = nI (reg a.co k.n r.p)) (fun (_ : Unit) => cB (dC, dI) vwCl [(cI, .int), (cZ, .boolean)] (wY q cI cZ r k a) (va_A (wY q cI cZ r k a) sz)) (va_A (wY q cI cZ r k a) sz)) 0 0 (va_A (wY q cI cZ r k a) sz) := by
  refine xm_of (cc := cX0_register) (maxL := 1) (ret := some .int) (by decide) rfl (Nat.le_of_ble_eq_true rfl) ?_
  intro p e s m below meth c A hAe hx hb hr hml hts0 hown hlk hin hsz H locs hP hK hD hA hS hE ls hl
  have hts : ∀ w ∈ ALLG, w.before _ s = true := fun w h => hts0 w (List.mem_cons_of_mem _ h)
  rw [← hAe]
  have hl : lv_has ls 1 [(0, .ref (q 15))] := hl
  refine lv_aload_n hx hb dX0_register_0 rfl (lv_at hl 0 rfl) ?_
  refine va_get (D := (dC, dI)) (ci := 0) (v := .int (nI (AS.co a))) (C := RX0) (T := TX0) (N := 9) hx hb hts inX0 hown hK hP 15 rfl rfl 1 (by decide) (hts _ tw_103) (fun _ h9 => h9) rfl dX0_register_1 ?_
  refine xn_zeq (tgt := 15) hx hb (by omega) dX0_register_4 (by decide) (fun c_1 => ?_) (fun c_1 => ?_)
  · refine lv_aload_n hx hb dX0_register_15 rfl (lv_at hl 0 rfl) ?_
    refine va_get (D := (dC, dI)) (ci := 0) (v := .ref (q 10)) (C := RX0) (T := TX0) (N := 9) hx hb hts inX0 hown hK hP 15 rfl rfl 4 (by decide) (hts _ tw_107) (fun _ h9 => h9) rfl dX0_register_16 ?_
    refine va_get (D := (dC, dI)) (ci := 1) (v := .int (nI (CS.n k))) (C := RX1) (T := TX1) (N := 5) hx hb hts inX1 hown hK hP 10 rfl rfl 0 (by decide) (hts _ tw_77) (fun _ h9 => h9) rfl dX0_register_19 ?_
    refine xn_zle (tgt := 29) hx hb (by omega) dX0_register_22 (by decide) (fun c_2 => ?_) (fun c_2 => ?_)
    · refine lv_iconst (v := nI 0) hx hb dX0_register_29 (by decide) ?_
      exact xr_i hx hb hr hlk (u := ()) (by unfold reg; split <;> (try split) <;> (try split) <;> first | rfl | omega) hP hK hD hS dX0_register_30
    · refine lv_iconst (v := nI 1) hx hb dX0_register_25 (by decide) ?_
      refine lv_goto (tgt := 30) hx hb dX0_register_26 (by decide) ?_
      exact xr_i hx hb hr hlk (u := ()) (by unfold reg; split <;> (try split) <;> (try split) <;> first | rfl | omega) hP hK hD hS dX0_register_30
  · refine lv_aload_n hx hb dX0_register_7 rfl (lv_at hl 0 rfl) ?_
    refine va_get (D := (dC, dI)) (ci := 0) (v := .int (nI (AS.co a))) (C := RX0) (T := TX0) (N := 9) hx hb hts inX0 hown hK hP 15 rfl rfl 1 (by decide) (hts _ tw_103) (fun _ h9 => h9) rfl dX0_register_8 ?_
    refine lv_iconst (v := nI 1) hx hb dX0_register_11 (by decide) ?_
    refine xn_cne (tgt := 31) hx hb (by omega) (by omega) dX0_register_12 (by decide) (fun c_3 => ?_) (fun c_3 => ?_)
    · refine lv_aload_n hx hb dX0_register_31 rfl (lv_at hl 0 rfl) ?_
      refine va_get (D := (dC, dI)) (ci := 0) (v := .int (nI (AS.co a))) (C := RX0) (T := TX0) (N := 9) hx hb hts inX0 hown hK hP 15 rfl rfl 1 (by decide) (hts _ tw_103) (fun _ h9 => h9) rfl dX0_register_32 ?_
      refine lv_iconst (v := nI 2) hx hb dX0_register_35 (by decide) ?_
      refine xn_cne (tgt := 41) hx hb (by omega) (by omega) dX0_register_36 (by decide) (fun c_4 => ?_) (fun c_4 => ?_)
      · refine lv_aload_n hx hb dX0_register_41 rfl (lv_at hl 0 rfl) ?_
        refine va_get (D := (dC, dI)) (ci := 0) (v := .int (nI (AS.co a))) (C := RX0) (T := TX0) (N := 9) hx hb hts inX0 hown hK hP 15 rfl rfl 1 (by decide) (hts _ tw_103) (fun _ h9 => h9) rfl dX0_register_42 ?_
        refine lv_iconst (v := nI 3) hx hb dX0_register_45 (by decide) ?_
        refine xn_cne (tgt := 63) hx hb (by omega) (by omega) dX0_register_46 (by decide) (fun c_5 => ?_) (fun c_5 => ?_)
        · refine lv_iconst (v := nI 0) hx hb dX0_register_63 (by decide) ?_
          exact xr_i hx hb hr hlk (u := ()) (by unfold reg; split <;> (try split) <;> (try split) <;> first | rfl | omega) hP hK hD hS dX0_register_64
        · refine lv_aload_n hx hb dX0_register_49 rfl (lv_at hl 0 rfl) ?_
          refine va_get (D := (dC, dI)) (ci := 0) (v := .ref (q 0)) (C := RX0) (T := TX0) (N := 9) hx hb hts inX0 hown hK hP 15 rfl rfl 3 (by decide) (hts _ tw_106) (fun _ h9 => h9) rfl dX0_register_50 ?_
          refine va_get (D := (dC, dI)) (ci := 2) (v := .int (nI (RS.p r))) (C := RX2) (T := TX2) (N := 12) hx hb hts inX2 hown hK hP 0 rfl rfl 2 (by decide) (hts _ tw_31) (fun _ h9 => h9) rfl dX0_register_53 ?_
          refine xn_zle (tgt := 63) hx hb (by omega) dX0_register_56 (by decide) (fun c_6 => ?_) (fun c_6 => ?_)
          · refine lv_iconst (v := nI 0) hx hb dX0_register_63 (by decide) ?_
            exact xr_i hx hb hr hlk (u := ()) (by unfold reg; split <;> (try split) <;> (try split) <;> first | rfl | omega) hP hK hD hS dX0_register_64
          · refine lv_iconst (v := nI 3) hx hb dX0_register_59 (by decide) ?_
            refine lv_goto (tgt := 64) hx hb dX0_register_60 (by decide) ?_
            exact xr_i hx hb hr hlk (u := ()) (by unfold reg; split <;> (try split) <;> (try split) <;> first | rfl | omega) hP hK hD hS dX0_register_64
      · refine lv_iconst (v := nI 2) hx hb dX0_register_39 (by decide) ?_
        exact xr_i hx hb hr hlk (u := ()) (by unfold reg; split <;> (try split) <;> (try split) <;> first | rfl | omega) hP hK hD hS dX0_register_40
    · refine lv_aload_n hx hb dX0_register_15 rfl (lv_at hl 0 rfl) ?_
      refine va_get (D := (dC, dI)) (ci := 0) (v := .ref (q 10)) (C := RX0) (T := TX0) (N := 9) hx hb hts inX0 hown hK hP 15 rfl rfl 4 (by decide) (hts _ tw_107) (fun _ h9 => h9) rfl dX0_register_16 ?_
      refine va_get (D := (dC, dI)) (ci := 1) (v := .int (nI (CS.n k))) (C := RX1) (T := TX1) (N := 5) hx hb hts inX1 hown hK hP 10 rfl rfl 0 (by decide) (hts _ tw_77) (fun _ h9 => h9) rfl dX0_register_19 ?_
      refine xn_zle (tgt := 29) hx hb (by omega) dX0_register_22 (by decide) (fun c_7 => ?_) (fun c_7 => ?_)
      · refine lv_iconst (v := nI 0) hx hb dX0_register_29 (by decide) ?_
        exact xr_i hx hb hr hlk (u := ()) (by unfold reg; split <;> (try split) <;> (try split) <;> first | rfl | omega) hP hK hD hS dX0_register_30
      · refine lv_iconst (v := nI 1) hx hb dX0_register_25 (by decide) ?_
        refine lv_goto (tgt := 30) hx hb dX0_register_26 (by decide) ?_
        exact xr_i hx hb hr hlk (u := ()) (by unfold reg; split <;> (try split) <;> (try split) <;> first | rfl | omega) hP hK hD hS dX0_register_30
set_option maxHeartbeats 4000000 in
set_option maxRecDepth 100000 in
theorem c_Access_registerLength (l : Launch) (dC : Nat → ClassId) (dI : Nat → Nat → Nat) (q : Nat → Nat) (cI cZ : ClassId) (sz : Nat) (r : RS) (k : CS) (a : AS) (h1 : a.co < 16) (h2 : k.n ≤ 20) (h3 : r.p ≤ 32) : Met l yX0_registerLength (.code yX0_registerLength cX0_registerLength 1 (some .int) :: ALLG) ({ frames := 1, cells := 0, slots := 0, locals := 20 }) (va_Pc [.ref (q 15)] (cP (dC, dI) vwCl [(cI, .int), (cZ, .boolean)] (wY q cI cZ r k a) eT sz)) (va_Qi (fun (x : Int32) (_ : Unit) => x = nI (regLen a.co k.n r.p)) (fun (_ : Unit) => cB (dC, dI) vwCl [(cI, .int), (cZ, .boolean)] (wY q cI cZ r k a) (va_A (wY q cI cZ r k a) sz)) (va_A (wY q cI cZ r k a) sz)) 0 0 (va_A (wY q cI cZ r k a) sz) := by
  refine xm_of (cc := cX0_registerLength) (maxL := 1) (ret := some .int) (by decide) rfl (Nat.le_of_ble_eq_true rfl) ?_
  intro p e s m below meth c A hAe hx hb hr hml hts0 hown hlk hin hsz H locs hP hK hD hA hS hE ls hl
  have hts : ∀ w ∈ ALLG, w.before _ s = true := fun w h => hts0 w (List.mem_cons_of_mem _ h)
  rw [← hAe]
  have g0 := reg_lt a.co k.n r.p
  have hl : lv_has ls 1 [(0, .ref (q 15))] := hl
  refine lv_aload_n hx hb dX0_registerLength_0 rfl (lv_at hl 0 rfl) ?_
  refine xc_Vi (As := []) (wr := []) ⟨hx, hb, hml, hown, hts⟩ (c_Access_register l dC dI q cI cZ H.size r k a (by omega) (by omega) (by omega)) (cwV 0 hts (gV tw_477 tw_479 sw_17 tw_4 tw_480) rfl rfl rfl (by decide +kernel) ⟨Nat.le_of_ble_eq_true rfl, Nat.le_of_ble_eq_true rfl⟩) rfl hl.1 rfl (Nat.le_of_ble_eq_true rfl) dX0_registerLength_1 ⟨Nat.zero_le _, Nat.zero_le _⟩ hP hD hK hS hA [0, 1, 2, 3, 4, 5, 6, 7, 8, 9, 10, 11, 12, 13, 14, 15, 16] [] rfl rfl (by decide) (by decide) (by decide) [0, 1] rfl (q0 := 15) rfl rfl rfl eT_M (trivial) (fun r_1 u_2 H locs w_3 hP hD hS => ?_)
  obtain rfl := w_3
  have hP : va_P (dC, dI) vwCl (wY q cI cZ r k a) H := hP
  have hD : va_D A (wY q cI cZ r k a) := hD
  by_cases k_4 : (reg a.co k.n r.p) = 1
  · refine lv_tableIn (tgt := 32) hx hb dX0_registerLength_4 (by rw [k_4]; decide) (by rw [k_4]; decide) (by rw [k_4]; rfl) (by decide) ?_
    refine lv_aload_n hx hb dX0_registerLength_32 rfl (lv_at hl 0 rfl) ?_
    refine va_get (D := (dC, dI)) (ci := 0) (v := .ref (q 10)) (C := RX0) (T := TX0) (N := 9) hx hb hts inX0 hown hK hP 15 rfl rfl 4 (by decide) (hts _ tw_107) (fun _ h9 => h9) rfl dX0_registerLength_33 ?_
    refine va_get (D := (dC, dI)) (ci := 1) (v := .int (nI (CS.n k))) (C := RX1) (T := TX1) (N := 5) hx hb hts inX1 hown hK hP 10 rfl rfl 0 (by decide) (hts _ tw_77) (fun _ h9 => h9) rfl dX0_registerLength_36 ?_
    exact xr_i hx hb hr hlk (u := ()) (by unfold regLen; first | rw [if_pos (by assumption)] | (rw [if_neg (by omega), if_pos (by assumption)]) | (rw [if_neg (by omega), if_neg (by omega), if_pos (by assumption)]) | (rw [if_neg (by omega), if_neg (by omega), if_neg (by omega)])) hP hK hD hS dX0_registerLength_39
  · by_cases k_5 : (reg a.co k.n r.p) = 2
    · refine lv_tableIn (tgt := 40) hx hb dX0_registerLength_4 (by rw [k_5]; decide) (by rw [k_5]; decide) (by rw [k_5]; rfl) (by decide) ?_
      refine lv_bipush (v := nI 32) hx hb dX0_registerLength_40 (by decide) ?_
      exact xr_i hx hb hr hlk (u := ()) (by unfold regLen; first | rw [if_pos (by assumption)] | (rw [if_neg (by omega), if_pos (by assumption)]) | (rw [if_neg (by omega), if_neg (by omega), if_pos (by assumption)]) | (rw [if_neg (by omega), if_neg (by omega), if_neg (by omega)])) hP hK hD hS dX0_registerLength_42
    · by_cases k_6 : (reg a.co k.n r.p) = 3
      · refine lv_tableIn (tgt := 43) hx hb dX0_registerLength_4 (by rw [k_6]; decide) (by rw [k_6]; decide) (by rw [k_6]; rfl) (by decide) ?_
        refine lv_aload_n hx hb dX0_registerLength_43 rfl (lv_at hl 0 rfl) ?_
        refine va_get (D := (dC, dI)) (ci := 0) (v := .ref (q 0)) (C := RX0) (T := TX0) (N := 9) hx hb hts inX0 hown hK hP 15 rfl rfl 3 (by decide) (hts _ tw_106) (fun _ h9 => h9) rfl dX0_registerLength_44 ?_
        refine va_get (D := (dC, dI)) (ci := 2) (v := .int (nI (RS.p r))) (C := RX2) (T := TX2) (N := 12) hx hb hts inX2 hown hK hP 0 rfl rfl 2 (by decide) (hts _ tw_31) (fun _ h9 => h9) rfl dX0_registerLength_47 ?_
        exact xr_i hx hb hr hlk (u := ()) (by unfold regLen; first | rw [if_pos (by assumption)] | (rw [if_neg (by omega), if_pos (by assumption)]) | (rw [if_neg (by omega), if_neg (by omega), if_pos (by assumption)]) | (rw [if_neg (by omega), if_neg (by omega), if_neg (by omega)])) hP hK hD hS dX0_registerLength_50
      · refine lv_tableOut (tgt := 51) hx hb dX0_registerLength_4 (by rw [nI_toInt (by omega)]; omega) (by decide) ?_
        refine lv_iconst (v := nI 1) hx hb dX0_registerLength_51 (by decide) ?_
        exact xr_i hx hb hr hlk (u := ()) (by unfold regLen; first | rw [if_pos (by assumption)] | (rw [if_neg (by omega), if_pos (by assumption)]) | (rw [if_neg (by omega), if_neg (by omega), if_pos (by assumption)]) | (rw [if_neg (by omega), if_neg (by omega), if_neg (by omega)])) hP hK hD hS dX0_registerLength_52
set_option maxHeartbeats 4000000 in
set_option maxRecDepth 100000 in
theorem c_Access_shiftBypass (l : Launch) (dC : Nat → ClassId) (dI : Nat → Nat → Nat) (q : Nat → Nat) (cI cZ : ClassId) (sz : Nat) (r : RS) (k : CS) (a : AS) (b : Nat) : Met l yX0_shiftBypass (.code yX0_shiftBypass cX0_shiftBypass 3 (some .int) :: ALLG) ({ frames := 0, cells := 0, slots := 0, locals := 0 }) (va_Pc [.ref (q 15), .int (nI b)] (cP (dC, dI) vwCl [(cI, .int), (cZ, .boolean)] (wY q cI cZ r k a) eT sz)) (va_Qi (fun (x : Int32) (u : RS × CS × AS) => x = nI a.by_ ∧ u = (r, k, a.s_by_ b)) (fun (u : RS × CS × AS) => cB (dC, dI) vwCl [(cI, .int), (cZ, .boolean)] (wY q cI cZ u.1 u.2.1 u.2.2) (va_A (wY q cI cZ r k a) sz)) (va_A (wY q cI cZ r k a) sz)) 0 0 (va_A (wY q cI cZ r k a) sz) := by
  refine xm_of (cc := cX0_shiftBypass) (maxL := 3) (ret := some .int) (by decide) rfl (Nat.le_of_ble_eq_true rfl) ?_
  intro p e s m below meth c A hAe hx hb hr hml hts0 hown hlk hin hsz H locs hP hK hD hA hS hE ls hl
  have hts : ∀ w ∈ ALLG, w.before _ s = true := fun w h => hts0 w (List.mem_cons_of_mem _ h)
  rw [← hAe]
  have hl : lv_has ls 3 [(0, .ref (q 15)), (1, .int (nI b))] := hl
  refine lv_aload_n hx hb dX0_shiftBypass_0 rfl (lv_at hl 0 rfl) ?_
  refine va_get (D := (dC, dI)) (ci := 0) (v := .int (nI (AS.by_ a))) (C := RX0) (T := TX0) (N := 9) hx hb hts inX0 hown hK hP 15 rfl rfl 7 (by decide) (hts _ tw_110) (fun _ h9 => h9) rfl dX0_shiftBypass_1 ?_
  refine lv_istore_n (lv' := [(2, .int (nI (AS.by_ a))), (0, .ref (q 15)), (1, .int (nI b))]) hx hb dX0_shiftBypass_4 rfl hl (by decide) rfl (fun ls hl => ?_)
  refine lv_aload_n hx hb dX0_shiftBypass_5 rfl (lv_at hl 1 rfl) ?_
  refine lv_iload_n hx hb dX0_shiftBypass_6 rfl (lv_at hl 2 rfl) ?_
  refine va_put (D := (dC, dI)) (ci := 0) (v := .int (nI b)) (ty := .int) (C := RX0) (T := TX0) (N := 9) hx hb hts inX0 tyX0 tyX0_ok nmX0 hown hK hP hD hS 15 rfl rfl 7 (by decide) (hts _ tw_110) (fun _ h9 => h9) rfl (by decide +kernel) rfl rfl (Nat.le_of_ble_eq_true rfl) dX0_shiftBypass_7 (fun H locs hP hD hS => ?_)
  have hP : va_P (dC, dI) vwCl (wY q cI cZ r k (AS.s_by_ a b)) H := hP
  have hD : va_D A (wY q cI cZ r k (AS.s_by_ a b)) := hD
  refine lv_iload_n hx hb dX0_shiftBypass_10 rfl (lv_at hl 0 rfl) ?_
  exact xr_i hx hb hr hlk (u := (r, k, AS.s_by_ a b)) (⟨rfl, rfl⟩) hP hK hD hS dX0_shiftBypass_11
set_option maxHeartbeats 4000000 in
set_option maxRecDepth 100000 in
theorem c_Access_shiftNumber (l : Launch) (dC : Nat → ClassId) (dI : Nat → Nat → Nat) (q : Nat → Nat) (cI cZ : ClassId) (sz : Nat) (r : RS) (k : CS) (a : AS) (b : Nat) : Met l yX0_shiftNumber (.code yX0_shiftNumber cX0_shiftNumber 3 (some .int) :: ALLG) ({ frames := 0, cells := 0, slots := 0, locals := 0 }) (va_Pc [.ref (q 15), .int (nI b)] (cP (dC, dI) vwCl [(cI, .int), (cZ, .boolean)] (wY q cI cZ r k a) eT sz)) (va_Qi (fun (x : Int32) (u : RS × CS × AS) => x = nI (nbit a.nr) ∧ u = (r, k, a.s_nr (nrS a.nr b))) (fun (u : RS × CS × AS) => cB (dC, dI) vwCl [(cI, .int), (cZ, .boolean)] (wY q cI cZ u.1 u.2.1 u.2.2) (va_A (wY q cI cZ r k a) sz)) (va_A (wY q cI cZ r k a) sz)) 0 0 (va_A (wY q cI cZ r k a) sz) := by
  refine xm_of (cc := cX0_shiftNumber) (maxL := 3) (ret := some .int) (by decide) rfl (Nat.le_of_ble_eq_true rfl) ?_
  intro p e s m below meth c A hAe hx hb hr hml hts0 hown hlk hin hsz H locs hP hK hD hA hS hE ls hl
  have hts : ∀ w ∈ ALLG, w.before _ s = true := fun w h => hts0 w (List.mem_cons_of_mem _ h)
  rw [← hAe]
  have hl : lv_has ls 3 [(0, .ref (q 15)), (1, .int (nI b))] := hl
  refine lv_aload_n hx hb dX0_shiftNumber_0 rfl (lv_at hl 0 rfl) ?_
  refine va_get (D := (dC, dI)) (ci := 0) (v := .int (AS.nr a)) (C := RX0) (T := TX0) (N := 9) hx hb hts inX0 hown hK hP 15 rfl rfl 6 (by decide) (hts _ tw_109) (fun _ h9 => h9) rfl dX0_shiftNumber_1 ?_
  refine lv_iconst (v := nI 1) hx hb dX0_shiftNumber_4 (by decide) ?_
  refine lv_iand hx hb dX0_shiftNumber_5 ?_
  refine xt_i (show ((AS.nr a) &&& (nI 1)) = nI (nbit a.nr) from nbit_and _) ?_
  refine lv_istore_n (lv' := [(2, .int (nI (nbit a.nr))), (0, .ref (q 15)), (1, .int (nI b))]) hx hb dX0_shiftNumber_6 rfl hl (by decide) rfl (fun ls hl => ?_)
  refine lv_aload_n hx hb dX0_shiftNumber_7 rfl (lv_at hl 1 rfl) ?_
  refine lv_aload_n hx hb dX0_shiftNumber_8 rfl (lv_at hl 1 rfl) ?_
  refine va_get (D := (dC, dI)) (ci := 0) (v := .int (AS.nr a)) (C := RX0) (T := TX0) (N := 9) hx hb hts inX0 hown hK hP 15 rfl rfl 6 (by decide) (hts _ tw_109) (fun _ h9 => h9) rfl dX0_shiftNumber_9 ?_
  refine lv_iconst (v := nI 1) hx hb dX0_shiftNumber_12 (by decide) ?_
  refine lv_iushr hx hb dX0_shiftNumber_13 rfl ?_
  refine lv_iload_n hx hb dX0_shiftNumber_14 rfl (lv_at hl 2 rfl) ?_
  refine lv_bipush (v := nI 31) hx hb dX0_shiftNumber_15 (by decide) ?_
  refine lv_ishl hx hb dX0_shiftNumber_17 ?_
  refine lv_ior hx hb dX0_shiftNumber_18 ?_
  refine va_put (D := (dC, dI)) (ci := 0) (v := .int ((((AS.nr a).toUInt32 >>> ((nI 1).toUInt32 &&& Int32.toUInt32 31)).toInt32) ||| ((nI b) <<< ((nI 31) &&& 31)))) (ty := .int) (C := RX0) (T := TX0) (N := 9) hx hb hts inX0 tyX0 tyX0_ok nmX0 hown hK hP hD hS 15 rfl rfl 6 (by decide) (hts _ tw_109) (fun _ h9 => h9) rfl (by decide +kernel) rfl rfl (Nat.le_of_ble_eq_true rfl) dX0_shiftNumber_19 (fun H locs hP hD hS => ?_)
  have hP : va_P (dC, dI) vwCl (wY q cI cZ r k (AS.s_nr a ((((AS.nr a).toUInt32 >>> ((nI 1).toUInt32 &&& Int32.toUInt32 31)).toInt32) ||| ((nI b) <<< ((nI 31) &&& 31))))) H := hP
  have hD : va_D A (wY q cI cZ r k (AS.s_nr a ((((AS.nr a).toUInt32 >>> ((nI 1).toUInt32 &&& Int32.toUInt32 31)).toInt32) ||| ((nI b) <<< ((nI 31) &&& 31))))) := hD
  refine lv_iload_n hx hb dX0_shiftNumber_22 rfl (lv_at hl 0 rfl) ?_
  exact xr_i hx hb hr hlk (u := (r, k, AS.s_nr a ((((AS.nr a).toUInt32 >>> ((nI 1).toUInt32 &&& Int32.toUInt32 31)).toInt32) ||| ((nI b) <<< ((nI 31) &&& 31))))) (⟨rfl, rfl⟩) hP hK hD hS dX0_shiftNumber_23
set_option maxHeartbeats 4000000 in
set_option maxRecDepth 100000 in
theorem c_Access_shiftCode (l : Launch) (dC : Nat → ClassId) (dI : Nat → Nat → Nat) (q : Nat → Nat) (cI cZ : ClassId) (sz : Nat) (r : RS) (k : CS) (a : AS) (b : Nat) (h1 : a.cr < 16) (h2 : b < 2) : Met l yX0_shiftCode (.code yX0_shiftCode cX0_shiftCode 3 (some .int) :: ALLG) ({ frames := 0, cells := 0, slots := 0, locals := 0 }) (va_Pc [.ref (q 15), .int (nI b)] (cP (dC, dI) vwCl [(cI, .int), (cZ, .boolean)] (wY q cI cZ r k a) eT sz)) (va_Qi (fun (x : Int32) (u : RS × CS × AS) => x = nI (a.cr % 2) ∧ u = (r, k, a.s_cr (a.cr / 2 + b * 8))) (fun (u : RS × CS × AS) => cB (dC, dI) vwCl [(cI, .int), (cZ, .boolean)] (wY q cI cZ u.1 u.2.1 u.2.2) (va_A (wY q cI cZ r k a) sz)) (va_A (wY q cI cZ r k a) sz)) 0 0 (va_A (wY q cI cZ r k a) sz) := by
  refine xm_of (cc := cX0_shiftCode) (maxL := 3) (ret := some .int) (by decide) rfl (Nat.le_of_ble_eq_true rfl) ?_
  intro p e s m below meth c A hAe hx hb hr hml hts0 hown hlk hin hsz H locs hP hK hD hA hS hE ls hl
  have hts : ∀ w ∈ ALLG, w.before _ s = true := fun w h => hts0 w (List.mem_cons_of_mem _ h)
  rw [← hAe]
  have hl : lv_has ls 3 [(0, .ref (q 15)), (1, .int (nI b))] := hl
  refine lv_aload_n hx hb dX0_shiftCode_0 rfl (lv_at hl 0 rfl) ?_
  refine va_get (D := (dC, dI)) (ci := 0) (v := .int (nI (AS.cr a))) (C := RX0) (T := TX0) (N := 9) hx hb hts inX0 hown hK hP 15 rfl rfl 5 (by decide) (hts _ tw_108) (fun _ h9 => h9) rfl dX0_shiftCode_1 ?_
  refine lv_iconst (v := nI 1) hx hb dX0_shiftCode_4 (by decide) ?_
  refine lv_iand hx hb dX0_shiftCode_5 ?_
  refine xt_i (show ((nI (AS.cr a)) &&& (nI 1)) = nI (a.cr % 2) from cr_and h1) ?_
  refine lv_istore_n (lv' := [(2, .int (nI (a.cr % 2))), (0, .ref (q 15)), (1, .int (nI b))]) hx hb dX0_shiftCode_6 rfl hl (by decide) rfl (fun ls hl => ?_)
  refine lv_aload_n hx hb dX0_shiftCode_7 rfl (lv_at hl 1 rfl) ?_
  refine lv_aload_n hx hb dX0_shiftCode_8 rfl (lv_at hl 1 rfl) ?_
  refine va_get (D := (dC, dI)) (ci := 0) (v := .int (nI (AS.cr a))) (C := RX0) (T := TX0) (N := 9) hx hb hts inX0 hown hK hP 15 rfl rfl 5 (by decide) (hts _ tw_108) (fun _ h9 => h9) rfl dX0_shiftCode_9 ?_
  refine lv_iconst (v := nI 1) hx hb dX0_shiftCode_12 (by decide) ?_
  refine lv_iushr hx hb dX0_shiftCode_13 rfl ?_
  refine lv_iload_n hx hb dX0_shiftCode_14 rfl (lv_at hl 2 rfl) ?_
  refine lv_iconst (v := nI 3) hx hb dX0_shiftCode_15 (by decide) ?_
  refine lv_ishl hx hb dX0_shiftCode_16 ?_
  refine lv_ior hx hb dX0_shiftCode_17 ?_
  refine xt_i (show ((((nI (AS.cr a)).toUInt32 >>> ((nI 1).toUInt32 &&& Int32.toUInt32 31)).toInt32) ||| ((nI b) <<< ((nI 3) &&& 31))) = nI (a.cr / 2 + b * 8) from cr_sh h1 h2) ?_
  refine va_put (D := (dC, dI)) (ci := 0) (v := .int (nI (a.cr / 2 + b * 8))) (ty := .int) (C := RX0) (T := TX0) (N := 9) hx hb hts inX0 tyX0 tyX0_ok nmX0 hown hK hP hD hS 15 rfl rfl 5 (by decide) (hts _ tw_108) (fun _ h9 => h9) rfl (by decide +kernel) rfl rfl (Nat.le_of_ble_eq_true rfl) dX0_shiftCode_18 (fun H locs hP hD hS => ?_)
  have hP : va_P (dC, dI) vwCl (wY q cI cZ r k (AS.s_cr a (a.cr / 2 + b * 8))) H := hP
  have hD : va_D A (wY q cI cZ r k (AS.s_cr a (a.cr / 2 + b * 8))) := hD
  refine lv_iload_n hx hb dX0_shiftCode_21 rfl (lv_at hl 0 rfl) ?_
  exact xr_i hx hb hr hlk (u := (r, k, AS.s_cr a (a.cr / 2 + b * 8))) (⟨rfl, rfl⟩) hP hK hD hS dX0_shiftCode_22
