theorem tw_76 : (Cond.fieldLink "ScanRows$Cells" (24 : Nat) "ScanRows$Cells" "count" "I") ∈ ALLG := al_t (i := 76) (by decide +kernel) (by decide +kernel)
theorem tw_79 : (Cond.fieldLink "ScanRows$Cells" (9 : Nat) "ScanRows$Cells" "atPin" "[I") ∈ ALLG := al_t (i := 79) (by decide +kernel) (by decide +kernel)
theorem tw_81 : (Cond.fieldLink "ScanRows$Cells" (15 : Nat) "ScanRows$Cells" "kindOf" "[I") ∈ ALLG := al_t (i := 81) (by decide +kernel) (by decide +kernel)
theorem tw_82 : (Cond.fieldLink "ScanRows$Cells" (18 : Nat) "ScanRows$Cells" "held" "[I") ∈ ALLG := al_t (i := 82) (by decide +kernel) (by decide +kernel)
theorem tw_83 : (Cond.fieldLink "ScanRows$Cells" (21 : Nat) "ScanRows$Cells" "inRegister" "[I") ∈ ALLG := al_t (i := 83) (by decide +kernel) (by decide +kernel)
theorem dX1_addCell_0 : decode cX1_addCell 0 = .ok (.aload_n 0, 1) := by decide +kernel
theorem dX1_addCell_1 : decode cX1_addCell 1 = .ok (.getfield 24, 3) := by decide +kernel
theorem dX1_addCell_4 : decode cX1_addCell 4 = .ok (.istore_n 2, 1) := by decide +kernel
theorem dX1_addCell_5 : decode cX1_addCell 5 = .ok (.aload_n 0, 1) := by decide +kernel
theorem dX1_addCell_6 : decode cX1_addCell 6 = .ok (.getfield 15, 3) := by decide +kernel
theorem dX1_addCell_9 : decode cX1_addCell 9 = .ok (.iload_n 2, 1) := by decide +kernel
theorem dX1_addCell_10 : decode cX1_addCell 10 = .ok (.iload_n 1, 1) := by decide +kernel
theorem dX1_addCell_11 : decode cX1_addCell 11 = .ok (.iastore, 1) := by decide +kernel
theorem dX1_addCell_12 : decode cX1_addCell 12 = .ok (.aload_n 0, 1) := by decide +kernel
theorem dX1_addCell_13 : decode cX1_addCell 13 = .ok (.dup, 1) := by decide +kernel
theorem dX1_addCell_14 : decode cX1_addCell 14 = .ok (.getfield 24, 3) := by decide +kernel
theorem dX1_addCell_17 : decode cX1_addCell 17 = .ok (.iconst 1, 1) := by decide +kernel
theorem dX1_addCell_18 : decode cX1_addCell 18 = .ok (.iadd, 1) := by decide +kernel
theorem dX1_addCell_19 : decode cX1_addCell 19 = .ok (.putfield 24, 3) := by decide +kernel
theorem dX1_addCell_22 : decode cX1_addCell 22 = .ok (.iload_n 2, 1) := by decide +kernel
theorem dX1_addCell_23 : decode cX1_addCell 23 = .ok (.ireturn, 1) := by decide +kernel
theorem dX1_capture_0 : decode cX1_capture 0 = .ok (.iconst 0, 1) := by decide +kernel
theorem dX1_capture_1 : decode cX1_capture 1 = .ok (.istore_n 1, 1) := by decide +kernel
theorem dX1_capture_2 : decode cX1_capture 2 = .ok (.iload_n 1, 1) := by decide +kernel
theorem dX1_capture_3 : decode cX1_capture 3 = .ok (.aload_n 0, 1) := by decide +kernel
theorem dX1_capture_4 : decode cX1_capture 4 = .ok (.getfield 24, 3) := by decide +kernel
theorem dX1_capture_7 : decode cX1_capture 7 = .ok (.if_icmp .ge 21, 3) := by decide +kernel
theorem dX1_capture_10 : decode cX1_capture 10 = .ok (.aload_n 0, 1) := by decide +kernel
theorem dX1_capture_11 : decode cX1_capture 11 = .ok (.getfield 21, 3) := by decide +kernel
theorem dX1_capture_14 : decode cX1_capture 14 = .ok (.iload_n 1, 1) := by decide +kernel
theorem dX1_capture_15 : decode cX1_capture 15 = .ok (.aload_n 0, 1) := by decide +kernel
theorem dX1_capture_16 : decode cX1_capture 16 = .ok (.getfield 9, 3) := by decide +kernel
theorem dX1_capture_19 : decode cX1_capture 19 = .ok (.iload_n 1, 1) := by decide +kernel
theorem dX1_capture_20 : decode cX1_capture 20 = .ok (.iaload, 1) := by decide +kernel
theorem dX1_capture_21 : decode cX1_capture 21 = .ok (.iastore, 1) := by decide +kernel
theorem dX1_capture_22 : decode cX1_capture 22 = .ok (.iinc 1 1, 3) := by decide +kernel
theorem dX1_capture_25 : decode cX1_capture 25 = .ok (.goto (-23), 3) := by decide +kernel
theorem dX1_capture_28 : decode cX1_capture 28 = .ok (.return_, 1) := by decide +kernel
theorem dX1_update_0 : decode cX1_update 0 = .ok (.iconst 0, 1) := by decide +kernel
theorem dX1_update_1 : decode cX1_update 1 = .ok (.istore_n 1, 1) := by decide +kernel
theorem dX1_update_2 : decode cX1_update 2 = .ok (.iload_n 1, 1) := by decide +kernel
theorem dX1_update_3 : decode cX1_update 3 = .ok (.aload_n 0, 1) := by decide +kernel
theorem dX1_update_4 : decode cX1_update 4 = .ok (.getfield 24, 3) := by decide +kernel
theorem dX1_update_7 : decode cX1_update 7 = .ok (.if_icmp .ge 21, 3) := by decide +kernel
theorem dX1_update_10 : decode cX1_update 10 = .ok (.aload_n 0, 1) := by decide +kernel
theorem dX1_update_11 : decode cX1_update 11 = .ok (.getfield 18, 3) := by decide +kernel
theorem dX1_update_14 : decode cX1_update 14 = .ok (.iload_n 1, 1) := by decide +kernel
theorem dX1_update_15 : decode cX1_update 15 = .ok (.aload_n 0, 1) := by decide +kernel
theorem dX1_update_16 : decode cX1_update 16 = .ok (.getfield 21, 3) := by decide +kernel
theorem dX1_update_19 : decode cX1_update 19 = .ok (.iload_n 1, 1) := by decide +kernel
theorem dX1_update_20 : decode cX1_update 20 = .ok (.iaload, 1) := by decide +kernel
theorem dX1_update_21 : decode cX1_update 21 = .ok (.iastore, 1) := by decide +kernel
theorem dX1_update_22 : decode cX1_update 22 = .ok (.iinc 1 1, 3) := by decide +kernel
theorem dX1_update_25 : decode cX1_update 25 = .ok (.goto (-23), 3) := by decide +kernel
theorem dX1_update_28 : decode cX1_update 28 = .ok (.return_, 1) := by decide +kernel
theorem dX1_shiftRegister_0 : decode cX1_shiftRegister 0 = .ok (.iload_n 1, 1) := by decide +kernel
theorem dX1_shiftRegister_1 : decode cX1_shiftRegister 1 = .ok (.istore_n 2, 1) := by decide +kernel
theorem dX1_shiftRegister_2 : decode cX1_shiftRegister 2 = .ok (.iconst 0, 1) := by decide +kernel
theorem dX1_shiftRegister_3 : decode cX1_shiftRegister 3 = .ok (.istore_n 3, 1) := by decide +kernel
theorem dX1_shiftRegister_4 : decode cX1_shiftRegister 4 = .ok (.iload_n 3, 1) := by decide +kernel
theorem dX1_shiftRegister_5 : decode cX1_shiftRegister 5 = .ok (.aload_n 0, 1) := by decide +kernel
theorem dX1_shiftRegister_6 : decode cX1_shiftRegister 6 = .ok (.getfield 24, 3) := by decide +kernel
theorem dX1_shiftRegister_9 : decode cX1_shiftRegister 9 = .ok (.if_icmp .ge 27, 3) := by decide +kernel
theorem dX1_shiftRegister_12 : decode cX1_shiftRegister 12 = .ok (.aload_n 0, 1) := by decide +kernel
theorem dX1_shiftRegister_13 : decode cX1_shiftRegister 13 = .ok (.getfield 21, 3) := by decide +kernel
theorem dX1_shiftRegister_16 : decode cX1_shiftRegister 16 = .ok (.iload_n 3, 1) := by decide +kernel
theorem dX1_shiftRegister_17 : decode cX1_shiftRegister 17 = .ok (.iaload, 1) := by decide +kernel
theorem dX1_shiftRegister_18 : decode cX1_shiftRegister 18 = .ok (.istore 4, 2) := by decide +kernel
theorem dX1_shiftRegister_20 : decode cX1_shiftRegister 20 = .ok (.aload_n 0, 1) := by decide +kernel
theorem dX1_shiftRegister_21 : decode cX1_shiftRegister 21 = .ok (.getfield 21, 3) := by decide +kernel
theorem dX1_shiftRegister_24 : decode cX1_shiftRegister 24 = .ok (.iload_n 3, 1) := by decide +kernel
theorem dX1_shiftRegister_25 : decode cX1_shiftRegister 25 = .ok (.iload_n 2, 1) := by decide +kernel
theorem dX1_shiftRegister_26 : decode cX1_shiftRegister 26 = .ok (.iastore, 1) := by decide +kernel
theorem dX1_shiftRegister_27 : decode cX1_shiftRegister 27 = .ok (.iload 4, 2) := by decide +kernel
theorem dX1_shiftRegister_29 : decode cX1_shiftRegister 29 = .ok (.istore_n 2, 1) := by decide +kernel
theorem dX1_shiftRegister_30 : decode cX1_shiftRegister 30 = .ok (.iinc 3 1, 3) := by decide +kernel
theorem dX1_shiftRegister_33 : decode cX1_shiftRegister 33 = .ok (.goto (-29), 3) := by decide +kernel
theorem dX1_shiftRegister_36 : decode cX1_shiftRegister 36 = .ok (.iload_n 2, 1) := by decide +kernel
theorem dX1_shiftRegister_37 : decode cX1_shiftRegister 37 = .ok (.ireturn, 1) := by decide +kernel
theorem dX1_drivenAt_0 : decode cX1_drivenAt 0 = .ok (.iload_n 2, 1) := by decide +kernel
theorem dX1_drivenAt_1 : decode cX1_drivenAt 1 = .ok (.ifCond .eq 22, 3) := by decide +kernel
theorem dX1_drivenAt_4 : decode cX1_drivenAt 4 = .ok (.aload_n 0, 1) := by decide +kernel
theorem dX1_drivenAt_5 : decode cX1_drivenAt 5 = .ok (.getfield 15, 3) := by decide +kernel
theorem dX1_drivenAt_8 : decode cX1_drivenAt 8 = .ok (.iload_n 1, 1) := by decide +kernel
theorem dX1_drivenAt_9 : decode cX1_drivenAt 9 = .ok (.iaload, 1) := by decide +kernel
theorem dX1_drivenAt_10 : decode cX1_drivenAt 10 = .ok (.iconst 1, 1) := by decide +kernel
theorem dX1_drivenAt_11 : decode cX1_drivenAt 11 = .ok (.if_icmp .ne 12, 3) := by decide +kernel
theorem dX1_drivenAt_14 : decode cX1_drivenAt 14 = .ok (.aload_n 0, 1) := by decide +kernel
theorem dX1_drivenAt_15 : decode cX1_drivenAt 15 = .ok (.getfield 18, 3) := by decide +kernel
theorem dX1_drivenAt_18 : decode cX1_drivenAt 18 = .ok (.iload_n 1, 1) := by decide +kernel
theorem dX1_drivenAt_19 : decode cX1_drivenAt 19 = .ok (.iaload, 1) := by decide +kernel
theorem dX1_drivenAt_20 : decode cX1_drivenAt 20 = .ok (.goto 9, 3) := by decide +kernel
theorem dX1_drivenAt_23 : decode cX1_drivenAt 23 = .ok (.aload_n 0, 1) := by decide +kernel
theorem dX1_drivenAt_24 : decode cX1_drivenAt 24 = .ok (.getfield 9, 3) := by decide +kernel
theorem dX1_drivenAt_27 : decode cX1_drivenAt 27 = .ok (.iload_n 1, 1) := by decide +kernel
theorem dX1_drivenAt_28 : decode cX1_drivenAt 28 = .ok (.iaload, 1) := by decide +kernel
theorem dX1_drivenAt_29 : decode cX1_drivenAt 29 = .ok (.ireturn, 1) := by decide +kernel
set_option maxHeartbeats 4000000 in
set_option maxRecDepth 100000 in
theorem c_Cells_addCell (l : Launch) (dC : Nat → ClassId) (dI : Nat → Nat → Nat) (q : Nat → Nat) (cI cZ : ClassId) (sz : Nat) (k : CS) (kd : Nat) (h1 : k.n < 20) : Met l yX1_addCell (.code yX1_addCell cX1_addCell 3 (some .int) :: ALLG) ({ frames := 0, cells := 0, slots := 0, locals := 0 }) (va_Pc [.ref (q 10), .int (nI kd)] (cP (dC, dI) vwCl [(cI, .int), (cZ, .boolean)] (wC q cI k) eT sz)) (va_Qi (fun (x : Int32) (u : CS) => x = nI k.n ∧ u = (k.s_ki (va_up k.ki k.n kd)).s_n (k.n + 1)) (fun (u : CS) => cB (dC, dI) vwCl [(cI, .int), (cZ, .boolean)] (wC q cI u) (va_A (wC q cI k) sz)) (va_A (wC q cI k) sz)) 0 0 (va_A (wC q cI k) sz) := by
  refine xm_of (cc := cX1_addCell) (maxL := 3) (ret := some .int) (by decide) rfl (Nat.le_of_ble_eq_true rfl) ?_
  intro p e s m below meth c A hAe hx hb hr hml hts0 hown hlk hin hsz H locs hP hK hD hA hS hE ls hl
  have hts : ∀ w ∈ ALLG, w.before _ s = true := fun w h => hts0 w (List.mem_cons_of_mem _ h)
  rw [← hAe]
  have hl : lv_has ls 3 [(0, .ref (q 10)), (1, .int (nI kd))] := hl
  refine lv_aload_n hx hb dX1_addCell_0 rfl (lv_at hl 0 rfl) ?_
  refine va_get (D := (dC, dI)) (ci := 1) (v := .int (nI (CS.n k))) (C := RX1) (T := TX1) (N := 5) hx hb hts inX1 hown hK hP 0 rfl rfl 0 (by decide) (hts _ tw_76) (fun _ h9 => h9) rfl dX1_addCell_1 ?_
  refine lv_istore_n (lv' := [(2, .int (nI (CS.n k))), (0, .ref (q 10)), (1, .int (nI kd))]) hx hb dX1_addCell_4 rfl hl (by decide) rfl (fun ls hl => ?_)
  refine lv_aload_n hx hb dX1_addCell_5 rfl (lv_at hl 1 rfl) ?_
  refine va_get (D := (dC, dI)) (ci := 1) (v := .ref (q 12)) (C := RX1) (T := TX1) (N := 5) hx hb hts inX1 hown hK hP 0 rfl rfl 2 (by decide) (hts _ tw_81) (fun _ h9 => h9) rfl dX1_addCell_6 ?_
  refine lv_iload_n hx hb dX1_addCell_9 rfl (lv_at hl 0 rfl) ?_
  refine lv_iload_n hx hb dX1_addCell_10 rfl (lv_at hl 2 rfl) ?_
  refine xa_ist hx hb hK hP hD hS 2 0 rfl rfl (by omega) (by decide) (aN_up _ _ _) dX1_addCell_11 (fun H locs hP hD hS => ?_)
  have hP : va_P (dC, dI) vwCl (wC q cI (CS.s_ki k (va_up (CS.ki k) (CS.n k) kd))) H := hP
  have hD : va_D A (wC q cI (CS.s_ki k (va_up (CS.ki k) (CS.n k) kd))) := hD
  refine lv_aload_n hx hb dX1_addCell_12 rfl (lv_at hl 1 rfl) ?_
  refine lv_dup hx hb dX1_addCell_13 rfl ?_
  refine va_get (D := (dC, dI)) (ci := 1) (v := .int (nI (CS.n k))) (C := RX1) (T := TX1) (N := 5) hx hb hts inX1 hown hK hP 0 rfl rfl 0 (by decide) (hts _ tw_76) (fun _ h9 => h9) rfl dX1_addCell_14 ?_
  refine lv_iconst (v := nI 1) hx hb dX1_addCell_17 (by decide) ?_
  refine xn_add hx hb dX1_addCell_18 ?_
  refine va_put (D := (dC, dI)) (ci := 1) (v := .int (nI ((CS.n k) + 1))) (ty := .int) (C := RX1) (T := TX1) (N := 5) hx hb hts inX1 tyX1 tyX1_ok nmX1 hown hK hP hD hS 0 rfl rfl 0 (by decide) (hts _ tw_76) (fun _ h9 => h9) rfl (by decide +kernel) rfl rfl (Nat.le_of_ble_eq_true rfl) dX1_addCell_19 (fun H locs hP hD hS => ?_)
  have hP : va_P (dC, dI) vwCl (wC q cI (CS.s_n (CS.s_ki k (va_up (CS.ki k) (CS.n k) kd)) ((CS.n k) + 1))) H := hP
  have hD : va_D A (wC q cI (CS.s_n (CS.s_ki k (va_up (CS.ki k) (CS.n k) kd)) ((CS.n k) + 1))) := hD
  refine lv_iload_n hx hb dX1_addCell_22 rfl (lv_at hl 0 rfl) ?_
  exact xr_i hx hb hr hlk (u := CS.s_n (CS.s_ki k (va_up (CS.ki k) (CS.n k) kd)) ((CS.n k) + 1)) (⟨rfl, rfl⟩) hP hK hD hS dX1_addCell_23
set_option maxHeartbeats 4000000 in
set_option maxRecDepth 100000 in
theorem c_Cells_capture (l : Launch) (dC : Nat → ClassId) (dI : Nat → Nat → Nat) (q : Nat → Nat) (cI cZ : ClassId) (sz : Nat) (k : CS) (h1 : k.n ≤ 20) : Met l yX1_capture (.code yX1_capture cX1_capture 2 none :: ALLG) ({ frames := 0, cells := 0, slots := 0, locals := 0 }) (va_Pc [.ref (q 10)] (cP (dC, dI) vwCl [(cI, .int), (cZ, .boolean)] (wC q cI k) eT sz)) (va_Qv (fun (u : CS) => u = k.s_ir (cpN k.pin k.ir k.n)) (fun (u : CS) => cB (dC, dI) vwCl [(cI, .int), (cZ, .boolean)] (wC q cI u) (va_A (wC q cI k) sz)) (va_A (wC q cI k) sz)) 0 0 (va_A (wC q cI k) sz) := by
  refine xm_of (cc := cX1_capture) (maxL := 2) (ret := none) (by decide) rfl (Nat.le_of_ble_eq_true rfl) ?_
  intro p e s m below meth c A hAe hx hb hr hml hts0 hown hlk hin hsz H locs hP hK hD hA hS hE ls hl
  have hts : ∀ w ∈ ALLG, w.before _ s = true := fun w h => hts0 w (List.mem_cons_of_mem _ h)
  rw [← hAe]
  have hl : lv_has ls 2 [(0, .ref (q 10))] := hl
  refine lv_iconst (v := nI 0) hx hb dX1_capture_0 (by decide) ?_
  refine lv_istore_n (lv' := [(1, .int (nI 0)), (0, .ref (q 10))]) hx hb dX1_capture_1 rfl hl (by decide) rfl (fun ls hl => ?_)
  have L2 : ∀ (fuel : Nat) (i : Nat) (g : Nat → Nat), (i ≤ k.n) → (g = cpN k.pin k.ir i) → k.n - i < fuel → ∀ (H : Heap) (locs : List Loc), va_P (dC, dI) vwCl (wC q cI (CS.s_ir k g)) H → va_D A (wC q cI (CS.s_ir k g)) → va_S A s.heap H locs → ∀ ls : Array Slot, lv_has ls 2 [(0, .ref (q 10)), (1, .int (nI i))] → W p l e ({ frames := 0, cells := 0, slots := 0, locals := 0 } : Room) s m ([.ref (q 10)] : List Value).toArray below meth c H locs 0 0 (MQ below (va_Qv (fun (u : CS) => u = k.s_ir (cpN k.pin k.ir k.n)) (fun (u : CS) => cB (dC, dI) vwCl [(cI, .int), (cZ, .boolean)] (wC q cI u) (A)) (A)) ([.ref (q 10)] : List Value).toArray s 0 0 A) (F0 m 2 ls []) := by
    intro fuel
    induction fuel with
    | zero => intro i g i1 e1 hm H locs hP hD hS ls hl; exact absurd hm (Nat.not_lt_zero _)
    | succ fuel ih2 =>
      intro i g i1 e1 hm H locs hP hD hS ls hl
      refine lv_iload_n hx hb dX1_capture_2 rfl (lv_at hl 1 rfl) ?_
      refine lv_aload_n hx hb dX1_capture_3 rfl (lv_at hl 0 rfl) ?_
      refine va_get (D := (dC, dI)) (ci := 1) (v := .int (nI (CS.n k))) (C := RX1) (T := TX1) (N := 5) hx hb hts inX1 hown hK hP 0 rfl rfl 0 (by decide) (hts _ tw_76) (fun _ h9 => h9) rfl dX1_capture_4 ?_
      refine xn_cge (tgt := 28) hx hb (by omega) (by omega) dX1_capture_7 (by decide) (fun c_1 => ?_) (fun c_1 => ?_)
      · exact xr_v hx hb hr hlk (u := CS.s_ir k g) (by rw [e1, show i = k.n by omega]) hP hK hD hS dX1_capture_28
      · refine lv_aload_n hx hb dX1_capture_10 rfl (lv_at hl 0 rfl) ?_
        refine va_get (D := (dC, dI)) (ci := 1) (v := .ref (q 14)) (C := RX1) (T := TX1) (N := 5) hx hb hts inX1 hown hK hP 0 rfl rfl 4 (by decide) (hts _ tw_83) (fun _ h9 => h9) rfl dX1_capture_11 ?_
        refine lv_iload_n hx hb dX1_capture_14 rfl (lv_at hl 1 rfl) ?_
        refine lv_aload_n hx hb dX1_capture_15 rfl (lv_at hl 0 rfl) ?_
        refine va_get (D := (dC, dI)) (ci := 1) (v := .ref (q 11)) (C := RX1) (T := TX1) (N := 5) hx hb hts inX1 hown hK hP 0 rfl rfl 1 (by decide) (hts _ tw_79) (fun _ h9 => h9) rfl dX1_capture_16 ?_
        refine lv_iload_n hx hb dX1_capture_19 rfl (lv_at hl 1 rfl) ?_
        refine xa_ild hx hb hK hP 1 0 rfl rfl (v := nI ((CS.pin k) i)) (by omega) (by decide) rfl dX1_capture_20 ?_
        refine xa_ist hx hb hK hP hD hS 4 0 rfl rfl (by omega) (by decide) (aN_up _ _ _) dX1_capture_21 (fun H locs hP hD hS => ?_)
        have hP : va_P (dC, dI) vwCl (wC q cI (CS.s_ir (CS.s_ir k g) (va_up g i ((CS.pin k) i)))) H := hP
        have hD : va_D A (wC q cI (CS.s_ir (CS.s_ir k g) (va_up g i ((CS.pin k) i)))) := hD
        refine lv_iinc (v := nI (i + 1)) (lv' := [(1, .int (nI (i + 1))), (0, .ref (q 10))]) hx hb dX1_capture_22 hl (k := 1) rfl (nI_1 _) (by decide) rfl (fun ls hl => ?_)
        refine lv_goto (tgt := 2) hx hb dX1_capture_25 (by decide) ?_
        exact ih2 (i + 1) (va_up g i ((CS.pin k) i)) (by omega) (by rw [e1]; exact cpN_s _ _ _) (by omega) H locs hP hD hS ls (lv_sub hl [1, 0] rfl)
  exact L2 ((k.n - 0) + 1) 0 (CS.ir k) (Nat.zero_le _) ((cpN_0 _ _).symm) (Nat.lt_succ_self _) H locs hP hD hS ls (lv_sub hl [1, 0] rfl)
set_option maxHeartbeats 4000000 in
set_option maxRecDepth 100000 in
theorem c_Cells_update (l : Launch) (dC : Nat → ClassId) (dI : Nat → Nat → Nat) (q : Nat → Nat) (cI cZ : ClassId) (sz : Nat) (k : CS) (h1 : k.n ≤ 20) : Met l yX1_update (.code yX1_update cX1_update 2 none :: ALLG) ({ frames := 0, cells := 0, slots := 0, locals := 0 }) (va_Pc [.ref (q 10)] (cP (dC, dI) vwCl [(cI, .int), (cZ, .boolean)] (wC q cI k) eT sz)) (va_Qv (fun (u : CS) => u = k.s_he (cpN k.ir k.he k.n)) (fun (u : CS) => cB (dC, dI) vwCl [(cI, .int), (cZ, .boolean)] (wC q cI u) (va_A (wC q cI k) sz)) (va_A (wC q cI k) sz)) 0 0 (va_A (wC q cI k) sz) := by
  refine xm_of (cc := cX1_update) (maxL := 2) (ret := none) (by decide) rfl (Nat.le_of_ble_eq_true rfl) ?_
  intro p e s m below meth c A hAe hx hb hr hml hts0 hown hlk hin hsz H locs hP hK hD hA hS hE ls hl
  have hts : ∀ w ∈ ALLG, w.before _ s = true := fun w h => hts0 w (List.mem_cons_of_mem _ h)
  rw [← hAe]
  have hl : lv_has ls 2 [(0, .ref (q 10))] := hl
  refine lv_iconst (v := nI 0) hx hb dX1_update_0 (by decide) ?_
  refine lv_istore_n (lv' := [(1, .int (nI 0)), (0, .ref (q 10))]) hx hb dX1_update_1 rfl hl (by decide) rfl (fun ls hl => ?_)
  have L2 : ∀ (fuel : Nat) (i : Nat) (g : Nat → Nat), (i ≤ k.n) → (g = cpN k.ir k.he i) → k.n - i < fuel → ∀ (H : Heap) (locs : List Loc), va_P (dC, dI) vwCl (wC q cI (CS.s_he k g)) H → va_D A (wC q cI (CS.s_he k g)) → va_S A s.heap H locs → ∀ ls : Array Slot, lv_has ls 2 [(0, .ref (q 10)), (1, .int (nI i))] → W p l e ({ frames := 0, cells := 0, slots := 0, locals := 0 } : Room) s m ([.ref (q 10)] : List Value).toArray below meth c H locs 0 0 (MQ below (va_Qv (fun (u : CS) => u = k.s_he (cpN k.ir k.he k.n)) (fun (u : CS) => cB (dC, dI) vwCl [(cI, .int), (cZ, .boolean)] (wC q cI u) (A)) (A)) ([.ref (q 10)] : List Value).toArray s 0 0 A) (F0 m 2 ls []) := by
    intro fuel
    induction fuel with
    | zero => intro i g i1 e1 hm H locs hP hD hS ls hl; exact absurd hm (Nat.not_lt_zero _)
    | succ fuel ih2 =>
      intro i g i1 e1 hm H locs hP hD hS ls hl
      refine lv_iload_n hx hb dX1_update_2 rfl (lv_at hl 1 rfl) ?_
      refine lv_aload_n hx hb dX1_update_3 rfl (lv_at hl 0 rfl) ?_
      refine va_get (D := (dC, dI)) (ci := 1) (v := .int (nI (CS.n k))) (C := RX1) (T := TX1) (N := 5) hx hb hts inX1 hown hK hP 0 rfl rfl 0 (by decide) (hts _ tw_76) (fun _ h9 => h9) rfl dX1_update_4 ?_
      refine xn_cge (tgt := 28) hx hb (by omega) (by omega) dX1_update_7 (by decide) (fun c_1 => ?_) (fun c_1 => ?_)
      · exact xr_v hx hb hr hlk (u := CS.s_he k g) (by rw [e1, show i = k.n by omega]) hP hK hD hS dX1_update_28
      · refine lv_aload_n hx hb dX1_update_10 rfl (lv_at hl 0 rfl) ?_
        refine va_get (D := (dC, dI)) (ci := 1) (v := .ref (q 13)) (C := RX1) (T := TX1) (N := 5) hx hb hts inX1 hown hK hP 0 rfl rfl 3 (by decide) (hts _ tw_82) (fun _ h9 => h9) rfl dX1_update_11 ?_
        refine lv_iload_n hx hb dX1_update_14 rfl (lv_at hl 1 rfl) ?_
        refine lv_aload_n hx hb dX1_update_15 rfl (lv_at hl 0 rfl) ?_
        refine va_get (D := (dC, dI)) (ci := 1) (v := .ref (q 14)) (C := RX1) (T := TX1) (N := 5) hx hb hts inX1 hown hK hP 0 rfl rfl 4 (by decide) (hts _ tw_83) (fun _ h9 => h9) rfl dX1_update_16 ?_
        refine lv_iload_n hx hb dX1_update_19 rfl (lv_at hl 1 rfl) ?_
        refine xa_ild hx hb hK hP 4 0 rfl rfl (v := nI ((CS.ir k) i)) (by omega) (by decide) rfl dX1_update_20 ?_
        refine xa_ist hx hb hK hP hD hS 3 0 rfl rfl (by omega) (by decide) (aN_up _ _ _) dX1_update_21 (fun H locs hP hD hS => ?_)
        have hP : va_P (dC, dI) vwCl (wC q cI (CS.s_he (CS.s_he k g) (va_up g i ((CS.ir k) i)))) H := hP
        have hD : va_D A (wC q cI (CS.s_he (CS.s_he k g) (va_up g i ((CS.ir k) i)))) := hD
        refine lv_iinc (v := nI (i + 1)) (lv' := [(1, .int (nI (i + 1))), (0, .ref (q 10))]) hx hb dX1_update_22 hl (k := 1) rfl (nI_1 _) (by decide) rfl (fun ls hl => ?_)
        refine lv_goto (tgt := 2) hx hb dX1_update_25 (by decide) ?_
        exact ih2 (i + 1) (va_up g i ((CS.ir k) i)) (by omega) (by rw [e1]; exact cpN_s _ _ _) (by omega) H locs hP hD hS ls (lv_sub hl [1, 0] rfl)
  exact L2 ((k.n - 0) + 1) 0 (CS.he k) (Nat.zero_le _) ((cpN_0 _ _).symm) (Nat.lt_succ_self _) H locs hP hD hS ls (lv_sub hl [1, 0] rfl)
set_option maxHeartbeats 4000000 in
set_option maxRecDepth 100000 in
theorem c_Cells_shiftRegister (l : Launch) (dC : Nat → ClassId) (dI : Nat → Nat → Nat) (q : Nat → Nat) (cI cZ : ClassId) (sz : Nat) (k : CS) (b : Nat) (h1 : k.n ≤ 20) : Met l yX1_shiftRegister (.code yX1_shiftRegister cX1_shiftRegister 5 (some .int) :: ALLG) ({ frames := 0, cells := 0, slots := 0, locals := 0 }) (va_Pc [.ref (q 10), .int (nI b)] (cP (dC, dI) vwCl [(cI, .int), (cZ, .boolean)] (wC q cI k) eT sz)) (va_Qi (fun (x : Int32) (u : CS) => x = nI (srO k.ir b k.n) ∧ u = k.s_ir (srV k.ir b k.n)) (fun (u : CS) => cB (dC, dI) vwCl [(cI, .int), (cZ, .boolean)] (wC q cI u) (va_A (wC q cI k) sz)) (va_A (wC q cI k) sz)) 0 0 (va_A (wC q cI k) sz) := by
  refine xm_of (cc := cX1_shiftRegister) (maxL := 5) (ret := some .int) (by decide) rfl (Nat.le_of_ble_eq_true rfl) ?_
  intro p e s m below meth c A hAe hx hb hr hml hts0 hown hlk hin hsz H locs hP hK hD hA hS hE ls hl
  have hts : ∀ w ∈ ALLG, w.before _ s = true := fun w h => hts0 w (List.mem_cons_of_mem _ h)
  rw [← hAe]
  have hl : lv_has ls 5 [(0, .ref (q 10)), (1, .int (nI b))] := hl
  refine lv_iload_n hx hb dX1_shiftRegister_0 rfl (lv_at hl 1 rfl) ?_
  refine lv_istore_n (lv' := [(2, .int (nI b)), (0, .ref (q 10)), (1, .int (nI b))]) hx hb dX1_shiftRegister_1 rfl hl (by decide) rfl (fun ls hl => ?_)
  refine lv_iconst (v := nI 0) hx hb dX1_shiftRegister_2 (by decide) ?_
  refine lv_istore_n (lv' := [(3, .int (nI 0)), (2, .int (nI b)), (0, .ref (q 10)), (1, .int (nI b))]) hx hb dX1_shiftRegister_3 rfl hl (by decide) rfl (fun ls hl => ?_)
  have L4 : ∀ (fuel : Nat) (i : Nat) (cy : Nat) (g : Nat → Nat), (i ≤ k.n) → (cy = srO k.ir b i) → (g = srV k.ir b i) → k.n - i < fuel → ∀ (H : Heap) (locs : List Loc), va_P (dC, dI) vwCl (wC q cI (CS.s_ir k g)) H → va_D A (wC q cI (CS.s_ir k g)) → va_S A s.heap H locs → ∀ ls : Array Slot, lv_has ls 5 [(0, .ref (q 10)), (2, .int (nI cy)), (3, .int (nI i))] → W p l e ({ frames := 0, cells := 0, slots := 0, locals := 0 } : Room) s m ([.ref (q 10), .int (nI b)] : List Value).toArray below meth c H locs 0 0 (MQ below (va_Qi (fun (x : Int32) (u : CS) => x = nI (srO k.ir b k.n) ∧ u = k.s_ir (srV k.ir b k.n)) (fun (u : CS) => cB (dC, dI) vwCl [(cI, .int), (cZ, .boolean)] (wC q cI u) (A)) (A)) ([.ref (q 10), .int (nI b)] : List Value).toArray s 0 0 A) (F0 m 4 ls []) := by
    intro fuel
    induction fuel with
    | zero => intro i cy g i1 e1 e2 hm H locs hP hD hS ls hl; exact absurd hm (Nat.not_lt_zero _)
    | succ fuel ih4 =>
      intro i cy g i1 e1 e2 hm H locs hP hD hS ls hl
      refine lv_iload_n hx hb dX1_shiftRegister_4 rfl (lv_at hl 2 rfl) ?_
      refine lv_aload_n hx hb dX1_shiftRegister_5 rfl (lv_at hl 0 rfl) ?_
      refine va_get (D := (dC, dI)) (ci := 1) (v := .int (nI (CS.n k))) (C := RX1) (T := TX1) (N := 5) hx hb hts inX1 hown hK hP 0 rfl rfl 0 (by decide) (hts _ tw_76) (fun _ h9 => h9) rfl dX1_shiftRegister_6 ?_
      refine xn_cge (tgt := 36) hx hb (by omega) (by omega) dX1_shiftRegister_9 (by decide) (fun c_1 => ?_) (fun c_1 => ?_)
      · refine lv_iload_n hx hb dX1_shiftRegister_36 rfl (lv_at hl 1 rfl) ?_
        exact xr_i hx hb hr hlk (u := CS.s_ir k g) (⟨by rw [e1, show i = k.n by omega], by rw [e2, show i = k.n by omega]⟩) hP hK hD hS dX1_shiftRegister_37
      · refine lv_aload_n hx hb dX1_shiftRegister_12 rfl (lv_at hl 0 rfl) ?_
        refine va_get (D := (dC, dI)) (ci := 1) (v := .ref (q 14)) (C := RX1) (T := TX1) (N := 5) hx hb hts inX1 hown hK hP 0 rfl rfl 4 (by decide) (hts _ tw_83) (fun _ h9 => h9) rfl dX1_shiftRegister_13 ?_
        refine lv_iload_n hx hb dX1_shiftRegister_16 rfl (lv_at hl 2 rfl) ?_
        refine xa_ild hx hb hK hP 4 0 rfl rfl (v := nI (g i)) (by omega) (by decide) rfl dX1_shiftRegister_17 ?_
        refine lv_istore (lv' := [(4, .int (nI (g i))), (0, .ref (q 10)), (2, .int (nI cy)), (3, .int (nI i))]) hx hb dX1_shiftRegister_18 hl (by decide) rfl (fun ls hl => ?_)
        refine lv_aload_n hx hb dX1_shiftRegister_20 rfl (lv_at hl 1 rfl) ?_
        refine va_get (D := (dC, dI)) (ci := 1) (v := .ref (q 14)) (C := RX1) (T := TX1) (N := 5) hx hb hts inX1 hown hK hP 0 rfl rfl 4 (by decide) (hts _ tw_83) (fun _ h9 => h9) rfl dX1_shiftRegister_21 ?_
        refine lv_iload_n hx hb dX1_shiftRegister_24 rfl (lv_at hl 3 rfl) ?_
        refine lv_iload_n hx hb dX1_shiftRegister_25 rfl (lv_at hl 2 rfl) ?_
        refine xa_ist hx hb hK hP hD hS 4 0 rfl rfl (by omega) (by decide) (aN_up _ _ _) dX1_shiftRegister_26 (fun H locs hP hD hS => ?_)
        have hP : va_P (dC, dI) vwCl (wC q cI (CS.s_ir (CS.s_ir k g) (va_up g i cy))) H := hP
        have hD : va_D A (wC q cI (CS.s_ir (CS.s_ir k g) (va_up g i cy))) := hD
        refine lv_iload hx hb dX1_shiftRegister_27 (lv_at hl 0 rfl) ?_
        refine lv_istore_n (lv' := [(2, .int (nI (g i))), (4, .int (nI (g i))), (0, .ref (q 10)), (3, .int (nI i))]) hx hb dX1_shiftRegister_29 rfl hl (by decide) rfl (fun ls hl => ?_)
        refine lv_iinc (v := nI (i + 1)) (lv' := [(3, .int (nI (i + 1))), (2, .int (nI (g i))), (4, .int (nI (g i))), (0, .ref (q 10))]) hx hb dX1_shiftRegister_30 hl (k := 3) rfl (nI_1 _) (by decide) rfl (fun ls hl => ?_)
        refine lv_goto (tgt := 4) hx hb dX1_shiftRegister_33 (by decide) ?_
        exact ih4 (i + 1) (g i) (va_up g i cy) (by omega) (by rw [e2]; exact srV_at _ _ _) (by rw [e1, e2]; exact srV_s _ _ _) (by omega) H locs hP hD hS ls (lv_sub hl [3, 1, 0] rfl)
  exact L4 ((k.n - 0) + 1) 0 b (CS.ir k) (Nat.zero_le _) rfl ((srV_0 _ _).symm) (Nat.lt_succ_self _) H locs hP hD hS ls (lv_sub hl [2, 1, 0] rfl)
set_option maxHeartbeats 4000000 in
set_option maxRecDepth 100000 in
theorem c_Cells_drivenAt (l : Launch) (dC : Nat → ClassId) (dI : Nat → Nat → Nat) (q : Nat → Nat) (cI cZ : ClassId) (sz : Nat) (k : CS) (i h : Nat) (h1 : i < 20) (h2 : h < 2) (h3 : k.ki i < 2) : Met l yX1_drivenAt (.code yX1_drivenAt cX1_drivenAt 3 (some .int) :: ALLG) ({ frames := 0, cells := 0, slots := 0, locals := 0 }) (va_Pc [.ref (q 10), .int (nI i), .int (nI h)] (cP (dC, dI) vwCl [(cI, .int), (cZ, .boolean)] (wC q cI k) eT sz)) (va_Qi (fun (x : Int32) (_ : Unit) => x = nI (drv k i h)) (fun (_ : Unit) => cB (dC, dI) vwCl [(cI, .int), (cZ, .boolean)] (wC q cI k) (va_A (wC q cI k) sz)) (va_A (wC q cI k) sz)) 0 0 (va_A (wC q cI k) sz) := by
  refine xm_of (cc := cX1_drivenAt) (maxL := 3) (ret := some .int) (by decide) rfl (Nat.le_of_ble_eq_true rfl) ?_
  intro p e s m below meth c A hAe hx hb hr hml hts0 hown hlk hin hsz H locs hP hK hD hA hS hE ls hl
  have hts : ∀ w ∈ ALLG, w.before _ s = true := fun w h => hts0 w (List.mem_cons_of_mem _ h)
  rw [← hAe]
  have hl : lv_has ls 3 [(0, .ref (q 10)), (1, .int (nI i)), (2, .int (nI h))] := hl
  refine lv_iload_n hx hb dX1_drivenAt_0 rfl (lv_at hl 2 rfl) ?_
  refine xn_zeq (tgt := 23) hx hb (by omega) dX1_drivenAt_1 (by decide) (fun c_1 => ?_) (fun c_1 => ?_)
  · refine lv_aload_n hx hb dX1_drivenAt_23 rfl (lv_at hl 0 rfl) ?_
    refine va_get (D := (dC, dI)) (ci := 1) (v := .ref (q 11)) (C := RX1) (T := TX1) (N := 5) hx hb hts inX1 hown hK hP 0 rfl rfl 1 (by decide) (hts _ tw_79) (fun _ h9 => h9) rfl dX1_drivenAt_24 ?_
    refine lv_iload_n hx hb dX1_drivenAt_27 rfl (lv_at hl 1 rfl) ?_
    refine xa_ild hx hb hK hP 1 0 rfl rfl (v := nI ((CS.pin k) i)) (by omega) (by decide) rfl dX1_drivenAt_28 ?_
    exact xr_i hx hb hr hlk (u := ()) (by unfold drv; first | rw [if_pos ⟨by omega, by assumption⟩] | rw [if_neg (fun z => by omega)]) hP hK hD hS dX1_drivenAt_29
  · refine lv_aload_n hx hb dX1_drivenAt_4 rfl (lv_at hl 0 rfl) ?_
    refine va_get (D := (dC, dI)) (ci := 1) (v := .ref (q 12)) (C := RX1) (T := TX1) (N := 5) hx hb hts inX1 hown hK hP 0 rfl rfl 2 (by decide) (hts _ tw_81) (fun _ h9 => h9) rfl dX1_drivenAt_5 ?_
    refine lv_iload_n hx hb dX1_drivenAt_8 rfl (lv_at hl 1 rfl) ?_
    refine xa_ild hx hb hK hP 2 0 rfl rfl (v := nI ((CS.ki k) i)) (by omega) (by decide) rfl dX1_drivenAt_9 ?_
    refine lv_iconst (v := nI 1) hx hb dX1_drivenAt_10 (by decide) ?_
    refine xn_cne (tgt := 23) hx hb (by omega) (by omega) dX1_drivenAt_11 (by decide) (fun c_2 => ?_) (fun c_2 => ?_)
    · refine lv_aload_n hx hb dX1_drivenAt_23 rfl (lv_at hl 0 rfl) ?_
      refine va_get (D := (dC, dI)) (ci := 1) (v := .ref (q 11)) (C := RX1) (T := TX1) (N := 5) hx hb hts inX1 hown hK hP 0 rfl rfl 1 (by decide) (hts _ tw_79) (fun _ h9 => h9) rfl dX1_drivenAt_24 ?_
      refine lv_iload_n hx hb dX1_drivenAt_27 rfl (lv_at hl 1 rfl) ?_
      refine xa_ild hx hb hK hP 1 0 rfl rfl (v := nI ((CS.pin k) i)) (by omega) (by decide) rfl dX1_drivenAt_28 ?_
      exact xr_i hx hb hr hlk (u := ()) (by unfold drv; first | rw [if_pos ⟨by omega, by assumption⟩] | rw [if_neg (fun z => by omega)]) hP hK hD hS dX1_drivenAt_29
    · refine lv_aload_n hx hb dX1_drivenAt_14 rfl (lv_at hl 0 rfl) ?_
      refine va_get (D := (dC, dI)) (ci := 1) (v := .ref (q 13)) (C := RX1) (T := TX1) (N := 5) hx hb hts inX1 hown hK hP 0 rfl rfl 3 (by decide) (hts _ tw_82) (fun _ h9 => h9) rfl dX1_drivenAt_15 ?_
      refine lv_iload_n hx hb dX1_drivenAt_18 rfl (lv_at hl 1 rfl) ?_
      refine xa_ild hx hb hK hP 3 0 rfl rfl (v := nI ((CS.he k) i)) (by omega) (by decide) rfl dX1_drivenAt_19 ?_
      refine lv_goto (tgt := 29) hx hb dX1_drivenAt_20 (by decide) ?_
      exact xr_i hx hb hr hlk (u := ()) (by unfold drv; first | rw [if_pos ⟨by omega, by assumption⟩] | rw [if_neg (fun z => by omega)]) hP hK hD hS dX1_drivenAt_29
