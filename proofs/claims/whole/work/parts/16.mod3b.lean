theorem mvL_th (y : MS) (th t k : Nat) : mvL (y.s_th th) t k = mvL y t k := by
  induction k with
  | zero => rfl
  | succ k ih => show va_up (mvL (y.s_th th) t k) _ (mvL (y.s_th th) t k _) = va_up (mvL y t k) _ (mvL y t k _); rw [ih]
theorem mvV_th (y : MS) (th f t b : Nat) : mvV (y.s_th th) f t b = mvV y f t b := by unfold mvV; rw [mvL_th]
theorem sw_32 : Cond.selects "ScanRowsModel" (⟨"ScanRowsModel", "move", "(III)I"⟩ : MethodName) (⟨"ScanRowsModel", "move", "(III)I"⟩ : MethodName) ∈ ALLG := al_s (i := 32) (by decide +kernel) (by decide +kernel)
theorem tw_584 : (Cond.fieldLink "ScanRowsModel" (32 : Nat) "ScanRowsModel" "kinds" "[I") ∈ ALLG := al_t (i := 584) (by decide +kernel) (by decide +kernel)
theorem tw_723 : (Cond.methodLink "ScanRowsModel" (106 : Nat) ({ cls := "ScanRowsModel", name := "move", desc := "(III)I" } : Jvm.MethodName)) ∈ ALLG := al_t (i := 723) (by decide +kernel) (by decide +kernel)
theorem tw_725 : (Cond.instanceMethod ({ cls := "ScanRowsModel", name := "move", desc := "(III)I" } : Jvm.MethodName)) ∈ ALLG := al_t (i := 725) (by decide +kernel) (by decide +kernel)
theorem tw_726 : (Cond.code ({ cls := "ScanRowsModel", name := "move", desc := "(III)I" } : Jvm.MethodName) prog_6_method_22_code (6 : Nat) (Option.some FieldType.int)) ∈ ALLG := al_t (i := 726) (by decide +kernel) (by decide +kernel)
theorem dX4_move_0 : decode cX4_move 0 = .ok (.iload_n 1, 1) := by decide +kernel
theorem dX4_move_1 : decode cX4_move 1 = .ok (.iload_n 2, 1) := by decide +kernel
theorem dX4_move_2 : decode cX4_move 2 = .ok (.if_icmp .ne 5, 3) := by decide +kernel
theorem dX4_move_5 : decode cX4_move 5 = .ok (.iconst 0, 1) := by decide +kernel
theorem dX4_move_6 : decode cX4_move 6 = .ok (.ireturn, 1) := by decide +kernel
theorem dX4_move_7 : decode cX4_move 7 = .ok (.aload_n 0, 1) := by decide +kernel
theorem dX4_move_8 : decode cX4_move 8 = .ok (.getfield 19, 3) := by decide +kernel
theorem dX4_move_11 : decode cX4_move 11 = .ok (.aload_n 0, 1) := by decide +kernel
theorem dX4_move_12 : decode cX4_move 12 = .ok (.getfield 26, 3) := by decide +kernel
theorem dX4_move_15 : decode cX4_move 15 = .ok (.iload_n 2, 1) := by decide +kernel
theorem dX4_move_16 : decode cX4_move 16 = .ok (.iconst 1, 1) := by decide +kernel
theorem dX4_move_17 : decode cX4_move 17 = .ok (.isub, 1) := by decide +kernel
theorem dX4_move_18 : decode cX4_move 18 = .ok (.iaload, 1) := by decide +kernel
theorem dX4_move_19 : decode cX4_move 19 = .ok (.iaload, 1) := by decide +kernel
theorem dX4_move_20 : decode cX4_move 20 = .ok (.istore 4, 2) := by decide +kernel
theorem dX4_move_22 : decode cX4_move 22 = .ok (.iload_n 2, 1) := by decide +kernel
theorem dX4_move_23 : decode cX4_move 23 = .ok (.iconst 1, 1) := by decide +kernel
theorem dX4_move_24 : decode cX4_move 24 = .ok (.isub, 1) := by decide +kernel
theorem dX4_move_25 : decode cX4_move 25 = .ok (.istore 5, 2) := by decide +kernel
theorem dX4_move_27 : decode cX4_move 27 = .ok (.iload 5, 2) := by decide +kernel
theorem dX4_move_29 : decode cX4_move 29 = .ok (.iload_n 1, 1) := by decide +kernel
theorem dX4_move_30 : decode cX4_move 30 = .ok (.if_icmp .le 35, 3) := by decide +kernel
theorem dX4_move_33 : decode cX4_move 33 = .ok (.aload_n 0, 1) := by decide +kernel
theorem dX4_move_34 : decode cX4_move 34 = .ok (.getfield 19, 3) := by decide +kernel
theorem dX4_move_37 : decode cX4_move 37 = .ok (.aload_n 0, 1) := by decide +kernel
theorem dX4_move_38 : decode cX4_move 38 = .ok (.getfield 26, 3) := by decide +kernel
theorem dX4_move_41 : decode cX4_move 41 = .ok (.iload 5, 2) := by decide +kernel
theorem dX4_move_43 : decode cX4_move 43 = .ok (.iaload, 1) := by decide +kernel
theorem dX4_move_44 : decode cX4_move 44 = .ok (.aload_n 0, 1) := by decide +kernel
theorem dX4_move_45 : decode cX4_move 45 = .ok (.getfield 19, 3) := by decide +kernel
theorem dX4_move_48 : decode cX4_move 48 = .ok (.aload_n 0, 1) := by decide +kernel
theorem dX4_move_49 : decode cX4_move 49 = .ok (.getfield 26, 3) := by decide +kernel
theorem dX4_move_52 : decode cX4_move 52 = .ok (.iload 5, 2) := by decide +kernel
theorem dX4_move_54 : decode cX4_move 54 = .ok (.iconst 1, 1) := by decide +kernel
theorem dX4_move_55 : decode cX4_move 55 = .ok (.isub, 1) := by decide +kernel
theorem dX4_move_56 : decode cX4_move 56 = .ok (.iaload, 1) := by decide +kernel
theorem dX4_move_57 : decode cX4_move 57 = .ok (.iaload, 1) := by decide +kernel
theorem dX4_move_58 : decode cX4_move 58 = .ok (.iastore, 1) := by decide +kernel
theorem dX4_move_59 : decode cX4_move 59 = .ok (.iinc 5 (-1), 3) := by decide +kernel
theorem dX4_move_62 : decode cX4_move 62 = .ok (.goto (-35), 3) := by decide +kernel
theorem dX4_move_65 : decode cX4_move 65 = .ok (.aload_n 0, 1) := by decide +kernel
theorem dX4_move_66 : decode cX4_move 66 = .ok (.getfield 19, 3) := by decide +kernel
theorem dX4_move_69 : decode cX4_move 69 = .ok (.aload_n 0, 1) := by decide +kernel
theorem dX4_move_70 : decode cX4_move 70 = .ok (.getfield 26, 3) := by decide +kernel
theorem dX4_move_73 : decode cX4_move 73 = .ok (.iload_n 1, 1) := by decide +kernel
theorem dX4_move_74 : decode cX4_move 74 = .ok (.iaload, 1) := by decide +kernel
theorem dX4_move_75 : decode cX4_move 75 = .ok (.iload_n 3, 1) := by decide +kernel
theorem dX4_move_76 : decode cX4_move 76 = .ok (.iastore, 1) := by decide +kernel
theorem dX4_move_77 : decode cX4_move 77 = .ok (.iload 4, 2) := by decide +kernel
theorem dX4_move_79 : decode cX4_move 79 = .ok (.ireturn, 1) := by decide +kernel
theorem dX4_shift_0 : decode cX4_shift 0 = .ok (.aload_n 0, 1) := by decide +kernel
theorem dX4_shift_1 : decode cX4_shift 1 = .ok (.iconst 0, 1) := by decide +kernel
theorem dX4_shift_2 : decode cX4_shift 2 = .ok (.putfield 57, 3) := by decide +kernel
theorem dX4_shift_5 : decode cX4_shift 5 = .ok (.iconst 0, 1) := by decide +kernel
theorem dX4_shift_6 : decode cX4_shift 6 = .ok (.istore_n 2, 1) := by decide +kernel
theorem dX4_shift_7 : decode cX4_shift 7 = .ok (.iconst 0, 1) := by decide +kernel
theorem dX4_shift_8 : decode cX4_shift 8 = .ok (.istore_n 3, 1) := by decide +kernel
theorem dX4_shift_9 : decode cX4_shift 9 = .ok (.iload_n 3, 1) := by decide +kernel
theorem dX4_shift_10 : decode cX4_shift 10 = .ok (.aload_n 0, 1) := by decide +kernel
theorem dX4_shift_11 : decode cX4_shift 11 = .ok (.getfield 63, 3) := by decide +kernel
theorem dX4_shift_14 : decode cX4_shift 14 = .ok (.if_icmp .ge 37, 3) := by decide +kernel
theorem dX4_shift_17 : decode cX4_shift 17 = .ok (.iload_n 2, 1) := by decide +kernel
theorem dX4_shift_18 : decode cX4_shift 18 = .ok (.aload_n 0, 1) := by decide +kernel
theorem dX4_shift_19 : decode cX4_shift 19 = .ok (.aload_n 0, 1) := by decide +kernel
theorem dX4_shift_20 : decode cX4_shift 20 = .ok (.getfield 29, 3) := by decide +kernel
theorem dX4_shift_23 : decode cX4_shift 23 = .ok (.iload_n 3, 1) := by decide +kernel
theorem dX4_shift_24 : decode cX4_shift 24 = .ok (.iaload, 1) := by decide +kernel
theorem dX4_shift_25 : decode cX4_shift 25 = .ok (.aload_n 0, 1) := by decide +kernel
theorem dX4_shift_26 : decode cX4_shift 26 = .ok (.getfield 29, 3) := by decide +kernel
theorem dX4_shift_29 : decode cX4_shift 29 = .ok (.iload_n 3, 1) := by decide +kernel
theorem dX4_shift_30 : decode cX4_shift 30 = .ok (.iconst 1, 1) := by decide +kernel
theorem dX4_shift_31 : decode cX4_shift 31 = .ok (.iadd, 1) := by decide +kernel
theorem dX4_shift_32 : decode cX4_shift 32 = .ok (.iaload, 1) := by decide +kernel
theorem dX4_shift_33 : decode cX4_shift 33 = .ok (.iload_n 1, 1) := by decide +kernel
theorem dX4_shift_34 : decode cX4_shift 34 = .ok (.iload_n 3, 1) := by decide +kernel
theorem dX4_shift_35 : decode cX4_shift 35 = .ok (.ishr, 1) := by decide +kernel
theorem dX4_shift_36 : decode cX4_shift 36 = .ok (.iconst 1, 1) := by decide +kernel
theorem dX4_shift_37 : decode cX4_shift 37 = .ok (.iand, 1) := by decide +kernel
theorem dX4_shift_38 : decode cX4_shift 38 = .ok (.invokevirtual 106, 3) := by decide +kernel
theorem dX4_shift_41 : decode cX4_shift 41 = .ok (.iload_n 3, 1) := by decide +kernel
theorem dX4_shift_42 : decode cX4_shift 42 = .ok (.ishl, 1) := by decide +kernel
theorem dX4_shift_43 : decode cX4_shift 43 = .ok (.ior, 1) := by decide +kernel
theorem dX4_shift_44 : decode cX4_shift 44 = .ok (.istore_n 2, 1) := by decide +kernel
theorem dX4_shift_45 : decode cX4_shift 45 = .ok (.iinc 3 1, 3) := by decide +kernel
theorem dX4_shift_48 : decode cX4_shift 48 = .ok (.goto (-39), 3) := by decide +kernel
theorem dX4_shift_51 : decode cX4_shift 51 = .ok (.iload_n 2, 1) := by decide +kernel
theorem dX4_shift_52 : decode cX4_shift 52 = .ok (.ireturn, 1) := by decide +kernel
theorem dX4_port_0 : decode cX4_port 0 = .ok (.aload_n 0, 1) := by decide +kernel
theorem dX4_port_1 : decode cX4_port 1 = .ok (.aload_n 0, 1) := by decide +kernel
theorem dX4_port_2 : decode cX4_port 2 = .ok (.getfield 66, 3) := by decide +kernel
theorem dX4_port_5 : decode cX4_port 5 = .ok (.bipush 20, 2) := by decide +kernel
theorem dX4_port_7 : decode cX4_port 7 = .ok (.if_icmp .ne 7, 3) := by decide +kernel
theorem dX4_port_10 : decode cX4_port 10 = .ok (.iconst 1, 1) := by decide +kernel
theorem dX4_port_11 : decode cX4_port 11 = .ok (.goto 17, 3) := by decide +kernel
theorem dX4_port_14 : decode cX4_port 14 = .ok (.iload_n 1, 1) := by decide +kernel
theorem dX4_port_15 : decode cX4_port 15 = .ok (.ifCond .eq 12, 3) := by decide +kernel
theorem dX4_port_18 : decode cX4_port 18 = .ok (.iload_n 1, 1) := by decide +kernel
theorem dX4_port_19 : decode cX4_port 19 = .ok (.iconst 1, 1) := by decide +kernel
theorem dX4_port_20 : decode cX4_port 20 = .ok (.if_icmp .eq 7, 3) := by decide +kernel
theorem dX4_port_23 : decode cX4_port 23 = .ok (.iconst 2, 1) := by decide +kernel
theorem dX4_port_24 : decode cX4_port 24 = .ok (.goto 4, 3) := by decide +kernel
theorem dX4_port_27 : decode cX4_port 27 = .ok (.iconst 0, 1) := by decide +kernel
theorem dX4_port_28 : decode cX4_port 28 = .ok (.putfield 57, 3) := by decide +kernel
theorem dX4_port_31 : decode cX4_port 31 = .ok (.aload_n 0, 1) := by decide +kernel
theorem dX4_port_32 : decode cX4_port 32 = .ok (.getfield 57, 3) := by decide +kernel
theorem dX4_port_35 : decode cX4_port 35 = .ok (.ifCond .le 5, 3) := by decide +kernel
theorem dX4_port_38 : decode cX4_port 38 = .ok (.iconst 0, 1) := by decide +kernel
theorem dX4_port_39 : decode cX4_port 39 = .ok (.ireturn, 1) := by decide +kernel
theorem dX4_port_40 : decode cX4_port 40 = .ok (.aload_n 0, 1) := by decide +kernel
theorem dX4_port_41 : decode cX4_port 41 = .ok (.getfield 32, 3) := by decide +kernel
theorem dX4_port_44 : decode cX4_port 44 = .ok (.aload_n 0, 1) := by decide +kernel
theorem dX4_port_45 : decode cX4_port 45 = .ok (.getfield 66, 3) := by decide +kernel
theorem dX4_port_48 : decode cX4_port 48 = .ok (.iload_n 1, 1) := by decide +kernel
theorem dX4_port_49 : decode cX4_port 49 = .ok (.iastore, 1) := by decide +kernel
theorem dX4_port_50 : decode cX4_port 50 = .ok (.aload_n 0, 1) := by decide +kernel
theorem dX4_port_51 : decode cX4_port 51 = .ok (.dup, 1) := by decide +kernel
theorem dX4_port_52 : decode cX4_port 52 = .ok (.getfield 66, 3) := by decide +kernel
theorem dX4_port_55 : decode cX4_port 55 = .ok (.iconst 1, 1) := by decide +kernel
theorem dX4_port_56 : decode cX4_port 56 = .ok (.iadd, 1) := by decide +kernel
theorem dX4_port_57 : decode cX4_port 57 = .ok (.putfield 66, 3) := by decide +kernel
theorem dX4_port_60 : decode cX4_port 60 = .ok (.aload_n 0, 1) := by decide +kernel
theorem dX4_port_61 : decode cX4_port 61 = .ok (.getfield 66, 3) := by decide +kernel
theorem dX4_port_64 : decode cX4_port 64 = .ok (.iconst 1, 1) := by decide +kernel
theorem dX4_port_65 : decode cX4_port 65 = .ok (.isub, 1) := by decide +kernel
theorem dX4_port_66 : decode cX4_port 66 = .ok (.ireturn, 1) := by decide +kernel
set_option maxHeartbeats 4000000 in
set_option maxRecDepth 100000 in
theorem c_ScanRowsModel_move (l : Launch) (dC : Nat → ClassId) (dI : Nat → Nat → Nat) (q : Nat → Nat) (cI cZ : ClassId) (sz : Nat) (y : MS) (f t b : Nat) (hM : MB y) (h1 : f ≤ t) (h2 : t ≤ 32) : Met l yX4_move (.code yX4_move cX4_move 6 (some .int) :: ALLG) ({ frames := 0, cells := 0, slots := 0, locals := 0 }) (va_Pc [.ref (q 0), .int (nI f), .int (nI t), .int (nI b)] (cP (dC, dI) vwCl [(cI, .int), (cZ, .boolean)] (wM q cI cZ y) eT sz)) (va_Qi (fun (x : Int32) (u : MS) => x = nI (mvO y f t) ∧ u = y.s_vb (mvV y f t b)) (fun (u : MS) => cB (dC, dI) vwCl [(cI, .int), (cZ, .boolean)] (wM q cI cZ u) (va_A (wM q cI cZ y) sz)) (va_A (wM q cI cZ y) sz)) 0 0 (va_A (wM q cI cZ y) sz) := by
  refine xm_of (cc := cX4_move) (maxL := 6) (ret := some .int) (by decide) rfl (Nat.le_of_ble_eq_true rfl) ?_
  intro p e s m below meth c A hAe hx hb hr hml hts0 hown hlk hin hsz H locs hP hK hD hA hS hE ls hl
  have hts : ∀ w ∈ ALLG, w.before _ s = true := fun w h => hts0 w (List.mem_cons_of_mem _ h)
  rw [← hAe]
  have hM0 := hM
  have b_n : y.n ≤ 32 := hM.1.1
  have b_c : y.c ≤ 8 := hM.1.2.1
  have b_p : y.p ≤ y.n := hM.1.2.2.1
  have b_vb : ∀ z, y.vb z < 2 := hM.1.2.2.2.1
  have b_ck : ∀ z, y.ck z < 4 := hM.1.2.2.2.2.1
  have b_xx : ∀ z, -1000 ≤ y.xx z ∧ y.xx z ≤ 1000 := hM.1.2.2.2.2.2.1
  have b_yy : ∀ z, -1000 ≤ y.yy z ∧ y.yy z ≤ 1000 := hM.1.2.2.2.2.2.2.1
  have b_fl : ∀ z, y.fl z < 2 := hM.1.2.2.2.2.2.2.2.1
  have b_rw : ∀ z, y.rw z < 32 := hM.1.2.2.2.2.2.2.2.2.2.1
  have b_st : ∀ z, y.st z ≤ 32 := hM.1.2.2.2.2.2.2.2.2.2.2.2
  have hl : lv_has ls 6 [(0, .ref (q 0)), (1, .int (nI f)), (2, .int (nI t)), (3, .int (nI b))] := hl
  refine lv_iload_n hx hb dX4_move_0 rfl (lv_at hl 1 rfl) ?_
  refine lv_iload_n hx hb dX4_move_1 rfl (lv_at hl 2 rfl) ?_
  refine xn_cne (tgt := 7) hx hb (by omega) (by omega) dX4_move_2 (by decide) (fun c_1 => ?_) (fun c_1 => ?_)
  · have h0 : ¬ f = t := c_1
    refine lv_aload_n hx hb dX4_move_7 rfl (lv_at hl 0 rfl) ?_
    refine va_get (D := (dC, dI)) (ci := 4) (v := .ref (q 4)) (C := RX4) (T := TX4) (N := 23) hx hb hts inX4 hown hK hP 0 rfl rfl 5 (by decide) (hts _ tw_577) (fun _ h9 => h9) rfl dX4_move_8 ?_
    refine lv_aload_n hx hb dX4_move_11 rfl (lv_at hl 0 rfl) ?_
    refine va_get (D := (dC, dI)) (ci := 4) (v := .ref (q 6)) (C := RX4) (T := TX4) (N := 23) hx hb hts inX4 hown hK hP 0 rfl rfl 8 (by decide) (hts _ tw_580) (fun _ h9 => h9) rfl dX4_move_12 ?_
    refine lv_iload_n hx hb dX4_move_15 rfl (lv_at hl 2 rfl) ?_
    refine lv_iconst (v := nI 1) hx hb dX4_move_16 (by decide) ?_
    refine xn_sub hx hb (by omega) dX4_move_17 ?_
    refine xa_ild hx hb hK hP 6 0 rfl rfl (v := nI ((MS.rw y) (t - 1))) (by omega) (by decide) rfl dX4_move_18 ?_
    refine xa_ild hx hb hK hP 4 0 rfl rfl (v := nI ((MS.vb y) ((MS.rw y) (t - 1)))) (b_rw _) (by decide) rfl dX4_move_19 ?_
    refine lv_istore (lv' := [(4, .int (nI ((MS.vb y) ((MS.rw y) (t - 1))))), (0, .ref (q 0)), (1, .int (nI f)), (2, .int (nI t)), (3, .int (nI b))]) hx hb dX4_move_20 hl (by decide) rfl (fun ls hl => ?_)
    refine lv_iload_n hx hb dX4_move_22 rfl (lv_at hl 3 rfl) ?_
    refine lv_iconst (v := nI 1) hx hb dX4_move_23 (by decide) ?_
    refine xn_sub hx hb (by omega) dX4_move_24 ?_
    refine lv_istore (lv' := [(5, .int (nI (t - 1))), (4, .int (nI ((MS.vb y) ((MS.rw y) (t - 1))))), (0, .ref (q 0)), (1, .int (nI f)), (2, .int (nI t)), (3, .int (nI b))]) hx hb dX4_move_25 hl (by decide) rfl (fun ls hl => ?_)
    have L27 : ∀ (fuel : Nat) (pp : Nat) (g : Nat → Nat), (f ≤ pp) → (pp ≤ t - 1) → (g = mvL y t (t - 1 - pp)) → pp < fuel → ∀ (H : Heap) (locs : List Loc), va_P (dC, dI) vwCl (wM q cI cZ (MS.s_vb y g)) H → va_D A (wM q cI cZ (MS.s_vb y g)) → va_S A s.heap H locs → ∀ ls : Array Slot, lv_has ls 6 [(0, .ref (q 0)), (1, .int (nI f)), (3, .int (nI b)), (4, .int (nI (y.vb (y.rw (t - 1))))), (5, .int (nI pp))] → W p l e ({ frames := 0, cells := 0, slots := 0, locals := 0 } : Room) s m ([.ref (q 0), .int (nI f), .int (nI t), .int (nI b)] : List Value).toArray below meth c H locs 0 0 (MQ below (va_Qi (fun (x : Int32) (u : MS) => x = nI (mvO y f t) ∧ u = y.s_vb (mvV y f t b)) (fun (u : MS) => cB (dC, dI) vwCl [(cI, .int), (cZ, .boolean)] (wM q cI cZ u) (A)) (A)) ([.ref (q 0), .int (nI f), .int (nI t), .int (nI b)] : List Value).toArray s 0 0 A) (F0 m 27 ls []) := by
      intro fuel
      induction fuel with
      | zero => intro pp g p1 p2 e1 hm H locs hP hD hS ls hl; exact absurd hm (Nat.not_lt_zero _)
      | succ fuel ih27 =>
        intro pp g p1 p2 e1 hm H locs hP hD hS ls hl
        refine lv_iload hx hb dX4_move_27 (lv_at hl 4 rfl) ?_
        refine lv_iload_n hx hb dX4_move_29 rfl (lv_at hl 1 rfl) ?_
        refine xn_cle (tgt := 65) hx hb (by omega) (by omega) dX4_move_30 (by decide) (fun c_2 => ?_) (fun c_2 => ?_)
        · refine lv_aload_n hx hb dX4_move_65 rfl (lv_at hl 0 rfl) ?_
          refine va_get (D := (dC, dI)) (ci := 4) (v := .ref (q 4)) (C := RX4) (T := TX4) (N := 23) hx hb hts inX4 hown hK hP 0 rfl rfl 5 (by decide) (hts _ tw_577) (fun _ h9 => h9) rfl dX4_move_66 ?_
          refine lv_aload_n hx hb dX4_move_69 rfl (lv_at hl 0 rfl) ?_
          refine va_get (D := (dC, dI)) (ci := 4) (v := .ref (q 6)) (C := RX4) (T := TX4) (N := 23) hx hb hts inX4 hown hK hP 0 rfl rfl 8 (by decide) (hts _ tw_580) (fun _ h9 => h9) rfl dX4_move_70 ?_
          refine lv_iload_n hx hb dX4_move_73 rfl (lv_at hl 1 rfl) ?_
          refine xa_ild hx hb hK hP 6 0 rfl rfl (v := nI ((MS.rw y) f)) (by omega) (by decide) rfl dX4_move_74 ?_
          refine lv_iload_n hx hb dX4_move_75 rfl (lv_at hl 2 rfl) ?_
          refine xa_ist hx hb hK hP hD hS 4 0 rfl rfl (b_rw _) (by decide) (aN_up _ _ _) dX4_move_76 (fun H locs hP hD hS => ?_)
          have hP : va_P (dC, dI) vwCl (wM q cI cZ (MS.s_vb (MS.s_vb y g) (va_up g ((MS.rw y) f) b))) H := hP
          have hD : va_D A (wM q cI cZ (MS.s_vb (MS.s_vb y g) (va_up g ((MS.rw y) f) b))) := hD
          refine lv_iload hx hb dX4_move_77 (lv_at hl 3 rfl) ?_
          exact xr_i hx hb hr hlk (u := MS.s_vb (MS.s_vb y g) (va_up g ((MS.rw y) f) b)) (⟨by unfold mvO; rw [if_neg h0], by unfold mvV; rw [if_neg h0, e1, show t - 1 - pp = t - 1 - f by omega]⟩) hP hK hD hS dX4_move_79
        · refine lv_aload_n hx hb dX4_move_33 rfl (lv_at hl 0 rfl) ?_
          refine va_get (D := (dC, dI)) (ci := 4) (v := .ref (q 4)) (C := RX4) (T := TX4) (N := 23) hx hb hts inX4 hown hK hP 0 rfl rfl 5 (by decide) (hts _ tw_577) (fun _ h9 => h9) rfl dX4_move_34 ?_
          refine lv_aload_n hx hb dX4_move_37 rfl (lv_at hl 0 rfl) ?_
          refine va_get (D := (dC, dI)) (ci := 4) (v := .ref (q 6)) (C := RX4) (T := TX4) (N := 23) hx hb hts inX4 hown hK hP 0 rfl rfl 8 (by decide) (hts _ tw_580) (fun _ h9 => h9) rfl dX4_move_38 ?_
          refine lv_iload hx hb dX4_move_41 (lv_at hl 4 rfl) ?_
          refine xa_ild hx hb hK hP 6 0 rfl rfl (v := nI ((MS.rw y) pp)) (by omega) (by decide) rfl dX4_move_43 ?_
          refine lv_aload_n hx hb dX4_move_44 rfl (lv_at hl 0 rfl) ?_
          refine va_get (D := (dC, dI)) (ci := 4) (v := .ref (q 4)) (C := RX4) (T := TX4) (N := 23) hx hb hts inX4 hown hK hP 0 rfl rfl 5 (by decide) (hts _ tw_577) (fun _ h9 => h9) rfl dX4_move_45 ?_
          refine lv_aload_n hx hb dX4_move_48 rfl (lv_at hl 0 rfl) ?_
          refine va_get (D := (dC, dI)) (ci := 4) (v := .ref (q 6)) (C := RX4) (T := TX4) (N := 23) hx hb hts inX4 hown hK hP 0 rfl rfl 8 (by decide) (hts _ tw_580) (fun _ h9 => h9) rfl dX4_move_49 ?_
          refine lv_iload hx hb dX4_move_52 (lv_at hl 4 rfl) ?_
          refine lv_iconst (v := nI 1) hx hb dX4_move_54 (by decide) ?_
          refine xn_sub hx hb (by omega) dX4_move_55 ?_
          refine xa_ild hx hb hK hP 6 0 rfl rfl (v := nI ((MS.rw y) (pp - 1))) (by omega) (by decide) rfl dX4_move_56 ?_
          refine xa_ild hx hb hK hP 4 0 rfl rfl (v := nI (g ((MS.rw y) (pp - 1)))) (b_rw _) (by decide) rfl dX4_move_57 ?_
          refine xa_ist hx hb hK hP hD hS 4 0 rfl rfl (b_rw _) (by decide) (aN_up _ _ _) dX4_move_58 (fun H locs hP hD hS => ?_)
          have hP : va_P (dC, dI) vwCl (wM q cI cZ (MS.s_vb (MS.s_vb y g) (va_up g ((MS.rw y) pp) (g ((MS.rw y) (pp - 1)))))) H := hP
          have hD : va_D A (wM q cI cZ (MS.s_vb (MS.s_vb y g) (va_up g ((MS.rw y) pp) (g ((MS.rw y) (pp - 1)))))) := hD
          refine lv_iinc (v := nI (pp - 1)) (lv' := [(5, .int (nI (pp - 1))), (0, .ref (q 0)), (1, .int (nI f)), (3, .int (nI b)), (4, .int (nI (y.vb (y.rw (t - 1)))))]) hx hb dX4_move_59 hl (k := 4) rfl (sb_m1 (by omega)) (by decide) rfl (fun ls hl => ?_)
          refine lv_goto (tgt := 27) hx hb dX4_move_62 (by decide) ?_
          exact ih27 (pp - 1) (va_up g ((MS.rw y) pp) (g ((MS.rw y) (pp - 1)))) (by omega) (by omega) (by rw [show t - 1 - (pp - 1) = (t - 1 - pp) + 1 by omega]; unfold mvL; rw [show t - 1 - (t - 1 - pp) = pp by omega, ← e1]) (by omega) H locs hP hD hS ls (lv_sub hl [1, 2, 3, 4, 0] rfl)
    exact L27 ((t - 1) + 1) (t - 1) (MS.vb y) (by omega) (Nat.le_refl _) (by rw [Nat.sub_self]; rfl) (Nat.lt_succ_self _) H locs hP hD hS ls (lv_sub hl [2, 3, 5, 1, 0] rfl)
  · refine lv_iconst (v := nI 0) hx hb dX4_move_5 (by decide) ?_
    exact xr_i hx hb hr hlk (u := y) (⟨by unfold mvO; rw [if_pos (by assumption)], by unfold mvV; rw [if_pos (by assumption)]⟩) hP hK hD hS dX4_move_6
set_option maxHeartbeats 4000000 in
set_option maxRecDepth 100000 in
theorem c_ScanRowsModel_shift (l : Launch) (dC : Nat → ClassId) (dI : Nat → Nat → Nat) (q : Nat → Nat) (cI cZ : ClassId) (sz : Nat) (y : MS) (bits : Int32) (hM : MB y) (hmo : mono y) : Met l yX4_shift (.code yX4_shift cX4_shift 4 (some .int) :: ALLG) ({ frames := 1, cells := 0, slots := 0, locals := 25 }) (va_Pc [.ref (q 0), .int bits] (cP (dC, dI) vwCl [(cI, .int), (cZ, .boolean)] (wM q cI cZ y) eT sz)) (va_Qi (fun (x : Int32) (u : MS) => x = (msC y bits y.c).1 ∧ u = (y.s_th 0).s_vb (msC y bits y.c).2) (fun (u : MS) => cB (dC, dI) vwCl [(cI, .int), (cZ, .boolean)] (wM q cI cZ u) (va_A (wM q cI cZ y) sz)) (va_A (wM q cI cZ y) sz)) 0 0 (va_A (wM q cI cZ y) sz) := by
  refine xm_of (cc := cX4_shift) (maxL := 4) (ret := some .int) (by decide) rfl (Nat.le_of_ble_eq_true rfl) ?_
  intro p e s m below meth c A hAe hx hb hr hml hts0 hown hlk hin hsz H locs hP hK hD hA hS hE ls hl
  have hts : ∀ w ∈ ALLG, w.before _ s = true := fun w h => hts0 w (List.mem_cons_of_mem _ h)
  rw [← hAe]
  have hM0 := hM
  have b_n : y.n ≤ 32 := hM.1.1
  have b_c : y.c ≤ 8 := hM.1.2.1
  have b_p : y.p ≤ y.n := hM.1.2.2.1
  have b_vb : ∀ z, y.vb z < 2 := hM.1.2.2.2.1
  have b_ck : ∀ z, y.ck z < 4 := hM.1.2.2.2.2.1
  have b_xx : ∀ z, -1000 ≤ y.xx z ∧ y.xx z ≤ 1000 := hM.1.2.2.2.2.2.1
  have b_yy : ∀ z, -1000 ≤ y.yy z ∧ y.yy z ≤ 1000 := hM.1.2.2.2.2.2.2.1
  have b_fl : ∀ z, y.fl z < 2 := hM.1.2.2.2.2.2.2.2.1
  have b_rw : ∀ z, y.rw z < 32 := hM.1.2.2.2.2.2.2.2.2.2.1
  have b_st : ∀ z, y.st z ≤ 32 := hM.1.2.2.2.2.2.2.2.2.2.2.2
  have hl : lv_has ls 4 [(0, .ref (q 0)), (1, .int bits)] := hl
  refine lv_aload_n hx hb dX4_shift_0 rfl (lv_at hl 0 rfl) ?_
  refine lv_iconst (v := nI 0) hx hb dX4_shift_1 (by decide) ?_
  refine va_put (D := (dC, dI)) (ci := 4) (v := .int (nI 0)) (ty := .int) (C := RX4) (T := TX4) (N := 23) hx hb hts inX4 tyX4 tyX4_ok nmX4 hown hK hP hD hS 0 rfl rfl 0 (by decide) (hts _ tw_572) (fun _ h9 => h9) rfl (by decide +kernel) rfl rfl (Nat.le_of_ble_eq_true rfl) dX4_shift_2 (fun H locs hP hD hS => ?_)
  have hP : va_P (dC, dI) vwCl (wM q cI cZ (MS.s_th y 0)) H := hP
  have hD : va_D A (wM q cI cZ (MS.s_th y 0)) := hD
  refine lv_iconst (v := nI 0) hx hb dX4_shift_5 (by decide) ?_
  refine lv_istore_n (lv' := [(2, .int (nI 0)), (0, .ref (q 0)), (1, .int bits)]) hx hb dX4_shift_6 rfl hl (by decide) rfl (fun ls hl => ?_)
  refine lv_iconst (v := nI 0) hx hb dX4_shift_7 (by decide) ?_
  refine lv_istore_n (lv' := [(3, .int (nI 0)), (2, .int (nI 0)), (0, .ref (q 0)), (1, .int bits)]) hx hb dX4_shift_8 rfl hl (by decide) rfl (fun ls hl => ?_)
  have L9 : ∀ (fuel : Nat) (i : Nat), (i ≤ y.c) → y.c - i < fuel → ∀ (H : Heap) (locs : List Loc), va_P (dC, dI) vwCl (wM q cI cZ (MS.s_vb (MS.s_th y 0) (msC y bits i).2)) H → va_D A (wM q cI cZ (MS.s_vb (MS.s_th y 0) (msC y bits i).2)) → va_S A s.heap H locs → ∀ ls : Array Slot, lv_has ls 4 [(0, .ref (q 0)), (1, .int bits), (2, .int ((msC y bits i).1)), (3, .int (nI i))] → W p l e ({ frames := 1, cells := 0, slots := 0, locals := 25 } : Room) s m ([.ref (q 0), .int bits] : List Value).toArray below meth c H locs 0 0 (MQ below (va_Qi (fun (x : Int32) (u : MS) => x = (msC y bits y.c).1 ∧ u = (y.s_th 0).s_vb (msC y bits y.c).2) (fun (u : MS) => cB (dC, dI) vwCl [(cI, .int), (cZ, .boolean)] (wM q cI cZ u) (A)) (A)) ([.ref (q 0), .int bits] : List Value).toArray s 0 0 A) (F0 m 9 ls []) := by
    intro fuel
    induction fuel with
    | zero => intro i i1 hm H locs hP hD hS ls hl; exact absurd hm (Nat.not_lt_zero _)
    | succ fuel ih9 =>
      intro i i1 hm H locs hP hD hS ls hl
      refine lv_iload_n hx hb dX4_shift_9 rfl (lv_at hl 3 rfl) ?_
      refine lv_aload_n hx hb dX4_shift_10 rfl (lv_at hl 0 rfl) ?_
      refine va_get (D := (dC, dI)) (ci := 4) (v := .int (nI (MS.c y))) (C := RX4) (T := TX4) (N := 23) hx hb hts inX4 hown hK hP 0 rfl rfl 11 (by decide) (hts _ tw_583) (fun _ h9 => h9) rfl dX4_shift_11 ?_
      refine xn_cge (tgt := 51) hx hb (by omega) (by omega) dX4_shift_14 (by decide) (fun c_1 => ?_) (fun c_1 => ?_)
      · refine lv_iload_n hx hb dX4_shift_51 rfl (lv_at hl 2 rfl) ?_
        exact xr_i hx hb hr hlk (u := MS.s_vb (MS.s_th y 0) (msC y bits i).2) (⟨by rw [show y.c = i by omega], by rw [show y.c = i by omega]⟩) hP hK hD hS dX4_shift_52
      · refine lv_iload_n hx hb dX4_shift_17 rfl (lv_at hl 2 rfl) ?_
        refine lv_aload_n hx hb dX4_shift_18 rfl (lv_at hl 0 rfl) ?_
        refine lv_aload_n hx hb dX4_shift_19 rfl (lv_at hl 0 rfl) ?_
        refine va_get (D := (dC, dI)) (ci := 4) (v := .ref (q 7)) (C := RX4) (T := TX4) (N := 23) hx hb hts inX4 hown hK hP 0 rfl rfl 10 (by decide) (hts _ tw_582) (fun _ h9 => h9) rfl dX4_shift_20 ?_
        refine lv_iload_n hx hb dX4_shift_23 rfl (lv_at hl 3 rfl) ?_
        refine xa_ild hx hb hK hP 7 0 rfl rfl (v := nI ((MS.st y) i)) (by omega) (by decide) rfl dX4_shift_24 ?_
        refine lv_aload_n hx hb dX4_shift_25 rfl (lv_at hl 0 rfl) ?_
        refine va_get (D := (dC, dI)) (ci := 4) (v := .ref (q 7)) (C := RX4) (T := TX4) (N := 23) hx hb hts inX4 hown hK hP 0 rfl rfl 10 (by decide) (hts _ tw_582) (fun _ h9 => h9) rfl dX4_shift_26 ?_
        refine lv_iload_n hx hb dX4_shift_29 rfl (lv_at hl 3 rfl) ?_
        refine lv_iconst (v := nI 1) hx hb dX4_shift_30 (by decide) ?_
        refine xn_add hx hb dX4_shift_31 ?_
        refine xa_ild hx hb hK hP 7 0 rfl rfl (v := nI ((MS.st y) (i + 1))) (by omega) (by decide) rfl dX4_shift_32 ?_
        refine lv_iload_n hx hb dX4_shift_33 rfl (lv_at hl 1 rfl) ?_
        refine lv_iload_n hx hb dX4_shift_34 rfl (lv_at hl 3 rfl) ?_
        refine lv_ishr hx hb dX4_shift_35 ?_
        refine lv_iconst (v := nI 1) hx hb dX4_shift_36 (by decide) ?_
        refine lv_iand hx hb dX4_shift_37 ?_
        refine xt_i (show ((bits >>> ((nI i) &&& 31)) &&& (nI 1)) = nI (sbit bits i) from sbit_and _ _) ?_
        refine xc_Vi (As := [.int (nI ((MS.st y) i)), .int (nI ((MS.st y) (i + 1))), .int (nI (sbit bits i))]) (wr := []) ⟨hx, hb, hml, hown, hts⟩ (c_ScanRowsModel_move l dC dI q cI cZ H.size (MS.s_vb (MS.s_th y 0) (msC y bits i).2) ((MS.st y) i) ((MS.st y) (i + 1)) (sbit bits i) (MB_vb hM0 (msC_lt b_vb bits i)) (hmo i (by omega)) (b_st _)) (cwV 3 hts (gV tw_723 tw_725 sw_32 tw_5 tw_726) rfl rfl rfl (by decide +kernel) ⟨Nat.le_of_ble_eq_true rfl, Nat.le_of_ble_eq_true rfl⟩) rfl hl.1 rfl (Nat.le_of_ble_eq_true rfl) dX4_shift_38 ⟨Nat.zero_le _, Nat.zero_le _⟩ hP hD hK hS hA [0, 1, 2, 3, 4, 5, 6, 7, 8, 9, 10, 11, 12, 13] [] rfl rfl (by decide) (by decide) (by decide) [0, 1] rfl (q0 := 0) rfl rfl rfl eT_M (trivial) (fun r_2 u_3 H locs w_4 hP hD hS => ?_)
        rw [show mvV (MS.s_vb (MS.s_th y 0) (msC y bits i).2) ((MS.st y) i) ((MS.st y) (i + 1)) (sbit bits i) = mvV (MS.s_vb y (msC y bits i).2) ((MS.st y) i) ((MS.st y) (i + 1)) (sbit bits i) from mvV_th (MS.s_vb y (msC y bits i).2) 0 _ _ _] at w_4
        obtain ⟨rfl, rfl⟩ := w_4
        have hP : va_P (dC, dI) vwCl (wM q cI cZ (MS.s_vb (MS.s_th y 0) (mvV (MS.s_vb y (msC y bits i).2) ((MS.st y) i) ((MS.st y) (i + 1)) (sbit bits i)))) H := hP
        have hD : va_D A (wM q cI cZ (MS.s_vb (MS.s_th y 0) (mvV (MS.s_vb y (msC y bits i).2) ((MS.st y) i) ((MS.st y) (i + 1)) (sbit bits i)))) := hD
        refine lv_iload_n hx hb dX4_shift_41 rfl (lv_at hl 3 rfl) ?_
        refine lv_ishl hx hb dX4_shift_42 ?_
        refine lv_ior hx hb dX4_shift_43 ?_
        refine lv_istore_n (lv' := [(2, .int (((msC y bits i).1) ||| ((nI (mvO (MS.s_vb (MS.s_th y 0) (msC y bits i).2) ((MS.st y) i) ((MS.st y) (i + 1)))) <<< ((nI i) &&& 31)))), (0, .ref (q 0)), (1, .int bits), (3, .int (nI i))]) hx hb dX4_shift_44 rfl hl (by decide) rfl (fun ls hl => ?_)
        refine lv_iinc (v := nI (i + 1)) (lv' := [(3, .int (nI (i + 1))), (2, .int (((msC y bits i).1) ||| ((nI (mvO (MS.s_vb (MS.s_th y 0) (msC y bits i).2) ((MS.st y) i) ((MS.st y) (i + 1)))) <<< ((nI i) &&& 31)))), (0, .ref (q 0)), (1, .int bits)]) hx hb dX4_shift_45 hl (k := 3) rfl (nI_1 _) (by decide) rfl (fun ls hl => ?_)
        refine lv_goto (tgt := 9) hx hb dX4_shift_48 (by decide) ?_
        exact ih9 (i + 1) (by omega) (by omega) H locs hP hD hS ls (lv_sub hl [2, 3, 1, 0] rfl)
  exact L9 ((y.c - 0) + 1) 0 (by omega) (Nat.lt_succ_self _) H locs hP hD hS ls (lv_sub hl [2, 3, 1, 0] rfl)
set_option maxHeartbeats 4000000 in
set_option maxRecDepth 100000 in
theorem c_ScanRowsModel_port (l : Launch) (dC : Nat → ClassId) (dI : Nat → Nat → Nat) (q : Nat → Nat) (cI cZ : ClassId) (sz : Nat) (y : MS) (kd : Nat) (h1 : y.cn < 20) (h2 : kd < 2) : Met l yX4_port (.code yX4_port cX4_port 2 (some .int) :: ALLG) ({ frames := 0, cells := 0, slots := 0, locals := 0 }) (va_Pc [.ref (q 0), .int (nI kd)] (cP (dC, dI) vwCl [(cI, .int), (cZ, .boolean)] (wM q cI cZ y) eT sz)) (va_Qi (fun (x : Int32) (u : MS) => x = nI y.cn ∧ u = ((y.s_th 0).s_ki (va_up y.ki y.cn kd)).s_cn (y.cn + 1)) (fun (u : MS) => cB (dC, dI) vwCl [(cI, .int), (cZ, .boolean)] (wM q cI cZ u) (va_A (wM q cI cZ y) sz)) (va_A (wM q cI cZ y) sz)) 0 0 (va_A (wM q cI cZ y) sz) := by
  refine xm_of (cc := cX4_port) (maxL := 2) (ret := some .int) (by decide) rfl (Nat.le_of_ble_eq_true rfl) ?_
  intro p e s m below meth c A hAe hx hb hr hml hts0 hown hlk hin hsz H locs hP hK hD hA hS hE ls hl
  have hts : ∀ w ∈ ALLG, w.before _ s = true := fun w h => hts0 w (List.mem_cons_of_mem _ h)
  rw [← hAe]
  have hl : lv_has ls 2 [(0, .ref (q 0)), (1, .int (nI kd))] := hl
  refine lv_aload_n hx hb dX4_port_0 rfl (lv_at hl 0 rfl) ?_
  refine lv_aload_n hx hb dX4_port_1 rfl (lv_at hl 0 rfl) ?_
  refine va_get (D := (dC, dI)) (ci := 4) (v := .int (nI (MS.cn y))) (C := RX4) (T := TX4) (N := 23) hx hb hts inX4 hown hK hP 0 rfl rfl 16 (by decide) (hts _ tw_588) (fun _ h9 => h9) rfl dX4_port_2 ?_
  refine lv_bipush (v := nI 20) hx hb dX4_port_5 (by decide) ?_
  refine xn_cne (tgt := 14) hx hb (by omega) (by omega) dX4_port_7 (by decide) (fun c_1 => ?_) (fun c_1 => ?_)
  · refine lv_iload_n hx hb dX4_port_14 rfl (lv_at hl 1 rfl) ?_
    refine xn_zeq (tgt := 27) hx hb (by omega) dX4_port_15 (by decide) (fun c_2 => ?_) (fun c_2 => ?_)
    · refine lv_iconst (v := nI 0) hx hb dX4_port_27 (by decide) ?_
      refine va_put (D := (dC, dI)) (ci := 4) (v := .int (nI 0)) (ty := .int) (C := RX4) (T := TX4) (N := 23) hx hb hts inX4 tyX4 tyX4_ok nmX4 hown hK hP hD hS 0 rfl rfl 0 (by decide) (hts _ tw_572) (fun _ h9 => h9) rfl (by decide +kernel) rfl rfl (Nat.le_of_ble_eq_true rfl) dX4_port_28 (fun H locs hP hD hS => ?_)
      have hP : va_P (dC, dI) vwCl (wM q cI cZ (MS.s_th y 0)) H := hP
      have hD : va_D A (wM q cI cZ (MS.s_th y 0)) := hD
      refine lv_aload_n hx hb dX4_port_31 rfl (lv_at hl 0 rfl) ?_
      refine va_get (D := (dC, dI)) (ci := 4) (v := .int (nI 0)) (C := RX4) (T := TX4) (N := 23) hx hb hts inX4 hown hK hP 0 rfl rfl 0 (by decide) (hts _ tw_572) (fun _ h9 => h9) rfl dX4_port_32 ?_
      refine xn_zle (tgt := 40) hx hb (by omega) dX4_port_35 (by decide) (fun c_3 => ?_) (fun c_3 => ?_)
      · refine lv_aload_n hx hb dX4_port_40 rfl (lv_at hl 0 rfl) ?_
        refine va_get (D := (dC, dI)) (ci := 4) (v := .ref (q 8)) (C := RX4) (T := TX4) (N := 23) hx hb hts inX4 hown hK hP 0 rfl rfl 12 (by decide) (hts _ tw_584) (fun _ h9 => h9) rfl dX4_port_41 ?_
        refine lv_aload_n hx hb dX4_port_44 rfl (lv_at hl 0 rfl) ?_
        refine va_get (D := (dC, dI)) (ci := 4) (v := .int (nI (MS.cn y))) (C := RX4) (T := TX4) (N := 23) hx hb hts inX4 hown hK hP 0 rfl rfl 16 (by decide) (hts _ tw_588) (fun _ h9 => h9) rfl dX4_port_45 ?_
        refine lv_iload_n hx hb dX4_port_48 rfl (lv_at hl 1 rfl) ?_
        refine xa_ist hx hb hK hP hD hS 8 0 rfl rfl (by omega) (by decide) (aN_up _ _ _) dX4_port_49 (fun H locs hP hD hS => ?_)
        have hP : va_P (dC, dI) vwCl (wM q cI cZ (MS.s_ki (MS.s_th y 0) (va_up (MS.ki y) (MS.cn y) kd))) H := hP
        have hD : va_D A (wM q cI cZ (MS.s_ki (MS.s_th y 0) (va_up (MS.ki y) (MS.cn y) kd))) := hD
        refine lv_aload_n hx hb dX4_port_50 rfl (lv_at hl 0 rfl) ?_
        refine lv_dup hx hb dX4_port_51 rfl ?_
        refine va_get (D := (dC, dI)) (ci := 4) (v := .int (nI (MS.cn y))) (C := RX4) (T := TX4) (N := 23) hx hb hts inX4 hown hK hP 0 rfl rfl 16 (by decide) (hts _ tw_588) (fun _ h9 => h9) rfl dX4_port_52 ?_
        refine lv_iconst (v := nI 1) hx hb dX4_port_55 (by decide) ?_
        refine xn_add hx hb dX4_port_56 ?_
        refine va_put (D := (dC, dI)) (ci := 4) (v := .int (nI ((MS.cn y) + 1))) (ty := .int) (C := RX4) (T := TX4) (N := 23) hx hb hts inX4 tyX4 tyX4_ok nmX4 hown hK hP hD hS 0 rfl rfl 16 (by decide) (hts _ tw_588) (fun _ h9 => h9) rfl (by decide +kernel) rfl rfl (Nat.le_of_ble_eq_true rfl) dX4_port_57 (fun H locs hP hD hS => ?_)
        have hP : va_P (dC, dI) vwCl (wM q cI cZ (MS.s_cn (MS.s_ki (MS.s_th y 0) (va_up (MS.ki y) (MS.cn y) kd)) ((MS.cn y) + 1))) H := hP
        have hD : va_D A (wM q cI cZ (MS.s_cn (MS.s_ki (MS.s_th y 0) (va_up (MS.ki y) (MS.cn y) kd)) ((MS.cn y) + 1))) := hD
        refine lv_aload_n hx hb dX4_port_60 rfl (lv_at hl 0 rfl) ?_
        refine va_get (D := (dC, dI)) (ci := 4) (v := .int (nI ((MS.cn y) + 1))) (C := RX4) (T := TX4) (N := 23) hx hb hts inX4 hown hK hP 0 rfl rfl 16 (by decide) (hts _ tw_588) (fun _ h9 => h9) rfl dX4_port_61 ?_
        refine lv_iconst (v := nI 1) hx hb dX4_port_64 (by decide) ?_
        refine xn_sub hx hb (by omega) dX4_port_65 ?_
        exact xr_i hx hb hr hlk (u := MS.s_cn (MS.s_ki (MS.s_th y 0) (va_up (MS.ki y) (MS.cn y) kd)) ((MS.cn y) + 1)) (⟨by rw [Nat.add_sub_cancel], rfl⟩) hP hK hD hS dX4_port_66
      · exact absurd (show False by omega) id
    · refine lv_iload_n hx hb dX4_port_18 rfl (lv_at hl 1 rfl) ?_
      refine lv_iconst (v := nI 1) hx hb dX4_port_19 (by decide) ?_
      refine xn_ceq (tgt := 27) hx hb (by omega) (by omega) dX4_port_20 (by decide) (fun c_4 => ?_) (fun c_4 => ?_)
      · refine lv_iconst (v := nI 0) hx hb dX4_port_27 (by decide) ?_
        refine va_put (D := (dC, dI)) (ci := 4) (v := .int (nI 0)) (ty := .int) (C := RX4) (T := TX4) (N := 23) hx hb hts inX4 tyX4 tyX4_ok nmX4 hown hK hP hD hS 0 rfl rfl 0 (by decide) (hts _ tw_572) (fun _ h9 => h9) rfl (by decide +kernel) rfl rfl (Nat.le_of_ble_eq_true rfl) dX4_port_28 (fun H locs hP hD hS => ?_)
        have hP : va_P (dC, dI) vwCl (wM q cI cZ (MS.s_th y 0)) H := hP
        have hD : va_D A (wM q cI cZ (MS.s_th y 0)) := hD
        refine lv_aload_n hx hb dX4_port_31 rfl (lv_at hl 0 rfl) ?_
        refine va_get (D := (dC, dI)) (ci := 4) (v := .int (nI 0)) (C := RX4) (T := TX4) (N := 23) hx hb hts inX4 hown hK hP 0 rfl rfl 0 (by decide) (hts _ tw_572) (fun _ h9 => h9) rfl dX4_port_32 ?_
        refine xn_zle (tgt := 40) hx hb (by omega) dX4_port_35 (by decide) (fun c_5 => ?_) (fun c_5 => ?_)
        · refine lv_aload_n hx hb dX4_port_40 rfl (lv_at hl 0 rfl) ?_
          refine va_get (D := (dC, dI)) (ci := 4) (v := .ref (q 8)) (C := RX4) (T := TX4) (N := 23) hx hb hts inX4 hown hK hP 0 rfl rfl 12 (by decide) (hts _ tw_584) (fun _ h9 => h9) rfl dX4_port_41 ?_
          refine lv_aload_n hx hb dX4_port_44 rfl (lv_at hl 0 rfl) ?_
          refine va_get (D := (dC, dI)) (ci := 4) (v := .int (nI (MS.cn y))) (C := RX4) (T := TX4) (N := 23) hx hb hts inX4 hown hK hP 0 rfl rfl 16 (by decide) (hts _ tw_588) (fun _ h9 => h9) rfl dX4_port_45 ?_
          refine lv_iload_n hx hb dX4_port_48 rfl (lv_at hl 1 rfl) ?_
          refine xa_ist hx hb hK hP hD hS 8 0 rfl rfl (by omega) (by decide) (aN_up _ _ _) dX4_port_49 (fun H locs hP hD hS => ?_)
          have hP : va_P (dC, dI) vwCl (wM q cI cZ (MS.s_ki (MS.s_th y 0) (va_up (MS.ki y) (MS.cn y) kd))) H := hP
          have hD : va_D A (wM q cI cZ (MS.s_ki (MS.s_th y 0) (va_up (MS.ki y) (MS.cn y) kd))) := hD
          refine lv_aload_n hx hb dX4_port_50 rfl (lv_at hl 0 rfl) ?_
          refine lv_dup hx hb dX4_port_51 rfl ?_
          refine va_get (D := (dC, dI)) (ci := 4) (v := .int (nI (MS.cn y))) (C := RX4) (T := TX4) (N := 23) hx hb hts inX4 hown hK hP 0 rfl rfl 16 (by decide) (hts _ tw_588) (fun _ h9 => h9) rfl dX4_port_52 ?_
          refine lv_iconst (v := nI 1) hx hb dX4_port_55 (by decide) ?_
          refine xn_add hx hb dX4_port_56 ?_
          refine va_put (D := (dC, dI)) (ci := 4) (v := .int (nI ((MS.cn y) + 1))) (ty := .int) (C := RX4) (T := TX4) (N := 23) hx hb hts inX4 tyX4 tyX4_ok nmX4 hown hK hP hD hS 0 rfl rfl 16 (by decide) (hts _ tw_588) (fun _ h9 => h9) rfl (by decide +kernel) rfl rfl (Nat.le_of_ble_eq_true rfl) dX4_port_57 (fun H locs hP hD hS => ?_)
          have hP : va_P (dC, dI) vwCl (wM q cI cZ (MS.s_cn (MS.s_ki (MS.s_th y 0) (va_up (MS.ki y) (MS.cn y) kd)) ((MS.cn y) + 1))) H := hP
          have hD : va_D A (wM q cI cZ (MS.s_cn (MS.s_ki (MS.s_th y 0) (va_up (MS.ki y) (MS.cn y) kd)) ((MS.cn y) + 1))) := hD
          refine lv_aload_n hx hb dX4_port_60 rfl (lv_at hl 0 rfl) ?_
          refine va_get (D := (dC, dI)) (ci := 4) (v := .int (nI ((MS.cn y) + 1))) (C := RX4) (T := TX4) (N := 23) hx hb hts inX4 hown hK hP 0 rfl rfl 16 (by decide) (hts _ tw_588) (fun _ h9 => h9) rfl dX4_port_61 ?_
          refine lv_iconst (v := nI 1) hx hb dX4_port_64 (by decide) ?_
          refine xn_sub hx hb (by omega) dX4_port_65 ?_
          exact xr_i hx hb hr hlk (u := MS.s_cn (MS.s_ki (MS.s_th y 0) (va_up (MS.ki y) (MS.cn y) kd)) ((MS.cn y) + 1)) (⟨by rw [Nat.add_sub_cancel], rfl⟩) hP hK hD hS dX4_port_66
        · exact absurd (show False by omega) id
      · exact absurd (show False by omega) id
  · exact absurd (show False by omega) id
set_option maxHeartbeats 4000000 in
set_option maxRecDepth 100000 in
theorem c_M_port1 (l : Launch) (dC : Nat → ClassId) (dI : Nat → Nat → Nat) (q : Nat → Nat) (cI cZ : ClassId) (sz : Nat) (y : MS) (v : Int32) (h1 : y.cn = 20) : Met l yX4_port (.code yX4_port cX4_port 2 (some .int) :: ALLG) ({ frames := 0, cells := 0, slots := 0, locals := 0 }) (va_Pc [.ref (q 0), .int v] (cP (dC, dI) vwCl [(cI, .int), (cZ, .boolean)] (wM q cI cZ y) eT sz)) (va_Qi (fun (x : Int32) (u : MS) => x = nI 0 ∧ u = y.s_th 1) (fun (u : MS) => cB (dC, dI) vwCl [(cI, .int), (cZ, .boolean)] (wM q cI cZ u) (va_A (wM q cI cZ y) sz)) (va_A (wM q cI cZ y) sz)) 0 0 (va_A (wM q cI cZ y) sz) := by
  refine xm_of (cc := cX4_port) (maxL := 2) (ret := some .int) (by decide) rfl (Nat.le_of_ble_eq_true rfl) ?_
  intro p e s m below meth c A hAe hx hb hr hml hts0 hown hlk hin hsz H locs hP hK hD hA hS hE ls hl
  have hts : ∀ w ∈ ALLG, w.before _ s = true := fun w h => hts0 w (List.mem_cons_of_mem _ h)
  rw [← hAe]
  have hl : lv_has ls 2 [(0, .ref (q 0)), (1, .int v)] := hl
  refine lv_aload_n hx hb dX4_port_0 rfl (lv_at hl 0 rfl) ?_
  refine lv_aload_n hx hb dX4_port_1 rfl (lv_at hl 0 rfl) ?_
  refine va_get (D := (dC, dI)) (ci := 4) (v := .int (nI (MS.cn y))) (C := RX4) (T := TX4) (N := 23) hx hb hts inX4 hown hK hP 0 rfl rfl 16 (by decide) (hts _ tw_588) (fun _ h9 => h9) rfl dX4_port_2 ?_
  refine lv_bipush (v := nI 20) hx hb dX4_port_5 (by decide) ?_
  refine xn_cne (tgt := 14) hx hb (by omega) (by omega) dX4_port_7 (by decide) (fun c_1 => ?_) (fun c_1 => ?_)
  · exact absurd (show False by omega) id
  · refine lv_iconst (v := nI 1) hx hb dX4_port_10 (by decide) ?_
    refine lv_goto (tgt := 28) hx hb dX4_port_11 (by decide) ?_
    refine va_put (D := (dC, dI)) (ci := 4) (v := .int (nI 1)) (ty := .int) (C := RX4) (T := TX4) (N := 23) hx hb hts inX4 tyX4 tyX4_ok nmX4 hown hK hP hD hS 0 rfl rfl 0 (by decide) (hts _ tw_572) (fun _ h9 => h9) rfl (by decide +kernel) rfl rfl (Nat.le_of_ble_eq_true rfl) dX4_port_28 (fun H locs hP hD hS => ?_)
    have hP : va_P (dC, dI) vwCl (wM q cI cZ (MS.s_th y 1)) H := hP
    have hD : va_D A (wM q cI cZ (MS.s_th y 1)) := hD
    refine lv_aload_n hx hb dX4_port_31 rfl (lv_at hl 0 rfl) ?_
    refine va_get (D := (dC, dI)) (ci := 4) (v := .int (nI 1)) (C := RX4) (T := TX4) (N := 23) hx hb hts inX4 hown hK hP 0 rfl rfl 0 (by decide) (hts _ tw_572) (fun _ h9 => h9) rfl dX4_port_32 ?_
    refine xn_zle (tgt := 40) hx hb (by omega) dX4_port_35 (by decide) (fun c_2 => ?_) (fun c_2 => ?_)
    · exact absurd (show False by omega) id
    · refine lv_iconst (v := nI 0) hx hb dX4_port_38 (by decide) ?_
      exact xr_i hx hb hr hlk (u := MS.s_th y 1) (⟨rfl, rfl⟩) hP hK hD hS dX4_port_39
set_option maxHeartbeats 4000000 in
set_option maxRecDepth 100000 in
theorem c_M_port2 (l : Launch) (dC : Nat → ClassId) (dI : Nat → Nat → Nat) (q : Nat → Nat) (cI cZ : ClassId) (sz : Nat) (y : MS) (v : Int32) (h1 : y.cn < 20) (h2 : ¬ v = 0 ∧ ¬ v = nI 1) : Met l yX4_port (.code yX4_port cX4_port 2 (some .int) :: ALLG) ({ frames := 0, cells := 0, slots := 0, locals := 0 }) (va_Pc [.ref (q 0), .int v] (cP (dC, dI) vwCl [(cI, .int), (cZ, .boolean)] (wM q cI cZ y) eT sz)) (va_Qi (fun (x : Int32) (u : MS) => x = nI 0 ∧ u = y.s_th 2) (fun (u : MS) => cB (dC, dI) vwCl [(cI, .int), (cZ, .boolean)] (wM q cI cZ u) (va_A (wM q cI cZ y) sz)) (va_A (wM q cI cZ y) sz)) 0 0 (va_A (wM q cI cZ y) sz) := by
  refine xm_of (cc := cX4_port) (maxL := 2) (ret := some .int) (by decide) rfl (Nat.le_of_ble_eq_true rfl) ?_
  intro p e s m below meth c A hAe hx hb hr hml hts0 hown hlk hin hsz H locs hP hK hD hA hS hE ls hl
  have hts : ∀ w ∈ ALLG, w.before _ s = true := fun w h => hts0 w (List.mem_cons_of_mem _ h)
  rw [← hAe]
  have hl : lv_has ls 2 [(0, .ref (q 0)), (1, .int v)] := hl
  refine lv_aload_n hx hb dX4_port_0 rfl (lv_at hl 0 rfl) ?_
  refine lv_aload_n hx hb dX4_port_1 rfl (lv_at hl 0 rfl) ?_
  refine va_get (D := (dC, dI)) (ci := 4) (v := .int (nI (MS.cn y))) (C := RX4) (T := TX4) (N := 23) hx hb hts inX4 hown hK hP 0 rfl rfl 16 (by decide) (hts _ tw_588) (fun _ h9 => h9) rfl dX4_port_2 ?_
  refine lv_bipush (v := nI 20) hx hb dX4_port_5 (by decide) ?_
  refine xn_cne (tgt := 14) hx hb (by omega) (by omega) dX4_port_7 (by decide) (fun c_1 => ?_) (fun c_1 => ?_)
  · refine lv_iload_n hx hb dX4_port_14 rfl (lv_at hl 1 rfl) ?_
    refine lv_if_eq (tgt := 27) hx hb dX4_port_15 (by decide) (fun c_2 => ?_) (fun c_2 => ?_)
    · exact absurd c_2 h2.1
    · refine lv_iload_n hx hb dX4_port_18 rfl (lv_at hl 1 rfl) ?_
      refine lv_iconst (v := nI 1) hx hb dX4_port_19 (by decide) ?_
      refine lv_icmp_eq (tgt := 27) hx hb dX4_port_20 (by decide) (fun c_3 => ?_) (fun c_3 => ?_)
      · exact absurd c_3 h2.2
      · refine lv_iconst (v := nI 2) hx hb dX4_port_23 (by decide) ?_
        refine lv_goto (tgt := 28) hx hb dX4_port_24 (by decide) ?_
        refine va_put (D := (dC, dI)) (ci := 4) (v := .int (nI 2)) (ty := .int) (C := RX4) (T := TX4) (N := 23) hx hb hts inX4 tyX4 tyX4_ok nmX4 hown hK hP hD hS 0 rfl rfl 0 (by decide) (hts _ tw_572) (fun _ h9 => h9) rfl (by decide +kernel) rfl rfl (Nat.le_of_ble_eq_true rfl) dX4_port_28 (fun H locs hP hD hS => ?_)
        have hP : va_P (dC, dI) vwCl (wM q cI cZ (MS.s_th y 2)) H := hP
        have hD : va_D A (wM q cI cZ (MS.s_th y 2)) := hD
        refine lv_aload_n hx hb dX4_port_31 rfl (lv_at hl 0 rfl) ?_
        refine va_get (D := (dC, dI)) (ci := 4) (v := .int (nI 2)) (C := RX4) (T := TX4) (N := 23) hx hb hts inX4 hown hK hP 0 rfl rfl 0 (by decide) (hts _ tw_572) (fun _ h9 => h9) rfl dX4_port_32 ?_
        refine xn_zle (tgt := 40) hx hb (by omega) dX4_port_35 (by decide) (fun c_4 => ?_) (fun c_4 => ?_)
        · exact absurd (show False by omega) id
        · refine lv_iconst (v := nI 0) hx hb dX4_port_38 (by decide) ?_
          exact xr_i hx hb hr hlk (u := MS.s_th y 2) (⟨rfl, rfl⟩) hP hK hD hS dX4_port_39
  · exact absurd (show False by omega) id
