theorem sw_28 : Cond.selects "ScanRowsModel" (⟨"ScanRowsModel", "step", "()Z"⟩ : MethodName) (⟨"ScanRowsModel", "step", "()Z"⟩ : MethodName) ∈ ALLG := al_s (i := 28) (by decide +kernel) (by decide +kernel)
theorem sw_31 : Cond.selects "ScanRowsModel" (⟨"ScanRowsModel", "isLatch", "(I)Z"⟩ : MethodName) (⟨"ScanRowsModel", "isLatch", "(I)Z"⟩ : MethodName) ∈ ALLG := al_s (i := 31) (by decide +kernel) (by decide +kernel)
theorem tw_577 : (Cond.fieldLink "ScanRowsModel" (19 : Nat) "ScanRowsModel" "values" "[I") ∈ ALLG := al_t (i := 577) (by decide +kernel) (by decide +kernel)
theorem tw_578 : (Cond.fieldLink "ScanRowsModel" (22 : Nat) "ScanRowsModel" "sets" "[Z") ∈ ALLG := al_t (i := 578) (by decide +kernel) (by decide +kernel)
theorem tw_687 : (Cond.methodLink "ScanRowsModel" (99 : Nat) ({ cls := "ScanRowsModel", name := "step", desc := "()Z" } : Jvm.MethodName)) ∈ ALLG := al_t (i := 687) (by decide +kernel) (by decide +kernel)
theorem tw_689 : (Cond.instanceMethod ({ cls := "ScanRowsModel", name := "step", desc := "()Z" } : Jvm.MethodName)) ∈ ALLG := al_t (i := 689) (by decide +kernel) (by decide +kernel)
theorem tw_690 : (Cond.code ({ cls := "ScanRowsModel", name := "step", desc := "()Z" } : Jvm.MethodName) prog_6_method_16_code (6 : Nat) (Option.some FieldType.boolean)) ∈ ALLG := al_t (i := 690) (by decide +kernel) (by decide +kernel)
theorem tw_707 : (Cond.methodLink "ScanRowsModel" (103 : Nat) ({ cls := "ScanRowsModel", name := "isLatch", desc := "(I)Z" } : Jvm.MethodName)) ∈ ALLG := al_t (i := 707) (by decide +kernel) (by decide +kernel)
theorem tw_709 : (Cond.instanceMethod ({ cls := "ScanRowsModel", name := "isLatch", desc := "(I)Z" } : Jvm.MethodName)) ∈ ALLG := al_t (i := 709) (by decide +kernel) (by decide +kernel)
theorem tw_710 : (Cond.code ({ cls := "ScanRowsModel", name := "isLatch", desc := "(I)Z" } : Jvm.MethodName) prog_6_method_3_code (2 : Nat) (Option.some FieldType.boolean)) ∈ ALLG := al_t (i := 710) (by decide +kernel) (by decide +kernel)
theorem dX4_improve_0 : decode cX4_improve 0 = .ok (.aload_n 0, 1) := by decide +kernel
theorem dX4_improve_1 : decode cX4_improve 1 = .ok (.iload_n 1, 1) := by decide +kernel
theorem dX4_improve_2 : decode cX4_improve 2 = .ok (.ifCond .ge 7, 3) := by decide +kernel
theorem dX4_improve_5 : decode cX4_improve 5 = .ok (.iconst 1, 1) := by decide +kernel
theorem dX4_improve_6 : decode cX4_improve 6 = .ok (.goto 4, 3) := by decide +kernel
theorem dX4_improve_9 : decode cX4_improve 9 = .ok (.iconst 0, 1) := by decide +kernel
theorem dX4_improve_10 : decode cX4_improve 10 = .ok (.putfield 57, 3) := by decide +kernel
theorem dX4_improve_13 : decode cX4_improve 13 = .ok (.iconst 0, 1) := by decide +kernel
theorem dX4_improve_14 : decode cX4_improve 14 = .ok (.istore_n 2, 1) := by decide +kernel
theorem dX4_improve_15 : decode cX4_improve 15 = .ok (.aload_n 0, 1) := by decide +kernel
theorem dX4_improve_16 : decode cX4_improve 16 = .ok (.getfield 57, 3) := by decide +kernel
theorem dX4_improve_19 : decode cX4_improve 19 = .ok (.ifCond .ne 7, 3) := by decide +kernel
theorem dX4_improve_22 : decode cX4_improve 22 = .ok (.iconst 1, 1) := by decide +kernel
theorem dX4_improve_23 : decode cX4_improve 23 = .ok (.goto 4, 3) := by decide +kernel
theorem dX4_improve_26 : decode cX4_improve 26 = .ok (.iconst 0, 1) := by decide +kernel
theorem dX4_improve_27 : decode cX4_improve 27 = .ok (.istore_n 3, 1) := by decide +kernel
theorem dX4_improve_28 : decode cX4_improve 28 = .ok (.iload_n 3, 1) := by decide +kernel
theorem dX4_improve_29 : decode cX4_improve 29 = .ok (.ifCond .eq 28, 3) := by decide +kernel
theorem dX4_improve_32 : decode cX4_improve 32 = .ok (.iload_n 2, 1) := by decide +kernel
theorem dX4_improve_33 : decode cX4_improve 33 = .ok (.iload_n 1, 1) := by decide +kernel
theorem dX4_improve_34 : decode cX4_improve 34 = .ok (.if_icmp .ge 23, 3) := by decide +kernel
theorem dX4_improve_37 : decode cX4_improve 37 = .ok (.aload_n 0, 1) := by decide +kernel
theorem dX4_improve_38 : decode cX4_improve 38 = .ok (.invokevirtual 99, 3) := by decide +kernel
theorem dX4_improve_41 : decode cX4_improve 41 = .ok (.istore_n 3, 1) := by decide +kernel
theorem dX4_improve_42 : decode cX4_improve 42 = .ok (.iload_n 3, 1) := by decide +kernel
theorem dX4_improve_43 : decode cX4_improve 43 = .ok (.ifCond .eq 9, 3) := by decide +kernel
theorem dX4_improve_46 : decode cX4_improve 46 = .ok (.iload_n 2, 1) := by decide +kernel
theorem dX4_improve_47 : decode cX4_improve 47 = .ok (.iconst 1, 1) := by decide +kernel
theorem dX4_improve_48 : decode cX4_improve 48 = .ok (.iadd, 1) := by decide +kernel
theorem dX4_improve_49 : decode cX4_improve 49 = .ok (.goto 4, 3) := by decide +kernel
theorem dX4_improve_52 : decode cX4_improve 52 = .ok (.iload_n 2, 1) := by decide +kernel
theorem dX4_improve_53 : decode cX4_improve 53 = .ok (.istore_n 2, 1) := by decide +kernel
theorem dX4_improve_54 : decode cX4_improve 54 = .ok (.goto (-26), 3) := by decide +kernel
theorem dX4_improve_57 : decode cX4_improve 57 = .ok (.iload_n 2, 1) := by decide +kernel
theorem dX4_improve_58 : decode cX4_improve 58 = .ok (.ireturn, 1) := by decide +kernel
theorem dX4_rule_0 : decode cX4_rule 0 = .ok (.aload_n 0, 1) := by decide +kernel
theorem dX4_rule_1 : decode cX4_rule 1 = .ok (.iload_n 1, 1) := by decide +kernel
theorem dX4_rule_2 : decode cX4_rule 2 = .ok (.ifCond .lt 12, 3) := by decide +kernel
theorem dX4_rule_5 : decode cX4_rule 5 = .ok (.iload_n 2, 1) := by decide +kernel
theorem dX4_rule_6 : decode cX4_rule 6 = .ok (.ifCond .lt 8, 3) := by decide +kernel
theorem dX4_rule_9 : decode cX4_rule 9 = .ok (.iload_n 2, 1) := by decide +kernel
theorem dX4_rule_10 : decode cX4_rule 10 = .ok (.iconst 1, 1) := by decide +kernel
theorem dX4_rule_11 : decode cX4_rule 11 = .ok (.if_icmp .le 7, 3) := by decide +kernel
theorem dX4_rule_14 : decode cX4_rule 14 = .ok (.iconst 1, 1) := by decide +kernel
theorem dX4_rule_15 : decode cX4_rule 15 = .ok (.goto 4, 3) := by decide +kernel
theorem dX4_rule_18 : decode cX4_rule 18 = .ok (.iconst 0, 1) := by decide +kernel
theorem dX4_rule_19 : decode cX4_rule 19 = .ok (.putfield 57, 3) := by decide +kernel
theorem dX4_rule_22 : decode cX4_rule 22 = .ok (.iload_n 1, 1) := by decide +kernel
theorem dX4_rule_23 : decode cX4_rule 23 = .ok (.istore_n 3, 1) := by decide +kernel
theorem dX4_rule_24 : decode cX4_rule 24 = .ok (.iconst 0, 1) := by decide +kernel
theorem dX4_rule_25 : decode cX4_rule 25 = .ok (.istore 4, 2) := by decide +kernel
theorem dX4_rule_27 : decode cX4_rule 27 = .ok (.iload 4, 2) := by decide +kernel
theorem dX4_rule_29 : decode cX4_rule 29 = .ok (.aload_n 0, 1) := by decide +kernel
theorem dX4_rule_30 : decode cX4_rule 30 = .ok (.getfield 60, 3) := by decide +kernel
theorem dX4_rule_33 : decode cX4_rule 33 = .ok (.if_icmp .ge 97, 3) := by decide +kernel
theorem dX4_rule_36 : decode cX4_rule 36 = .ok (.aload_n 0, 1) := by decide +kernel
theorem dX4_rule_37 : decode cX4_rule 37 = .ok (.getfield 57, 3) := by decide +kernel
theorem dX4_rule_40 : decode cX4_rule 40 = .ok (.ifCond .ne 90, 3) := by decide +kernel
theorem dX4_rule_43 : decode cX4_rule 43 = .ok (.iconst 0, 1) := by decide +kernel
theorem dX4_rule_44 : decode cX4_rule 44 = .ok (.istore 5, 2) := by decide +kernel
theorem dX4_rule_46 : decode cX4_rule 46 = .ok (.iload 5, 2) := by decide +kernel
theorem dX4_rule_48 : decode cX4_rule 48 = .ok (.iconst 2, 1) := by decide +kernel
theorem dX4_rule_49 : decode cX4_rule 49 = .ok (.if_icmp .ge 75, 3) := by decide +kernel
theorem dX4_rule_52 : decode cX4_rule 52 = .ok (.iload 5, 2) := by decide +kernel
theorem dX4_rule_54 : decode cX4_rule 54 = .ok (.ifCond .ne 13, 3) := by decide +kernel
theorem dX4_rule_57 : decode cX4_rule 57 = .ok (.aload_n 0, 1) := by decide +kernel
theorem dX4_rule_58 : decode cX4_rule 58 = .ok (.getfield 22, 3) := by decide +kernel
theorem dX4_rule_61 : decode cX4_rule 61 = .ok (.iload 4, 2) := by decide +kernel
theorem dX4_rule_63 : decode cX4_rule 63 = .ok (.baload, 1) := by decide +kernel
theorem dX4_rule_64 : decode cX4_rule 64 = .ok (.goto 18, 3) := by decide +kernel
theorem dX4_rule_67 : decode cX4_rule 67 = .ok (.aload_n 0, 1) := by decide +kernel
theorem dX4_rule_68 : decode cX4_rule 68 = .ok (.iload 4, 2) := by decide +kernel
theorem dX4_rule_70 : decode cX4_rule 70 = .ok (.invokevirtual 92, 3) := by decide +kernel
theorem dX4_rule_73 : decode cX4_rule 73 = .ok (.iconst (-1), 1) := by decide +kernel
theorem dX4_rule_74 : decode cX4_rule 74 = .ok (.if_icmp .ne 7, 3) := by decide +kernel
theorem dX4_rule_77 : decode cX4_rule 77 = .ok (.iconst 1, 1) := by decide +kernel
theorem dX4_rule_78 : decode cX4_rule 78 = .ok (.goto 4, 3) := by decide +kernel
theorem dX4_rule_81 : decode cX4_rule 81 = .ok (.iconst 0, 1) := by decide +kernel
theorem dX4_rule_82 : decode cX4_rule 82 = .ok (.istore 6, 2) := by decide +kernel
theorem dX4_rule_84 : decode cX4_rule 84 = .ok (.iload 6, 2) := by decide +kernel
theorem dX4_rule_86 : decode cX4_rule 86 = .ok (.ifCond .eq 19, 3) := by decide +kernel
theorem dX4_rule_89 : decode cX4_rule 89 = .ok (.iload_n 3, 1) := by decide +kernel
theorem dX4_rule_90 : decode cX4_rule 90 = .ok (.ifCond .ne 15, 3) := by decide +kernel
theorem dX4_rule_93 : decode cX4_rule 93 = .ok (.iload_n 2, 1) := by decide +kernel
theorem dX4_rule_94 : decode cX4_rule 94 = .ok (.ifCond .ne 8, 3) := by decide +kernel
theorem dX4_rule_97 : decode cX4_rule 97 = .ok (.iload 5, 2) := by decide +kernel
theorem dX4_rule_99 : decode cX4_rule 99 = .ok (.goto 5, 3) := by decide +kernel
theorem dX4_rule_102 : decode cX4_rule 102 = .ok (.iload 4, 2) := by decide +kernel
theorem dX4_rule_104 : decode cX4_rule 104 = .ok (.ireturn, 1) := by decide +kernel
theorem dX4_rule_105 : decode cX4_rule 105 = .ok (.iload 6, 2) := by decide +kernel
theorem dX4_rule_107 : decode cX4_rule 107 = .ok (.ifCond .eq 9, 3) := by decide +kernel
theorem dX4_rule_110 : decode cX4_rule 110 = .ok (.iload_n 3, 1) := by decide +kernel
theorem dX4_rule_111 : decode cX4_rule 111 = .ok (.iconst 1, 1) := by decide +kernel
theorem dX4_rule_112 : decode cX4_rule 112 = .ok (.isub, 1) := by decide +kernel
theorem dX4_rule_113 : decode cX4_rule 113 = .ok (.goto 4, 3) := by decide +kernel
theorem dX4_rule_116 : decode cX4_rule 116 = .ok (.iload_n 3, 1) := by decide +kernel
theorem dX4_rule_117 : decode cX4_rule 117 = .ok (.istore_n 3, 1) := by decide +kernel
theorem dX4_rule_118 : decode cX4_rule 118 = .ok (.iinc 5 1, 3) := by decide +kernel
theorem dX4_rule_121 : decode cX4_rule 121 = .ok (.goto (-75), 3) := by decide +kernel
theorem dX4_rule_124 : decode cX4_rule 124 = .ok (.iinc 4 1, 3) := by decide +kernel
theorem dX4_rule_127 : decode cX4_rule 127 = .ok (.goto (-100), 3) := by decide +kernel
theorem dX4_rule_130 : decode cX4_rule 130 = .ok (.aload_n 0, 1) := by decide +kernel
theorem dX4_rule_131 : decode cX4_rule 131 = .ok (.getfield 57, 3) := by decide +kernel
theorem dX4_rule_134 : decode cX4_rule 134 = .ok (.ifCond .le 7, 3) := by decide +kernel
theorem dX4_rule_137 : decode cX4_rule 137 = .ok (.iconst 0, 1) := by decide +kernel
theorem dX4_rule_138 : decode cX4_rule 138 = .ok (.goto 4, 3) := by decide +kernel
theorem dX4_rule_141 : decode cX4_rule 141 = .ok (.iconst (-1), 1) := by decide +kernel
theorem dX4_rule_142 : decode cX4_rule 142 = .ok (.ireturn, 1) := by decide +kernel
theorem dX4_set_0 : decode cX4_set 0 = .ok (.aload_n 0, 1) := by decide +kernel
theorem dX4_set_1 : decode cX4_set 1 = .ok (.aload_n 0, 1) := by decide +kernel
theorem dX4_set_2 : decode cX4_set 2 = .ok (.iload_n 1, 1) := by decide +kernel
theorem dX4_set_3 : decode cX4_set 3 = .ok (.invokevirtual 103, 3) := by decide +kernel
theorem dX4_set_6 : decode cX4_set 6 = .ok (.ifCond .eq 7, 3) := by decide +kernel
theorem dX4_set_9 : decode cX4_set 9 = .ok (.iconst 0, 1) := by decide +kernel
theorem dX4_set_10 : decode cX4_set 10 = .ok (.goto 4, 3) := by decide +kernel
theorem dX4_set_13 : decode cX4_set 13 = .ok (.iconst 1, 1) := by decide +kernel
theorem dX4_set_14 : decode cX4_set 14 = .ok (.putfield 57, 3) := by decide +kernel
theorem dX4_set_17 : decode cX4_set 17 = .ok (.aload_n 0, 1) := by decide +kernel
theorem dX4_set_18 : decode cX4_set 18 = .ok (.getfield 57, 3) := by decide +kernel
theorem dX4_set_21 : decode cX4_set 21 = .ok (.ifCond .le 5, 3) := by decide +kernel
theorem dX4_set_24 : decode cX4_set 24 = .ok (.iconst 0, 1) := by decide +kernel
theorem dX4_set_25 : decode cX4_set 25 = .ok (.ireturn, 1) := by decide +kernel
theorem dX4_set_26 : decode cX4_set 26 = .ok (.aload_n 0, 1) := by decide +kernel
theorem dX4_set_27 : decode cX4_set 27 = .ok (.getfield 22, 3) := by decide +kernel
theorem dX4_set_30 : decode cX4_set 30 = .ok (.iload_n 1, 1) := by decide +kernel
theorem dX4_set_31 : decode cX4_set 31 = .ok (.baload, 1) := by decide +kernel
theorem dX4_set_32 : decode cX4_set 32 = .ok (.iload_n 2, 1) := by decide +kernel
theorem dX4_set_33 : decode cX4_set 33 = .ok (.if_icmp .eq 7, 3) := by decide +kernel
theorem dX4_set_36 : decode cX4_set 36 = .ok (.iconst 1, 1) := by decide +kernel
theorem dX4_set_37 : decode cX4_set 37 = .ok (.goto 4, 3) := by decide +kernel
theorem dX4_set_40 : decode cX4_set 40 = .ok (.iconst 0, 1) := by decide +kernel
theorem dX4_set_41 : decode cX4_set 41 = .ok (.istore_n 3, 1) := by decide +kernel
theorem dX4_set_42 : decode cX4_set 42 = .ok (.aload_n 0, 1) := by decide +kernel
theorem dX4_set_43 : decode cX4_set 43 = .ok (.getfield 22, 3) := by decide +kernel
theorem dX4_set_46 : decode cX4_set 46 = .ok (.iload_n 1, 1) := by decide +kernel
theorem dX4_set_47 : decode cX4_set 47 = .ok (.iload_n 2, 1) := by decide +kernel
theorem dX4_set_48 : decode cX4_set 48 = .ok (.bastore, 1) := by decide +kernel
theorem dX4_set_49 : decode cX4_set 49 = .ok (.iload_n 3, 1) := by decide +kernel
theorem dX4_set_50 : decode cX4_set 50 = .ok (.ireturn, 1) := by decide +kernel
theorem dX4_load_0 : decode cX4_load 0 = .ok (.aload_n 0, 1) := by decide +kernel
theorem dX4_load_1 : decode cX4_load 1 = .ok (.aload_n 0, 1) := by decide +kernel
theorem dX4_load_2 : decode cX4_load 2 = .ok (.iload_n 1, 1) := by decide +kernel
theorem dX4_load_3 : decode cX4_load 3 = .ok (.invokevirtual 103, 3) := by decide +kernel
theorem dX4_load_6 : decode cX4_load 6 = .ok (.ifCond .eq 7, 3) := by decide +kernel
theorem dX4_load_9 : decode cX4_load 9 = .ok (.iconst 0, 1) := by decide +kernel
theorem dX4_load_10 : decode cX4_load 10 = .ok (.goto 4, 3) := by decide +kernel
theorem dX4_load_13 : decode cX4_load 13 = .ok (.iconst 1, 1) := by decide +kernel
theorem dX4_load_14 : decode cX4_load 14 = .ok (.putfield 57, 3) := by decide +kernel
theorem dX4_load_17 : decode cX4_load 17 = .ok (.aload_n 0, 1) := by decide +kernel
theorem dX4_load_18 : decode cX4_load 18 = .ok (.getfield 57, 3) := by decide +kernel
theorem dX4_load_21 : decode cX4_load 21 = .ok (.ifCond .ne 18, 3) := by decide +kernel
theorem dX4_load_24 : decode cX4_load 24 = .ok (.aload_n 0, 1) := by decide +kernel
theorem dX4_load_25 : decode cX4_load 25 = .ok (.getfield 19, 3) := by decide +kernel
theorem dX4_load_28 : decode cX4_load 28 = .ok (.iload_n 1, 1) := by decide +kernel
theorem dX4_load_29 : decode cX4_load 29 = .ok (.iload_n 2, 1) := by decide +kernel
theorem dX4_load_30 : decode cX4_load 30 = .ok (.ifCond .ne 7, 3) := by decide +kernel
theorem dX4_load_33 : decode cX4_load 33 = .ok (.iconst 0, 1) := by decide +kernel
theorem dX4_load_34 : decode cX4_load 34 = .ok (.goto 4, 3) := by decide +kernel
theorem dX4_load_37 : decode cX4_load 37 = .ok (.iconst 1, 1) := by decide +kernel
theorem dX4_load_38 : decode cX4_load 38 = .ok (.iastore, 1) := by decide +kernel
theorem dX4_load_39 : decode cX4_load 39 = .ok (.return_, 1) := by decide +kernel
theorem dX4_value_0 : decode cX4_value 0 = .ok (.aload_n 0, 1) := by decide +kernel
theorem dX4_value_1 : decode cX4_value 1 = .ok (.aload_n 0, 1) := by decide +kernel
theorem dX4_value_2 : decode cX4_value 2 = .ok (.iload_n 1, 1) := by decide +kernel
theorem dX4_value_3 : decode cX4_value 3 = .ok (.invokevirtual 103, 3) := by decide +kernel
theorem dX4_value_6 : decode cX4_value 6 = .ok (.ifCond .eq 7, 3) := by decide +kernel
theorem dX4_value_9 : decode cX4_value 9 = .ok (.iconst 0, 1) := by decide +kernel
theorem dX4_value_10 : decode cX4_value 10 = .ok (.goto 4, 3) := by decide +kernel
theorem dX4_value_13 : decode cX4_value 13 = .ok (.iconst 1, 1) := by decide +kernel
theorem dX4_value_14 : decode cX4_value 14 = .ok (.putfield 57, 3) := by decide +kernel
theorem dX4_value_17 : decode cX4_value 17 = .ok (.aload_n 0, 1) := by decide +kernel
theorem dX4_value_18 : decode cX4_value 18 = .ok (.getfield 57, 3) := by decide +kernel
theorem dX4_value_21 : decode cX4_value 21 = .ok (.ifCond .le 7, 3) := by decide +kernel
theorem dX4_value_24 : decode cX4_value 24 = .ok (.iconst 0, 1) := by decide +kernel
theorem dX4_value_25 : decode cX4_value 25 = .ok (.goto 9, 3) := by decide +kernel
theorem dX4_value_28 : decode cX4_value 28 = .ok (.aload_n 0, 1) := by decide +kernel
theorem dX4_value_29 : decode cX4_value 29 = .ok (.getfield 19, 3) := by decide +kernel
theorem dX4_value_32 : decode cX4_value 32 = .ok (.iload_n 1, 1) := by decide +kernel
theorem dX4_value_33 : decode cX4_value 33 = .ok (.iaload, 1) := by decide +kernel
theorem dX4_value_34 : decode cX4_value 34 = .ok (.ireturn, 1) := by decide +kernel
set_option maxHeartbeats 4000000 in
set_option maxRecDepth 100000 in
theorem c_ScanRowsModel_improve (l : Launch) (dC : Nat → ClassId) (dI : Nat → Nat → Nat) (q : Nat → Nat) (cI cZ : ClassId) (sz : Nat) (y : MS) (n0 : Nat) (hM : MB y) (hmo : mono y) (h1 : n0 < 2 ^ 31) : Met l yX4_improve (.code yX4_improve cX4_improve 4 (some .int) :: ALLG) ({ frames := 3, cells := 0, slots := 0, locals := 68 }) (va_Pc [.ref (q 0), .int (nI n0)] (cP (dC, dI) vwCl [(cI, .int), (cZ, .boolean)] (wM q cI cZ y) eT sz)) (va_Qi (fun (x : Int32) (u : MS) => ∃ kq, kq ≤ n0 ∧ x = nI kq ∧ mImpR n0 (y.s_th 0) kq u) (fun (u : MS) => cB (dC, dI) vwCl [(cI, .int), (cZ, .boolean)] (wM q cI cZ u) (va_A (wM q cI cZ y) sz)) (va_A (wM q cI cZ y) sz)) 0 0 (va_A (wM q cI cZ y) sz) := by
  refine xm_of (cc := cX4_improve) (maxL := 4) (ret := some .int) (by decide) rfl (Nat.le_of_ble_eq_true rfl) ?_
  intro p e s m below meth c A hAe hx hb hr hml hts0 hown hlk hin hsz H locs hP hK hD hA hS hE ls hl
  have hts : ∀ w ∈ ALLG, w.before _ s = true := fun w h => hts0 w (List.mem_cons_of_mem _ h)
  rw [← hAe]
  have hl : lv_has ls 4 [(0, .ref (q 0)), (1, .int (nI n0))] := hl
  refine lv_aload_n hx hb dX4_improve_0 rfl (lv_at hl 0 rfl) ?_
  refine lv_iload_n hx hb dX4_improve_1 rfl (lv_at hl 1 rfl) ?_
  refine xn_zge (tgt := 9) hx hb (by omega) dX4_improve_2 (by decide) ?_
  refine lv_iconst (v := nI 0) hx hb dX4_improve_9 (by decide) ?_
  refine va_put (D := (dC, dI)) (ci := 4) (v := .int (nI 0)) (ty := .int) (C := RX4) (T := TX4) (N := 23) hx hb hts inX4 tyX4 tyX4_ok nmX4 hown hK hP hD hS 0 rfl rfl 0 (by decide) (hts _ tw_572) (fun _ h9 => h9) rfl (by decide +kernel) rfl rfl (Nat.le_of_ble_eq_true rfl) dX4_improve_10 (fun H locs hP hD hS => ?_)
  have hP : va_P (dC, dI) vwCl (wM q cI cZ (MS.s_th y 0)) H := hP
  have hD : va_D A (wM q cI cZ (MS.s_th y 0)) := hD
  refine lv_iconst (v := nI 0) hx hb dX4_improve_13 (by decide) ?_
  refine lv_istore_n (lv' := [(2, .int (nI 0)), (0, .ref (q 0)), (1, .int (nI n0))]) hx hb dX4_improve_14 rfl hl (by decide) rfl (fun ls hl => ?_)
  refine lv_aload_n hx hb dX4_improve_15 rfl (lv_at hl 1 rfl) ?_
  refine va_get (D := (dC, dI)) (ci := 4) (v := .int (nI 0)) (C := RX4) (T := TX4) (N := 23) hx hb hts inX4 hown hK hP 0 rfl rfl 0 (by decide) (hts _ tw_572) (fun _ h9 => h9) rfl dX4_improve_16 ?_
  refine xn_zne (tgt := 26) hx hb (by omega) dX4_improve_19 (by decide) (fun c_2 => ?_) (fun c_2 => ?_)
  · exact absurd (show False by omega) id
  · refine lv_iconst (v := nI 1) hx hb dX4_improve_22 (by decide) ?_
    refine lv_goto (tgt := 27) hx hb dX4_improve_23 (by decide) ?_
    refine lv_istore_n (lv' := [(3, .int (nI 1)), (2, .int (nI 0)), (0, .ref (q 0)), (1, .int (nI n0))]) hx hb dX4_improve_27 rfl hl (by decide) rfl (fun ls hl => ?_)
    have L28 : ∀ (fuel : Nat) (i : Nat) (mo : Nat) (v : MS), (i ≤ n0) → (mo < 2) → (MB v) → (mono v) → (∀ k u, mImpR (n0 - i) v k u → mImpR n0 (y.s_th 0) (i + k) u) → (mo = 0 → mImpR n0 (y.s_th 0) i v) → 2 * (n0 - i) + mo < fuel → ∀ (H : Heap) (locs : List Loc), va_P (dC, dI) vwCl (wM q cI cZ v) H → va_D A (wM q cI cZ v) → va_S A s.heap H locs → ∀ ls : Array Slot, lv_has ls 4 [(0, .ref (q 0)), (1, .int (nI n0)), (2, .int (nI i)), (3, .int (nI mo))] → W p l e ({ frames := 3, cells := 0, slots := 0, locals := 68 } : Room) s m ([.ref (q 0), .int (nI n0)] : List Value).toArray below meth c H locs 0 0 (MQ below (va_Qi (fun (x : Int32) (u : MS) => ∃ kq, kq ≤ n0 ∧ x = nI kq ∧ mImpR n0 (y.s_th 0) kq u) (fun (u : MS) => cB (dC, dI) vwCl [(cI, .int), (cZ, .boolean)] (wM q cI cZ u) (A)) (A)) ([.ref (q 0), .int (nI n0)] : List Value).toArray s 0 0 A) (F0 m 28 ls []) := by
      intro fuel
      induction fuel with
      | zero => intro i mo v i1 m1 hv1 hv2 o1 o2 hm H locs hP hD hS ls hl; exact absurd hm (Nat.not_lt_zero _)
      | succ fuel ih28 =>
        intro i mo v i1 m1 hv1 hv2 o1 o2 hm H locs hP hD hS ls hl
        refine lv_iload_n hx hb dX4_improve_28 rfl (lv_at hl 3 rfl) ?_
        refine xn_zeq (tgt := 57) hx hb (by omega) dX4_improve_29 (by decide) (fun c_3 => ?_) (fun c_3 => ?_)
        · refine lv_iload_n hx hb dX4_improve_57 rfl (lv_at hl 2 rfl) ?_
          exact xr_i hx hb hr hlk (u := v) (⟨i, i1, rfl, (o2 (by omega))⟩) hP hK hD hS dX4_improve_58
        · refine lv_iload_n hx hb dX4_improve_32 rfl (lv_at hl 2 rfl) ?_
          refine lv_iload_n hx hb dX4_improve_33 rfl (lv_at hl 1 rfl) ?_
          refine xn_cge (tgt := 57) hx hb (by omega) (by omega) dX4_improve_34 (by decide) (fun c_4 => ?_) (fun c_4 => ?_)
          · refine lv_iload_n hx hb dX4_improve_57 rfl (lv_at hl 2 rfl) ?_
            exact xr_i hx hb hr hlk (u := v) (⟨i, i1, rfl, by have h8 := o1 0 v (by rw [show n0 - i = 0 by omega]; exact ⟨rfl, rfl⟩); rw [Nat.add_zero] at h8; exact h8⟩) hP hK hD hS dX4_improve_58
          · refine lv_aload_n hx hb dX4_improve_37 rfl (lv_at hl 0 rfl) ?_
            refine xc_Vi (As := []) (wr := []) ⟨hx, hb, hml, hown, hts⟩ (c_ScanRowsModel_step l dC dI q cI cZ H.size v hv1 hv2) (cwV 0 hts (gV tw_687 tw_689 sw_28 tw_5 tw_690) rfl rfl rfl (by decide +kernel) ⟨Nat.le_of_ble_eq_true rfl, Nat.le_of_ble_eq_true rfl⟩) rfl hl.1 rfl (Nat.le_of_ble_eq_true rfl) dX4_improve_38 ⟨Nat.zero_le _, Nat.zero_le _⟩ hP hD hK hS hA [0, 1, 2, 3, 4, 5, 6, 7, 8, 9, 10, 11, 12, 13] [] rfl rfl (by decide) (by decide) (by decide) [0, 1] rfl (q0 := 0) rfl rfl rfl eT_M (trivial) (fun r_5 u_6 H locs w_7 hP hD hS => ?_)
            have hP : va_P (dC, dI) vwCl (wM q cI cZ u_6) H := hP
            have hD : va_D A (wM q cI cZ u_6) := hD
            rcases w_7 with ⟨rfl, h9⟩ | ⟨rfl, e8, h9⟩
            · skip
              refine lv_istore_n (lv' := [(3, .int (nI 1)), (0, .ref (q 0)), (1, .int (nI n0)), (2, .int (nI i))]) hx hb dX4_improve_41 rfl hl (by decide) rfl (fun ls hl => ?_)
              refine lv_iload_n hx hb dX4_improve_42 rfl (lv_at hl 0 rfl) ?_
              refine xn_zeq (tgt := 52) hx hb (by omega) dX4_improve_43 (by decide) (fun c_8 => ?_) (fun c_8 => ?_)
              · exact absurd (show False by omega) id
              · have ok9 := mStepR_ok hv1 h9
                refine lv_iload_n hx hb dX4_improve_46 rfl (lv_at hl 3 rfl) ?_
                refine lv_iconst (v := nI 1) hx hb dX4_improve_47 (by decide) ?_
                refine xn_add hx hb dX4_improve_48 ?_
                refine lv_goto (tgt := 53) hx hb dX4_improve_49 (by decide) ?_
                refine lv_istore_n (lv' := [(2, .int (nI (i + 1))), (3, .int (nI 1)), (0, .ref (q 0)), (1, .int (nI n0))]) hx hb dX4_improve_53 rfl hl (by decide) rfl (fun ls hl => ?_)
                refine lv_goto (tgt := 28) hx hb dX4_improve_54 (by decide) ?_
                exact ih28 (i + 1) 1 u_6 (by omega) (by decide) ok9.1 (fun z hz => by rw [ok9.2.2.2.1]; exact hv2 z (by rw [← ok9.2.2.1]; exact hz)) (fun k u z => by rw [show i + 1 + k = i + (k + 1) by omega]; exact o1 _ _ (by rw [show n0 - i = (n0 - (i + 1)) + 1 by omega]; exact Or.inr ⟨_, _, h9, z, rfl⟩)) (fun z => absurd z (by decide)) (by omega) H locs hP hD hS ls (lv_sub hl [2, 3, 0, 1] rfl)
            · skip
              rw [e8] at hP hD
              refine lv_istore_n (lv' := [(3, .int (nI 0)), (0, .ref (q 0)), (1, .int (nI n0)), (2, .int (nI i))]) hx hb dX4_improve_41 rfl hl (by decide) rfl (fun ls hl => ?_)
              refine lv_iload_n hx hb dX4_improve_42 rfl (lv_at hl 0 rfl) ?_
              refine xn_zeq (tgt := 52) hx hb (by omega) dX4_improve_43 (by decide) (fun c_9 => ?_) (fun c_9 => ?_)
              · refine lv_iload_n hx hb dX4_improve_52 rfl (lv_at hl 3 rfl) ?_
                refine lv_istore_n (lv' := [(2, .int (nI i)), (3, .int (nI 0)), (0, .ref (q 0)), (1, .int (nI n0))]) hx hb dX4_improve_53 rfl hl (by decide) rfl (fun ls hl => ?_)
                refine lv_goto (tgt := 28) hx hb dX4_improve_54 (by decide) ?_
                exact ih28 i 0 v i1 (by decide) hv1 hv2 o1 (fun _ => by have h8 := o1 0 v (mImpR_no h9); rw [Nat.add_zero] at h8; exact h8) (by omega) H locs hP hD hS ls (lv_sub hl [2, 3, 0, 1] rfl)
              · exact absurd (show False by omega) id
    exact L28 ((2 * (n0 - 0) + 1) + 1) 0 1 (MS.s_th y 0) (Nat.zero_le _) (by decide) hM hmo (fun k u z => by rw [Nat.zero_add]; exact z) (fun z => absurd z (by decide)) (Nat.lt_succ_self _) H locs hP hD hS ls (lv_sub hl [2, 3, 1, 0] rfl)
set_option maxHeartbeats 4000000 in
set_option maxRecDepth 100000 in
theorem c_M_improve1 (l : Launch) (dC : Nat → ClassId) (dI : Nat → Nat → Nat) (q : Nat → Nat) (cI cZ : ClassId) (sz : Nat) (y : MS) (v : Int32) (h1 : v < 0) : Met l yX4_improve (.code yX4_improve cX4_improve 4 (some .int) :: ALLG) ({ frames := 0, cells := 0, slots := 0, locals := 0 }) (va_Pc [.ref (q 0), .int v] (cP (dC, dI) vwCl [(cI, .int), (cZ, .boolean)] (wM q cI cZ y) eT sz)) (va_Qi (fun (x : Int32) (u : MS) => x = nI 0 ∧ u = y.s_th 1) (fun (u : MS) => cB (dC, dI) vwCl [(cI, .int), (cZ, .boolean)] (wM q cI cZ u) (va_A (wM q cI cZ y) sz)) (va_A (wM q cI cZ y) sz)) 0 0 (va_A (wM q cI cZ y) sz) := by
  refine xm_of (cc := cX4_improve) (maxL := 4) (ret := some .int) (by decide) rfl (Nat.le_of_ble_eq_true rfl) ?_
  intro p e s m below meth c A hAe hx hb hr hml hts0 hown hlk hin hsz H locs hP hK hD hA hS hE ls hl
  have hts : ∀ w ∈ ALLG, w.before _ s = true := fun w h => hts0 w (List.mem_cons_of_mem _ h)
  rw [← hAe]
  have hl : lv_has ls 4 [(0, .ref (q 0)), (1, .int v)] := hl
  refine lv_aload_n hx hb dX4_improve_0 rfl (lv_at hl 0 rfl) ?_
  refine lv_iload_n hx hb dX4_improve_1 rfl (lv_at hl 1 rfl) ?_
  refine lv_if_ge (tgt := 9) hx hb dX4_improve_2 (by decide) (fun c_1 => ?_) (fun c_1 => ?_)
  · exact absurd h1 (Int32.not_lt.mpr c_1)
  · refine lv_iconst (v := nI 1) hx hb dX4_improve_5 (by decide) ?_
    refine lv_goto (tgt := 10) hx hb dX4_improve_6 (by decide) ?_
    refine va_put (D := (dC, dI)) (ci := 4) (v := .int (nI 1)) (ty := .int) (C := RX4) (T := TX4) (N := 23) hx hb hts inX4 tyX4 tyX4_ok nmX4 hown hK hP hD hS 0 rfl rfl 0 (by decide) (hts _ tw_572) (fun _ h9 => h9) rfl (by decide +kernel) rfl rfl (Nat.le_of_ble_eq_true rfl) dX4_improve_10 (fun H locs hP hD hS => ?_)
    have hP : va_P (dC, dI) vwCl (wM q cI cZ (MS.s_th y 1)) H := hP
    have hD : va_D A (wM q cI cZ (MS.s_th y 1)) := hD
    refine lv_iconst (v := nI 0) hx hb dX4_improve_13 (by decide) ?_
    refine lv_istore_n (lv' := [(2, .int (nI 0)), (0, .ref (q 0)), (1, .int v)]) hx hb dX4_improve_14 rfl hl (by decide) rfl (fun ls hl => ?_)
    refine lv_aload_n hx hb dX4_improve_15 rfl (lv_at hl 1 rfl) ?_
    refine va_get (D := (dC, dI)) (ci := 4) (v := .int (nI 1)) (C := RX4) (T := TX4) (N := 23) hx hb hts inX4 hown hK hP 0 rfl rfl 0 (by decide) (hts _ tw_572) (fun _ h9 => h9) rfl dX4_improve_16 ?_
    refine xn_zne (tgt := 26) hx hb (by omega) dX4_improve_19 (by decide) (fun c_2 => ?_) (fun c_2 => ?_)
    · refine lv_iconst (v := nI 0) hx hb dX4_improve_26 (by decide) ?_
      refine lv_istore_n (lv' := [(3, .int (nI 0)), (2, .int (nI 0)), (0, .ref (q 0)), (1, .int v)]) hx hb dX4_improve_27 rfl hl (by decide) rfl (fun ls hl => ?_)
      refine lv_iload_n hx hb dX4_improve_28 rfl (lv_at hl 0 rfl) ?_
      refine xn_zeq (tgt := 57) hx hb (by omega) dX4_improve_29 (by decide) (fun c_3 => ?_) (fun c_3 => ?_)
      · refine lv_iload_n hx hb dX4_improve_57 rfl (lv_at hl 1 rfl) ?_
        exact xr_i hx hb hr hlk (u := MS.s_th y 1) (⟨rfl, rfl⟩) hP hK hD hS dX4_improve_58
      · exact absurd (show False by omega) id
    · exact absurd (show False by omega) id
set_option maxHeartbeats 4000000 in
set_option maxRecDepth 100000 in
theorem c_ScanRowsModel_rule (l : Launch) (dC : Nat → ClassId) (dI : Nat → Nat → Nat) (q : Nat → Nat) (cI cZ : ClassId) (sz : Nat) (y : MS) (k0 w0 : Nat) (hM : MB y) (h1 : k0 < 2 ^ 31) (h2 : w0 < 2) : Met l yX4_rule (.code yX4_rule cX4_rule 7 (some .int) :: ALLG) ({ frames := 1, cells := 0, slots := 0, locals := 22 }) (va_Pc [.ref (q 0), .int (nI k0), .int (nI w0)] (cP (dC, dI) vwCl [(cI, .int), (cZ, .boolean)] (wM q cI cZ y) eT sz)) (va_Qi (fun (x : Int32) (u : MS) => rulR (mB y) (2 * y.n) k0 w0 x ∧ u = y.s_th 0) (fun (u : MS) => cB (dC, dI) vwCl [(cI, .int), (cZ, .boolean)] (wM q cI cZ u) (va_A (wM q cI cZ y) sz)) (va_A (wM q cI cZ y) sz)) 0 0 (va_A (wM q cI cZ y) sz) := by
  refine xm_of (cc := cX4_rule) (maxL := 7) (ret := some .int) (by decide) rfl (Nat.le_of_ble_eq_true rfl) ?_
  intro p e s m below meth c A hAe hx hb hr hml hts0 hown hlk hin hsz H locs hP hK hD hA hS hE ls hl
  have hts : ∀ w ∈ ALLG, w.before _ s = true := fun w h => hts0 w (List.mem_cons_of_mem _ h)
  rw [← hAe]
  have hM0 := hM
  have b_n : y.n ≤ 32 := hM.1.1
  have b_c : y.c ≤ 8 := hM.1.2.1
  have b_p : y.p ≤ y.n := hM.1.2.2.1
  have b_vb : ∀ z, y.vb z < 2 := hM.1.2.2.2.1
  have b_ck : ∀ z, y.ck z < 4 := hM.1.2.2.2.2.1
  have b_xx : ∀ z, -1000 ≤ y.xx z ∧ y.xx z ≤ 1000 := hM.1.2.2.2.2.2.1
  have b_yy : ∀ z, -1000 ≤ y.yy z ∧ y.yy z ≤ 1000 := hM.1.2.2.2.2.2.2.1
  have b_fl : ∀ z, y.fl z < 2 := hM.1.2.2.2.2.2.2.2.1
  have b_rw : ∀ z, y.rw z < 32 := hM.1.2.2.2.2.2.2.2.2.2.1
  have b_st : ∀ z, y.st z ≤ 32 := hM.1.2.2.2.2.2.2.2.2.2.2.2
  have hl : lv_has ls 7 [(0, .ref (q 0)), (1, .int (nI k0)), (2, .int (nI w0))] := hl
  refine lv_aload_n hx hb dX4_rule_0 rfl (lv_at hl 0 rfl) ?_
  refine lv_iload_n hx hb dX4_rule_1 rfl (lv_at hl 1 rfl) ?_
  refine xn_zlt (tgt := 14) hx hb (by omega) dX4_rule_2 (by decide) ?_
  refine lv_iload_n hx hb dX4_rule_5 rfl (lv_at hl 2 rfl) ?_
  refine xn_zlt (tgt := 14) hx hb (by omega) dX4_rule_6 (by decide) ?_
  refine lv_iload_n hx hb dX4_rule_9 rfl (lv_at hl 2 rfl) ?_
  refine lv_iconst (v := nI 1) hx hb dX4_rule_10 (by decide) ?_
  refine xn_cle (tgt := 18) hx hb (by omega) (by omega) dX4_rule_11 (by decide) (fun c_3 => ?_) (fun c_3 => ?_)
  · refine lv_iconst (v := nI 0) hx hb dX4_rule_18 (by decide) ?_
    refine va_put (D := (dC, dI)) (ci := 4) (v := .int (nI 0)) (ty := .int) (C := RX4) (T := TX4) (N := 23) hx hb hts inX4 tyX4 tyX4_ok nmX4 hown hK hP hD hS 0 rfl rfl 0 (by decide) (hts _ tw_572) (fun _ h9 => h9) rfl (by decide +kernel) rfl rfl (Nat.le_of_ble_eq_true rfl) dX4_rule_19 (fun H locs hP hD hS => ?_)
    have hP : va_P (dC, dI) vwCl (wM q cI cZ (MS.s_th y 0)) H := hP
    have hD : va_D A (wM q cI cZ (MS.s_th y 0)) := hD
    refine lv_iload_n hx hb dX4_rule_22 rfl (lv_at hl 1 rfl) ?_
    refine lv_istore_n (lv' := [(3, .int (nI k0)), (0, .ref (q 0)), (1, .int (nI k0)), (2, .int (nI w0))]) hx hb dX4_rule_23 rfl hl (by decide) rfl (fun ls hl => ?_)
    refine lv_iconst (v := nI 0) hx hb dX4_rule_24 (by decide) ?_
    refine lv_istore (lv' := [(4, .int (nI 0)), (3, .int (nI k0)), (0, .ref (q 0)), (1, .int (nI k0)), (2, .int (nI w0))]) hx hb dX4_rule_25 hl (by decide) rfl (fun ls hl => ?_)
    have L27 : ∀ (fuel : Nat) (i : Nat) (lf : Nat), (i ≤ y.n) → (lf ≤ k0) → (lf + sumN (mB y) (2 * i) = k0) → (∀ t, t < 2 * i → ¬ (mB y t = 1 ∧ sumN (mB y) t = k0)) → y.n - i < fuel → ∀ (H : Heap) (locs : List Loc), va_P (dC, dI) vwCl (wM q cI cZ (MS.s_th y 0)) H → va_D A (wM q cI cZ (MS.s_th y 0)) → va_S A s.heap H locs → ∀ ls : Array Slot, lv_has ls 7 [(0, .ref (q 0)), (1, .int (nI k0)), (2, .int (nI w0)), (3, .int (nI lf)), (4, .int (nI i))] → W p l e ({ frames := 1, cells := 0, slots := 0, locals := 22 } : Room) s m ([.ref (q 0), .int (nI k0), .int (nI w0)] : List Value).toArray below meth c H locs 0 0 (MQ below (va_Qi (fun (x : Int32) (u : MS) => rulR (mB y) (2 * y.n) k0 w0 x ∧ u = y.s_th 0) (fun (u : MS) => cB (dC, dI) vwCl [(cI, .int), (cZ, .boolean)] (wM q cI cZ u) (A)) (A)) ([.ref (q 0), .int (nI k0), .int (nI w0)] : List Value).toArray s 0 0 A) (F0 m 27 ls []) := by
      intro fuel
      induction fuel with
      | zero => intro i lf i1 l1 e1 o1 hm H locs hP hD hS ls hl; exact absurd hm (Nat.not_lt_zero _)
      | succ fuel ih27 =>
        intro i lf i1 l1 e1 o1 hm H locs hP hD hS ls hl
        refine lv_iload hx hb dX4_rule_27 (lv_at hl 4 rfl) ?_
        refine lv_aload_n hx hb dX4_rule_29 rfl (lv_at hl 0 rfl) ?_
        refine va_get (D := (dC, dI)) (ci := 4) (v := .int (nI (MS.n y))) (C := RX4) (T := TX4) (N := 23) hx hb hts inX4 hown hK hP 0 rfl rfl 7 (by decide) (hts _ tw_579) (fun _ h9 => h9) rfl dX4_rule_30 ?_
        refine xn_cge (tgt := 130) hx hb (by omega) (by omega) dX4_rule_33 (by decide) (fun c_4 => ?_) (fun c_4 => ?_)
        · refine lv_aload_n hx hb dX4_rule_130 rfl (lv_at hl 0 rfl) ?_
          refine va_get (D := (dC, dI)) (ci := 4) (v := .int (nI 0)) (C := RX4) (T := TX4) (N := 23) hx hb hts inX4 hown hK hP 0 rfl rfl 0 (by decide) (hts _ tw_572) (fun _ h9 => h9) rfl dX4_rule_131 ?_
          refine xn_zle (tgt := 141) hx hb (by omega) dX4_rule_134 (by decide) (fun c_5 => ?_) (fun c_5 => ?_)
          · refine lv_iconst (v := zI (-1)) hx hb dX4_rule_141 (by decide) ?_
            exact xr_i hx hb hr hlk (u := MS.s_th y 0) (⟨Or.inr ⟨fun t z => o1 t (by omega), rfl⟩, rfl⟩) hP hK hD hS dX4_rule_142
          · exact absurd (show False by omega) id
        · refine lv_aload_n hx hb dX4_rule_36 rfl (lv_at hl 0 rfl) ?_
          refine va_get (D := (dC, dI)) (ci := 4) (v := .int (nI 0)) (C := RX4) (T := TX4) (N := 23) hx hb hts inX4 hown hK hP 0 rfl rfl 0 (by decide) (hts _ tw_572) (fun _ h9 => h9) rfl dX4_rule_37 ?_
          refine xn_zne (tgt := 130) hx hb (by omega) dX4_rule_40 (by decide) (fun c_6 => ?_) (fun c_6 => ?_)
          · exact absurd (show False by omega) id
          · refine lv_iconst (v := nI 0) hx hb dX4_rule_43 (by decide) ?_
            refine lv_istore (lv' := [(5, .int (nI 0)), (0, .ref (q 0)), (1, .int (nI k0)), (2, .int (nI w0)), (3, .int (nI lf)), (4, .int (nI i))]) hx hb dX4_rule_44 hl (by decide) rfl (fun ls hl => ?_)
            have L46 : ∀ (fuel : Nat) (j : Nat) (lf : Nat), (j ≤ 2) → (lf ≤ k0) → (lf + sumN (mB y) (2 * i + j) = k0) → (∀ t, t < 2 * i + j → ¬ (mB y t = 1 ∧ sumN (mB y) t = k0)) → 2 - j < fuel → ∀ (H : Heap) (locs : List Loc), va_P (dC, dI) vwCl (wM q cI cZ (MS.s_th y 0)) H → va_D A (wM q cI cZ (MS.s_th y 0)) → va_S A s.heap H locs → ∀ ls : Array Slot, lv_has ls 7 [(0, .ref (q 0)), (1, .int (nI k0)), (2, .int (nI w0)), (3, .int (nI lf)), (4, .int (nI i)), (5, .int (nI j))] → W p l e ({ frames := 1, cells := 0, slots := 0, locals := 22 } : Room) s m ([.ref (q 0), .int (nI k0), .int (nI w0)] : List Value).toArray below meth c H locs 0 0 (MQ below (va_Qi (fun (x : Int32) (u : MS) => rulR (mB y) (2 * y.n) k0 w0 x ∧ u = y.s_th 0) (fun (u : MS) => cB (dC, dI) vwCl [(cI, .int), (cZ, .boolean)] (wM q cI cZ u) (A)) (A)) ([.ref (q 0), .int (nI k0), .int (nI w0)] : List Value).toArray s 0 0 A) (F0 m 46 ls []) := by
              intro fuel
              induction fuel with
              | zero => intro j lf j2 l2 e2 o2 hm H locs hP hD hS ls hl; exact absurd hm (Nat.not_lt_zero _)
              | succ fuel ih46 =>
                intro j lf j2 l2 e2 o2 hm H locs hP hD hS ls hl
                refine lv_iload hx hb dX4_rule_46 (lv_at hl 5 rfl) ?_
                refine lv_iconst (v := nI 2) hx hb dX4_rule_48 (by decide) ?_
                refine xn_cge (tgt := 124) hx hb (by omega) (by omega) dX4_rule_49 (by decide) (fun c_7 => ?_) (fun c_7 => ?_)
                · refine lv_iinc (v := nI (i + 1)) (lv' := [(4, .int (nI (i + 1))), (0, .ref (q 0)), (1, .int (nI k0)), (2, .int (nI w0)), (3, .int (nI lf)), (5, .int (nI j))]) hx hb dX4_rule_124 hl (k := 4) rfl (nI_1 _) (by decide) rfl (fun ls hl => ?_)
                  refine lv_goto (tgt := 27) hx hb dX4_rule_127 (by decide) ?_
                  exact ih27 (i + 1) lf (by omega) l2 (by rw [show 2 * (i + 1) = 2 * i + j by omega]; exact e2) (fun t z => o2 t (by omega)) (by omega) H locs hP hD hS ls (lv_sub hl [1, 2, 3, 4, 0] rfl)
                · have g1 := mB_le hM0 (2 * i + j)
                  have g2 := sumN_le (mB_le hM0) (2 * i + j)
                  have g5 := b_fl i
                  have g6 := plF_b y.rw i y.p
                  have eS : sumN (mB y) (2 * i + j + 1) = sumN (mB y) (2 * i + j) + mB y (2 * i + j) := rfl
                  refine lv_iload hx hb dX4_rule_52 (lv_at hl 5 rfl) ?_
                  refine xn_zne (tgt := 67) hx hb (by omega) dX4_rule_54 (by decide) (fun c_8 => ?_) (fun c_8 => ?_)
                  · refine lv_aload_n hx hb dX4_rule_67 rfl (lv_at hl 0 rfl) ?_
                    refine lv_iload hx hb dX4_rule_68 (lv_at hl 4 rfl) ?_
                    refine xc_Vi (As := [.int (nI i)]) (wr := []) ⟨hx, hb, hml, hown, hts⟩ (c_ScanRowsModel_placeOf l dC dI q cI cZ H.size (MS.s_th y 0) i hM0 (by omega)) (cwV 1 hts (gV tw_691 tw_693 sw_29 tw_5 tw_694) rfl rfl rfl (by decide +kernel) ⟨Nat.le_of_ble_eq_true rfl, Nat.le_of_ble_eq_true rfl⟩) rfl hl.1 rfl (Nat.le_of_ble_eq_true rfl) dX4_rule_70 ⟨Nat.zero_le _, Nat.zero_le _⟩ hP hD hK hS hA [0, 1, 2, 3, 4, 5, 6, 7, 8, 9, 10, 11, 12, 13] [] rfl rfl (by decide) (by decide) (by decide) [0, 1] rfl (q0 := 0) rfl rfl rfl eT_M (trivial) (fun r_9 u_10 H locs w_11 hP hD hS => ?_)
                    obtain rfl := w_11
                    have hP : va_P (dC, dI) vwCl (wM q cI cZ (MS.s_th y 0)) H := hP
                    have hD : va_D A (wM q cI cZ (MS.s_th y 0)) := hD
                    refine xt_i (show zI (plF y.rw i y.p) = zI (plF y.rw i y.p) from rfl) ?_
                    refine lv_iconst (v := zI (-1)) hx hb dX4_rule_73 (by decide) ?_
                    refine xz_cne (tgt := 81) hx hb (by omega) (by omega) (by omega) (by omega) dX4_rule_74 (by decide) (fun c_12 => ?_) (fun c_12 => ?_)
                    · refine lv_iconst (v := nI 0) hx hb dX4_rule_81 (by decide) ?_
                      refine xt_i (show nI 0 = nI (mB y (2 * i + j)) from congrArg nI (by unfold mB; rw [if_neg (by omega), show (2 * i + j) / 2 = i by omega, if_neg (by assumption)])) ?_
                      refine lv_istore (lv' := [(6, .int (nI (mB y (2 * i + j)))), (0, .ref (q 0)), (1, .int (nI k0)), (2, .int (nI w0)), (3, .int (nI lf)), (4, .int (nI i)), (5, .int (nI j))]) hx hb dX4_rule_82 hl (by decide) rfl (fun ls hl => ?_)
                      refine lv_iload hx hb dX4_rule_84 (lv_at hl 0 rfl) ?_
                      refine xn_zeq (tgt := 105) hx hb (by omega) dX4_rule_86 (by decide) (fun c_13 => ?_) (fun c_13 => ?_)
                      · refine lv_iload hx hb dX4_rule_105 (lv_at hl 0 rfl) ?_
                        refine xn_zeq (tgt := 116) hx hb (by omega) dX4_rule_107 (by decide) (fun c_14 => ?_) (fun c_14 => ?_)
                        · refine lv_iload_n hx hb dX4_rule_116 rfl (lv_at hl 4 rfl) ?_
                          refine lv_istore_n (lv' := [(3, .int (nI lf)), (6, .int (nI (mB y (2 * i + j)))), (0, .ref (q 0)), (1, .int (nI k0)), (2, .int (nI w0)), (4, .int (nI i)), (5, .int (nI j))]) hx hb dX4_rule_117 rfl hl (by decide) rfl (fun ls hl => ?_)
                          refine lv_iinc (v := nI (j + 1)) (lv' := [(5, .int (nI (j + 1))), (3, .int (nI lf)), (6, .int (nI (mB y (2 * i + j)))), (0, .ref (q 0)), (1, .int (nI k0)), (2, .int (nI w0)), (4, .int (nI i))]) hx hb dX4_rule_118 hl (k := 6) rfl (nI_1 _) (by decide) rfl (fun ls hl => ?_)
                          refine lv_goto (tgt := 46) hx hb dX4_rule_121 (by decide) ?_
                          exact ih46 (j + 1) lf (by omega) (by omega) (by rw [show 2 * i + (j + 1) = 2 * i + j + 1 by omega, eS]; omega) (fun t z => (Nat.lt_succ_iff_lt_or_eq.mp (show t < 2 * i + j + 1 by omega)).elim (fun y => o2 t y) (fun y => by rw [y]; omega)) (by omega) H locs hP hD hS ls (lv_sub hl [3, 4, 5, 1, 6, 0] rfl)
                        · refine lv_iload_n hx hb dX4_rule_110 rfl (lv_at hl 4 rfl) ?_
                          refine lv_iconst (v := nI 1) hx hb dX4_rule_111 (by decide) ?_
                          refine xn_sub hx hb (by omega) dX4_rule_112 ?_
                          refine lv_goto (tgt := 117) hx hb dX4_rule_113 (by decide) ?_
                          refine lv_istore_n (lv' := [(3, .int (nI (lf - 1))), (6, .int (nI (mB y (2 * i + j)))), (0, .ref (q 0)), (1, .int (nI k0)), (2, .int (nI w0)), (4, .int (nI i)), (5, .int (nI j))]) hx hb dX4_rule_117 rfl hl (by decide) rfl (fun ls hl => ?_)
                          refine lv_iinc (v := nI (j + 1)) (lv' := [(5, .int (nI (j + 1))), (3, .int (nI (lf - 1))), (6, .int (nI (mB y (2 * i + j)))), (0, .ref (q 0)), (1, .int (nI k0)), (2, .int (nI w0)), (4, .int (nI i))]) hx hb dX4_rule_118 hl (k := 6) rfl (nI_1 _) (by decide) rfl (fun ls hl => ?_)
                          refine lv_goto (tgt := 46) hx hb dX4_rule_121 (by decide) ?_
                          exact ih46 (j + 1) (lf - 1) (by omega) (by omega) (by rw [show 2 * i + (j + 1) = 2 * i + j + 1 by omega, eS]; omega) (fun t z => (Nat.lt_succ_iff_lt_or_eq.mp (show t < 2 * i + j + 1 by omega)).elim (fun y => o2 t y) (fun y => by rw [y]; omega)) (by omega) H locs hP hD hS ls (lv_sub hl [3, 4, 5, 1, 6, 0] rfl)
                      · refine lv_iload_n hx hb dX4_rule_89 rfl (lv_at hl 4 rfl) ?_
                        refine xn_zne (tgt := 105) hx hb (by omega) dX4_rule_90 (by decide) (fun c_15 => ?_) (fun c_15 => ?_)
                        · refine lv_iload hx hb dX4_rule_105 (lv_at hl 0 rfl) ?_
                          refine xn_zeq (tgt := 116) hx hb (by omega) dX4_rule_107 (by decide) (fun c_16 => ?_) (fun c_16 => ?_)
                          · refine lv_iload_n hx hb dX4_rule_116 rfl (lv_at hl 4 rfl) ?_
                            refine lv_istore_n (lv' := [(3, .int (nI lf)), (6, .int (nI (mB y (2 * i + j)))), (0, .ref (q 0)), (1, .int (nI k0)), (2, .int (nI w0)), (4, .int (nI i)), (5, .int (nI j))]) hx hb dX4_rule_117 rfl hl (by decide) rfl (fun ls hl => ?_)
                            refine lv_iinc (v := nI (j + 1)) (lv' := [(5, .int (nI (j + 1))), (3, .int (nI lf)), (6, .int (nI (mB y (2 * i + j)))), (0, .ref (q 0)), (1, .int (nI k0)), (2, .int (nI w0)), (4, .int (nI i))]) hx hb dX4_rule_118 hl (k := 6) rfl (nI_1 _) (by decide) rfl (fun ls hl => ?_)
                            refine lv_goto (tgt := 46) hx hb dX4_rule_121 (by decide) ?_
                            exact ih46 (j + 1) lf (by omega) (by omega) (by rw [show 2 * i + (j + 1) = 2 * i + j + 1 by omega, eS]; omega) (fun t z => (Nat.lt_succ_iff_lt_or_eq.mp (show t < 2 * i + j + 1 by omega)).elim (fun y => o2 t y) (fun y => by rw [y]; omega)) (by omega) H locs hP hD hS ls (lv_sub hl [3, 4, 5, 1, 6, 0] rfl)
                          · refine lv_iload_n hx hb dX4_rule_110 rfl (lv_at hl 4 rfl) ?_
                            refine lv_iconst (v := nI 1) hx hb dX4_rule_111 (by decide) ?_
                            refine xn_sub hx hb (by omega) dX4_rule_112 ?_
                            refine lv_goto (tgt := 117) hx hb dX4_rule_113 (by decide) ?_
                            refine lv_istore_n (lv' := [(3, .int (nI (lf - 1))), (6, .int (nI (mB y (2 * i + j)))), (0, .ref (q 0)), (1, .int (nI k0)), (2, .int (nI w0)), (4, .int (nI i)), (5, .int (nI j))]) hx hb dX4_rule_117 rfl hl (by decide) rfl (fun ls hl => ?_)
                            refine lv_iinc (v := nI (j + 1)) (lv' := [(5, .int (nI (j + 1))), (3, .int (nI (lf - 1))), (6, .int (nI (mB y (2 * i + j)))), (0, .ref (q 0)), (1, .int (nI k0)), (2, .int (nI w0)), (4, .int (nI i))]) hx hb dX4_rule_118 hl (k := 6) rfl (nI_1 _) (by decide) rfl (fun ls hl => ?_)
                            refine lv_goto (tgt := 46) hx hb dX4_rule_121 (by decide) ?_
                            exact ih46 (j + 1) (lf - 1) (by omega) (by omega) (by rw [show 2 * i + (j + 1) = 2 * i + j + 1 by omega, eS]; omega) (fun t z => (Nat.lt_succ_iff_lt_or_eq.mp (show t < 2 * i + j + 1 by omega)).elim (fun y => o2 t y) (fun y => by rw [y]; omega)) (by omega) H locs hP hD hS ls (lv_sub hl [3, 4, 5, 1, 6, 0] rfl)
                        · refine lv_iload_n hx hb dX4_rule_93 rfl (lv_at hl 3 rfl) ?_
                          refine xn_zne (tgt := 102) hx hb (by omega) dX4_rule_94 (by decide) (fun c_17 => ?_) (fun c_17 => ?_)
                          · refine lv_iload hx hb dX4_rule_102 (lv_at hl 5 rfl) ?_
                            exact xr_i hx hb hr hlk (u := MS.s_th y 0) (⟨Or.inl ⟨2 * i + j, by omega, by omega, by omega, by rw [if_neg (by omega), show (2 * i + j) / 2 = i by omega]⟩, rfl⟩) hP hK hD hS dX4_rule_104
                          · refine lv_iload hx hb dX4_rule_97 (lv_at hl 6 rfl) ?_
                            refine lv_goto (tgt := 104) hx hb dX4_rule_99 (by decide) ?_
                            exact xr_i hx hb hr hlk (u := MS.s_th y 0) (⟨Or.inl ⟨2 * i + j, by omega, by omega, by omega, by rw [if_pos (by omega), show (2 * i + j) % 2 = j by omega]⟩, rfl⟩) hP hK hD hS dX4_rule_104
                    · refine lv_iconst (v := nI 1) hx hb dX4_rule_77 (by decide) ?_
                      refine lv_goto (tgt := 82) hx hb dX4_rule_78 (by decide) ?_
                      refine xt_i (show nI 1 = nI (mB y (2 * i + j)) from congrArg nI (by unfold mB; rw [if_neg (by omega), show (2 * i + j) / 2 = i by omega, if_pos (by assumption)])) ?_
                      refine lv_istore (lv' := [(6, .int (nI (mB y (2 * i + j)))), (0, .ref (q 0)), (1, .int (nI k0)), (2, .int (nI w0)), (3, .int (nI lf)), (4, .int (nI i)), (5, .int (nI j))]) hx hb dX4_rule_82 hl (by decide) rfl (fun ls hl => ?_)
                      refine lv_iload hx hb dX4_rule_84 (lv_at hl 0 rfl) ?_
                      refine xn_zeq (tgt := 105) hx hb (by omega) dX4_rule_86 (by decide) (fun c_18 => ?_) (fun c_18 => ?_)
                      · refine lv_iload hx hb dX4_rule_105 (lv_at hl 0 rfl) ?_
                        refine xn_zeq (tgt := 116) hx hb (by omega) dX4_rule_107 (by decide) (fun c_19 => ?_) (fun c_19 => ?_)
                        · refine lv_iload_n hx hb dX4_rule_116 rfl (lv_at hl 4 rfl) ?_
                          refine lv_istore_n (lv' := [(3, .int (nI lf)), (6, .int (nI (mB y (2 * i + j)))), (0, .ref (q 0)), (1, .int (nI k0)), (2, .int (nI w0)), (4, .int (nI i)), (5, .int (nI j))]) hx hb dX4_rule_117 rfl hl (by decide) rfl (fun ls hl => ?_)
                          refine lv_iinc (v := nI (j + 1)) (lv' := [(5, .int (nI (j + 1))), (3, .int (nI lf)), (6, .int (nI (mB y (2 * i + j)))), (0, .ref (q 0)), (1, .int (nI k0)), (2, .int (nI w0)), (4, .int (nI i))]) hx hb dX4_rule_118 hl (k := 6) rfl (nI_1 _) (by decide) rfl (fun ls hl => ?_)
                          refine lv_goto (tgt := 46) hx hb dX4_rule_121 (by decide) ?_
                          exact ih46 (j + 1) lf (by omega) (by omega) (by rw [show 2 * i + (j + 1) = 2 * i + j + 1 by omega, eS]; omega) (fun t z => (Nat.lt_succ_iff_lt_or_eq.mp (show t < 2 * i + j + 1 by omega)).elim (fun y => o2 t y) (fun y => by rw [y]; omega)) (by omega) H locs hP hD hS ls (lv_sub hl [3, 4, 5, 1, 6, 0] rfl)
                        · refine lv_iload_n hx hb dX4_rule_110 rfl (lv_at hl 4 rfl) ?_
                          refine lv_iconst (v := nI 1) hx hb dX4_rule_111 (by decide) ?_
                          refine xn_sub hx hb (by omega) dX4_rule_112 ?_
                          refine lv_goto (tgt := 117) hx hb dX4_rule_113 (by decide) ?_
                          refine lv_istore_n (lv' := [(3, .int (nI (lf - 1))), (6, .int (nI (mB y (2 * i + j)))), (0, .ref (q 0)), (1, .int (nI k0)), (2, .int (nI w0)), (4, .int (nI i)), (5, .int (nI j))]) hx hb dX4_rule_117 rfl hl (by decide) rfl (fun ls hl => ?_)
                          refine lv_iinc (v := nI (j + 1)) (lv' := [(5, .int (nI (j + 1))), (3, .int (nI (lf - 1))), (6, .int (nI (mB y (2 * i + j)))), (0, .ref (q 0)), (1, .int (nI k0)), (2, .int (nI w0)), (4, .int (nI i))]) hx hb dX4_rule_118 hl (k := 6) rfl (nI_1 _) (by decide) rfl (fun ls hl => ?_)
                          refine lv_goto (tgt := 46) hx hb dX4_rule_121 (by decide) ?_
                          exact ih46 (j + 1) (lf - 1) (by omega) (by omega) (by rw [show 2 * i + (j + 1) = 2 * i + j + 1 by omega, eS]; omega) (fun t z => (Nat.lt_succ_iff_lt_or_eq.mp (show t < 2 * i + j + 1 by omega)).elim (fun y => o2 t y) (fun y => by rw [y]; omega)) (by omega) H locs hP hD hS ls (lv_sub hl [3, 4, 5, 1, 6, 0] rfl)
                      · refine lv_iload_n hx hb dX4_rule_89 rfl (lv_at hl 4 rfl) ?_
                        refine xn_zne (tgt := 105) hx hb (by omega) dX4_rule_90 (by decide) (fun c_20 => ?_) (fun c_20 => ?_)
                        · refine lv_iload hx hb dX4_rule_105 (lv_at hl 0 rfl) ?_
                          refine xn_zeq (tgt := 116) hx hb (by omega) dX4_rule_107 (by decide) (fun c_21 => ?_) (fun c_21 => ?_)
                          · refine lv_iload_n hx hb dX4_rule_116 rfl (lv_at hl 4 rfl) ?_
                            refine lv_istore_n (lv' := [(3, .int (nI lf)), (6, .int (nI (mB y (2 * i + j)))), (0, .ref (q 0)), (1, .int (nI k0)), (2, .int (nI w0)), (4, .int (nI i)), (5, .int (nI j))]) hx hb dX4_rule_117 rfl hl (by decide) rfl (fun ls hl => ?_)
                            refine lv_iinc (v := nI (j + 1)) (lv' := [(5, .int (nI (j + 1))), (3, .int (nI lf)), (6, .int (nI (mB y (2 * i + j)))), (0, .ref (q 0)), (1, .int (nI k0)), (2, .int (nI w0)), (4, .int (nI i))]) hx hb dX4_rule_118 hl (k := 6) rfl (nI_1 _) (by decide) rfl (fun ls hl => ?_)
                            refine lv_goto (tgt := 46) hx hb dX4_rule_121 (by decide) ?_
                            exact ih46 (j + 1) lf (by omega) (by omega) (by rw [show 2 * i + (j + 1) = 2 * i + j + 1 by omega, eS]; omega) (fun t z => (Nat.lt_succ_iff_lt_or_eq.mp (show t < 2 * i + j + 1 by omega)).elim (fun y => o2 t y) (fun y => by rw [y]; omega)) (by omega) H locs hP hD hS ls (lv_sub hl [3, 4, 5, 1, 6, 0] rfl)
                          · refine lv_iload_n hx hb dX4_rule_110 rfl (lv_at hl 4 rfl) ?_
                            refine lv_iconst (v := nI 1) hx hb dX4_rule_111 (by decide) ?_
                            refine xn_sub hx hb (by omega) dX4_rule_112 ?_
                            refine lv_goto (tgt := 117) hx hb dX4_rule_113 (by decide) ?_
                            refine lv_istore_n (lv' := [(3, .int (nI (lf - 1))), (6, .int (nI (mB y (2 * i + j)))), (0, .ref (q 0)), (1, .int (nI k0)), (2, .int (nI w0)), (4, .int (nI i)), (5, .int (nI j))]) hx hb dX4_rule_117 rfl hl (by decide) rfl (fun ls hl => ?_)
                            refine lv_iinc (v := nI (j + 1)) (lv' := [(5, .int (nI (j + 1))), (3, .int (nI (lf - 1))), (6, .int (nI (mB y (2 * i + j)))), (0, .ref (q 0)), (1, .int (nI k0)), (2, .int (nI w0)), (4, .int (nI i))]) hx hb dX4_rule_118 hl (k := 6) rfl (nI_1 _) (by decide) rfl (fun ls hl => ?_)
                            refine lv_goto (tgt := 46) hx hb dX4_rule_121 (by decide) ?_
                            exact ih46 (j + 1) (lf - 1) (by omega) (by omega) (by rw [show 2 * i + (j + 1) = 2 * i + j + 1 by omega, eS]; omega) (fun t z => (Nat.lt_succ_iff_lt_or_eq.mp (show t < 2 * i + j + 1 by omega)).elim (fun y => o2 t y) (fun y => by rw [y]; omega)) (by omega) H locs hP hD hS ls (lv_sub hl [3, 4, 5, 1, 6, 0] rfl)
                        · refine lv_iload_n hx hb dX4_rule_93 rfl (lv_at hl 3 rfl) ?_
                          refine xn_zne (tgt := 102) hx hb (by omega) dX4_rule_94 (by decide) (fun c_22 => ?_) (fun c_22 => ?_)
                          · refine lv_iload hx hb dX4_rule_102 (lv_at hl 5 rfl) ?_
                            exact xr_i hx hb hr hlk (u := MS.s_th y 0) (⟨Or.inl ⟨2 * i + j, by omega, by omega, by omega, by rw [if_neg (by omega), show (2 * i + j) / 2 = i by omega]⟩, rfl⟩) hP hK hD hS dX4_rule_104
                          · refine lv_iload hx hb dX4_rule_97 (lv_at hl 6 rfl) ?_
                            refine lv_goto (tgt := 104) hx hb dX4_rule_99 (by decide) ?_
                            exact xr_i hx hb hr hlk (u := MS.s_th y 0) (⟨Or.inl ⟨2 * i + j, by omega, by omega, by omega, by rw [if_pos (by omega), show (2 * i + j) % 2 = j by omega]⟩, rfl⟩) hP hK hD hS dX4_rule_104
                  · refine lv_aload_n hx hb dX4_rule_57 rfl (lv_at hl 0 rfl) ?_
                    refine va_get (D := (dC, dI)) (ci := 4) (v := .ref (q 5)) (C := RX4) (T := TX4) (N := 23) hx hb hts inX4 hown hK hP 0 rfl rfl 6 (by decide) (hts _ tw_578) (fun _ h9 => h9) rfl dX4_rule_58 ?_
                    refine lv_iload hx hb dX4_rule_61 (lv_at hl 4 rfl) ?_
                    refine xa_zld hx hb hK hP 5 1 rfl rfl (v := nI ((MS.fl y) i)) (by omega) (by decide) rfl dX4_rule_63 ?_
                    refine lv_goto (tgt := 82) hx hb dX4_rule_64 (by decide) ?_
                    refine xt_i (show nI ((MS.fl y) i) = nI (mB y (2 * i + j)) from congrArg nI (by unfold mB; rw [if_pos (by omega), show (2 * i + j) / 2 = i by omega])) ?_
                    refine lv_istore (lv' := [(6, .int (nI (mB y (2 * i + j)))), (0, .ref (q 0)), (1, .int (nI k0)), (2, .int (nI w0)), (3, .int (nI lf)), (4, .int (nI i)), (5, .int (nI j))]) hx hb dX4_rule_82 hl (by decide) rfl (fun ls hl => ?_)
                    refine lv_iload hx hb dX4_rule_84 (lv_at hl 0 rfl) ?_
                    refine xn_zeq (tgt := 105) hx hb (by omega) dX4_rule_86 (by decide) (fun c_23 => ?_) (fun c_23 => ?_)
                    · refine lv_iload hx hb dX4_rule_105 (lv_at hl 0 rfl) ?_
                      refine xn_zeq (tgt := 116) hx hb (by omega) dX4_rule_107 (by decide) (fun c_24 => ?_) (fun c_24 => ?_)
                      · refine lv_iload_n hx hb dX4_rule_116 rfl (lv_at hl 4 rfl) ?_
                        refine lv_istore_n (lv' := [(3, .int (nI lf)), (6, .int (nI (mB y (2 * i + j)))), (0, .ref (q 0)), (1, .int (nI k0)), (2, .int (nI w0)), (4, .int (nI i)), (5, .int (nI j))]) hx hb dX4_rule_117 rfl hl (by decide) rfl (fun ls hl => ?_)
                        refine lv_iinc (v := nI (j + 1)) (lv' := [(5, .int (nI (j + 1))), (3, .int (nI lf)), (6, .int (nI (mB y (2 * i + j)))), (0, .ref (q 0)), (1, .int (nI k0)), (2, .int (nI w0)), (4, .int (nI i))]) hx hb dX4_rule_118 hl (k := 6) rfl (nI_1 _) (by decide) rfl (fun ls hl => ?_)
                        refine lv_goto (tgt := 46) hx hb dX4_rule_121 (by decide) ?_
                        exact ih46 (j + 1) lf (by omega) (by omega) (by rw [show 2 * i + (j + 1) = 2 * i + j + 1 by omega, eS]; omega) (fun t z => (Nat.lt_succ_iff_lt_or_eq.mp (show t < 2 * i + j + 1 by omega)).elim (fun y => o2 t y) (fun y => by rw [y]; omega)) (by omega) H locs hP hD hS ls (lv_sub hl [3, 4, 5, 1, 6, 0] rfl)
                      · refine lv_iload_n hx hb dX4_rule_110 rfl (lv_at hl 4 rfl) ?_
                        refine lv_iconst (v := nI 1) hx hb dX4_rule_111 (by decide) ?_
                        refine xn_sub hx hb (by omega) dX4_rule_112 ?_
                        refine lv_goto (tgt := 117) hx hb dX4_rule_113 (by decide) ?_
                        refine lv_istore_n (lv' := [(3, .int (nI (lf - 1))), (6, .int (nI (mB y (2 * i + j)))), (0, .ref (q 0)), (1, .int (nI k0)), (2, .int (nI w0)), (4, .int (nI i)), (5, .int (nI j))]) hx hb dX4_rule_117 rfl hl (by decide) rfl (fun ls hl => ?_)
                        refine lv_iinc (v := nI (j + 1)) (lv' := [(5, .int (nI (j + 1))), (3, .int (nI (lf - 1))), (6, .int (nI (mB y (2 * i + j)))), (0, .ref (q 0)), (1, .int (nI k0)), (2, .int (nI w0)), (4, .int (nI i))]) hx hb dX4_rule_118 hl (k := 6) rfl (nI_1 _) (by decide) rfl (fun ls hl => ?_)
                        refine lv_goto (tgt := 46) hx hb dX4_rule_121 (by decide) ?_
                        exact ih46 (j + 1) (lf - 1) (by omega) (by omega) (by rw [show 2 * i + (j + 1) = 2 * i + j + 1 by omega, eS]; omega) (fun t z => (Nat.lt_succ_iff_lt_or_eq.mp (show t < 2 * i + j + 1 by omega)).elim (fun y => o2 t y) (fun y => by rw [y]; omega)) (by omega) H locs hP hD hS ls (lv_sub hl [3, 4, 5, 1, 6, 0] rfl)
                    · refine lv_iload_n hx hb dX4_rule_89 rfl (lv_at hl 4 rfl) ?_
                      refine xn_zne (tgt := 105) hx hb (by omega) dX4_rule_90 (by decide) (fun c_25 => ?_) (fun c_25 => ?_)
                      · refine lv_iload hx hb dX4_rule_105 (lv_at hl 0 rfl) ?_
                        refine xn_zeq (tgt := 116) hx hb (by omega) dX4_rule_107 (by decide) (fun c_26 => ?_) (fun c_26 => ?_)
                        · refine lv_iload_n hx hb dX4_rule_116 rfl (lv_at hl 4 rfl) ?_
                          refine lv_istore_n (lv' := [(3, .int (nI lf)), (6, .int (nI (mB y (2 * i + j)))), (0, .ref (q 0)), (1, .int (nI k0)), (2, .int (nI w0)), (4, .int (nI i)), (5, .int (nI j))]) hx hb dX4_rule_117 rfl hl (by decide) rfl (fun ls hl => ?_)
                          refine lv_iinc (v := nI (j + 1)) (lv' := [(5, .int (nI (j + 1))), (3, .int (nI lf)), (6, .int (nI (mB y (2 * i + j)))), (0, .ref (q 0)), (1, .int (nI k0)), (2, .int (nI w0)), (4, .int (nI i))]) hx hb dX4_rule_118 hl (k := 6) rfl (nI_1 _) (by decide) rfl (fun ls hl => ?_)
                          refine lv_goto (tgt := 46) hx hb dX4_rule_121 (by decide) ?_
                          exact ih46 (j + 1) lf (by omega) (by omega) (by rw [show 2 * i + (j + 1) = 2 * i + j + 1 by omega, eS]; omega) (fun t z => (Nat.lt_succ_iff_lt_or_eq.mp (show t < 2 * i + j + 1 by omega)).elim (fun y => o2 t y) (fun y => by rw [y]; omega)) (by omega) H locs hP hD hS ls (lv_sub hl [3, 4, 5, 1, 6, 0] rfl)
                        · refine lv_iload_n hx hb dX4_rule_110 rfl (lv_at hl 4 rfl) ?_
                          refine lv_iconst (v := nI 1) hx hb dX4_rule_111 (by decide) ?_
                          refine xn_sub hx hb (by omega) dX4_rule_112 ?_
                          refine lv_goto (tgt := 117) hx hb dX4_rule_113 (by decide) ?_
                          refine lv_istore_n (lv' := [(3, .int (nI (lf - 1))), (6, .int (nI (mB y (2 * i + j)))), (0, .ref (q 0)), (1, .int (nI k0)), (2, .int (nI w0)), (4, .int (nI i)), (5, .int (nI j))]) hx hb dX4_rule_117 rfl hl (by decide) rfl (fun ls hl => ?_)
                          refine lv_iinc (v := nI (j + 1)) (lv' := [(5, .int (nI (j + 1))), (3, .int (nI (lf - 1))), (6, .int (nI (mB y (2 * i + j)))), (0, .ref (q 0)), (1, .int (nI k0)), (2, .int (nI w0)), (4, .int (nI i))]) hx hb dX4_rule_118 hl (k := 6) rfl (nI_1 _) (by decide) rfl (fun ls hl => ?_)
                          refine lv_goto (tgt := 46) hx hb dX4_rule_121 (by decide) ?_
                          exact ih46 (j + 1) (lf - 1) (by omega) (by omega) (by rw [show 2 * i + (j + 1) = 2 * i + j + 1 by omega, eS]; omega) (fun t z => (Nat.lt_succ_iff_lt_or_eq.mp (show t < 2 * i + j + 1 by omega)).elim (fun y => o2 t y) (fun y => by rw [y]; omega)) (by omega) H locs hP hD hS ls (lv_sub hl [3, 4, 5, 1, 6, 0] rfl)
                      · refine lv_iload_n hx hb dX4_rule_93 rfl (lv_at hl 3 rfl) ?_
                        refine xn_zne (tgt := 102) hx hb (by omega) dX4_rule_94 (by decide) (fun c_27 => ?_) (fun c_27 => ?_)
                        · refine lv_iload hx hb dX4_rule_102 (lv_at hl 5 rfl) ?_
                          exact xr_i hx hb hr hlk (u := MS.s_th y 0) (⟨Or.inl ⟨2 * i + j, by omega, by omega, by omega, by rw [if_neg (by omega), show (2 * i + j) / 2 = i by omega]⟩, rfl⟩) hP hK hD hS dX4_rule_104
                        · refine lv_iload hx hb dX4_rule_97 (lv_at hl 6 rfl) ?_
                          refine lv_goto (tgt := 104) hx hb dX4_rule_99 (by decide) ?_
                          exact xr_i hx hb hr hlk (u := MS.s_th y 0) (⟨Or.inl ⟨2 * i + j, by omega, by omega, by omega, by rw [if_pos (by omega), show (2 * i + j) % 2 = j by omega]⟩, rfl⟩) hP hK hD hS dX4_rule_104
            exact L46 ((2 - 0) + 1) 0 lf (by decide) l1 e1 o1 (Nat.lt_succ_self _) H locs hP hD hS ls (lv_sub hl [1, 2, 3, 4, 5, 0] rfl)
    exact L27 ((y.n - 0) + 1) 0 k0 (Nat.zero_le _) (Nat.le_refl _) rfl (fun t z => absurd z (by omega)) (Nat.lt_succ_self _) H locs hP hD hS ls (lv_sub hl [2, 3, 4, 1, 0] rfl)
  · exact absurd (show False by omega) id
set_option maxHeartbeats 4000000 in
set_option maxRecDepth 100000 in
theorem c_M_rule1 (l : Launch) (dC : Nat → ClassId) (dI : Nat → Nat → Nat) (q : Nat → Nat) (cI cZ : ClassId) (sz : Nat) (y : MS) (kv wv : Int32) (h1 : kv < 0 ∨ wv < 0 ∨ ¬ wv ≤ nI 1) (h3 : y.n ≤ 32) : Met l yX4_rule (.code yX4_rule cX4_rule 7 (some .int) :: ALLG) ({ frames := 0, cells := 0, slots := 0, locals := 0 }) (va_Pc [.ref (q 0), .int kv, .int wv] (cP (dC, dI) vwCl [(cI, .int), (cZ, .boolean)] (wM q cI cZ y) eT sz)) (va_Qi (fun (x : Int32) (u : MS) => x = nI 0 ∧ u = y.s_th 1) (fun (u : MS) => cB (dC, dI) vwCl [(cI, .int), (cZ, .boolean)] (wM q cI cZ u) (va_A (wM q cI cZ y) sz)) (va_A (wM q cI cZ y) sz)) 0 0 (va_A (wM q cI cZ y) sz) := by
  refine xm_of (cc := cX4_rule) (maxL := 7) (ret := some .int) (by decide) rfl (Nat.le_of_ble_eq_true rfl) ?_
  intro p e s m below meth c A hAe hx hb hr hml hts0 hown hlk hin hsz H locs hP hK hD hA hS hE ls hl
  have hts : ∀ w ∈ ALLG, w.before _ s = true := fun w h => hts0 w (List.mem_cons_of_mem _ h)
  rw [← hAe]
  have hl : lv_has ls 7 [(0, .ref (q 0)), (1, .int kv), (2, .int wv)] := hl
  refine lv_aload_n hx hb dX4_rule_0 rfl (lv_at hl 0 rfl) ?_
  refine lv_iload_n hx hb dX4_rule_1 rfl (lv_at hl 1 rfl) ?_
  refine lv_if_lt (tgt := 14) hx hb dX4_rule_2 (by decide) (fun c_1 => ?_) (fun c_1 => ?_)
  · refine lv_iconst (v := nI 1) hx hb dX4_rule_14 (by decide) ?_
    refine lv_goto (tgt := 19) hx hb dX4_rule_15 (by decide) ?_
    refine va_put (D := (dC, dI)) (ci := 4) (v := .int (nI 1)) (ty := .int) (C := RX4) (T := TX4) (N := 23) hx hb hts inX4 tyX4 tyX4_ok nmX4 hown hK hP hD hS 0 rfl rfl 0 (by decide) (hts _ tw_572) (fun _ h9 => h9) rfl (by decide +kernel) rfl rfl (Nat.le_of_ble_eq_true rfl) dX4_rule_19 (fun H locs hP hD hS => ?_)
    have hP : va_P (dC, dI) vwCl (wM q cI cZ (MS.s_th y 1)) H := hP
    have hD : va_D A (wM q cI cZ (MS.s_th y 1)) := hD
    refine lv_iload_n hx hb dX4_rule_22 rfl (lv_at hl 1 rfl) ?_
    refine lv_istore_n (lv' := [(3, .int kv), (0, .ref (q 0)), (1, .int kv), (2, .int wv)]) hx hb dX4_rule_23 rfl hl (by decide) rfl (fun ls hl => ?_)
    refine lv_iconst (v := nI 0) hx hb dX4_rule_24 (by decide) ?_
    refine lv_istore (lv' := [(4, .int (nI 0)), (3, .int kv), (0, .ref (q 0)), (1, .int kv), (2, .int wv)]) hx hb dX4_rule_25 hl (by decide) rfl (fun ls hl => ?_)
    refine lv_iload hx hb dX4_rule_27 (lv_at hl 0 rfl) ?_
    refine lv_aload_n hx hb dX4_rule_29 rfl (lv_at hl 2 rfl) ?_
    refine va_get (D := (dC, dI)) (ci := 4) (v := .int (nI (MS.n y))) (C := RX4) (T := TX4) (N := 23) hx hb hts inX4 hown hK hP 0 rfl rfl 7 (by decide) (hts _ tw_579) (fun _ h9 => h9) rfl dX4_rule_30 ?_
    refine xn_cge (tgt := 130) hx hb (by omega) (by omega) dX4_rule_33 (by decide) (fun c_2 => ?_) (fun c_2 => ?_)
    · refine lv_aload_n hx hb dX4_rule_130 rfl (lv_at hl 2 rfl) ?_
      refine va_get (D := (dC, dI)) (ci := 4) (v := .int (nI 1)) (C := RX4) (T := TX4) (N := 23) hx hb hts inX4 hown hK hP 0 rfl rfl 0 (by decide) (hts _ tw_572) (fun _ h9 => h9) rfl dX4_rule_131 ?_
      refine xn_zle (tgt := 141) hx hb (by omega) dX4_rule_134 (by decide) (fun c_3 => ?_) (fun c_3 => ?_)
      · exact absurd (show False by omega) id
      · refine lv_iconst (v := nI 0) hx hb dX4_rule_137 (by decide) ?_
        refine lv_goto (tgt := 142) hx hb dX4_rule_138 (by decide) ?_
        exact xr_i hx hb hr hlk (u := MS.s_th y 1) (⟨rfl, rfl⟩) hP hK hD hS dX4_rule_142
    · refine lv_aload_n hx hb dX4_rule_36 rfl (lv_at hl 2 rfl) ?_
      refine va_get (D := (dC, dI)) (ci := 4) (v := .int (nI 1)) (C := RX4) (T := TX4) (N := 23) hx hb hts inX4 hown hK hP 0 rfl rfl 0 (by decide) (hts _ tw_572) (fun _ h9 => h9) rfl dX4_rule_37 ?_
      refine xn_zne (tgt := 130) hx hb (by omega) dX4_rule_40 (by decide) (fun c_4 => ?_) (fun c_4 => ?_)
      · refine lv_aload_n hx hb dX4_rule_130 rfl (lv_at hl 2 rfl) ?_
        refine va_get (D := (dC, dI)) (ci := 4) (v := .int (nI 1)) (C := RX4) (T := TX4) (N := 23) hx hb hts inX4 hown hK hP 0 rfl rfl 0 (by decide) (hts _ tw_572) (fun _ h9 => h9) rfl dX4_rule_131 ?_
        refine xn_zle (tgt := 141) hx hb (by omega) dX4_rule_134 (by decide) (fun c_5 => ?_) (fun c_5 => ?_)
        · exact absurd (show False by omega) id
        · refine lv_iconst (v := nI 0) hx hb dX4_rule_137 (by decide) ?_
          refine lv_goto (tgt := 142) hx hb dX4_rule_138 (by decide) ?_
          exact xr_i hx hb hr hlk (u := MS.s_th y 1) (⟨rfl, rfl⟩) hP hK hD hS dX4_rule_142
      · exact absurd (show False by omega) id
  · refine lv_iload_n hx hb dX4_rule_5 rfl (lv_at hl 2 rfl) ?_
    refine lv_if_lt (tgt := 14) hx hb dX4_rule_6 (by decide) (fun c_6 => ?_) (fun c_6 => ?_)
    · refine lv_iconst (v := nI 1) hx hb dX4_rule_14 (by decide) ?_
      refine lv_goto (tgt := 19) hx hb dX4_rule_15 (by decide) ?_
      refine va_put (D := (dC, dI)) (ci := 4) (v := .int (nI 1)) (ty := .int) (C := RX4) (T := TX4) (N := 23) hx hb hts inX4 tyX4 tyX4_ok nmX4 hown hK hP hD hS 0 rfl rfl 0 (by decide) (hts _ tw_572) (fun _ h9 => h9) rfl (by decide +kernel) rfl rfl (Nat.le_of_ble_eq_true rfl) dX4_rule_19 (fun H locs hP hD hS => ?_)
      have hP : va_P (dC, dI) vwCl (wM q cI cZ (MS.s_th y 1)) H := hP
      have hD : va_D A (wM q cI cZ (MS.s_th y 1)) := hD
      refine lv_iload_n hx hb dX4_rule_22 rfl (lv_at hl 1 rfl) ?_
      refine lv_istore_n (lv' := [(3, .int kv), (0, .ref (q 0)), (1, .int kv), (2, .int wv)]) hx hb dX4_rule_23 rfl hl (by decide) rfl (fun ls hl => ?_)
      refine lv_iconst (v := nI 0) hx hb dX4_rule_24 (by decide) ?_
      refine lv_istore (lv' := [(4, .int (nI 0)), (3, .int kv), (0, .ref (q 0)), (1, .int kv), (2, .int wv)]) hx hb dX4_rule_25 hl (by decide) rfl (fun ls hl => ?_)
      refine lv_iload hx hb dX4_rule_27 (lv_at hl 0 rfl) ?_
      refine lv_aload_n hx hb dX4_rule_29 rfl (lv_at hl 2 rfl) ?_
      refine va_get (D := (dC, dI)) (ci := 4) (v := .int (nI (MS.n y))) (C := RX4) (T := TX4) (N := 23) hx hb hts inX4 hown hK hP 0 rfl rfl 7 (by decide) (hts _ tw_579) (fun _ h9 => h9) rfl dX4_rule_30 ?_
      refine xn_cge (tgt := 130) hx hb (by omega) (by omega) dX4_rule_33 (by decide) (fun c_7 => ?_) (fun c_7 => ?_)
      · refine lv_aload_n hx hb dX4_rule_130 rfl (lv_at hl 2 rfl) ?_
        refine va_get (D := (dC, dI)) (ci := 4) (v := .int (nI 1)) (C := RX4) (T := TX4) (N := 23) hx hb hts inX4 hown hK hP 0 rfl rfl 0 (by decide) (hts _ tw_572) (fun _ h9 => h9) rfl dX4_rule_131 ?_
        refine xn_zle (tgt := 141) hx hb (by omega) dX4_rule_134 (by decide) (fun c_8 => ?_) (fun c_8 => ?_)
        · exact absurd (show False by omega) id
        · refine lv_iconst (v := nI 0) hx hb dX4_rule_137 (by decide) ?_
          refine lv_goto (tgt := 142) hx hb dX4_rule_138 (by decide) ?_
          exact xr_i hx hb hr hlk (u := MS.s_th y 1) (⟨rfl, rfl⟩) hP hK hD hS dX4_rule_142
      · refine lv_aload_n hx hb dX4_rule_36 rfl (lv_at hl 2 rfl) ?_
        refine va_get (D := (dC, dI)) (ci := 4) (v := .int (nI 1)) (C := RX4) (T := TX4) (N := 23) hx hb hts inX4 hown hK hP 0 rfl rfl 0 (by decide) (hts _ tw_572) (fun _ h9 => h9) rfl dX4_rule_37 ?_
        refine xn_zne (tgt := 130) hx hb (by omega) dX4_rule_40 (by decide) (fun c_9 => ?_) (fun c_9 => ?_)
        · refine lv_aload_n hx hb dX4_rule_130 rfl (lv_at hl 2 rfl) ?_
          refine va_get (D := (dC, dI)) (ci := 4) (v := .int (nI 1)) (C := RX4) (T := TX4) (N := 23) hx hb hts inX4 hown hK hP 0 rfl rfl 0 (by decide) (hts _ tw_572) (fun _ h9 => h9) rfl dX4_rule_131 ?_
          refine xn_zle (tgt := 141) hx hb (by omega) dX4_rule_134 (by decide) (fun c_10 => ?_) (fun c_10 => ?_)
          · exact absurd (show False by omega) id
          · refine lv_iconst (v := nI 0) hx hb dX4_rule_137 (by decide) ?_
            refine lv_goto (tgt := 142) hx hb dX4_rule_138 (by decide) ?_
            exact xr_i hx hb hr hlk (u := MS.s_th y 1) (⟨rfl, rfl⟩) hP hK hD hS dX4_rule_142
        · exact absurd (show False by omega) id
    · refine lv_iload_n hx hb dX4_rule_9 rfl (lv_at hl 2 rfl) ?_
      refine lv_iconst (v := nI 1) hx hb dX4_rule_10 (by decide) ?_
      refine lv_icmp_le (tgt := 18) hx hb dX4_rule_11 (by decide) (fun c_11 => ?_) (fun c_11 => ?_)
      · exact absurd h1 (fun z => z.elim c_1 (fun z => z.elim c_6 (fun z => z c_11)))
      · refine lv_iconst (v := nI 1) hx hb dX4_rule_14 (by decide) ?_
        refine lv_goto (tgt := 19) hx hb dX4_rule_15 (by decide) ?_
        refine va_put (D := (dC, dI)) (ci := 4) (v := .int (nI 1)) (ty := .int) (C := RX4) (T := TX4) (N := 23) hx hb hts inX4 tyX4 tyX4_ok nmX4 hown hK hP hD hS 0 rfl rfl 0 (by decide) (hts _ tw_572) (fun _ h9 => h9) rfl (by decide +kernel) rfl rfl (Nat.le_of_ble_eq_true rfl) dX4_rule_19 (fun H locs hP hD hS => ?_)
        have hP : va_P (dC, dI) vwCl (wM q cI cZ (MS.s_th y 1)) H := hP
        have hD : va_D A (wM q cI cZ (MS.s_th y 1)) := hD
        refine lv_iload_n hx hb dX4_rule_22 rfl (lv_at hl 1 rfl) ?_
        refine lv_istore_n (lv' := [(3, .int kv), (0, .ref (q 0)), (1, .int kv), (2, .int wv)]) hx hb dX4_rule_23 rfl hl (by decide) rfl (fun ls hl => ?_)
        refine lv_iconst (v := nI 0) hx hb dX4_rule_24 (by decide) ?_
        refine lv_istore (lv' := [(4, .int (nI 0)), (3, .int kv), (0, .ref (q 0)), (1, .int kv), (2, .int wv)]) hx hb dX4_rule_25 hl (by decide) rfl (fun ls hl => ?_)
        refine lv_iload hx hb dX4_rule_27 (lv_at hl 0 rfl) ?_
        refine lv_aload_n hx hb dX4_rule_29 rfl (lv_at hl 2 rfl) ?_
        refine va_get (D := (dC, dI)) (ci := 4) (v := .int (nI (MS.n y))) (C := RX4) (T := TX4) (N := 23) hx hb hts inX4 hown hK hP 0 rfl rfl 7 (by decide) (hts _ tw_579) (fun _ h9 => h9) rfl dX4_rule_30 ?_
        refine xn_cge (tgt := 130) hx hb (by omega) (by omega) dX4_rule_33 (by decide) (fun c_12 => ?_) (fun c_12 => ?_)
        · refine lv_aload_n hx hb dX4_rule_130 rfl (lv_at hl 2 rfl) ?_
          refine va_get (D := (dC, dI)) (ci := 4) (v := .int (nI 1)) (C := RX4) (T := TX4) (N := 23) hx hb hts inX4 hown hK hP 0 rfl rfl 0 (by decide) (hts _ tw_572) (fun _ h9 => h9) rfl dX4_rule_131 ?_
          refine xn_zle (tgt := 141) hx hb (by omega) dX4_rule_134 (by decide) (fun c_13 => ?_) (fun c_13 => ?_)
          · exact absurd (show False by omega) id
          · refine lv_iconst (v := nI 0) hx hb dX4_rule_137 (by decide) ?_
            refine lv_goto (tgt := 142) hx hb dX4_rule_138 (by decide) ?_
            exact xr_i hx hb hr hlk (u := MS.s_th y 1) (⟨rfl, rfl⟩) hP hK hD hS dX4_rule_142
        · refine lv_aload_n hx hb dX4_rule_36 rfl (lv_at hl 2 rfl) ?_
          refine va_get (D := (dC, dI)) (ci := 4) (v := .int (nI 1)) (C := RX4) (T := TX4) (N := 23) hx hb hts inX4 hown hK hP 0 rfl rfl 0 (by decide) (hts _ tw_572) (fun _ h9 => h9) rfl dX4_rule_37 ?_
          refine xn_zne (tgt := 130) hx hb (by omega) dX4_rule_40 (by decide) (fun c_14 => ?_) (fun c_14 => ?_)
          · refine lv_aload_n hx hb dX4_rule_130 rfl (lv_at hl 2 rfl) ?_
            refine va_get (D := (dC, dI)) (ci := 4) (v := .int (nI 1)) (C := RX4) (T := TX4) (N := 23) hx hb hts inX4 hown hK hP 0 rfl rfl 0 (by decide) (hts _ tw_572) (fun _ h9 => h9) rfl dX4_rule_131 ?_
            refine xn_zle (tgt := 141) hx hb (by omega) dX4_rule_134 (by decide) (fun c_15 => ?_) (fun c_15 => ?_)
            · exact absurd (show False by omega) id
            · refine lv_iconst (v := nI 0) hx hb dX4_rule_137 (by decide) ?_
              refine lv_goto (tgt := 142) hx hb dX4_rule_138 (by decide) ?_
              exact xr_i hx hb hr hlk (u := MS.s_th y 1) (⟨rfl, rfl⟩) hP hK hD hS dX4_rule_142
          · exact absurd (show False by omega) id
set_option maxHeartbeats 4000000 in
set_option maxRecDepth 100000 in
theorem c_ScanRowsModel_set (l : Launch) (dC : Nat → ClassId) (dI : Nat → Nat → Nat) (q : Nat → Nat) (cI cZ : ClassId) (sz : Nat) (y : MS) (i f : Nat) (hM : MB y) (h1 : i < y.n) (h2 : f < 2) : Met l yX4_set (.code yX4_set cX4_set 4 (some .boolean) :: ALLG) ({ frames := 1, cells := 0, slots := 0, locals := 21 }) (va_Pc [.ref (q 0), .int (nI i), .int (nI f)] (cP (dC, dI) vwCl [(cI, .int), (cZ, .boolean)] (wM q cI cZ y) eT sz)) (va_Qi (fun (x : Int32) (u : MS) => x = nI (if y.fl i = f then 0 else 1) ∧ u = (y.s_th 0).s_fl (va_up y.fl i f)) (fun (u : MS) => cB (dC, dI) vwCl [(cI, .int), (cZ, .boolean)] (wM q cI cZ u) (va_A (wM q cI cZ y) sz)) (va_A (wM q cI cZ y) sz)) 0 0 (va_A (wM q cI cZ y) sz) := by
  refine xm_of (cc := cX4_set) (maxL := 4) (ret := some .boolean) (by decide) rfl (Nat.le_of_ble_eq_true rfl) ?_
  intro p e s m below meth c A hAe hx hb hr hml hts0 hown hlk hin hsz H locs hP hK hD hA hS hE ls hl
  have hts : ∀ w ∈ ALLG, w.before _ s = true := fun w h => hts0 w (List.mem_cons_of_mem _ h)
  rw [← hAe]
  have hM0 := hM
  have b_n : y.n ≤ 32 := hM.1.1
  have b_c : y.c ≤ 8 := hM.1.2.1
  have b_p : y.p ≤ y.n := hM.1.2.2.1
  have b_vb : ∀ z, y.vb z < 2 := hM.1.2.2.2.1
  have b_ck : ∀ z, y.ck z < 4 := hM.1.2.2.2.2.1
  have b_xx : ∀ z, -1000 ≤ y.xx z ∧ y.xx z ≤ 1000 := hM.1.2.2.2.2.2.1
  have b_yy : ∀ z, -1000 ≤ y.yy z ∧ y.yy z ≤ 1000 := hM.1.2.2.2.2.2.2.1
  have b_fl : ∀ z, y.fl z < 2 := hM.1.2.2.2.2.2.2.2.1
  have b_rw : ∀ z, y.rw z < 32 := hM.1.2.2.2.2.2.2.2.2.2.1
  have b_st : ∀ z, y.st z ≤ 32 := hM.1.2.2.2.2.2.2.2.2.2.2.2
  have g1 := b_fl i
  have hl : lv_has ls 4 [(0, .ref (q 0)), (1, .int (nI i)), (2, .int (nI f))] := hl
  refine lv_aload_n hx hb dX4_set_0 rfl (lv_at hl 0 rfl) ?_
  refine lv_aload_n hx hb dX4_set_1 rfl (lv_at hl 0 rfl) ?_
  refine lv_iload_n hx hb dX4_set_2 rfl (lv_at hl 1 rfl) ?_
  refine xc_Vi (As := [.int (nI i)]) (wr := []) ⟨hx, hb, hml, hown, hts⟩ (c_ScanRowsModel_isLatch l dC dI q cI cZ H.size y (nI i)) (cwV 1 hts (gV tw_707 tw_709 sw_31 tw_5 tw_710) rfl rfl rfl (by decide +kernel) ⟨Nat.le_of_ble_eq_true rfl, Nat.le_of_ble_eq_true rfl⟩) rfl hl.1 rfl (Nat.le_of_ble_eq_true rfl) dX4_set_3 ⟨Nat.zero_le _, Nat.zero_le _⟩ hP hD hK hS hA [0, 1, 2, 3, 4, 5, 6, 7, 8, 9, 10, 11, 12, 13] [] rfl rfl (by decide) (by decide) (by decide) [0, 1] rfl (q0 := 0) rfl rfl rfl eT_M (trivial) (fun r_1 u_2 H locs w_3 hP hD hS => ?_)
  obtain rfl := w_3
  have hP : va_P (dC, dI) vwCl (wM q cI cZ y) H := hP
  have hD : va_D A (wM q cI cZ y) := hD
  refine xt_i (show nI (hcN (nI i) y.n) = nI 1 from congrArg nI (hcN_k h1 (by omega))) ?_
  refine xn_zeq (tgt := 13) hx hb (by omega) dX4_set_6 (by decide) (fun c_4 => ?_) (fun c_4 => ?_)
  · exact absurd (show False by omega) id
  · refine lv_iconst (v := nI 0) hx hb dX4_set_9 (by decide) ?_
    refine lv_goto (tgt := 14) hx hb dX4_set_10 (by decide) ?_
    refine va_put (D := (dC, dI)) (ci := 4) (v := .int (nI 0)) (ty := .int) (C := RX4) (T := TX4) (N := 23) hx hb hts inX4 tyX4 tyX4_ok nmX4 hown hK hP hD hS 0 rfl rfl 0 (by decide) (hts _ tw_572) (fun _ h9 => h9) rfl (by decide +kernel) rfl rfl (Nat.le_of_ble_eq_true rfl) dX4_set_14 (fun H locs hP hD hS => ?_)
    have hP : va_P (dC, dI) vwCl (wM q cI cZ (MS.s_th y 0)) H := hP
    have hD : va_D A (wM q cI cZ (MS.s_th y 0)) := hD
    refine lv_aload_n hx hb dX4_set_17 rfl (lv_at hl 0 rfl) ?_
    refine va_get (D := (dC, dI)) (ci := 4) (v := .int (nI 0)) (C := RX4) (T := TX4) (N := 23) hx hb hts inX4 hown hK hP 0 rfl rfl 0 (by decide) (hts _ tw_572) (fun _ h9 => h9) rfl dX4_set_18 ?_
    refine xn_zle (tgt := 26) hx hb (by omega) dX4_set_21 (by decide) (fun c_5 => ?_) (fun c_5 => ?_)
    · refine lv_aload_n hx hb dX4_set_26 rfl (lv_at hl 0 rfl) ?_
      refine va_get (D := (dC, dI)) (ci := 4) (v := .ref (q 5)) (C := RX4) (T := TX4) (N := 23) hx hb hts inX4 hown hK hP 0 rfl rfl 6 (by decide) (hts _ tw_578) (fun _ h9 => h9) rfl dX4_set_27 ?_
      refine lv_iload_n hx hb dX4_set_30 rfl (lv_at hl 1 rfl) ?_
      refine xa_zld hx hb hK hP 5 1 rfl rfl (v := nI ((MS.fl y) i)) (by omega) (by decide) rfl dX4_set_31 ?_
      refine lv_iload_n hx hb dX4_set_32 rfl (lv_at hl 2 rfl) ?_
      refine xn_ceq (tgt := 40) hx hb (by omega) (by omega) dX4_set_33 (by decide) (fun c_6 => ?_) (fun c_6 => ?_)
      · refine lv_iconst (v := nI 0) hx hb dX4_set_40 (by decide) ?_
        refine lv_istore_n (lv' := [(3, .int (nI 0)), (0, .ref (q 0)), (1, .int (nI i)), (2, .int (nI f))]) hx hb dX4_set_41 rfl hl (by decide) rfl (fun ls hl => ?_)
        refine lv_aload_n hx hb dX4_set_42 rfl (lv_at hl 1 rfl) ?_
        refine va_get (D := (dC, dI)) (ci := 4) (v := .ref (q 5)) (C := RX4) (T := TX4) (N := 23) hx hb hts inX4 hown hK hP 0 rfl rfl 6 (by decide) (hts _ tw_578) (fun _ h9 => h9) rfl dX4_set_43 ?_
        refine lv_iload_n hx hb dX4_set_46 rfl (lv_at hl 2 rfl) ?_
        refine lv_iload_n hx hb dX4_set_47 rfl (lv_at hl 3 rfl) ?_
        refine xa_zst hx hb hK hP hD hS 5 1 rfl rfl (by omega) (by decide) (nar01 h2) (aN_up _ _ _) dX4_set_48 (fun H locs hP hD hS => ?_)
        have hP : va_P (dC, dI) vwCl (wM q cI cZ (MS.s_fl (MS.s_th y 0) (va_up (MS.fl y) i f))) H := hP
        have hD : va_D A (wM q cI cZ (MS.s_fl (MS.s_th y 0) (va_up (MS.fl y) i f))) := hD
        refine lv_iload_n hx hb dX4_set_49 rfl (lv_at hl 0 rfl) ?_
        exact xr_z hx hb hr hlk (by decide) (u := MS.s_fl (MS.s_th y 0) (va_up (MS.fl y) i f)) (⟨by rw [if_pos (by assumption)], rfl⟩) hP hK hD hS dX4_set_50
      · refine lv_iconst (v := nI 1) hx hb dX4_set_36 (by decide) ?_
        refine lv_goto (tgt := 41) hx hb dX4_set_37 (by decide) ?_
        refine lv_istore_n (lv' := [(3, .int (nI 1)), (0, .ref (q 0)), (1, .int (nI i)), (2, .int (nI f))]) hx hb dX4_set_41 rfl hl (by decide) rfl (fun ls hl => ?_)
        refine lv_aload_n hx hb dX4_set_42 rfl (lv_at hl 1 rfl) ?_
        refine va_get (D := (dC, dI)) (ci := 4) (v := .ref (q 5)) (C := RX4) (T := TX4) (N := 23) hx hb hts inX4 hown hK hP 0 rfl rfl 6 (by decide) (hts _ tw_578) (fun _ h9 => h9) rfl dX4_set_43 ?_
        refine lv_iload_n hx hb dX4_set_46 rfl (lv_at hl 2 rfl) ?_
        refine lv_iload_n hx hb dX4_set_47 rfl (lv_at hl 3 rfl) ?_
        refine xa_zst hx hb hK hP hD hS 5 1 rfl rfl (by omega) (by decide) (nar01 h2) (aN_up _ _ _) dX4_set_48 (fun H locs hP hD hS => ?_)
        have hP : va_P (dC, dI) vwCl (wM q cI cZ (MS.s_fl (MS.s_th y 0) (va_up (MS.fl y) i f))) H := hP
        have hD : va_D A (wM q cI cZ (MS.s_fl (MS.s_th y 0) (va_up (MS.fl y) i f))) := hD
        refine lv_iload_n hx hb dX4_set_49 rfl (lv_at hl 0 rfl) ?_
        exact xr_z hx hb hr hlk (by decide) (u := MS.s_fl (MS.s_th y 0) (va_up (MS.fl y) i f)) (⟨by rw [if_neg (by assumption)], rfl⟩) hP hK hD hS dX4_set_50
    · exact absurd (show False by omega) id
set_option maxHeartbeats 4000000 in
set_option maxRecDepth 100000 in
theorem c_ScanRowsModel_load (l : Launch) (dC : Nat → ClassId) (dI : Nat → Nat → Nat) (q : Nat → Nat) (cI cZ : ClassId) (sz : Nat) (y : MS) (i : Nat) (v : Int32) (hM : MB y) (h1 : i < y.n) : Met l yX4_load (.code yX4_load cX4_load 3 none :: ALLG) ({ frames := 1, cells := 0, slots := 0, locals := 21 }) (va_Pc [.ref (q 0), .int (nI i), .int v] (cP (dC, dI) vwCl [(cI, .int), (cZ, .boolean)] (wM q cI cZ y) eT sz)) (va_Qv (fun (u : MS) => u = (y.s_th 0).s_vb (va_up y.vb i (bitN v))) (fun (u : MS) => cB (dC, dI) vwCl [(cI, .int), (cZ, .boolean)] (wM q cI cZ u) (va_A (wM q cI cZ y) sz)) (va_A (wM q cI cZ y) sz)) 0 0 (va_A (wM q cI cZ y) sz) := by
  refine xm_of (cc := cX4_load) (maxL := 3) (ret := none) (by decide) rfl (Nat.le_of_ble_eq_true rfl) ?_
  intro p e s m below meth c A hAe hx hb hr hml hts0 hown hlk hin hsz H locs hP hK hD hA hS hE ls hl
  have hts : ∀ w ∈ ALLG, w.before _ s = true := fun w h => hts0 w (List.mem_cons_of_mem _ h)
  rw [← hAe]
  have hM0 := hM
  have b_n : y.n ≤ 32 := hM.1.1
  have b_c : y.c ≤ 8 := hM.1.2.1
  have b_p : y.p ≤ y.n := hM.1.2.2.1
  have b_vb : ∀ z, y.vb z < 2 := hM.1.2.2.2.1
  have b_ck : ∀ z, y.ck z < 4 := hM.1.2.2.2.2.1
  have b_xx : ∀ z, -1000 ≤ y.xx z ∧ y.xx z ≤ 1000 := hM.1.2.2.2.2.2.1
  have b_yy : ∀ z, -1000 ≤ y.yy z ∧ y.yy z ≤ 1000 := hM.1.2.2.2.2.2.2.1
  have b_fl : ∀ z, y.fl z < 2 := hM.1.2.2.2.2.2.2.2.1
  have b_rw : ∀ z, y.rw z < 32 := hM.1.2.2.2.2.2.2.2.2.2.1
  have b_st : ∀ z, y.st z ≤ 32 := hM.1.2.2.2.2.2.2.2.2.2.2.2
  have hl : lv_has ls 3 [(0, .ref (q 0)), (1, .int (nI i)), (2, .int v)] := hl
  refine lv_aload_n hx hb dX4_load_0 rfl (lv_at hl 0 rfl) ?_
  refine lv_aload_n hx hb dX4_load_1 rfl (lv_at hl 0 rfl) ?_
  refine lv_iload_n hx hb dX4_load_2 rfl (lv_at hl 1 rfl) ?_
  refine xc_Vi (As := [.int (nI i)]) (wr := []) ⟨hx, hb, hml, hown, hts⟩ (c_ScanRowsModel_isLatch l dC dI q cI cZ H.size y (nI i)) (cwV 1 hts (gV tw_707 tw_709 sw_31 tw_5 tw_710) rfl rfl rfl (by decide +kernel) ⟨Nat.le_of_ble_eq_true rfl, Nat.le_of_ble_eq_true rfl⟩) rfl hl.1 rfl (Nat.le_of_ble_eq_true rfl) dX4_load_3 ⟨Nat.zero_le _, Nat.zero_le _⟩ hP hD hK hS hA [0, 1, 2, 3, 4, 5, 6, 7, 8, 9, 10, 11, 12, 13] [] rfl rfl (by decide) (by decide) (by decide) [0, 1] rfl (q0 := 0) rfl rfl rfl eT_M (trivial) (fun r_1 u_2 H locs w_3 hP hD hS => ?_)
  obtain rfl := w_3
  have hP : va_P (dC, dI) vwCl (wM q cI cZ y) H := hP
  have hD : va_D A (wM q cI cZ y) := hD
  refine xt_i (show nI (hcN (nI i) y.n) = nI 1 from congrArg nI (hcN_k h1 (by omega))) ?_
  refine xn_zeq (tgt := 13) hx hb (by omega) dX4_load_6 (by decide) (fun c_4 => ?_) (fun c_4 => ?_)
  · exact absurd (show False by omega) id
  · refine lv_iconst (v := nI 0) hx hb dX4_load_9 (by decide) ?_
    refine lv_goto (tgt := 14) hx hb dX4_load_10 (by decide) ?_
    refine va_put (D := (dC, dI)) (ci := 4) (v := .int (nI 0)) (ty := .int) (C := RX4) (T := TX4) (N := 23) hx hb hts inX4 tyX4 tyX4_ok nmX4 hown hK hP hD hS 0 rfl rfl 0 (by decide) (hts _ tw_572) (fun _ h9 => h9) rfl (by decide +kernel) rfl rfl (Nat.le_of_ble_eq_true rfl) dX4_load_14 (fun H locs hP hD hS => ?_)
    have hP : va_P (dC, dI) vwCl (wM q cI cZ (MS.s_th y 0)) H := hP
    have hD : va_D A (wM q cI cZ (MS.s_th y 0)) := hD
    refine lv_aload_n hx hb dX4_load_17 rfl (lv_at hl 0 rfl) ?_
    refine va_get (D := (dC, dI)) (ci := 4) (v := .int (nI 0)) (C := RX4) (T := TX4) (N := 23) hx hb hts inX4 hown hK hP 0 rfl rfl 0 (by decide) (hts _ tw_572) (fun _ h9 => h9) rfl dX4_load_18 ?_
    refine xn_zne (tgt := 39) hx hb (by omega) dX4_load_21 (by decide) (fun c_5 => ?_) (fun c_5 => ?_)
    · exact absurd (show False by omega) id
    · refine lv_aload_n hx hb dX4_load_24 rfl (lv_at hl 0 rfl) ?_
      refine va_get (D := (dC, dI)) (ci := 4) (v := .ref (q 4)) (C := RX4) (T := TX4) (N := 23) hx hb hts inX4 hown hK hP 0 rfl rfl 5 (by decide) (hts _ tw_577) (fun _ h9 => h9) rfl dX4_load_25 ?_
      refine lv_iload_n hx hb dX4_load_28 rfl (lv_at hl 1 rfl) ?_
      refine lv_iload_n hx hb dX4_load_29 rfl (lv_at hl 2 rfl) ?_
      refine lv_if_ne (tgt := 37) hx hb dX4_load_30 (by decide) (fun c_6 => ?_) (fun c_6 => ?_)
      · refine lv_iconst (v := nI 1) hx hb dX4_load_37 (by decide) ?_
        refine xt_i (show nI 1 = nI (bitN v) from congrArg nI (by unfold bitN; rw [if_neg (by assumption)])) ?_
        refine xa_ist hx hb hK hP hD hS 4 0 rfl rfl (by omega) (by decide) (aN_up _ _ _) dX4_load_38 (fun H locs hP hD hS => ?_)
        have hP : va_P (dC, dI) vwCl (wM q cI cZ (MS.s_vb (MS.s_th y 0) (va_up (MS.vb y) i (bitN v)))) H := hP
        have hD : va_D A (wM q cI cZ (MS.s_vb (MS.s_th y 0) (va_up (MS.vb y) i (bitN v)))) := hD
        exact xr_v hx hb hr hlk (u := MS.s_vb (MS.s_th y 0) (va_up (MS.vb y) i (bitN v))) rfl hP hK hD hS dX4_load_39
      · refine lv_iconst (v := nI 0) hx hb dX4_load_33 (by decide) ?_
        refine lv_goto (tgt := 38) hx hb dX4_load_34 (by decide) ?_
        refine xt_i (show nI 0 = nI (bitN v) from congrArg nI (by unfold bitN; rw [if_pos (by assumption)])) ?_
        refine xa_ist hx hb hK hP hD hS 4 0 rfl rfl (by omega) (by decide) (aN_up _ _ _) dX4_load_38 (fun H locs hP hD hS => ?_)
        have hP : va_P (dC, dI) vwCl (wM q cI cZ (MS.s_vb (MS.s_th y 0) (va_up (MS.vb y) i (bitN v)))) H := hP
        have hD : va_D A (wM q cI cZ (MS.s_vb (MS.s_th y 0) (va_up (MS.vb y) i (bitN v)))) := hD
        exact xr_v hx hb hr hlk (u := MS.s_vb (MS.s_th y 0) (va_up (MS.vb y) i (bitN v))) rfl hP hK hD hS dX4_load_39
set_option maxHeartbeats 4000000 in
set_option maxRecDepth 100000 in
theorem c_ScanRowsModel_value (l : Launch) (dC : Nat → ClassId) (dI : Nat → Nat → Nat) (q : Nat → Nat) (cI cZ : ClassId) (sz : Nat) (y : MS) (i : Nat) (hM : MB y) (h1 : i < y.n) : Met l yX4_value (.code yX4_value cX4_value 2 (some .int) :: ALLG) ({ frames := 1, cells := 0, slots := 0, locals := 21 }) (va_Pc [.ref (q 0), .int (nI i)] (cP (dC, dI) vwCl [(cI, .int), (cZ, .boolean)] (wM q cI cZ y) eT sz)) (va_Qi (fun (x : Int32) (u : MS) => x = nI (y.vb i) ∧ u = y.s_th 0) (fun (u : MS) => cB (dC, dI) vwCl [(cI, .int), (cZ, .boolean)] (wM q cI cZ u) (va_A (wM q cI cZ y) sz)) (va_A (wM q cI cZ y) sz)) 0 0 (va_A (wM q cI cZ y) sz) := by
  refine xm_of (cc := cX4_value) (maxL := 2) (ret := some .int) (by decide) rfl (Nat.le_of_ble_eq_true rfl) ?_
  intro p e s m below meth c A hAe hx hb hr hml hts0 hown hlk hin hsz H locs hP hK hD hA hS hE ls hl
  have hts : ∀ w ∈ ALLG, w.before _ s = true := fun w h => hts0 w (List.mem_cons_of_mem _ h)
  rw [← hAe]
  have hM0 := hM
  have b_n : y.n ≤ 32 := hM.1.1
  have b_c : y.c ≤ 8 := hM.1.2.1
  have b_p : y.p ≤ y.n := hM.1.2.2.1
  have b_vb : ∀ z, y.vb z < 2 := hM.1.2.2.2.1
  have b_ck : ∀ z, y.ck z < 4 := hM.1.2.2.2.2.1
  have b_xx : ∀ z, -1000 ≤ y.xx z ∧ y.xx z ≤ 1000 := hM.1.2.2.2.2.2.1
  have b_yy : ∀ z, -1000 ≤ y.yy z ∧ y.yy z ≤ 1000 := hM.1.2.2.2.2.2.2.1
  have b_fl : ∀ z, y.fl z < 2 := hM.1.2.2.2.2.2.2.2.1
  have b_rw : ∀ z, y.rw z < 32 := hM.1.2.2.2.2.2.2.2.2.2.1
  have b_st : ∀ z, y.st z ≤ 32 := hM.1.2.2.2.2.2.2.2.2.2.2.2
  have hl : lv_has ls 2 [(0, .ref (q 0)), (1, .int (nI i))] := hl
  refine lv_aload_n hx hb dX4_value_0 rfl (lv_at hl 0 rfl) ?_
  refine lv_aload_n hx hb dX4_value_1 rfl (lv_at hl 0 rfl) ?_
  refine lv_iload_n hx hb dX4_value_2 rfl (lv_at hl 1 rfl) ?_
  refine xc_Vi (As := [.int (nI i)]) (wr := []) ⟨hx, hb, hml, hown, hts⟩ (c_ScanRowsModel_isLatch l dC dI q cI cZ H.size y (nI i)) (cwV 1 hts (gV tw_707 tw_709 sw_31 tw_5 tw_710) rfl rfl rfl (by decide +kernel) ⟨Nat.le_of_ble_eq_true rfl, Nat.le_of_ble_eq_true rfl⟩) rfl hl.1 rfl (Nat.le_of_ble_eq_true rfl) dX4_value_3 ⟨Nat.zero_le _, Nat.zero_le _⟩ hP hD hK hS hA [0, 1, 2, 3, 4, 5, 6, 7, 8, 9, 10, 11, 12, 13] [] rfl rfl (by decide) (by decide) (by decide) [0, 1] rfl (q0 := 0) rfl rfl rfl eT_M (trivial) (fun r_1 u_2 H locs w_3 hP hD hS => ?_)
  obtain rfl := w_3
  have hP : va_P (dC, dI) vwCl (wM q cI cZ y) H := hP
  have hD : va_D A (wM q cI cZ y) := hD
  refine xt_i (show nI (hcN (nI i) y.n) = nI 1 from congrArg nI (hcN_k h1 (by omega))) ?_
  refine xn_zeq (tgt := 13) hx hb (by omega) dX4_value_6 (by decide) (fun c_4 => ?_) (fun c_4 => ?_)
  · exact absurd (show False by omega) id
  · refine lv_iconst (v := nI 0) hx hb dX4_value_9 (by decide) ?_
    refine lv_goto (tgt := 14) hx hb dX4_value_10 (by decide) ?_
    refine va_put (D := (dC, dI)) (ci := 4) (v := .int (nI 0)) (ty := .int) (C := RX4) (T := TX4) (N := 23) hx hb hts inX4 tyX4 tyX4_ok nmX4 hown hK hP hD hS 0 rfl rfl 0 (by decide) (hts _ tw_572) (fun _ h9 => h9) rfl (by decide +kernel) rfl rfl (Nat.le_of_ble_eq_true rfl) dX4_value_14 (fun H locs hP hD hS => ?_)
    have hP : va_P (dC, dI) vwCl (wM q cI cZ (MS.s_th y 0)) H := hP
    have hD : va_D A (wM q cI cZ (MS.s_th y 0)) := hD
    refine lv_aload_n hx hb dX4_value_17 rfl (lv_at hl 0 rfl) ?_
    refine va_get (D := (dC, dI)) (ci := 4) (v := .int (nI 0)) (C := RX4) (T := TX4) (N := 23) hx hb hts inX4 hown hK hP 0 rfl rfl 0 (by decide) (hts _ tw_572) (fun _ h9 => h9) rfl dX4_value_18 ?_
    refine xn_zle (tgt := 28) hx hb (by omega) dX4_value_21 (by decide) (fun c_5 => ?_) (fun c_5 => ?_)
    · refine lv_aload_n hx hb dX4_value_28 rfl (lv_at hl 0 rfl) ?_
      refine va_get (D := (dC, dI)) (ci := 4) (v := .ref (q 4)) (C := RX4) (T := TX4) (N := 23) hx hb hts inX4 hown hK hP 0 rfl rfl 5 (by decide) (hts _ tw_577) (fun _ h9 => h9) rfl dX4_value_29 ?_
      refine lv_iload_n hx hb dX4_value_32 rfl (lv_at hl 1 rfl) ?_
      refine xa_ild hx hb hK hP 4 0 rfl rfl (v := nI ((MS.vb y) i)) (by omega) (by decide) rfl dX4_value_33 ?_
      exact xr_i hx hb hr hlk (u := MS.s_th y 0) (⟨rfl, rfl⟩) hP hK hD hS dX4_value_34
    · exact absurd (show False by omega) id
set_option maxHeartbeats 4000000 in
set_option maxRecDepth 100000 in
theorem c_M_set1 (l : Launch) (dC : Nat → ClassId) (dI : Nat → Nat → Nat) (q : Nat → Nat) (cI cZ : ClassId) (sz : Nat) (y : MS) (v : Int32) (f : Nat) (h1 : hcN v y.n = 0) : Met l yX4_set (.code yX4_set cX4_set 4 (some .boolean) :: ALLG) ({ frames := 1, cells := 0, slots := 0, locals := 21 }) (va_Pc [.ref (q 0), .int v, .int (nI f)] (cP (dC, dI) vwCl [(cI, .int), (cZ, .boolean)] (wM q cI cZ y) eT sz)) (va_Qi (fun (x : Int32) (u : MS) => x = nI 0 ∧ u = y.s_th 1) (fun (u : MS) => cB (dC, dI) vwCl [(cI, .int), (cZ, .boolean)] (wM q cI cZ u) (va_A (wM q cI cZ y) sz)) (va_A (wM q cI cZ y) sz)) 0 0 (va_A (wM q cI cZ y) sz) := by
  refine xm_of (cc := cX4_set) (maxL := 4) (ret := some .boolean) (by decide) rfl (Nat.le_of_ble_eq_true rfl) ?_
  intro p e s m below meth c A hAe hx hb hr hml hts0 hown hlk hin hsz H locs hP hK hD hA hS hE ls hl
  have hts : ∀ w ∈ ALLG, w.before _ s = true := fun w h => hts0 w (List.mem_cons_of_mem _ h)
  rw [← hAe]
  have g1 := hcN_le v y.n
  have hl : lv_has ls 4 [(0, .ref (q 0)), (1, .int v), (2, .int (nI f))] := hl
  refine lv_aload_n hx hb dX4_set_0 rfl (lv_at hl 0 rfl) ?_
  refine lv_aload_n hx hb dX4_set_1 rfl (lv_at hl 0 rfl) ?_
  refine lv_iload_n hx hb dX4_set_2 rfl (lv_at hl 1 rfl) ?_
  refine xc_Vi (As := [.int v]) (wr := []) ⟨hx, hb, hml, hown, hts⟩ (c_ScanRowsModel_isLatch l dC dI q cI cZ H.size y v) (cwV 1 hts (gV tw_707 tw_709 sw_31 tw_5 tw_710) rfl rfl rfl (by decide +kernel) ⟨Nat.le_of_ble_eq_true rfl, Nat.le_of_ble_eq_true rfl⟩) rfl hl.1 rfl (Nat.le_of_ble_eq_true rfl) dX4_set_3 ⟨Nat.zero_le _, Nat.zero_le _⟩ hP hD hK hS hA [0, 1, 2, 3, 4, 5, 6, 7, 8, 9, 10, 11, 12, 13] [] rfl rfl (by decide) (by decide) (by decide) [0, 1] rfl (q0 := 0) rfl rfl rfl eT_M (trivial) (fun r_1 u_2 H locs w_3 hP hD hS => ?_)
  obtain rfl := w_3
  have hP : va_P (dC, dI) vwCl (wM q cI cZ y) H := hP
  have hD : va_D A (wM q cI cZ y) := hD
  refine xn_zeq (tgt := 13) hx hb (by omega) dX4_set_6 (by decide) (fun c_4 => ?_) (fun c_4 => ?_)
  · refine lv_iconst (v := nI 1) hx hb dX4_set_13 (by decide) ?_
    refine va_put (D := (dC, dI)) (ci := 4) (v := .int (nI 1)) (ty := .int) (C := RX4) (T := TX4) (N := 23) hx hb hts inX4 tyX4 tyX4_ok nmX4 hown hK hP hD hS 0 rfl rfl 0 (by decide) (hts _ tw_572) (fun _ h9 => h9) rfl (by decide +kernel) rfl rfl (Nat.le_of_ble_eq_true rfl) dX4_set_14 (fun H locs hP hD hS => ?_)
    have hP : va_P (dC, dI) vwCl (wM q cI cZ (MS.s_th y 1)) H := hP
    have hD : va_D A (wM q cI cZ (MS.s_th y 1)) := hD
    refine lv_aload_n hx hb dX4_set_17 rfl (lv_at hl 0 rfl) ?_
    refine va_get (D := (dC, dI)) (ci := 4) (v := .int (nI 1)) (C := RX4) (T := TX4) (N := 23) hx hb hts inX4 hown hK hP 0 rfl rfl 0 (by decide) (hts _ tw_572) (fun _ h9 => h9) rfl dX4_set_18 ?_
    refine xn_zle (tgt := 26) hx hb (by omega) dX4_set_21 (by decide) (fun c_5 => ?_) (fun c_5 => ?_)
    · exact absurd (show False by omega) id
    · refine lv_iconst (v := nI 0) hx hb dX4_set_24 (by decide) ?_
      exact xr_z hx hb hr hlk (by decide) (u := MS.s_th y 1) (⟨rfl, rfl⟩) hP hK hD hS dX4_set_25
  · exact absurd (show False by omega) id
set_option maxHeartbeats 4000000 in
set_option maxRecDepth 100000 in
theorem c_M_load1 (l : Launch) (dC : Nat → ClassId) (dI : Nat → Nat → Nat) (q : Nat → Nat) (cI cZ : ClassId) (sz : Nat) (y : MS) (v lv : Int32) (h1 : hcN v y.n = 0) : Met l yX4_load (.code yX4_load cX4_load 3 none :: ALLG) ({ frames := 1, cells := 0, slots := 0, locals := 21 }) (va_Pc [.ref (q 0), .int v, .int lv] (cP (dC, dI) vwCl [(cI, .int), (cZ, .boolean)] (wM q cI cZ y) eT sz)) (va_Qv (fun (u : MS) => u = y.s_th 1) (fun (u : MS) => cB (dC, dI) vwCl [(cI, .int), (cZ, .boolean)] (wM q cI cZ u) (va_A (wM q cI cZ y) sz)) (va_A (wM q cI cZ y) sz)) 0 0 (va_A (wM q cI cZ y) sz) := by
  refine xm_of (cc := cX4_load) (maxL := 3) (ret := none) (by decide) rfl (Nat.le_of_ble_eq_true rfl) ?_
  intro p e s m below meth c A hAe hx hb hr hml hts0 hown hlk hin hsz H locs hP hK hD hA hS hE ls hl
  have hts : ∀ w ∈ ALLG, w.before _ s = true := fun w h => hts0 w (List.mem_cons_of_mem _ h)
  rw [← hAe]
  have g1 := hcN_le v y.n
  have hl : lv_has ls 3 [(0, .ref (q 0)), (1, .int v), (2, .int lv)] := hl
  refine lv_aload_n hx hb dX4_load_0 rfl (lv_at hl 0 rfl) ?_
  refine lv_aload_n hx hb dX4_load_1 rfl (lv_at hl 0 rfl) ?_
  refine lv_iload_n hx hb dX4_load_2 rfl (lv_at hl 1 rfl) ?_
  refine xc_Vi (As := [.int v]) (wr := []) ⟨hx, hb, hml, hown, hts⟩ (c_ScanRowsModel_isLatch l dC dI q cI cZ H.size y v) (cwV 1 hts (gV tw_707 tw_709 sw_31 tw_5 tw_710) rfl rfl rfl (by decide +kernel) ⟨Nat.le_of_ble_eq_true rfl, Nat.le_of_ble_eq_true rfl⟩) rfl hl.1 rfl (Nat.le_of_ble_eq_true rfl) dX4_load_3 ⟨Nat.zero_le _, Nat.zero_le _⟩ hP hD hK hS hA [0, 1, 2, 3, 4, 5, 6, 7, 8, 9, 10, 11, 12, 13] [] rfl rfl (by decide) (by decide) (by decide) [0, 1] rfl (q0 := 0) rfl rfl rfl eT_M (trivial) (fun r_1 u_2 H locs w_3 hP hD hS => ?_)
  obtain rfl := w_3
  have hP : va_P (dC, dI) vwCl (wM q cI cZ y) H := hP
  have hD : va_D A (wM q cI cZ y) := hD
  refine xn_zeq (tgt := 13) hx hb (by omega) dX4_load_6 (by decide) (fun c_4 => ?_) (fun c_4 => ?_)
  · refine lv_iconst (v := nI 1) hx hb dX4_load_13 (by decide) ?_
    refine va_put (D := (dC, dI)) (ci := 4) (v := .int (nI 1)) (ty := .int) (C := RX4) (T := TX4) (N := 23) hx hb hts inX4 tyX4 tyX4_ok nmX4 hown hK hP hD hS 0 rfl rfl 0 (by decide) (hts _ tw_572) (fun _ h9 => h9) rfl (by decide +kernel) rfl rfl (Nat.le_of_ble_eq_true rfl) dX4_load_14 (fun H locs hP hD hS => ?_)
    have hP : va_P (dC, dI) vwCl (wM q cI cZ (MS.s_th y 1)) H := hP
    have hD : va_D A (wM q cI cZ (MS.s_th y 1)) := hD
    refine lv_aload_n hx hb dX4_load_17 rfl (lv_at hl 0 rfl) ?_
    refine va_get (D := (dC, dI)) (ci := 4) (v := .int (nI 1)) (C := RX4) (T := TX4) (N := 23) hx hb hts inX4 hown hK hP 0 rfl rfl 0 (by decide) (hts _ tw_572) (fun _ h9 => h9) rfl dX4_load_18 ?_
    refine xn_zne (tgt := 39) hx hb (by omega) dX4_load_21 (by decide) (fun c_5 => ?_) (fun c_5 => ?_)
    · exact xr_v hx hb hr hlk (u := MS.s_th y 1) rfl hP hK hD hS dX4_load_39
    · exact absurd (show False by omega) id
  · exact absurd (show False by omega) id
set_option maxHeartbeats 4000000 in
set_option maxRecDepth 100000 in
theorem c_M_value1 (l : Launch) (dC : Nat → ClassId) (dI : Nat → Nat → Nat) (q : Nat → Nat) (cI cZ : ClassId) (sz : Nat) (y : MS) (v : Int32) (h1 : hcN v y.n = 0) : Met l yX4_value (.code yX4_value cX4_value 2 (some .int) :: ALLG) ({ frames := 1, cells := 0, slots := 0, locals := 21 }) (va_Pc [.ref (q 0), .int v] (cP (dC, dI) vwCl [(cI, .int), (cZ, .boolean)] (wM q cI cZ y) eT sz)) (va_Qi (fun (x : Int32) (u : MS) => x = nI 0 ∧ u = y.s_th 1) (fun (u : MS) => cB (dC, dI) vwCl [(cI, .int), (cZ, .boolean)] (wM q cI cZ u) (va_A (wM q cI cZ y) sz)) (va_A (wM q cI cZ y) sz)) 0 0 (va_A (wM q cI cZ y) sz) := by
  refine xm_of (cc := cX4_value) (maxL := 2) (ret := some .int) (by decide) rfl (Nat.le_of_ble_eq_true rfl) ?_
  intro p e s m below meth c A hAe hx hb hr hml hts0 hown hlk hin hsz H locs hP hK hD hA hS hE ls hl
  have hts : ∀ w ∈ ALLG, w.before _ s = true := fun w h => hts0 w (List.mem_cons_of_mem _ h)
  rw [← hAe]
  have g1 := hcN_le v y.n
  have hl : lv_has ls 2 [(0, .ref (q 0)), (1, .int v)] := hl
  refine lv_aload_n hx hb dX4_value_0 rfl (lv_at hl 0 rfl) ?_
  refine lv_aload_n hx hb dX4_value_1 rfl (lv_at hl 0 rfl) ?_
  refine lv_iload_n hx hb dX4_value_2 rfl (lv_at hl 1 rfl) ?_
  refine xc_Vi (As := [.int v]) (wr := []) ⟨hx, hb, hml, hown, hts⟩ (c_ScanRowsModel_isLatch l dC dI q cI cZ H.size y v) (cwV 1 hts (gV tw_707 tw_709 sw_31 tw_5 tw_710) rfl rfl rfl (by decide +kernel) ⟨Nat.le_of_ble_eq_true rfl, Nat.le_of_ble_eq_true rfl⟩) rfl hl.1 rfl (Nat.le_of_ble_eq_true rfl) dX4_value_3 ⟨Nat.zero_le _, Nat.zero_le _⟩ hP hD hK hS hA [0, 1, 2, 3, 4, 5, 6, 7, 8, 9, 10, 11, 12, 13] [] rfl rfl (by decide) (by decide) (by decide) [0, 1] rfl (q0 := 0) rfl rfl rfl eT_M (trivial) (fun r_1 u_2 H locs w_3 hP hD hS => ?_)
  obtain rfl := w_3
  have hP : va_P (dC, dI) vwCl (wM q cI cZ y) H := hP
  have hD : va_D A (wM q cI cZ y) := hD
  refine xn_zeq (tgt := 13) hx hb (by omega) dX4_value_6 (by decide) (fun c_4 => ?_) (fun c_4 => ?_)
  · refine lv_iconst (v := nI 1) hx hb dX4_value_13 (by decide) ?_
    refine va_put (D := (dC, dI)) (ci := 4) (v := .int (nI 1)) (ty := .int) (C := RX4) (T := TX4) (N := 23) hx hb hts inX4 tyX4 tyX4_ok nmX4 hown hK hP hD hS 0 rfl rfl 0 (by decide) (hts _ tw_572) (fun _ h9 => h9) rfl (by decide +kernel) rfl rfl (Nat.le_of_ble_eq_true rfl) dX4_value_14 (fun H locs hP hD hS => ?_)
    have hP : va_P (dC, dI) vwCl (wM q cI cZ (MS.s_th y 1)) H := hP
    have hD : va_D A (wM q cI cZ (MS.s_th y 1)) := hD
    refine lv_aload_n hx hb dX4_value_17 rfl (lv_at hl 0 rfl) ?_
    refine va_get (D := (dC, dI)) (ci := 4) (v := .int (nI 1)) (C := RX4) (T := TX4) (N := 23) hx hb hts inX4 hown hK hP 0 rfl rfl 0 (by decide) (hts _ tw_572) (fun _ h9 => h9) rfl dX4_value_18 ?_
    refine xn_zle (tgt := 28) hx hb (by omega) dX4_value_21 (by decide) (fun c_5 => ?_) (fun c_5 => ?_)
    · exact absurd (show False by omega) id
    · refine lv_iconst (v := nI 0) hx hb dX4_value_24 (by decide) ?_
      refine lv_goto (tgt := 34) hx hb dX4_value_25 (by decide) ?_
      exact xr_i hx hb hr hlk (u := MS.s_th y 1) (⟨rfl, rfl⟩) hP hK hD hS dX4_value_34
  · exact absurd (show False by omega) id
