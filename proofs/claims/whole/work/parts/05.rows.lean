theorem sw_0 : Cond.selects "ScanRows$Rows" (⟨"ScanRows$Rows", "wayBehind", "(I)I"⟩ : MethodName) (⟨"ScanRows$Rows", "wayBehind", "(I)I"⟩ : MethodName) ∈ ALLG := al_s (i := 0) (by decide +kernel) (by decide +kernel)
theorem sw_1 : Cond.selects "ScanRows$Rows" (⟨"ScanRows$Rows", "hasNeighbourBehind", "(I)Z"⟩ : MethodName) (⟨"ScanRows$Rows", "hasNeighbourBehind", "(I)Z"⟩ : MethodName) ∈ ALLG := al_s (i := 1) (by decide +kernel) (by decide +kernel)
theorem tw_2 : (Cond.initialized "ScanRows$Rows") ∈ ALLG := al_t (i := 2) (by decide +kernel) (by decide +kernel)
theorem tw_12 : (Cond.initialized "java/lang/Math") ∈ ALLG := al_t (i := 12) (by decide +kernel) (by decide +kernel)
theorem tw_27 : (Cond.fieldLink "ScanRows$Rows" (40 : Nat) "ScanRows$Rows" "latches" "I") ∈ ALLG := al_t (i := 27) (by decide +kernel) (by decide +kernel)
theorem tw_29 : (Cond.fieldLink "ScanRows$Rows" (62 : Nat) "ScanRows$Rows" "chains" "I") ∈ ALLG := al_t (i := 29) (by decide +kernel) (by decide +kernel)
theorem tw_32 : (Cond.fieldLink "ScanRows$Rows" (59 : Nat) "ScanRows$Rows" "placed" "I") ∈ ALLG := al_t (i := 32) (by decide +kernel) (by decide +kernel)
theorem tw_33 : (Cond.fieldLink "ScanRows$Rows" (9 : Nat) "ScanRows$Rows" "value" "[I") ∈ ALLG := al_t (i := 33) (by decide +kernel) (by decide +kernel)
theorem tw_35 : (Cond.fieldLink "ScanRows$Rows" (15 : Nat) "ScanRows$Rows" "clock" "[I") ∈ ALLG := al_t (i := 35) (by decide +kernel) (by decide +kernel)
theorem tw_36 : (Cond.fieldLink "ScanRows$Rows" (18 : Nat) "ScanRows$Rows" "x" "[I") ∈ ALLG := al_t (i := 36) (by decide +kernel) (by decide +kernel)
theorem tw_37 : (Cond.fieldLink "ScanRows$Rows" (21 : Nat) "ScanRows$Rows" "y" "[I") ∈ ALLG := al_t (i := 37) (by decide +kernel) (by decide +kernel)
theorem tw_38 : (Cond.fieldLink "ScanRows$Rows" (24 : Nat) "ScanRows$Rows" "fromLogic" "[Z") ∈ ALLG := al_t (i := 38) (by decide +kernel) (by decide +kernel)
theorem tw_39 : (Cond.fieldLink "ScanRows$Rows" (28 : Nat) "ScanRows$Rows" "placeOf" "[I") ∈ ALLG := al_t (i := 39) (by decide +kernel) (by decide +kernel)
theorem tw_40 : (Cond.fieldLink "ScanRows$Rows" (31 : Nat) "ScanRows$Rows" "row" "[I") ∈ ALLG := al_t (i := 40) (by decide +kernel) (by decide +kernel)
theorem tw_41 : (Cond.fieldLink "ScanRows$Rows" (34 : Nat) "ScanRows$Rows" "chainOf" "[I") ∈ ALLG := al_t (i := 41) (by decide +kernel) (by decide +kernel)
theorem tw_42 : (Cond.fieldLink "ScanRows$Rows" (37 : Nat) "ScanRows$Rows" "start" "[I") ∈ ALLG := al_t (i := 42) (by decide +kernel) (by decide +kernel)
theorem tw_149 : (Cond.methodLink "ScanRows$Rows" (69 : Nat) ({ cls := "ScanRows$Rows", name := "wayBehind", desc := "(I)I" } : Jvm.MethodName)) ∈ ALLG := al_t (i := 149) (by decide +kernel) (by decide +kernel)
theorem tw_151 : (Cond.instanceMethod ({ cls := "ScanRows$Rows", name := "wayBehind", desc := "(I)I" } : Jvm.MethodName)) ∈ ALLG := al_t (i := 151) (by decide +kernel) (by decide +kernel)
theorem tw_152 : (Cond.code ({ cls := "ScanRows$Rows", name := "wayBehind", desc := "(I)I" } : Jvm.MethodName) prog_4_method_13_code (4 : Nat) (Option.some FieldType.int)) ∈ ALLG := al_t (i := 152) (by decide +kernel) (by decide +kernel)
theorem tw_153 : (Cond.methodLink "ScanRows$Rows" (65 : Nat) ({ cls := "ScanRows$Rows", name := "hasNeighbourBehind", desc := "(I)Z" } : Jvm.MethodName)) ∈ ALLG := al_t (i := 153) (by decide +kernel) (by decide +kernel)
theorem tw_155 : (Cond.instanceMethod ({ cls := "ScanRows$Rows", name := "hasNeighbourBehind", desc := "(I)Z" } : Jvm.MethodName)) ∈ ALLG := al_t (i := 155) (by decide +kernel) (by decide +kernel)
theorem tw_156 : (Cond.code ({ cls := "ScanRows$Rows", name := "hasNeighbourBehind", desc := "(I)Z" } : Jvm.MethodName) prog_4_method_11_code (2 : Nat) (Option.some FieldType.boolean)) ∈ ALLG := al_t (i := 156) (by decide +kernel) (by decide +kernel)
theorem tw_157 : (Cond.methodLink "ScanRows$Rows" (72 : Nat) ({ cls := "java/lang/Math", name := "abs", desc := "(I)I" } : Jvm.MethodName)) ∈ ALLG := al_t (i := 157) (by decide +kernel) (by decide +kernel)
theorem tw_158 : (Cond.static ({ cls := "java/lang/Math", name := "abs", desc := "(I)I" } : Jvm.MethodName)) ∈ ALLG := al_t (i := 158) (by decide +kernel) (by decide +kernel)
theorem tw_159 : (Cond.code ({ cls := "java/lang/Math", name := "abs", desc := "(I)I" } : Jvm.MethodName) prog_10_method_59_code (1 : Nat) (Option.some FieldType.int)) ∈ ALLG := al_t (i := 159) (by decide +kernel) (by decide +kernel)
theorem dX2_hasChain_0 : decode cX2_hasChain 0 = .ok (.iload_n 1, 1) := by decide +kernel
theorem dX2_hasChain_1 : decode cX2_hasChain 1 = .ok (.ifCond .lt 15, 3) := by decide +kernel
theorem dX2_hasChain_4 : decode cX2_hasChain 4 = .ok (.iload_n 1, 1) := by decide +kernel
theorem dX2_hasChain_5 : decode cX2_hasChain 5 = .ok (.aload_n 0, 1) := by decide +kernel
theorem dX2_hasChain_6 : decode cX2_hasChain 6 = .ok (.getfield 62, 3) := by decide +kernel
theorem dX2_hasChain_9 : decode cX2_hasChain 9 = .ok (.if_icmp .ge 7, 3) := by decide +kernel
theorem dX2_hasChain_12 : decode cX2_hasChain 12 = .ok (.iconst 1, 1) := by decide +kernel
theorem dX2_hasChain_13 : decode cX2_hasChain 13 = .ok (.goto 4, 3) := by decide +kernel
theorem dX2_hasChain_16 : decode cX2_hasChain 16 = .ok (.iconst 0, 1) := by decide +kernel
theorem dX2_hasChain_17 : decode cX2_hasChain 17 = .ok (.ireturn, 1) := by decide +kernel
theorem dX2_lengthOf_0 : decode cX2_lengthOf 0 = .ok (.aload_n 0, 1) := by decide +kernel
theorem dX2_lengthOf_1 : decode cX2_lengthOf 1 = .ok (.getfield 37, 3) := by decide +kernel
theorem dX2_lengthOf_4 : decode cX2_lengthOf 4 = .ok (.iload_n 1, 1) := by decide +kernel
theorem dX2_lengthOf_5 : decode cX2_lengthOf 5 = .ok (.iconst 1, 1) := by decide +kernel
theorem dX2_lengthOf_6 : decode cX2_lengthOf 6 = .ok (.iadd, 1) := by decide +kernel
theorem dX2_lengthOf_7 : decode cX2_lengthOf 7 = .ok (.iaload, 1) := by decide +kernel
theorem dX2_lengthOf_8 : decode cX2_lengthOf 8 = .ok (.aload_n 0, 1) := by decide +kernel
theorem dX2_lengthOf_9 : decode cX2_lengthOf 9 = .ok (.getfield 37, 3) := by decide +kernel
theorem dX2_lengthOf_12 : decode cX2_lengthOf 12 = .ok (.iload_n 1, 1) := by decide +kernel
theorem dX2_lengthOf_13 : decode cX2_lengthOf 13 = .ok (.iaload, 1) := by decide +kernel
theorem dX2_lengthOf_14 : decode cX2_lengthOf 14 = .ok (.isub, 1) := by decide +kernel
theorem dX2_lengthOf_15 : decode cX2_lengthOf 15 = .ok (.ireturn, 1) := by decide +kernel
theorem dX2_latchAt_0 : decode cX2_latchAt 0 = .ok (.aload_n 0, 1) := by decide +kernel
theorem dX2_latchAt_1 : decode cX2_latchAt 1 = .ok (.getfield 31, 3) := by decide +kernel
theorem dX2_latchAt_4 : decode cX2_latchAt 4 = .ok (.aload_n 0, 1) := by decide +kernel
theorem dX2_latchAt_5 : decode cX2_latchAt 5 = .ok (.getfield 37, 3) := by decide +kernel
theorem dX2_latchAt_8 : decode cX2_latchAt 8 = .ok (.iload_n 1, 1) := by decide +kernel
theorem dX2_latchAt_9 : decode cX2_latchAt 9 = .ok (.iaload, 1) := by decide +kernel
theorem dX2_latchAt_10 : decode cX2_latchAt 10 = .ok (.iload_n 2, 1) := by decide +kernel
theorem dX2_latchAt_11 : decode cX2_latchAt 11 = .ok (.iadd, 1) := by decide +kernel
theorem dX2_latchAt_12 : decode cX2_latchAt 12 = .ok (.iaload, 1) := by decide +kernel
theorem dX2_latchAt_13 : decode cX2_latchAt 13 = .ok (.ireturn, 1) := by decide +kernel
theorem dX2_hasNeighbourBehind_0 : decode cX2_hasNeighbourBehind 0 = .ok (.iload_n 1, 1) := by decide +kernel
theorem dX2_hasNeighbourBehind_1 : decode cX2_hasNeighbourBehind 1 = .ok (.ifCond .lt 34, 3) := by decide +kernel
theorem dX2_hasNeighbourBehind_4 : decode cX2_hasNeighbourBehind 4 = .ok (.iload_n 1, 1) := by decide +kernel
theorem dX2_hasNeighbourBehind_5 : decode cX2_hasNeighbourBehind 5 = .ok (.iconst 1, 1) := by decide +kernel
theorem dX2_hasNeighbourBehind_6 : decode cX2_hasNeighbourBehind 6 = .ok (.iadd, 1) := by decide +kernel
theorem dX2_hasNeighbourBehind_7 : decode cX2_hasNeighbourBehind 7 = .ok (.aload_n 0, 1) := by decide +kernel
theorem dX2_hasNeighbourBehind_8 : decode cX2_hasNeighbourBehind 8 = .ok (.getfield 59, 3) := by decide +kernel
theorem dX2_hasNeighbourBehind_11 : decode cX2_hasNeighbourBehind 11 = .ok (.if_icmp .ge 24, 3) := by decide +kernel
theorem dX2_hasNeighbourBehind_14 : decode cX2_hasNeighbourBehind 14 = .ok (.aload_n 0, 1) := by decide +kernel
theorem dX2_hasNeighbourBehind_15 : decode cX2_hasNeighbourBehind 15 = .ok (.getfield 34, 3) := by decide +kernel
theorem dX2_hasNeighbourBehind_18 : decode cX2_hasNeighbourBehind 18 = .ok (.iload_n 1, 1) := by decide +kernel
theorem dX2_hasNeighbourBehind_19 : decode cX2_hasNeighbourBehind 19 = .ok (.iaload, 1) := by decide +kernel
theorem dX2_hasNeighbourBehind_20 : decode cX2_hasNeighbourBehind 20 = .ok (.aload_n 0, 1) := by decide +kernel
theorem dX2_hasNeighbourBehind_21 : decode cX2_hasNeighbourBehind 21 = .ok (.getfield 34, 3) := by decide +kernel
theorem dX2_hasNeighbourBehind_24 : decode cX2_hasNeighbourBehind 24 = .ok (.iload_n 1, 1) := by decide +kernel
theorem dX2_hasNeighbourBehind_25 : decode cX2_hasNeighbourBehind 25 = .ok (.iconst 1, 1) := by decide +kernel
theorem dX2_hasNeighbourBehind_26 : decode cX2_hasNeighbourBehind 26 = .ok (.iadd, 1) := by decide +kernel
theorem dX2_hasNeighbourBehind_27 : decode cX2_hasNeighbourBehind 27 = .ok (.iaload, 1) := by decide +kernel
theorem dX2_hasNeighbourBehind_28 : decode cX2_hasNeighbourBehind 28 = .ok (.if_icmp .ne 7, 3) := by decide +kernel
theorem dX2_hasNeighbourBehind_31 : decode cX2_hasNeighbourBehind 31 = .ok (.iconst 1, 1) := by decide +kernel
theorem dX2_hasNeighbourBehind_32 : decode cX2_hasNeighbourBehind 32 = .ok (.goto 4, 3) := by decide +kernel
theorem dX2_hasNeighbourBehind_35 : decode cX2_hasNeighbourBehind 35 = .ok (.iconst 0, 1) := by decide +kernel
theorem dX2_hasNeighbourBehind_36 : decode cX2_hasNeighbourBehind 36 = .ok (.ireturn, 1) := by decide +kernel
theorem dX2_clockChangesBehind_0 : decode cX2_clockChangesBehind 0 = .ok (.aload_n 0, 1) := by decide +kernel
theorem dX2_clockChangesBehind_1 : decode cX2_clockChangesBehind 1 = .ok (.getfield 37, 3) := by decide +kernel
theorem dX2_clockChangesBehind_4 : decode cX2_clockChangesBehind 4 = .ok (.iload_n 1, 1) := by decide +kernel
theorem dX2_clockChangesBehind_5 : decode cX2_clockChangesBehind 5 = .ok (.iaload, 1) := by decide +kernel
theorem dX2_clockChangesBehind_6 : decode cX2_clockChangesBehind 6 = .ok (.iload_n 2, 1) := by decide +kernel
theorem dX2_clockChangesBehind_7 : decode cX2_clockChangesBehind 7 = .ok (.iadd, 1) := by decide +kernel
theorem dX2_clockChangesBehind_8 : decode cX2_clockChangesBehind 8 = .ok (.istore_n 3, 1) := by decide +kernel
theorem dX2_clockChangesBehind_9 : decode cX2_clockChangesBehind 9 = .ok (.aload_n 0, 1) := by decide +kernel
theorem dX2_clockChangesBehind_10 : decode cX2_clockChangesBehind 10 = .ok (.iload_n 3, 1) := by decide +kernel
theorem dX2_clockChangesBehind_11 : decode cX2_clockChangesBehind 11 = .ok (.invokevirtual 65, 3) := by decide +kernel
theorem dX2_clockChangesBehind_14 : decode cX2_clockChangesBehind 14 = .ok (.ifCond .eq 34, 3) := by decide +kernel
theorem dX2_clockChangesBehind_17 : decode cX2_clockChangesBehind 17 = .ok (.aload_n 0, 1) := by decide +kernel
theorem dX2_clockChangesBehind_18 : decode cX2_clockChangesBehind 18 = .ok (.getfield 15, 3) := by decide +kernel
theorem dX2_clockChangesBehind_21 : decode cX2_clockChangesBehind 21 = .ok (.aload_n 0, 1) := by decide +kernel
theorem dX2_clockChangesBehind_22 : decode cX2_clockChangesBehind 22 = .ok (.getfield 31, 3) := by decide +kernel
theorem dX2_clockChangesBehind_25 : decode cX2_clockChangesBehind 25 = .ok (.iload_n 3, 1) := by decide +kernel
theorem dX2_clockChangesBehind_26 : decode cX2_clockChangesBehind 26 = .ok (.iaload, 1) := by decide +kernel
theorem dX2_clockChangesBehind_27 : decode cX2_clockChangesBehind 27 = .ok (.iaload, 1) := by decide +kernel
theorem dX2_clockChangesBehind_28 : decode cX2_clockChangesBehind 28 = .ok (.aload_n 0, 1) := by decide +kernel
theorem dX2_clockChangesBehind_29 : decode cX2_clockChangesBehind 29 = .ok (.getfield 15, 3) := by decide +kernel
theorem dX2_clockChangesBehind_32 : decode cX2_clockChangesBehind 32 = .ok (.aload_n 0, 1) := by decide +kernel
theorem dX2_clockChangesBehind_33 : decode cX2_clockChangesBehind 33 = .ok (.getfield 31, 3) := by decide +kernel
theorem dX2_clockChangesBehind_36 : decode cX2_clockChangesBehind 36 = .ok (.iload_n 3, 1) := by decide +kernel
theorem dX2_clockChangesBehind_37 : decode cX2_clockChangesBehind 37 = .ok (.iconst 1, 1) := by decide +kernel
theorem dX2_clockChangesBehind_38 : decode cX2_clockChangesBehind 38 = .ok (.iadd, 1) := by decide +kernel
theorem dX2_clockChangesBehind_39 : decode cX2_clockChangesBehind 39 = .ok (.iaload, 1) := by decide +kernel
theorem dX2_clockChangesBehind_40 : decode cX2_clockChangesBehind 40 = .ok (.iaload, 1) := by decide +kernel
theorem dX2_clockChangesBehind_41 : decode cX2_clockChangesBehind 41 = .ok (.if_icmp .eq 7, 3) := by decide +kernel
theorem dX2_clockChangesBehind_44 : decode cX2_clockChangesBehind 44 = .ok (.iconst 1, 1) := by decide +kernel
theorem dX2_clockChangesBehind_45 : decode cX2_clockChangesBehind 45 = .ok (.goto 4, 3) := by decide +kernel
theorem dX2_clockChangesBehind_48 : decode cX2_clockChangesBehind 48 = .ok (.iconst 0, 1) := by decide +kernel
theorem dX2_clockChangesBehind_49 : decode cX2_clockChangesBehind 49 = .ok (.ireturn, 1) := by decide +kernel
theorem dX2_wayBehind_0 : decode cX2_wayBehind 0 = .ok (.aload_n 0, 1) := by decide +kernel
theorem dX2_wayBehind_1 : decode cX2_wayBehind 1 = .ok (.iload_n 1, 1) := by decide +kernel
theorem dX2_wayBehind_2 : decode cX2_wayBehind 2 = .ok (.invokevirtual 65, 3) := by decide +kernel
theorem dX2_wayBehind_5 : decode cX2_wayBehind 5 = .ok (.ifCond .ne 5, 3) := by decide +kernel
theorem dX2_wayBehind_8 : decode cX2_wayBehind 8 = .ok (.iconst 0, 1) := by decide +kernel
theorem dX2_wayBehind_9 : decode cX2_wayBehind 9 = .ok (.ireturn, 1) := by decide +kernel
theorem dX2_wayBehind_10 : decode cX2_wayBehind 10 = .ok (.aload_n 0, 1) := by decide +kernel
theorem dX2_wayBehind_11 : decode cX2_wayBehind 11 = .ok (.getfield 31, 3) := by decide +kernel
theorem dX2_wayBehind_14 : decode cX2_wayBehind 14 = .ok (.iload_n 1, 1) := by decide +kernel
theorem dX2_wayBehind_15 : decode cX2_wayBehind 15 = .ok (.iaload, 1) := by decide +kernel
theorem dX2_wayBehind_16 : decode cX2_wayBehind 16 = .ok (.istore_n 2, 1) := by decide +kernel
theorem dX2_wayBehind_17 : decode cX2_wayBehind 17 = .ok (.aload_n 0, 1) := by decide +kernel
theorem dX2_wayBehind_18 : decode cX2_wayBehind 18 = .ok (.getfield 31, 3) := by decide +kernel
theorem dX2_wayBehind_21 : decode cX2_wayBehind 21 = .ok (.iload_n 1, 1) := by decide +kernel
theorem dX2_wayBehind_22 : decode cX2_wayBehind 22 = .ok (.iconst 1, 1) := by decide +kernel
theorem dX2_wayBehind_23 : decode cX2_wayBehind 23 = .ok (.iadd, 1) := by decide +kernel
theorem dX2_wayBehind_24 : decode cX2_wayBehind 24 = .ok (.iaload, 1) := by decide +kernel
theorem dX2_wayBehind_25 : decode cX2_wayBehind 25 = .ok (.istore_n 3, 1) := by decide +kernel
theorem dX2_wayBehind_26 : decode cX2_wayBehind 26 = .ok (.aload_n 0, 1) := by decide +kernel
theorem dX2_wayBehind_27 : decode cX2_wayBehind 27 = .ok (.getfield 18, 3) := by decide +kernel
theorem dX2_wayBehind_30 : decode cX2_wayBehind 30 = .ok (.iload_n 2, 1) := by decide +kernel
theorem dX2_wayBehind_31 : decode cX2_wayBehind 31 = .ok (.iaload, 1) := by decide +kernel
theorem dX2_wayBehind_32 : decode cX2_wayBehind 32 = .ok (.aload_n 0, 1) := by decide +kernel
theorem dX2_wayBehind_33 : decode cX2_wayBehind 33 = .ok (.getfield 18, 3) := by decide +kernel
theorem dX2_wayBehind_36 : decode cX2_wayBehind 36 = .ok (.iload_n 3, 1) := by decide +kernel
theorem dX2_wayBehind_37 : decode cX2_wayBehind 37 = .ok (.iaload, 1) := by decide +kernel
theorem dX2_wayBehind_38 : decode cX2_wayBehind 38 = .ok (.isub, 1) := by decide +kernel
theorem dX2_wayBehind_39 : decode cX2_wayBehind 39 = .ok (.invokestatic 72, 3) := by decide +kernel
theorem dX2_wayBehind_42 : decode cX2_wayBehind 42 = .ok (.aload_n 0, 1) := by decide +kernel
theorem dX2_wayBehind_43 : decode cX2_wayBehind 43 = .ok (.getfield 21, 3) := by decide +kernel
theorem dX2_wayBehind_46 : decode cX2_wayBehind 46 = .ok (.iload_n 2, 1) := by decide +kernel
theorem dX2_wayBehind_47 : decode cX2_wayBehind 47 = .ok (.iaload, 1) := by decide +kernel
theorem dX2_wayBehind_48 : decode cX2_wayBehind 48 = .ok (.aload_n 0, 1) := by decide +kernel
theorem dX2_wayBehind_49 : decode cX2_wayBehind 49 = .ok (.getfield 21, 3) := by decide +kernel
theorem dX2_wayBehind_52 : decode cX2_wayBehind 52 = .ok (.iload_n 3, 1) := by decide +kernel
theorem dX2_wayBehind_53 : decode cX2_wayBehind 53 = .ok (.iaload, 1) := by decide +kernel
theorem dX2_wayBehind_54 : decode cX2_wayBehind 54 = .ok (.isub, 1) := by decide +kernel
theorem dX2_wayBehind_55 : decode cX2_wayBehind 55 = .ok (.invokestatic 72, 3) := by decide +kernel
theorem dX2_wayBehind_58 : decode cX2_wayBehind 58 = .ok (.iadd, 1) := by decide +kernel
theorem dX2_wayBehind_59 : decode cX2_wayBehind 59 = .ok (.ireturn, 1) := by decide +kernel
theorem dX2_wayAround_0 : decode cX2_wayAround 0 = .ok (.aload_n 0, 1) := by decide +kernel
theorem dX2_wayAround_1 : decode cX2_wayAround 1 = .ok (.iload_n 1, 1) := by decide +kernel
theorem dX2_wayAround_2 : decode cX2_wayAround 2 = .ok (.iconst 1, 1) := by decide +kernel
theorem dX2_wayAround_3 : decode cX2_wayAround 3 = .ok (.isub, 1) := by decide +kernel
theorem dX2_wayAround_4 : decode cX2_wayAround 4 = .ok (.invokevirtual 69, 3) := by decide +kernel
theorem dX2_wayAround_7 : decode cX2_wayAround 7 = .ok (.aload_n 0, 1) := by decide +kernel
theorem dX2_wayAround_8 : decode cX2_wayAround 8 = .ok (.iload_n 1, 1) := by decide +kernel
theorem dX2_wayAround_9 : decode cX2_wayAround 9 = .ok (.invokevirtual 69, 3) := by decide +kernel
theorem dX2_wayAround_12 : decode cX2_wayAround 12 = .ok (.iadd, 1) := by decide +kernel
theorem dX2_wayAround_13 : decode cX2_wayAround 13 = .ok (.ireturn, 1) := by decide +kernel
theorem dX2_mayExchange_0 : decode cX2_mayExchange 0 = .ok (.aload_n 0, 1) := by decide +kernel
theorem dX2_mayExchange_1 : decode cX2_mayExchange 1 = .ok (.getfield 15, 3) := by decide +kernel
theorem dX2_mayExchange_4 : decode cX2_mayExchange 4 = .ok (.iload_n 1, 1) := by decide +kernel
theorem dX2_mayExchange_5 : decode cX2_mayExchange 5 = .ok (.iaload, 1) := by decide +kernel
theorem dX2_mayExchange_6 : decode cX2_mayExchange 6 = .ok (.aload_n 0, 1) := by decide +kernel
theorem dX2_mayExchange_7 : decode cX2_mayExchange 7 = .ok (.getfield 15, 3) := by decide +kernel
theorem dX2_mayExchange_10 : decode cX2_mayExchange 10 = .ok (.iload_n 2, 1) := by decide +kernel
theorem dX2_mayExchange_11 : decode cX2_mayExchange 11 = .ok (.iaload, 1) := by decide +kernel
theorem dX2_mayExchange_12 : decode cX2_mayExchange 12 = .ok (.if_icmp .ne 27, 3) := by decide +kernel
theorem dX2_mayExchange_15 : decode cX2_mayExchange 15 = .ok (.aload_n 0, 1) := by decide +kernel
theorem dX2_mayExchange_16 : decode cX2_mayExchange 16 = .ok (.getfield 28, 3) := by decide +kernel
theorem dX2_mayExchange_19 : decode cX2_mayExchange 19 = .ok (.iload_n 1, 1) := by decide +kernel
theorem dX2_mayExchange_20 : decode cX2_mayExchange 20 = .ok (.iaload, 1) := by decide +kernel
theorem dX2_mayExchange_21 : decode cX2_mayExchange 21 = .ok (.iconst (-1), 1) := by decide +kernel
theorem dX2_mayExchange_22 : decode cX2_mayExchange 22 = .ok (.if_icmp .eq 17, 3) := by decide +kernel
theorem dX2_mayExchange_25 : decode cX2_mayExchange 25 = .ok (.aload_n 0, 1) := by decide +kernel
theorem dX2_mayExchange_26 : decode cX2_mayExchange 26 = .ok (.getfield 28, 3) := by decide +kernel
theorem dX2_mayExchange_29 : decode cX2_mayExchange 29 = .ok (.iload_n 2, 1) := by decide +kernel
theorem dX2_mayExchange_30 : decode cX2_mayExchange 30 = .ok (.iaload, 1) := by decide +kernel
theorem dX2_mayExchange_31 : decode cX2_mayExchange 31 = .ok (.iconst (-1), 1) := by decide +kernel
theorem dX2_mayExchange_32 : decode cX2_mayExchange 32 = .ok (.if_icmp .eq 7, 3) := by decide +kernel
theorem dX2_mayExchange_35 : decode cX2_mayExchange 35 = .ok (.iconst 1, 1) := by decide +kernel
theorem dX2_mayExchange_36 : decode cX2_mayExchange 36 = .ok (.goto 4, 3) := by decide +kernel
theorem dX2_mayExchange_39 : decode cX2_mayExchange 39 = .ok (.iconst 0, 1) := by decide +kernel
theorem dX2_mayExchange_40 : decode cX2_mayExchange 40 = .ok (.ireturn, 1) := by decide +kernel
theorem dX2_exchange_0 : decode cX2_exchange 0 = .ok (.aload_n 0, 1) := by decide +kernel
theorem dX2_exchange_1 : decode cX2_exchange 1 = .ok (.getfield 31, 3) := by decide +kernel
theorem dX2_exchange_4 : decode cX2_exchange 4 = .ok (.iload_n 1, 1) := by decide +kernel
theorem dX2_exchange_5 : decode cX2_exchange 5 = .ok (.iaload, 1) := by decide +kernel
theorem dX2_exchange_6 : decode cX2_exchange 6 = .ok (.istore_n 3, 1) := by decide +kernel
theorem dX2_exchange_7 : decode cX2_exchange 7 = .ok (.aload_n 0, 1) := by decide +kernel
theorem dX2_exchange_8 : decode cX2_exchange 8 = .ok (.getfield 31, 3) := by decide +kernel
theorem dX2_exchange_11 : decode cX2_exchange 11 = .ok (.iload_n 1, 1) := by decide +kernel
theorem dX2_exchange_12 : decode cX2_exchange 12 = .ok (.aload_n 0, 1) := by decide +kernel
theorem dX2_exchange_13 : decode cX2_exchange 13 = .ok (.getfield 31, 3) := by decide +kernel
theorem dX2_exchange_16 : decode cX2_exchange 16 = .ok (.iload_n 2, 1) := by decide +kernel
theorem dX2_exchange_17 : decode cX2_exchange 17 = .ok (.iaload, 1) := by decide +kernel
theorem dX2_exchange_18 : decode cX2_exchange 18 = .ok (.iastore, 1) := by decide +kernel
theorem dX2_exchange_19 : decode cX2_exchange 19 = .ok (.aload_n 0, 1) := by decide +kernel
theorem dX2_exchange_20 : decode cX2_exchange 20 = .ok (.getfield 31, 3) := by decide +kernel
theorem dX2_exchange_23 : decode cX2_exchange 23 = .ok (.iload_n 2, 1) := by decide +kernel
theorem dX2_exchange_24 : decode cX2_exchange 24 = .ok (.iload_n 3, 1) := by decide +kernel
theorem dX2_exchange_25 : decode cX2_exchange 25 = .ok (.iastore, 1) := by decide +kernel
theorem dX2_exchange_26 : decode cX2_exchange 26 = .ok (.aload_n 0, 1) := by decide +kernel
theorem dX2_exchange_27 : decode cX2_exchange 27 = .ok (.getfield 28, 3) := by decide +kernel
theorem dX2_exchange_30 : decode cX2_exchange 30 = .ok (.aload_n 0, 1) := by decide +kernel
theorem dX2_exchange_31 : decode cX2_exchange 31 = .ok (.getfield 31, 3) := by decide +kernel
theorem dX2_exchange_34 : decode cX2_exchange 34 = .ok (.iload_n 1, 1) := by decide +kernel
theorem dX2_exchange_35 : decode cX2_exchange 35 = .ok (.iaload, 1) := by decide +kernel
theorem dX2_exchange_36 : decode cX2_exchange 36 = .ok (.iload_n 1, 1) := by decide +kernel
theorem dX2_exchange_37 : decode cX2_exchange 37 = .ok (.iastore, 1) := by decide +kernel
theorem dX2_exchange_38 : decode cX2_exchange 38 = .ok (.aload_n 0, 1) := by decide +kernel
theorem dX2_exchange_39 : decode cX2_exchange 39 = .ok (.getfield 28, 3) := by decide +kernel
theorem dX2_exchange_42 : decode cX2_exchange 42 = .ok (.aload_n 0, 1) := by decide +kernel
theorem dX2_exchange_43 : decode cX2_exchange 43 = .ok (.getfield 31, 3) := by decide +kernel
theorem dX2_exchange_46 : decode cX2_exchange 46 = .ok (.iload_n 2, 1) := by decide +kernel
theorem dX2_exchange_47 : decode cX2_exchange 47 = .ok (.iaload, 1) := by decide +kernel
theorem dX2_exchange_48 : decode cX2_exchange 48 = .ok (.iload_n 2, 1) := by decide +kernel
theorem dX2_exchange_49 : decode cX2_exchange 49 = .ok (.iastore, 1) := by decide +kernel
theorem dX2_exchange_50 : decode cX2_exchange 50 = .ok (.return_, 1) := by decide +kernel
theorem dX2_breaks_0 : decode cX2_breaks 0 = .ok (.iload_n 2, 1) := by decide +kernel
theorem dX2_breaks_1 : decode cX2_breaks 1 = .ok (.ifCond .ne 12, 3) := by decide +kernel
theorem dX2_breaks_4 : decode cX2_breaks 4 = .ok (.aload_n 0, 1) := by decide +kernel
theorem dX2_breaks_5 : decode cX2_breaks 5 = .ok (.getfield 24, 3) := by decide +kernel
theorem dX2_breaks_8 : decode cX2_breaks 8 = .ok (.iload_n 1, 1) := by decide +kernel
theorem dX2_breaks_9 : decode cX2_breaks 9 = .ok (.baload, 1) := by decide +kernel
theorem dX2_breaks_10 : decode cX2_breaks 10 = .ok (.goto 18, 3) := by decide +kernel
theorem dX2_breaks_13 : decode cX2_breaks 13 = .ok (.aload_n 0, 1) := by decide +kernel
theorem dX2_breaks_14 : decode cX2_breaks 14 = .ok (.getfield 28, 3) := by decide +kernel
theorem dX2_breaks_17 : decode cX2_breaks 17 = .ok (.iload_n 1, 1) := by decide +kernel
theorem dX2_breaks_18 : decode cX2_breaks 18 = .ok (.iaload, 1) := by decide +kernel
theorem dX2_breaks_19 : decode cX2_breaks 19 = .ok (.iconst (-1), 1) := by decide +kernel
theorem dX2_breaks_20 : decode cX2_breaks 20 = .ok (.if_icmp .ne 7, 3) := by decide +kernel
theorem dX2_breaks_23 : decode cX2_breaks 23 = .ok (.iconst 1, 1) := by decide +kernel
theorem dX2_breaks_24 : decode cX2_breaks 24 = .ok (.goto 4, 3) := by decide +kernel
theorem dX2_breaks_27 : decode cX2_breaks 27 = .ok (.iconst 0, 1) := by decide +kernel
theorem dX2_breaks_28 : decode cX2_breaks 28 = .ok (.ireturn, 1) := by decide +kernel
theorem dX2_changeSet_0 : decode cX2_changeSet 0 = .ok (.aload_n 0, 1) := by decide +kernel
theorem dX2_changeSet_1 : decode cX2_changeSet 1 = .ok (.getfield 24, 3) := by decide +kernel
theorem dX2_changeSet_4 : decode cX2_changeSet 4 = .ok (.iload_n 1, 1) := by decide +kernel
theorem dX2_changeSet_5 : decode cX2_changeSet 5 = .ok (.baload, 1) := by decide +kernel
theorem dX2_changeSet_6 : decode cX2_changeSet 6 = .ok (.iload_n 2, 1) := by decide +kernel
theorem dX2_changeSet_7 : decode cX2_changeSet 7 = .ok (.if_icmp .eq 7, 3) := by decide +kernel
theorem dX2_changeSet_10 : decode cX2_changeSet 10 = .ok (.iconst 1, 1) := by decide +kernel
theorem dX2_changeSet_11 : decode cX2_changeSet 11 = .ok (.goto 4, 3) := by decide +kernel
theorem dX2_changeSet_14 : decode cX2_changeSet 14 = .ok (.iconst 0, 1) := by decide +kernel
theorem dX2_changeSet_15 : decode cX2_changeSet 15 = .ok (.istore_n 3, 1) := by decide +kernel
theorem dX2_changeSet_16 : decode cX2_changeSet 16 = .ok (.aload_n 0, 1) := by decide +kernel
theorem dX2_changeSet_17 : decode cX2_changeSet 17 = .ok (.getfield 24, 3) := by decide +kernel
theorem dX2_changeSet_20 : decode cX2_changeSet 20 = .ok (.iload_n 1, 1) := by decide +kernel
theorem dX2_changeSet_21 : decode cX2_changeSet 21 = .ok (.iload_n 2, 1) := by decide +kernel
theorem dX2_changeSet_22 : decode cX2_changeSet 22 = .ok (.bastore, 1) := by decide +kernel
theorem dX2_changeSet_23 : decode cX2_changeSet 23 = .ok (.iload_n 3, 1) := by decide +kernel
theorem dX2_changeSet_24 : decode cX2_changeSet 24 = .ok (.ireturn, 1) := by decide +kernel
theorem dX2_addLatch_0 : decode cX2_addLatch 0 = .ok (.aload_n 0, 1) := by decide +kernel
theorem dX2_addLatch_1 : decode cX2_addLatch 1 = .ok (.getfield 40, 3) := by decide +kernel
theorem dX2_addLatch_4 : decode cX2_addLatch 4 = .ok (.istore 4, 2) := by decide +kernel
theorem dX2_addLatch_6 : decode cX2_addLatch 6 = .ok (.aload_n 0, 1) := by decide +kernel
theorem dX2_addLatch_7 : decode cX2_addLatch 7 = .ok (.getfield 15, 3) := by decide +kernel
theorem dX2_addLatch_10 : decode cX2_addLatch 10 = .ok (.iload 4, 2) := by decide +kernel
theorem dX2_addLatch_12 : decode cX2_addLatch 12 = .ok (.iload_n 1, 1) := by decide +kernel
theorem dX2_addLatch_13 : decode cX2_addLatch 13 = .ok (.iastore, 1) := by decide +kernel
theorem dX2_addLatch_14 : decode cX2_addLatch 14 = .ok (.aload_n 0, 1) := by decide +kernel
theorem dX2_addLatch_15 : decode cX2_addLatch 15 = .ok (.getfield 18, 3) := by decide +kernel
theorem dX2_addLatch_18 : decode cX2_addLatch 18 = .ok (.iload 4, 2) := by decide +kernel
theorem dX2_addLatch_20 : decode cX2_addLatch 20 = .ok (.iload_n 2, 1) := by decide +kernel
theorem dX2_addLatch_21 : decode cX2_addLatch 21 = .ok (.iastore, 1) := by decide +kernel
theorem dX2_addLatch_22 : decode cX2_addLatch 22 = .ok (.aload_n 0, 1) := by decide +kernel
theorem dX2_addLatch_23 : decode cX2_addLatch 23 = .ok (.getfield 21, 3) := by decide +kernel
theorem dX2_addLatch_26 : decode cX2_addLatch 26 = .ok (.iload 4, 2) := by decide +kernel
theorem dX2_addLatch_28 : decode cX2_addLatch 28 = .ok (.iload_n 3, 1) := by decide +kernel
theorem dX2_addLatch_29 : decode cX2_addLatch 29 = .ok (.iastore, 1) := by decide +kernel
theorem dX2_addLatch_30 : decode cX2_addLatch 30 = .ok (.aload_n 0, 1) := by decide +kernel
theorem dX2_addLatch_31 : decode cX2_addLatch 31 = .ok (.getfield 28, 3) := by decide +kernel
theorem dX2_addLatch_34 : decode cX2_addLatch 34 = .ok (.iload 4, 2) := by decide +kernel
theorem dX2_addLatch_36 : decode cX2_addLatch 36 = .ok (.iconst (-1), 1) := by decide +kernel
theorem dX2_addLatch_37 : decode cX2_addLatch 37 = .ok (.iastore, 1) := by decide +kernel
theorem dX2_addLatch_38 : decode cX2_addLatch 38 = .ok (.aload_n 0, 1) := by decide +kernel
theorem dX2_addLatch_39 : decode cX2_addLatch 39 = .ok (.dup, 1) := by decide +kernel
theorem dX2_addLatch_40 : decode cX2_addLatch 40 = .ok (.getfield 40, 3) := by decide +kernel
theorem dX2_addLatch_43 : decode cX2_addLatch 43 = .ok (.iconst 1, 1) := by decide +kernel
theorem dX2_addLatch_44 : decode cX2_addLatch 44 = .ok (.iadd, 1) := by decide +kernel
theorem dX2_addLatch_45 : decode cX2_addLatch 45 = .ok (.putfield 40, 3) := by decide +kernel
theorem dX2_addLatch_48 : decode cX2_addLatch 48 = .ok (.iload 4, 2) := by decide +kernel
theorem dX2_addLatch_50 : decode cX2_addLatch 50 = .ok (.ireturn, 1) := by decide +kernel
theorem dX2_shiftPlaces_0 : decode cX2_shiftPlaces 0 = .ok (.iload_n 1, 1) := by decide +kernel
theorem dX2_shiftPlaces_1 : decode cX2_shiftPlaces 1 = .ok (.iload_n 2, 1) := by decide +kernel
theorem dX2_shiftPlaces_2 : decode cX2_shiftPlaces 2 = .ok (.if_icmp .lt 5, 3) := by decide +kernel
theorem dX2_shiftPlaces_5 : decode cX2_shiftPlaces 5 = .ok (.iconst 0, 1) := by decide +kernel
theorem dX2_shiftPlaces_6 : decode cX2_shiftPlaces 6 = .ok (.ireturn, 1) := by decide +kernel
theorem dX2_shiftPlaces_7 : decode cX2_shiftPlaces 7 = .ok (.iload_n 3, 1) := by decide +kernel
theorem dX2_shiftPlaces_8 : decode cX2_shiftPlaces 8 = .ok (.istore 4, 2) := by decide +kernel
theorem dX2_shiftPlaces_10 : decode cX2_shiftPlaces 10 = .ok (.iload_n 1, 1) := by decide +kernel
theorem dX2_shiftPlaces_11 : decode cX2_shiftPlaces 11 = .ok (.istore 5, 2) := by decide +kernel
theorem dX2_shiftPlaces_13 : decode cX2_shiftPlaces 13 = .ok (.iload 5, 2) := by decide +kernel
theorem dX2_shiftPlaces_15 : decode cX2_shiftPlaces 15 = .ok (.iload_n 2, 1) := by decide +kernel
theorem dX2_shiftPlaces_16 : decode cX2_shiftPlaces 16 = .ok (.if_icmp .ge 40, 3) := by decide +kernel
theorem dX2_shiftPlaces_19 : decode cX2_shiftPlaces 19 = .ok (.aload_n 0, 1) := by decide +kernel
theorem dX2_shiftPlaces_20 : decode cX2_shiftPlaces 20 = .ok (.getfield 31, 3) := by decide +kernel
theorem dX2_shiftPlaces_23 : decode cX2_shiftPlaces 23 = .ok (.iload 5, 2) := by decide +kernel
theorem dX2_shiftPlaces_25 : decode cX2_shiftPlaces 25 = .ok (.iaload, 1) := by decide +kernel
theorem dX2_shiftPlaces_26 : decode cX2_shiftPlaces 26 = .ok (.istore 6, 2) := by decide +kernel
theorem dX2_shiftPlaces_28 : decode cX2_shiftPlaces 28 = .ok (.aload_n 0, 1) := by decide +kernel
theorem dX2_shiftPlaces_29 : decode cX2_shiftPlaces 29 = .ok (.getfield 9, 3) := by decide +kernel
theorem dX2_shiftPlaces_32 : decode cX2_shiftPlaces 32 = .ok (.iload 6, 2) := by decide +kernel
theorem dX2_shiftPlaces_34 : decode cX2_shiftPlaces 34 = .ok (.iaload, 1) := by decide +kernel
theorem dX2_shiftPlaces_35 : decode cX2_shiftPlaces 35 = .ok (.istore 7, 2) := by decide +kernel
theorem dX2_shiftPlaces_37 : decode cX2_shiftPlaces 37 = .ok (.aload_n 0, 1) := by decide +kernel
theorem dX2_shiftPlaces_38 : decode cX2_shiftPlaces 38 = .ok (.getfield 9, 3) := by decide +kernel
theorem dX2_shiftPlaces_41 : decode cX2_shiftPlaces 41 = .ok (.iload 6, 2) := by decide +kernel
theorem dX2_shiftPlaces_43 : decode cX2_shiftPlaces 43 = .ok (.iload 4, 2) := by decide +kernel
theorem dX2_shiftPlaces_45 : decode cX2_shiftPlaces 45 = .ok (.iastore, 1) := by decide +kernel
theorem dX2_shiftPlaces_46 : decode cX2_shiftPlaces 46 = .ok (.iload 7, 2) := by decide +kernel
theorem dX2_shiftPlaces_48 : decode cX2_shiftPlaces 48 = .ok (.istore 4, 2) := by decide +kernel
theorem dX2_shiftPlaces_50 : decode cX2_shiftPlaces 50 = .ok (.iinc 5 1, 3) := by decide +kernel
theorem dX2_shiftPlaces_53 : decode cX2_shiftPlaces 53 = .ok (.goto (-40), 3) := by decide +kernel
theorem dX2_shiftPlaces_56 : decode cX2_shiftPlaces 56 = .ok (.iload 4, 2) := by decide +kernel
theorem dX2_shiftPlaces_58 : decode cX2_shiftPlaces 58 = .ok (.ireturn, 1) := by decide +kernel
set_option maxHeartbeats 4000000 in
set_option maxRecDepth 100000 in
theorem c_Rows_hasChain (l : Launch) (dC : Nat → ClassId) (dI : Nat → Nat → Nat) (q : Nat → Nat) (cI cZ : ClassId) (sz : Nat) (r : RS) (v : Int32) : Met l yX2_hasChain (.code yX2_hasChain cX2_hasChain 2 (some .boolean) :: ALLG) ({ frames := 0, cells := 0, slots := 0, locals := 0 }) (va_Pc [.ref (q 0), .int v] (cP (dC, dI) vwCl [(cI, .int), (cZ, .boolean)] (wR q cI cZ r) eT sz)) (va_Qi (fun (x : Int32) (_ : Unit) => x = nI (hcN v r.c)) (fun (_ : Unit) => cB (dC, dI) vwCl [(cI, .int), (cZ, .boolean)] (wR q cI cZ r) (va_A (wR q cI cZ r) sz)) (va_A (wR q cI cZ r) sz)) 0 0 (va_A (wR q cI cZ r) sz) := by
  refine xm_of (cc := cX2_hasChain) (maxL := 2) (ret := some .boolean) (by decide) rfl (Nat.le_of_ble_eq_true rfl) ?_
  intro p e s m below meth c A hAe hx hb hr hml hts0 hown hlk hin hsz H locs hP hK hD hA hS hE ls hl
  have hts : ∀ w ∈ ALLG, w.before _ s = true := fun w h => hts0 w (List.mem_cons_of_mem _ h)
  rw [← hAe]
  have hl : lv_has ls 2 [(0, .ref (q 0)), (1, .int v)] := hl
  refine lv_iload_n hx hb dX2_hasChain_0 rfl (lv_at hl 1 rfl) ?_
  refine lv_if_lt (tgt := 16) hx hb dX2_hasChain_1 (by decide) (fun c_1 => ?_) (fun c_1 => ?_)
  · refine lv_iconst (v := nI 0) hx hb dX2_hasChain_16 (by decide) ?_
    exact xr_z hx hb hr hlk (by decide) (u := ()) (by unfold hcN; first | rw [if_pos ⟨by assumption, Int32.not_le.mp (by assumption)⟩] | rw [if_neg (fun h => h.1 (by assumption))] | rw [if_neg (fun h => absurd (by assumption) (Int32.not_le.mpr h.2))]) hP hK hD hS dX2_hasChain_17
  · refine lv_iload_n hx hb dX2_hasChain_4 rfl (lv_at hl 1 rfl) ?_
    refine lv_aload_n hx hb dX2_hasChain_5 rfl (lv_at hl 0 rfl) ?_
    refine va_get (D := (dC, dI)) (ci := 2) (v := .int (nI (RS.c r))) (C := RX2) (T := TX2) (N := 12) hx hb hts inX2 hown hK hP 0 rfl rfl 1 (by decide) (hts _ tw_29) (fun _ h9 => h9) rfl dX2_hasChain_6 ?_
    refine lv_icmp_ge (tgt := 16) hx hb dX2_hasChain_9 (by decide) (fun c_2 => ?_) (fun c_2 => ?_)
    · refine lv_iconst (v := nI 0) hx hb dX2_hasChain_16 (by decide) ?_
      exact xr_z hx hb hr hlk (by decide) (u := ()) (by unfold hcN; first | rw [if_pos ⟨by assumption, Int32.not_le.mp (by assumption)⟩] | rw [if_neg (fun h => h.1 (by assumption))] | rw [if_neg (fun h => absurd (by assumption) (Int32.not_le.mpr h.2))]) hP hK hD hS dX2_hasChain_17
    · refine lv_iconst (v := nI 1) hx hb dX2_hasChain_12 (by decide) ?_
      refine lv_goto (tgt := 17) hx hb dX2_hasChain_13 (by decide) ?_
      exact xr_z hx hb hr hlk (by decide) (u := ()) (by unfold hcN; first | rw [if_pos ⟨by assumption, Int32.not_le.mp (by assumption)⟩] | rw [if_neg (fun h => h.1 (by assumption))] | rw [if_neg (fun h => absurd (by assumption) (Int32.not_le.mpr h.2))]) hP hK hD hS dX2_hasChain_17
set_option maxHeartbeats 4000000 in
set_option maxRecDepth 100000 in
theorem c_Rows_lengthOf (l : Launch) (dC : Nat → ClassId) (dI : Nat → Nat → Nat) (q : Nat → Nat) (cI cZ : ClassId) (sz : Nat) (r : RS) (ch : Nat) (h1 : ch < 8) (h2 : r.st ch ≤ r.st (ch + 1)) : Met l yX2_lengthOf (.code yX2_lengthOf cX2_lengthOf 2 (some .int) :: ALLG) ({ frames := 0, cells := 0, slots := 0, locals := 0 }) (va_Pc [.ref (q 0), .int (nI ch)] (cP (dC, dI) vwCl [(cI, .int), (cZ, .boolean)] (wR q cI cZ r) eT sz)) (va_Qi (fun (x : Int32) (_ : Unit) => x = nI (r.st (ch + 1) - r.st ch)) (fun (_ : Unit) => cB (dC, dI) vwCl [(cI, .int), (cZ, .boolean)] (wR q cI cZ r) (va_A (wR q cI cZ r) sz)) (va_A (wR q cI cZ r) sz)) 0 0 (va_A (wR q cI cZ r) sz) := by
  refine xm_of (cc := cX2_lengthOf) (maxL := 2) (ret := some .int) (by decide) rfl (Nat.le_of_ble_eq_true rfl) ?_
  intro p e s m below meth c A hAe hx hb hr hml hts0 hown hlk hin hsz H locs hP hK hD hA hS hE ls hl
  have hts : ∀ w ∈ ALLG, w.before _ s = true := fun w h => hts0 w (List.mem_cons_of_mem _ h)
  rw [← hAe]
  have hl : lv_has ls 2 [(0, .ref (q 0)), (1, .int (nI ch))] := hl
  refine lv_aload_n hx hb dX2_lengthOf_0 rfl (lv_at hl 0 rfl) ?_
  refine va_get (D := (dC, dI)) (ci := 2) (v := .ref (q 9)) (C := RX2) (T := TX2) (N := 12) hx hb hts inX2 hown hK hP 0 rfl rfl 11 (by decide) (hts _ tw_42) (fun _ h9 => h9) rfl dX2_lengthOf_1 ?_
  refine lv_iload_n hx hb dX2_lengthOf_4 rfl (lv_at hl 1 rfl) ?_
  refine lv_iconst (v := nI 1) hx hb dX2_lengthOf_5 (by decide) ?_
  refine xn_add hx hb dX2_lengthOf_6 ?_
  refine xa_ild hx hb hK hP 9 0 rfl rfl (v := nI ((RS.st r) (ch + 1))) (by omega) (by decide) rfl dX2_lengthOf_7 ?_
  refine lv_aload_n hx hb dX2_lengthOf_8 rfl (lv_at hl 0 rfl) ?_
  refine va_get (D := (dC, dI)) (ci := 2) (v := .ref (q 9)) (C := RX2) (T := TX2) (N := 12) hx hb hts inX2 hown hK hP 0 rfl rfl 11 (by decide) (hts _ tw_42) (fun _ h9 => h9) rfl dX2_lengthOf_9 ?_
  refine lv_iload_n hx hb dX2_lengthOf_12 rfl (lv_at hl 1 rfl) ?_
  refine xa_ild hx hb hK hP 9 0 rfl rfl (v := nI ((RS.st r) ch)) (by omega) (by decide) rfl dX2_lengthOf_13 ?_
  refine xn_sub hx hb (by omega) dX2_lengthOf_14 ?_
  exact xr_i hx hb hr hlk (u := ()) rfl hP hK hD hS dX2_lengthOf_15
set_option maxHeartbeats 4000000 in
set_option maxRecDepth 100000 in
theorem c_Rows_latchAt (l : Launch) (dC : Nat → ClassId) (dI : Nat → Nat → Nat) (q : Nat → Nat) (cI cZ : ClassId) (sz : Nat) (r : RS) (ch k : Nat) (h1 : ch < 9) (h2 : r.st ch + k < 32) : Met l yX2_latchAt (.code yX2_latchAt cX2_latchAt 3 (some .int) :: ALLG) ({ frames := 0, cells := 0, slots := 0, locals := 0 }) (va_Pc [.ref (q 0), .int (nI ch), .int (nI k)] (cP (dC, dI) vwCl [(cI, .int), (cZ, .boolean)] (wR q cI cZ r) eT sz)) (va_Qi (fun (x : Int32) (_ : Unit) => x = nI (r.rw (r.st ch + k))) (fun (_ : Unit) => cB (dC, dI) vwCl [(cI, .int), (cZ, .boolean)] (wR q cI cZ r) (va_A (wR q cI cZ r) sz)) (va_A (wR q cI cZ r) sz)) 0 0 (va_A (wR q cI cZ r) sz) := by
  refine xm_of (cc := cX2_latchAt) (maxL := 3) (ret := some .int) (by decide) rfl (Nat.le_of_ble_eq_true rfl) ?_
  intro p e s m below meth c A hAe hx hb hr hml hts0 hown hlk hin hsz H locs hP hK hD hA hS hE ls hl
  have hts : ∀ w ∈ ALLG, w.before _ s = true := fun w h => hts0 w (List.mem_cons_of_mem _ h)
  rw [← hAe]
  have hl : lv_has ls 3 [(0, .ref (q 0)), (1, .int (nI ch)), (2, .int (nI k))] := hl
  refine lv_aload_n hx hb dX2_latchAt_0 rfl (lv_at hl 0 rfl) ?_
  refine va_get (D := (dC, dI)) (ci := 2) (v := .ref (q 7)) (C := RX2) (T := TX2) (N := 12) hx hb hts inX2 hown hK hP 0 rfl rfl 9 (by decide) (hts _ tw_40) (fun _ h9 => h9) rfl dX2_latchAt_1 ?_
  refine lv_aload_n hx hb dX2_latchAt_4 rfl (lv_at hl 0 rfl) ?_
  refine va_get (D := (dC, dI)) (ci := 2) (v := .ref (q 9)) (C := RX2) (T := TX2) (N := 12) hx hb hts inX2 hown hK hP 0 rfl rfl 11 (by decide) (hts _ tw_42) (fun _ h9 => h9) rfl dX2_latchAt_5 ?_
  refine lv_iload_n hx hb dX2_latchAt_8 rfl (lv_at hl 1 rfl) ?_
  refine xa_ild hx hb hK hP 9 0 rfl rfl (v := nI ((RS.st r) ch)) (by omega) (by decide) rfl dX2_latchAt_9 ?_
  refine lv_iload_n hx hb dX2_latchAt_10 rfl (lv_at hl 2 rfl) ?_
  refine xn_add hx hb dX2_latchAt_11 ?_
  refine xa_ild hx hb hK hP 7 0 rfl rfl (v := nI ((RS.rw r) (((RS.st r) ch) + k))) (by omega) (by decide) rfl dX2_latchAt_12 ?_
  exact xr_i hx hb hr hlk (u := ()) rfl hP hK hD hS dX2_latchAt_13
set_option maxHeartbeats 4000000 in
set_option maxRecDepth 100000 in
theorem c_Rows_hasNeighbourBehind (l : Launch) (dC : Nat → ClassId) (dI : Nat → Nat → Nat) (q : Nat → Nat) (cI cZ : ClassId) (sz : Nat) (r : RS) (k : Nat) (hB : RB r) (h1 : k < 32) : Met l yX2_hasNeighbourBehind (.code yX2_hasNeighbourBehind cX2_hasNeighbourBehind 2 (some .boolean) :: ALLG) ({ frames := 0, cells := 0, slots := 0, locals := 0 }) (va_Pc [.ref (q 0), .int (nI k)] (cP (dC, dI) vwCl [(cI, .int), (cZ, .boolean)] (wR q cI cZ r) eT sz)) (va_Qi (fun (x : Int32) (_ : Unit) => x = nI (hnb r k)) (fun (_ : Unit) => cB (dC, dI) vwCl [(cI, .int), (cZ, .boolean)] (wR q cI cZ r) (va_A (wR q cI cZ r) sz)) (va_A (wR q cI cZ r) sz)) 0 0 (va_A (wR q cI cZ r) sz) := by
  refine xm_of (cc := cX2_hasNeighbourBehind) (maxL := 2) (ret := some .boolean) (by decide) rfl (Nat.le_of_ble_eq_true rfl) ?_
  intro p e s m below meth c A hAe hx hb hr hml hts0 hown hlk hin hsz H locs hP hK hD hA hS hE ls hl
  have hts : ∀ w ∈ ALLG, w.before _ s = true := fun w h => hts0 w (List.mem_cons_of_mem _ h)
  rw [← hAe]
  obtain ⟨b_n, b_c, b_p, b_vb, b_ck, b_xx, b_yy, b_fl, b_po, b_rw, b_ch, b_st⟩ := hB
  have hl : lv_has ls 2 [(0, .ref (q 0)), (1, .int (nI k))] := hl
  refine lv_iload_n hx hb dX2_hasNeighbourBehind_0 rfl (lv_at hl 1 rfl) ?_
  refine xn_zlt (tgt := 35) hx hb (by omega) dX2_hasNeighbourBehind_1 (by decide) ?_
  refine lv_iload_n hx hb dX2_hasNeighbourBehind_4 rfl (lv_at hl 1 rfl) ?_
  refine lv_iconst (v := nI 1) hx hb dX2_hasNeighbourBehind_5 (by decide) ?_
  refine xn_add hx hb dX2_hasNeighbourBehind_6 ?_
  refine lv_aload_n hx hb dX2_hasNeighbourBehind_7 rfl (lv_at hl 0 rfl) ?_
  refine va_get (D := (dC, dI)) (ci := 2) (v := .int (nI (RS.p r))) (C := RX2) (T := TX2) (N := 12) hx hb hts inX2 hown hK hP 0 rfl rfl 2 (by decide) (hts _ tw_32) (fun _ h9 => h9) rfl dX2_hasNeighbourBehind_8 ?_
  refine xn_cge (tgt := 35) hx hb (by omega) (by omega) dX2_hasNeighbourBehind_11 (by decide) (fun c_2 => ?_) (fun c_2 => ?_)
  · refine lv_iconst (v := nI 0) hx hb dX2_hasNeighbourBehind_35 (by decide) ?_
    exact xr_z hx hb hr hlk (by decide) (u := ()) (by unfold hnb; first | rw [if_pos ⟨by omega, by omega⟩] | rw [if_neg (fun h => by omega)]) hP hK hD hS dX2_hasNeighbourBehind_36
  · have g1 := b_ch k
    have g2 := b_ch (k + 1)
    refine lv_aload_n hx hb dX2_hasNeighbourBehind_14 rfl (lv_at hl 0 rfl) ?_
    refine va_get (D := (dC, dI)) (ci := 2) (v := .ref (q 8)) (C := RX2) (T := TX2) (N := 12) hx hb hts inX2 hown hK hP 0 rfl rfl 10 (by decide) (hts _ tw_41) (fun _ h9 => h9) rfl dX2_hasNeighbourBehind_15 ?_
    refine lv_iload_n hx hb dX2_hasNeighbourBehind_18 rfl (lv_at hl 1 rfl) ?_
    refine xa_ild hx hb hK hP 8 0 rfl rfl (v := nI ((RS.ch r) k)) (by omega) (by decide) rfl dX2_hasNeighbourBehind_19 ?_
    refine lv_aload_n hx hb dX2_hasNeighbourBehind_20 rfl (lv_at hl 0 rfl) ?_
    refine va_get (D := (dC, dI)) (ci := 2) (v := .ref (q 8)) (C := RX2) (T := TX2) (N := 12) hx hb hts inX2 hown hK hP 0 rfl rfl 10 (by decide) (hts _ tw_41) (fun _ h9 => h9) rfl dX2_hasNeighbourBehind_21 ?_
    refine lv_iload_n hx hb dX2_hasNeighbourBehind_24 rfl (lv_at hl 1 rfl) ?_
    refine lv_iconst (v := nI 1) hx hb dX2_hasNeighbourBehind_25 (by decide) ?_
    refine xn_add hx hb dX2_hasNeighbourBehind_26 ?_
    refine xa_ild hx hb hK hP 8 0 rfl rfl (v := nI ((RS.ch r) (k + 1))) (by omega) (by decide) rfl dX2_hasNeighbourBehind_27 ?_
    refine xn_cne (tgt := 35) hx hb (by omega) (by omega) dX2_hasNeighbourBehind_28 (by decide) (fun c_3 => ?_) (fun c_3 => ?_)
    · refine lv_iconst (v := nI 0) hx hb dX2_hasNeighbourBehind_35 (by decide) ?_
      exact xr_z hx hb hr hlk (by decide) (u := ()) (by unfold hnb; first | rw [if_pos ⟨by omega, by omega⟩] | rw [if_neg (fun h => by omega)]) hP hK hD hS dX2_hasNeighbourBehind_36
    · refine lv_iconst (v := nI 1) hx hb dX2_hasNeighbourBehind_31 (by decide) ?_
      refine lv_goto (tgt := 36) hx hb dX2_hasNeighbourBehind_32 (by decide) ?_
      exact xr_z hx hb hr hlk (by decide) (u := ()) (by unfold hnb; first | rw [if_pos ⟨by omega, by omega⟩] | rw [if_neg (fun h => by omega)]) hP hK hD hS dX2_hasNeighbourBehind_36
set_option maxHeartbeats 4000000 in
set_option maxRecDepth 100000 in
theorem c_Rows_hnbM (l : Launch) (dC : Nat → ClassId) (dI : Nat → Nat → Nat) (q : Nat → Nat) (cI cZ : ClassId) (sz : Nat) (r : RS) : Met l yX2_hasNeighbourBehind (.code yX2_hasNeighbourBehind cX2_hasNeighbourBehind 2 (some .boolean) :: ALLG) ({ frames := 0, cells := 0, slots := 0, locals := 0 }) (va_Pc [.ref (q 0), .int (zI (-1))] (cP (dC, dI) vwCl [(cI, .int), (cZ, .boolean)] (wR q cI cZ r) eT sz)) (va_Qi (fun (x : Int32) (_ : Unit) => x = nI 0) (fun (_ : Unit) => cB (dC, dI) vwCl [(cI, .int), (cZ, .boolean)] (wR q cI cZ r) (va_A (wR q cI cZ r) sz)) (va_A (wR q cI cZ r) sz)) 0 0 (va_A (wR q cI cZ r) sz) := by
  refine xm_of (cc := cX2_hasNeighbourBehind) (maxL := 2) (ret := some .boolean) (by decide) rfl (Nat.le_of_ble_eq_true rfl) ?_
  intro p e s m below meth c A hAe hx hb hr hml hts0 hown hlk hin hsz H locs hP hK hD hA hS hE ls hl
  have hts : ∀ w ∈ ALLG, w.before _ s = true := fun w h => hts0 w (List.mem_cons_of_mem _ h)
  rw [← hAe]
  have hl : lv_has ls 2 [(0, .ref (q 0)), (1, .int (zI (-1)))] := hl
  refine lv_iload_n hx hb dX2_hasNeighbourBehind_0 rfl (lv_at hl 1 rfl) ?_
  refine lv_if_lt (tgt := 35) hx hb dX2_hasNeighbourBehind_1 (by decide) (fun c_1 => ?_) (fun c_1 => ?_)
  · refine lv_iconst (v := nI 0) hx hb dX2_hasNeighbourBehind_35 (by decide) ?_
    exact xr_z hx hb hr hlk (by decide) (u := ()) rfl hP hK hD hS dX2_hasNeighbourBehind_36
  · exact absurd (by decide : (zI (-1) : Int32) < 0) (by assumption)
set_option maxHeartbeats 4000000 in
set_option maxRecDepth 100000 in
theorem c_Rows_clockChangesBehind (l : Launch) (dC : Nat → ClassId) (dI : Nat → Nat → Nat) (q : Nat → Nat) (cI cZ : ClassId) (sz : Nat) (r : RS) (ch k : Nat) (hB : RB r) (h1 : ch < 9) (h2 : r.st ch + k < 32) : Met l yX2_clockChangesBehind (.code yX2_clockChangesBehind cX2_clockChangesBehind 4 (some .boolean) :: ALLG) ({ frames := 1, cells := 0, slots := 0, locals := 21 }) (va_Pc [.ref (q 0), .int (nI ch), .int (nI k)] (cP (dC, dI) vwCl [(cI, .int), (cZ, .boolean)] (wR q cI cZ r) eT sz)) (va_Qi (fun (x : Int32) (_ : Unit) => x = nI (ccb r (r.st ch + k))) (fun (_ : Unit) => cB (dC, dI) vwCl [(cI, .int), (cZ, .boolean)] (wR q cI cZ r) (va_A (wR q cI cZ r) sz)) (va_A (wR q cI cZ r) sz)) 0 0 (va_A (wR q cI cZ r) sz) := by
  refine xm_of (cc := cX2_clockChangesBehind) (maxL := 4) (ret := some .boolean) (by decide) rfl (Nat.le_of_ble_eq_true rfl) ?_
  intro p e s m below meth c A hAe hx hb hr hml hts0 hown hlk hin hsz H locs hP hK hD hA hS hE ls hl
  have hts : ∀ w ∈ ALLG, w.before _ s = true := fun w h => hts0 w (List.mem_cons_of_mem _ h)
  rw [← hAe]
  have hB0 := hB
  obtain ⟨b_n, b_c, b_p, b_vb, b_ck, b_xx, b_yy, b_fl, b_po, b_rw, b_ch, b_st⟩ := hB
  have g0 := hnb_le r (r.st ch + k)
  have hl : lv_has ls 4 [(0, .ref (q 0)), (1, .int (nI ch)), (2, .int (nI k))] := hl
  refine lv_aload_n hx hb dX2_clockChangesBehind_0 rfl (lv_at hl 0 rfl) ?_
  refine va_get (D := (dC, dI)) (ci := 2) (v := .ref (q 9)) (C := RX2) (T := TX2) (N := 12) hx hb hts inX2 hown hK hP 0 rfl rfl 11 (by decide) (hts _ tw_42) (fun _ h9 => h9) rfl dX2_clockChangesBehind_1 ?_
  refine lv_iload_n hx hb dX2_clockChangesBehind_4 rfl (lv_at hl 1 rfl) ?_
  refine xa_ild hx hb hK hP 9 0 rfl rfl (v := nI ((RS.st r) ch)) (by omega) (by decide) rfl dX2_clockChangesBehind_5 ?_
  refine lv_iload_n hx hb dX2_clockChangesBehind_6 rfl (lv_at hl 2 rfl) ?_
  refine xn_add hx hb dX2_clockChangesBehind_7 ?_
  refine lv_istore_n (lv' := [(3, .int (nI (((RS.st r) ch) + k))), (0, .ref (q 0)), (1, .int (nI ch)), (2, .int (nI k))]) hx hb dX2_clockChangesBehind_8 rfl hl (by decide) rfl (fun ls hl => ?_)
  refine lv_aload_n hx hb dX2_clockChangesBehind_9 rfl (lv_at hl 1 rfl) ?_
  refine lv_iload_n hx hb dX2_clockChangesBehind_10 rfl (lv_at hl 0 rfl) ?_
  refine xc_Vi (As := [.int (nI (((RS.st r) ch) + k))]) (wr := []) ⟨hx, hb, hml, hown, hts⟩ (c_Rows_hasNeighbourBehind l dC dI q cI cZ H.size r (((RS.st r) ch) + k) hB0 (by omega)) (cwV 1 hts (gV tw_153 tw_155 sw_1 tw_2 tw_156) rfl rfl rfl (by decide +kernel) ⟨Nat.le_of_ble_eq_true rfl, Nat.le_of_ble_eq_true rfl⟩) rfl hl.1 rfl (Nat.le_of_ble_eq_true rfl) dX2_clockChangesBehind_11 ⟨Nat.zero_le _, Nat.zero_le _⟩ hP hD hK hS hA [0, 1, 2, 3, 4, 5, 6, 7, 8, 9] [] rfl rfl (by decide) (by decide) (by decide) [0, 1] rfl (q0 := 0) rfl rfl rfl eT_M (trivial) (fun r_1 u_2 H locs w_3 hP hD hS => ?_)
  obtain rfl := w_3
  have hP : va_P (dC, dI) vwCl (wR q cI cZ r) H := hP
  have hD : va_D A (wR q cI cZ r) := hD
  refine xn_zeq (tgt := 48) hx hb (by omega) dX2_clockChangesBehind_14 (by decide) (fun c_4 => ?_) (fun c_4 => ?_)
  · refine lv_iconst (v := nI 0) hx hb dX2_clockChangesBehind_48 (by decide) ?_
    exact xr_z hx hb hr hlk (by decide) (u := ()) (by unfold ccb; rw [if_neg (fun h => by have := hnb_one h.1; omega)]) hP hK hD hS dX2_clockChangesBehind_49
  · have g1 := hnb_pos (by assumption)
    have g2 := b_ck (r.rw (r.st ch + k))
    have g3 := b_ck (r.rw (r.st ch + k + 1))
    refine lv_aload_n hx hb dX2_clockChangesBehind_17 rfl (lv_at hl 1 rfl) ?_
    refine va_get (D := (dC, dI)) (ci := 2) (v := .ref (q 2)) (C := RX2) (T := TX2) (N := 12) hx hb hts inX2 hown hK hP 0 rfl rfl 4 (by decide) (hts _ tw_35) (fun _ h9 => h9) rfl dX2_clockChangesBehind_18 ?_
    refine lv_aload_n hx hb dX2_clockChangesBehind_21 rfl (lv_at hl 1 rfl) ?_
    refine va_get (D := (dC, dI)) (ci := 2) (v := .ref (q 7)) (C := RX2) (T := TX2) (N := 12) hx hb hts inX2 hown hK hP 0 rfl rfl 9 (by decide) (hts _ tw_40) (fun _ h9 => h9) rfl dX2_clockChangesBehind_22 ?_
    refine lv_iload_n hx hb dX2_clockChangesBehind_25 rfl (lv_at hl 0 rfl) ?_
    refine xa_ild hx hb hK hP 7 0 rfl rfl (v := nI ((RS.rw r) (((RS.st r) ch) + k))) (by omega) (by decide) rfl dX2_clockChangesBehind_26 ?_
    refine xa_ild hx hb hK hP 2 0 rfl rfl (v := nI ((RS.ck r) ((RS.rw r) (((RS.st r) ch) + k)))) (b_rw _) (by decide) rfl dX2_clockChangesBehind_27 ?_
    refine lv_aload_n hx hb dX2_clockChangesBehind_28 rfl (lv_at hl 1 rfl) ?_
    refine va_get (D := (dC, dI)) (ci := 2) (v := .ref (q 2)) (C := RX2) (T := TX2) (N := 12) hx hb hts inX2 hown hK hP 0 rfl rfl 4 (by decide) (hts _ tw_35) (fun _ h9 => h9) rfl dX2_clockChangesBehind_29 ?_
    refine lv_aload_n hx hb dX2_clockChangesBehind_32 rfl (lv_at hl 1 rfl) ?_
    refine va_get (D := (dC, dI)) (ci := 2) (v := .ref (q 7)) (C := RX2) (T := TX2) (N := 12) hx hb hts inX2 hown hK hP 0 rfl rfl 9 (by decide) (hts _ tw_40) (fun _ h9 => h9) rfl dX2_clockChangesBehind_33 ?_
    refine lv_iload_n hx hb dX2_clockChangesBehind_36 rfl (lv_at hl 0 rfl) ?_
    refine lv_iconst (v := nI 1) hx hb dX2_clockChangesBehind_37 (by decide) ?_
    refine xn_add hx hb dX2_clockChangesBehind_38 ?_
    refine xa_ild hx hb hK hP 7 0 rfl rfl (v := nI ((RS.rw r) ((((RS.st r) ch) + k) + 1))) (by omega) (by decide) rfl dX2_clockChangesBehind_39 ?_
    refine xa_ild hx hb hK hP 2 0 rfl rfl (v := nI ((RS.ck r) ((RS.rw r) ((((RS.st r) ch) + k) + 1)))) (b_rw _) (by decide) rfl dX2_clockChangesBehind_40 ?_
    refine xn_ceq (tgt := 48) hx hb (by omega) (by omega) dX2_clockChangesBehind_41 (by decide) (fun c_5 => ?_) (fun c_5 => ?_)
    · refine lv_iconst (v := nI 0) hx hb dX2_clockChangesBehind_48 (by decide) ?_
      exact xr_z hx hb hr hlk (by decide) (u := ()) (by unfold ccb; rw [if_neg (fun h => h.2 (by assumption))]) hP hK hD hS dX2_clockChangesBehind_49
    · refine lv_iconst (v := nI 1) hx hb dX2_clockChangesBehind_44 (by decide) ?_
      refine lv_goto (tgt := 49) hx hb dX2_clockChangesBehind_45 (by decide) ?_
      exact xr_z hx hb hr hlk (by decide) (u := ()) (by unfold ccb; rw [if_pos ⟨g1, by assumption⟩]) hP hK hD hS dX2_clockChangesBehind_49
set_option maxHeartbeats 4000000 in
set_option maxRecDepth 100000 in
theorem c_Rows_wayBehind (l : Launch) (dC : Nat → ClassId) (dI : Nat → Nat → Nat) (q : Nat → Nat) (cI cZ : ClassId) (sz : Nat) (r : RS) (k : Nat) (hB : RB r) (h1 : k < 32) : Met l yX2_wayBehind (.code yX2_wayBehind cX2_wayBehind 4 (some .int) :: ALLG) ({ frames := 1, cells := 0, slots := 0, locals := 24 }) (va_Pc [.ref (q 0), .int (nI k)] (cP (dC, dI) vwCl [(cI, .int), (cZ, .boolean)] (wR q cI cZ r) eT sz)) (va_Qi (fun (x : Int32) (_ : Unit) => x = nI (wb r k)) (fun (_ : Unit) => cB (dC, dI) vwCl [(cI, .int), (cZ, .boolean)] (wR q cI cZ r) (va_A (wR q cI cZ r) sz)) (va_A (wR q cI cZ r) sz)) 0 0 (va_A (wR q cI cZ r) sz) := by
  refine xm_of (cc := cX2_wayBehind) (maxL := 4) (ret := some .int) (by decide) rfl (Nat.le_of_ble_eq_true rfl) ?_
  intro p e s m below meth c A hAe hx hb hr hml hts0 hown hlk hin hsz H locs hP hK hD hA hS hE ls hl
  have hts : ∀ w ∈ ALLG, w.before _ s = true := fun w h => hts0 w (List.mem_cons_of_mem _ h)
  rw [← hAe]
  have hB0 := hB
  obtain ⟨b_n, b_c, b_p, b_vb, b_ck, b_xx, b_yy, b_fl, b_po, b_rw, b_ch, b_st⟩ := hB
  have g0 := hnb_le r k
  have hl : lv_has ls 4 [(0, .ref (q 0)), (1, .int (nI k))] := hl
  refine lv_aload_n hx hb dX2_wayBehind_0 rfl (lv_at hl 0 rfl) ?_
  refine lv_iload_n hx hb dX2_wayBehind_1 rfl (lv_at hl 1 rfl) ?_
  refine xc_Vi (As := [.int (nI k)]) (wr := []) ⟨hx, hb, hml, hown, hts⟩ (c_Rows_hasNeighbourBehind l dC dI q cI cZ H.size r k hB0 (by omega)) (cwV 1 hts (gV tw_153 tw_155 sw_1 tw_2 tw_156) rfl rfl rfl (by decide +kernel) ⟨Nat.le_of_ble_eq_true rfl, Nat.le_of_ble_eq_true rfl⟩) rfl hl.1 rfl (Nat.le_of_ble_eq_true rfl) dX2_wayBehind_2 ⟨Nat.zero_le _, Nat.zero_le _⟩ hP hD hK hS hA [0, 1, 2, 3, 4, 5, 6, 7, 8, 9] [] rfl rfl (by decide) (by decide) (by decide) [0, 1] rfl (q0 := 0) rfl rfl rfl eT_M (trivial) (fun r_1 u_2 H locs w_3 hP hD hS => ?_)
  obtain rfl := w_3
  have hP : va_P (dC, dI) vwCl (wR q cI cZ r) H := hP
  have hD : va_D A (wR q cI cZ r) := hD
  refine xn_zne (tgt := 10) hx hb (by omega) dX2_wayBehind_5 (by decide) (fun c_4 => ?_) (fun c_4 => ?_)
  · have g1 := hnb_pos (by assumption)
    have g2 := b_xx (r.rw k)
    have g3 := b_xx (r.rw (k + 1))
    have g4 := b_yy (r.rw k)
    have g5 := b_yy (r.rw (k + 1))
    refine lv_aload_n hx hb dX2_wayBehind_10 rfl (lv_at hl 0 rfl) ?_
    refine va_get (D := (dC, dI)) (ci := 2) (v := .ref (q 7)) (C := RX2) (T := TX2) (N := 12) hx hb hts inX2 hown hK hP 0 rfl rfl 9 (by decide) (hts _ tw_40) (fun _ h9 => h9) rfl dX2_wayBehind_11 ?_
    refine lv_iload_n hx hb dX2_wayBehind_14 rfl (lv_at hl 1 rfl) ?_
    refine xa_ild hx hb hK hP 7 0 rfl rfl (v := nI ((RS.rw r) k)) (by omega) (by decide) rfl dX2_wayBehind_15 ?_
    refine lv_istore_n (lv' := [(2, .int (nI ((RS.rw r) k))), (0, .ref (q 0)), (1, .int (nI k))]) hx hb dX2_wayBehind_16 rfl hl (by decide) rfl (fun ls hl => ?_)
    refine lv_aload_n hx hb dX2_wayBehind_17 rfl (lv_at hl 1 rfl) ?_
    refine va_get (D := (dC, dI)) (ci := 2) (v := .ref (q 7)) (C := RX2) (T := TX2) (N := 12) hx hb hts inX2 hown hK hP 0 rfl rfl 9 (by decide) (hts _ tw_40) (fun _ h9 => h9) rfl dX2_wayBehind_18 ?_
    refine lv_iload_n hx hb dX2_wayBehind_21 rfl (lv_at hl 2 rfl) ?_
    refine lv_iconst (v := nI 1) hx hb dX2_wayBehind_22 (by decide) ?_
    refine xn_add hx hb dX2_wayBehind_23 ?_
    refine xa_ild hx hb hK hP 7 0 rfl rfl (v := nI ((RS.rw r) (k + 1))) (by omega) (by decide) rfl dX2_wayBehind_24 ?_
    refine lv_istore_n (lv' := [(3, .int (nI ((RS.rw r) (k + 1)))), (2, .int (nI ((RS.rw r) k))), (0, .ref (q 0)), (1, .int (nI k))]) hx hb dX2_wayBehind_25 rfl hl (by decide) rfl (fun ls hl => ?_)
    refine lv_aload_n hx hb dX2_wayBehind_26 rfl (lv_at hl 2 rfl) ?_
    refine va_get (D := (dC, dI)) (ci := 2) (v := .ref (q 3)) (C := RX2) (T := TX2) (N := 12) hx hb hts inX2 hown hK hP 0 rfl rfl 5 (by decide) (hts _ tw_36) (fun _ h9 => h9) rfl dX2_wayBehind_27 ?_
    refine lv_iload_n hx hb dX2_wayBehind_30 rfl (lv_at hl 1 rfl) ?_
    refine xa_ild hx hb hK hP 3 0 rfl rfl (v := zI ((RS.xx r) ((RS.rw r) k))) (b_rw _) (by decide) rfl dX2_wayBehind_31 ?_
    refine lv_aload_n hx hb dX2_wayBehind_32 rfl (lv_at hl 2 rfl) ?_
    refine va_get (D := (dC, dI)) (ci := 2) (v := .ref (q 3)) (C := RX2) (T := TX2) (N := 12) hx hb hts inX2 hown hK hP 0 rfl rfl 5 (by decide) (hts _ tw_36) (fun _ h9 => h9) rfl dX2_wayBehind_33 ?_
    refine lv_iload_n hx hb dX2_wayBehind_36 rfl (lv_at hl 0 rfl) ?_
    refine xa_ild hx hb hK hP 3 0 rfl rfl (v := zI ((RS.xx r) ((RS.rw r) (k + 1)))) (b_rw _) (by decide) rfl dX2_wayBehind_37 ?_
    refine xz_sub hx hb dX2_wayBehind_38 ?_
    refine va_mabs hx hb (hml.trans hl.1.symm) hown (hts _ tw_157) (hts _ tw_158) (hts _ tw_12) (hts _ tw_159) (Nat.le_of_ble_eq_true rfl) (Nat.le_of_ble_eq_true rfl) (Nat.zero_le _) (Nat.zero_le _) dX2_wayBehind_39 ?_
    refine xt_i (abs_zI (z := ((RS.xx r) ((RS.rw r) k)) - ((RS.xx r) ((RS.rw r) (k + 1)))) (by omega) (by omega)) ?_
    refine lv_aload_n hx hb dX2_wayBehind_42 rfl (lv_at hl 2 rfl) ?_
    refine va_get (D := (dC, dI)) (ci := 2) (v := .ref (q 4)) (C := RX2) (T := TX2) (N := 12) hx hb hts inX2 hown hK hP 0 rfl rfl 6 (by decide) (hts _ tw_37) (fun _ h9 => h9) rfl dX2_wayBehind_43 ?_
    refine lv_iload_n hx hb dX2_wayBehind_46 rfl (lv_at hl 1 rfl) ?_
    refine xa_ild hx hb hK hP 4 0 rfl rfl (v := zI ((RS.yy r) ((RS.rw r) k))) (b_rw _) (by decide) rfl dX2_wayBehind_47 ?_
    refine lv_aload_n hx hb dX2_wayBehind_48 rfl (lv_at hl 2 rfl) ?_
    refine va_get (D := (dC, dI)) (ci := 2) (v := .ref (q 4)) (C := RX2) (T := TX2) (N := 12) hx hb hts inX2 hown hK hP 0 rfl rfl 6 (by decide) (hts _ tw_37) (fun _ h9 => h9) rfl dX2_wayBehind_49 ?_
    refine lv_iload_n hx hb dX2_wayBehind_52 rfl (lv_at hl 0 rfl) ?_
    refine xa_ild hx hb hK hP 4 0 rfl rfl (v := zI ((RS.yy r) ((RS.rw r) (k + 1)))) (b_rw _) (by decide) rfl dX2_wayBehind_53 ?_
    refine xz_sub hx hb dX2_wayBehind_54 ?_
    refine va_mabs hx hb (hml.trans hl.1.symm) hown (hts _ tw_157) (hts _ tw_158) (hts _ tw_12) (hts _ tw_159) (Nat.le_of_ble_eq_true rfl) (Nat.le_of_ble_eq_true rfl) (Nat.zero_le _) (Nat.zero_le _) dX2_wayBehind_55 ?_
    refine xt_i (abs_zI (z := ((RS.yy r) ((RS.rw r) k)) - ((RS.yy r) ((RS.rw r) (k + 1)))) (by omega) (by omega)) ?_
    refine xn_add hx hb dX2_wayBehind_58 ?_
    exact xr_i hx hb hr hlk (u := ()) (by rw [wb_yes g1]) hP hK hD hS dX2_wayBehind_59
  · refine lv_iconst (v := nI 0) hx hb dX2_wayBehind_8 (by decide) ?_
    exact xr_i hx hb hr hlk (u := ()) (by rw [wb_no (by assumption)]) hP hK hD hS dX2_wayBehind_9
set_option maxHeartbeats 4000000 in
set_option maxRecDepth 100000 in
theorem c_Rows_wbM (l : Launch) (dC : Nat → ClassId) (dI : Nat → Nat → Nat) (q : Nat → Nat) (cI cZ : ClassId) (sz : Nat) (r : RS) : Met l yX2_wayBehind (.code yX2_wayBehind cX2_wayBehind 4 (some .int) :: ALLG) ({ frames := 1, cells := 0, slots := 0, locals := 24 }) (va_Pc [.ref (q 0), .int (zI (-1))] (cP (dC, dI) vwCl [(cI, .int), (cZ, .boolean)] (wR q cI cZ r) eT sz)) (va_Qi (fun (x : Int32) (_ : Unit) => x = nI 0) (fun (_ : Unit) => cB (dC, dI) vwCl [(cI, .int), (cZ, .boolean)] (wR q cI cZ r) (va_A (wR q cI cZ r) sz)) (va_A (wR q cI cZ r) sz)) 0 0 (va_A (wR q cI cZ r) sz) := by
  refine xm_of (cc := cX2_wayBehind) (maxL := 4) (ret := some .int) (by decide) rfl (Nat.le_of_ble_eq_true rfl) ?_
  intro p e s m below meth c A hAe hx hb hr hml hts0 hown hlk hin hsz H locs hP hK hD hA hS hE ls hl
  have hts : ∀ w ∈ ALLG, w.before _ s = true := fun w h => hts0 w (List.mem_cons_of_mem _ h)
  rw [← hAe]
  have hl : lv_has ls 4 [(0, .ref (q 0)), (1, .int (zI (-1)))] := hl
  refine lv_aload_n hx hb dX2_wayBehind_0 rfl (lv_at hl 0 rfl) ?_
  refine lv_iload_n hx hb dX2_wayBehind_1 rfl (lv_at hl 1 rfl) ?_
  refine xc_Vi (As := [.int (zI (-1))]) (wr := []) ⟨hx, hb, hml, hown, hts⟩ (c_Rows_hnbM l dC dI q cI cZ H.size r) (cwV 1 hts (gV tw_153 tw_155 sw_1 tw_2 tw_156) rfl rfl rfl (by decide +kernel) ⟨Nat.le_of_ble_eq_true rfl, Nat.le_of_ble_eq_true rfl⟩) rfl hl.1 rfl (Nat.le_of_ble_eq_true rfl) dX2_wayBehind_2 ⟨Nat.zero_le _, Nat.zero_le _⟩ hP hD hK hS hA [0, 1, 2, 3, 4, 5, 6, 7, 8, 9] [] rfl rfl (by decide) (by decide) (by decide) [0, 1] rfl (q0 := 0) rfl rfl rfl eT_M (trivial) (fun r_1 u_2 H locs w_3 hP hD hS => ?_)
  obtain rfl := w_3
  have hP : va_P (dC, dI) vwCl (wR q cI cZ r) H := hP
  have hD : va_D A (wR q cI cZ r) := hD
  refine xn_zne (tgt := 10) hx hb (by omega) dX2_wayBehind_5 (by decide) (fun c_4 => ?_) (fun c_4 => ?_)
  · exact absurd (by assumption : 0 < 0) (Nat.lt_irrefl 0)
  · refine lv_iconst (v := nI 0) hx hb dX2_wayBehind_8 (by decide) ?_
    exact xr_i hx hb hr hlk (u := ()) rfl hP hK hD hS dX2_wayBehind_9
set_option maxHeartbeats 4000000 in
set_option maxRecDepth 100000 in
theorem c_Rows_wayAround (l : Launch) (dC : Nat → ClassId) (dI : Nat → Nat → Nat) (q : Nat → Nat) (cI cZ : ClassId) (sz : Nat) (r : RS) (k : Nat) (hB : RB r) (h1 : k < 32) : Met l yX2_wayAround (.code yX2_wayAround cX2_wayAround 2 (some .int) :: ALLG) ({ frames := 2, cells := 0, slots := 0, locals := 47 }) (va_Pc [.ref (q 0), .int (nI k)] (cP (dC, dI) vwCl [(cI, .int), (cZ, .boolean)] (wR q cI cZ r) eT sz)) (va_Qi (fun (x : Int32) (_ : Unit) => x = nI (wa r k)) (fun (_ : Unit) => cB (dC, dI) vwCl [(cI, .int), (cZ, .boolean)] (wR q cI cZ r) (va_A (wR q cI cZ r) sz)) (va_A (wR q cI cZ r) sz)) 0 0 (va_A (wR q cI cZ r) sz) := by
  refine xm_of (cc := cX2_wayAround) (maxL := 2) (ret := some .int) (by decide) rfl (Nat.le_of_ble_eq_true rfl) ?_
  intro p e s m below meth c A hAe hx hb hr hml hts0 hown hlk hin hsz H locs hP hK hD hA hS hE ls hl
  have hts : ∀ w ∈ ALLG, w.before _ s = true := fun w h => hts0 w (List.mem_cons_of_mem _ h)
  rw [← hAe]
  have hl : lv_has ls 2 [(0, .ref (q 0)), (1, .int (nI k))] := hl
  refine lv_aload_n hx hb dX2_wayAround_0 rfl (lv_at hl 0 rfl) ?_
  refine lv_iload_n hx hb dX2_wayAround_1 rfl (lv_at hl 1 rfl) ?_
  refine lv_iconst (v := nI 1) hx hb dX2_wayAround_2 (by decide) ?_
  rcases Nat.eq_zero_or_pos k with h0 | h0
  · skip
    refine lv_isub hx hb dX2_wayAround_3 ?_
    refine xt_i (show nI k - nI 1 = zI (-1) by rw [h0]; decide) ?_
    refine xc_Vi (As := [.int (zI (-1))]) (wr := []) ⟨hx, hb, hml, hown, hts⟩ (c_Rows_wbM l dC dI q cI cZ H.size r) (cwV 1 hts (gV tw_149 tw_151 sw_0 tw_2 tw_152) rfl rfl rfl (by decide +kernel) ⟨Nat.le_of_ble_eq_true rfl, Nat.le_of_ble_eq_true rfl⟩) rfl hl.1 rfl (Nat.le_of_ble_eq_true rfl) dX2_wayAround_4 ⟨Nat.zero_le _, Nat.zero_le _⟩ hP hD hK hS hA [0, 1, 2, 3, 4, 5, 6, 7, 8, 9] [] rfl rfl (by decide) (by decide) (by decide) [0, 1] rfl (q0 := 0) rfl rfl rfl eT_M (trivial) (fun r_1 u_2 H locs w_3 hP hD hS => ?_)
    obtain rfl := w_3
    have hP : va_P (dC, dI) vwCl (wR q cI cZ r) H := hP
    have hD : va_D A (wR q cI cZ r) := hD
    refine lv_aload_n hx hb dX2_wayAround_7 rfl (lv_at hl 0 rfl) ?_
    refine lv_iload_n hx hb dX2_wayAround_8 rfl (lv_at hl 1 rfl) ?_
    refine xc_Vi (As := [.int (nI k)]) (wr := []) ⟨hx, hb, hml, hown, hts⟩ (c_Rows_wayBehind l dC dI q cI cZ H.size r k hB (by omega)) (cwV 1 hts (gV tw_149 tw_151 sw_0 tw_2 tw_152) rfl rfl rfl (by decide +kernel) ⟨Nat.le_of_ble_eq_true rfl, Nat.le_of_ble_eq_true rfl⟩) rfl hl.1 rfl (Nat.le_of_ble_eq_true rfl) dX2_wayAround_9 ⟨Nat.zero_le _, Nat.zero_le _⟩ hP hD hK hS hA [0, 1, 2, 3, 4, 5, 6, 7, 8, 9] [] rfl rfl (by decide) (by decide) (by decide) [0, 1] rfl (q0 := 0) rfl rfl rfl eT_M (trivial) (fun r_4 u_5 H locs w_6 hP hD hS => ?_)
    obtain rfl := w_6
    have hP : va_P (dC, dI) vwCl (wR q cI cZ r) H := hP
    have hD : va_D A (wR q cI cZ r) := hD
    refine xn_add hx hb dX2_wayAround_12 ?_
    exact xr_i hx hb hr hlk (u := ()) (by unfold wa; first | rw [if_pos h0] | rw [if_neg (by omega)]) hP hK hD hS dX2_wayAround_13
  · skip
    refine xn_sub hx hb (by omega) dX2_wayAround_3 ?_
    refine xc_Vi (As := [.int (nI (k - 1))]) (wr := []) ⟨hx, hb, hml, hown, hts⟩ (c_Rows_wayBehind l dC dI q cI cZ H.size r (k - 1) hB (by omega)) (cwV 1 hts (gV tw_149 tw_151 sw_0 tw_2 tw_152) rfl rfl rfl (by decide +kernel) ⟨Nat.le_of_ble_eq_true rfl, Nat.le_of_ble_eq_true rfl⟩) rfl hl.1 rfl (Nat.le_of_ble_eq_true rfl) dX2_wayAround_4 ⟨Nat.zero_le _, Nat.zero_le _⟩ hP hD hK hS hA [0, 1, 2, 3, 4, 5, 6, 7, 8, 9] [] rfl rfl (by decide) (by decide) (by decide) [0, 1] rfl (q0 := 0) rfl rfl rfl eT_M (trivial) (fun r_7 u_8 H locs w_9 hP hD hS => ?_)
    obtain rfl := w_9
    have hP : va_P (dC, dI) vwCl (wR q cI cZ r) H := hP
    have hD : va_D A (wR q cI cZ r) := hD
    refine lv_aload_n hx hb dX2_wayAround_7 rfl (lv_at hl 0 rfl) ?_
    refine lv_iload_n hx hb dX2_wayAround_8 rfl (lv_at hl 1 rfl) ?_
    refine xc_Vi (As := [.int (nI k)]) (wr := []) ⟨hx, hb, hml, hown, hts⟩ (c_Rows_wayBehind l dC dI q cI cZ H.size r k hB (by omega)) (cwV 1 hts (gV tw_149 tw_151 sw_0 tw_2 tw_152) rfl rfl rfl (by decide +kernel) ⟨Nat.le_of_ble_eq_true rfl, Nat.le_of_ble_eq_true rfl⟩) rfl hl.1 rfl (Nat.le_of_ble_eq_true rfl) dX2_wayAround_9 ⟨Nat.zero_le _, Nat.zero_le _⟩ hP hD hK hS hA [0, 1, 2, 3, 4, 5, 6, 7, 8, 9] [] rfl rfl (by decide) (by decide) (by decide) [0, 1] rfl (q0 := 0) rfl rfl rfl eT_M (trivial) (fun r_10 u_11 H locs w_12 hP hD hS => ?_)
    obtain rfl := w_12
    have hP : va_P (dC, dI) vwCl (wR q cI cZ r) H := hP
    have hD : va_D A (wR q cI cZ r) := hD
    refine xn_add hx hb dX2_wayAround_12 ?_
    exact xr_i hx hb hr hlk (u := ()) (by unfold wa; first | rw [if_pos h0] | rw [if_neg (by omega)]) hP hK hD hS dX2_wayAround_13
set_option maxHeartbeats 4000000 in
set_option maxRecDepth 100000 in
theorem c_Rows_mayExchange (l : Launch) (dC : Nat → ClassId) (dI : Nat → Nat → Nat) (q : Nat → Nat) (cI cZ : ClassId) (sz : Nat) (r : RS) (i j : Nat) (hB : RB r) (h1 : i < 32) (h2 : j < 32) : Met l yX2_mayExchange (.code yX2_mayExchange cX2_mayExchange 3 (some .boolean) :: ALLG) ({ frames := 0, cells := 0, slots := 0, locals := 0 }) (va_Pc [.ref (q 0), .int (nI i), .int (nI j)] (cP (dC, dI) vwCl [(cI, .int), (cZ, .boolean)] (wR q cI cZ r) eT sz)) (va_Qi (fun (x : Int32) (_ : Unit) => x = nI (mayN r i j)) (fun (_ : Unit) => cB (dC, dI) vwCl [(cI, .int), (cZ, .boolean)] (wR q cI cZ r) (va_A (wR q cI cZ r) sz)) (va_A (wR q cI cZ r) sz)) 0 0 (va_A (wR q cI cZ r) sz) := by
  refine xm_of (cc := cX2_mayExchange) (maxL := 3) (ret := some .boolean) (by decide) rfl (Nat.le_of_ble_eq_true rfl) ?_
  intro p e s m below meth c A hAe hx hb hr hml hts0 hown hlk hin hsz H locs hP hK hD hA hS hE ls hl
  have hts : ∀ w ∈ ALLG, w.before _ s = true := fun w h => hts0 w (List.mem_cons_of_mem _ h)
  rw [← hAe]
  obtain ⟨b_n, b_c, b_p, b_vb, b_ck, b_xx, b_yy, b_fl, b_po, b_rw, b_ch, b_st⟩ := hB
  have g1 := b_ck i
  have g2 := b_ck j
  have g3 := b_po i
  have g4 := b_po j
  have hl : lv_has ls 3 [(0, .ref (q 0)), (1, .int (nI i)), (2, .int (nI j))] := hl
  refine lv_aload_n hx hb dX2_mayExchange_0 rfl (lv_at hl 0 rfl) ?_
  refine va_get (D := (dC, dI)) (ci := 2) (v := .ref (q 2)) (C := RX2) (T := TX2) (N := 12) hx hb hts inX2 hown hK hP 0 rfl rfl 4 (by decide) (hts _ tw_35) (fun _ h9 => h9) rfl dX2_mayExchange_1 ?_
  refine lv_iload_n hx hb dX2_mayExchange_4 rfl (lv_at hl 1 rfl) ?_
  refine xa_ild hx hb hK hP 2 0 rfl rfl (v := nI ((RS.ck r) i)) (by omega) (by decide) rfl dX2_mayExchange_5 ?_
  refine lv_aload_n hx hb dX2_mayExchange_6 rfl (lv_at hl 0 rfl) ?_
  refine va_get (D := (dC, dI)) (ci := 2) (v := .ref (q 2)) (C := RX2) (T := TX2) (N := 12) hx hb hts inX2 hown hK hP 0 rfl rfl 4 (by decide) (hts _ tw_35) (fun _ h9 => h9) rfl dX2_mayExchange_7 ?_
  refine lv_iload_n hx hb dX2_mayExchange_10 rfl (lv_at hl 2 rfl) ?_
  refine xa_ild hx hb hK hP 2 0 rfl rfl (v := nI ((RS.ck r) j)) (by omega) (by decide) rfl dX2_mayExchange_11 ?_
  refine xn_cne (tgt := 39) hx hb (by omega) (by omega) dX2_mayExchange_12 (by decide) (fun c_1 => ?_) (fun c_1 => ?_)
  · refine lv_iconst (v := nI 0) hx hb dX2_mayExchange_39 (by decide) ?_
    exact xr_z hx hb hr hlk (by decide) (u := ()) (by unfold mayN; first | rw [if_pos ⟨by assumption, by assumption, by assumption⟩] | rw [if_neg (fun h => absurd h.1 (by assumption))] | rw [if_neg (fun h => h.2.1 (by assumption))] | rw [if_neg (fun h => h.2.2 (by assumption))]) hP hK hD hS dX2_mayExchange_40
  · refine lv_aload_n hx hb dX2_mayExchange_15 rfl (lv_at hl 0 rfl) ?_
    refine va_get (D := (dC, dI)) (ci := 2) (v := .ref (q 6)) (C := RX2) (T := TX2) (N := 12) hx hb hts inX2 hown hK hP 0 rfl rfl 8 (by decide) (hts _ tw_39) (fun _ h9 => h9) rfl dX2_mayExchange_16 ?_
    refine lv_iload_n hx hb dX2_mayExchange_19 rfl (lv_at hl 1 rfl) ?_
    refine xa_ild hx hb hK hP 6 0 rfl rfl (v := zI ((RS.po r) i)) (by omega) (by decide) rfl dX2_mayExchange_20 ?_
    refine lv_iconst (v := zI (-1)) hx hb dX2_mayExchange_21 (by decide) ?_
    refine xz_ceq (tgt := 39) hx hb (by omega) (by omega) (by omega) (by omega) dX2_mayExchange_22 (by decide) (fun c_2 => ?_) (fun c_2 => ?_)
    · refine lv_iconst (v := nI 0) hx hb dX2_mayExchange_39 (by decide) ?_
      exact xr_z hx hb hr hlk (by decide) (u := ()) (by unfold mayN; first | rw [if_pos ⟨by assumption, by assumption, by assumption⟩] | rw [if_neg (fun h => absurd h.1 (by assumption))] | rw [if_neg (fun h => h.2.1 (by assumption))] | rw [if_neg (fun h => h.2.2 (by assumption))]) hP hK hD hS dX2_mayExchange_40
    · refine lv_aload_n hx hb dX2_mayExchange_25 rfl (lv_at hl 0 rfl) ?_
      refine va_get (D := (dC, dI)) (ci := 2) (v := .ref (q 6)) (C := RX2) (T := TX2) (N := 12) hx hb hts inX2 hown hK hP 0 rfl rfl 8 (by decide) (hts _ tw_39) (fun _ h9 => h9) rfl dX2_mayExchange_26 ?_
      refine lv_iload_n hx hb dX2_mayExchange_29 rfl (lv_at hl 2 rfl) ?_
      refine xa_ild hx hb hK hP 6 0 rfl rfl (v := zI ((RS.po r) j)) (by omega) (by decide) rfl dX2_mayExchange_30 ?_
      refine lv_iconst (v := zI (-1)) hx hb dX2_mayExchange_31 (by decide) ?_
      refine xz_ceq (tgt := 39) hx hb (by omega) (by omega) (by omega) (by omega) dX2_mayExchange_32 (by decide) (fun c_3 => ?_) (fun c_3 => ?_)
      · refine lv_iconst (v := nI 0) hx hb dX2_mayExchange_39 (by decide) ?_
        exact xr_z hx hb hr hlk (by decide) (u := ()) (by unfold mayN; first | rw [if_pos ⟨by assumption, by assumption, by assumption⟩] | rw [if_neg (fun h => absurd h.1 (by assumption))] | rw [if_neg (fun h => h.2.1 (by assumption))] | rw [if_neg (fun h => h.2.2 (by assumption))]) hP hK hD hS dX2_mayExchange_40
      · refine lv_iconst (v := nI 1) hx hb dX2_mayExchange_35 (by decide) ?_
        refine lv_goto (tgt := 40) hx hb dX2_mayExchange_36 (by decide) ?_
        exact xr_z hx hb hr hlk (by decide) (u := ()) (by unfold mayN; first | rw [if_pos ⟨by assumption, by assumption, by assumption⟩] | rw [if_neg (fun h => absurd h.1 (by assumption))] | rw [if_neg (fun h => h.2.1 (by assumption))] | rw [if_neg (fun h => h.2.2 (by assumption))]) hP hK hD hS dX2_mayExchange_40
set_option maxHeartbeats 4000000 in
set_option maxRecDepth 100000 in
theorem c_Rows_exchange (l : Launch) (dC : Nat → ClassId) (dI : Nat → Nat → Nat) (q : Nat → Nat) (cI cZ : ClassId) (sz : Nat) (r : RS) (i j : Nat) (hB : RB r) (h1 : i < 32) (h2 : j < 32) : Met l yX2_exchange (.code yX2_exchange cX2_exchange 4 none :: ALLG) ({ frames := 0, cells := 0, slots := 0, locals := 0 }) (va_Pc [.ref (q 0), .int (nI i), .int (nI j)] (cP (dC, dI) vwCl [(cI, .int), (cZ, .boolean)] (wR q cI cZ r) eT sz)) (va_Qv (fun (u : RS) => u = exch r i j) (fun (u : RS) => cB (dC, dI) vwCl [(cI, .int), (cZ, .boolean)] (wR q cI cZ u) (va_A (wR q cI cZ r) sz)) (va_A (wR q cI cZ r) sz)) 0 0 (va_A (wR q cI cZ r) sz) := by
  refine xm_of (cc := cX2_exchange) (maxL := 4) (ret := none) (by decide) rfl (Nat.le_of_ble_eq_true rfl) ?_
  intro p e s m below meth c A hAe hx hb hr hml hts0 hown hlk hin hsz H locs hP hK hD hA hS hE ls hl
  have hts : ∀ w ∈ ALLG, w.before _ s = true := fun w h => hts0 w (List.mem_cons_of_mem _ h)
  rw [← hAe]
  obtain ⟨b_n, b_c, b_p, b_vb, b_ck, b_xx, b_yy, b_fl, b_po, b_rw, b_ch, b_st⟩ := hB
  have hl : lv_has ls 4 [(0, .ref (q 0)), (1, .int (nI i)), (2, .int (nI j))] := hl
  refine lv_aload_n hx hb dX2_exchange_0 rfl (lv_at hl 0 rfl) ?_
  refine va_get (D := (dC, dI)) (ci := 2) (v := .ref (q 7)) (C := RX2) (T := TX2) (N := 12) hx hb hts inX2 hown hK hP 0 rfl rfl 9 (by decide) (hts _ tw_40) (fun _ h9 => h9) rfl dX2_exchange_1 ?_
  refine lv_iload_n hx hb dX2_exchange_4 rfl (lv_at hl 1 rfl) ?_
  refine xa_ild hx hb hK hP 7 0 rfl rfl (v := nI ((RS.rw r) i)) (by omega) (by decide) rfl dX2_exchange_5 ?_
  refine lv_istore_n (lv' := [(3, .int (nI ((RS.rw r) i))), (0, .ref (q 0)), (1, .int (nI i)), (2, .int (nI j))]) hx hb dX2_exchange_6 rfl hl (by decide) rfl (fun ls hl => ?_)
  refine lv_aload_n hx hb dX2_exchange_7 rfl (lv_at hl 1 rfl) ?_
  refine va_get (D := (dC, dI)) (ci := 2) (v := .ref (q 7)) (C := RX2) (T := TX2) (N := 12) hx hb hts inX2 hown hK hP 0 rfl rfl 9 (by decide) (hts _ tw_40) (fun _ h9 => h9) rfl dX2_exchange_8 ?_
  refine lv_iload_n hx hb dX2_exchange_11 rfl (lv_at hl 2 rfl) ?_
  refine lv_aload_n hx hb dX2_exchange_12 rfl (lv_at hl 1 rfl) ?_
  refine va_get (D := (dC, dI)) (ci := 2) (v := .ref (q 7)) (C := RX2) (T := TX2) (N := 12) hx hb hts inX2 hown hK hP 0 rfl rfl 9 (by decide) (hts _ tw_40) (fun _ h9 => h9) rfl dX2_exchange_13 ?_
  refine lv_iload_n hx hb dX2_exchange_16 rfl (lv_at hl 3 rfl) ?_
  refine xa_ild hx hb hK hP 7 0 rfl rfl (v := nI ((RS.rw r) j)) (by omega) (by decide) rfl dX2_exchange_17 ?_
  refine xa_ist hx hb hK hP hD hS 7 0 rfl rfl (by omega) (by decide) (aN_up _ _ _) dX2_exchange_18 (fun H locs hP hD hS => ?_)
  have hP : va_P (dC, dI) vwCl (wR q cI cZ (RS.s_rw r (va_up (RS.rw r) i ((RS.rw r) j)))) H := hP
  have hD : va_D A (wR q cI cZ (RS.s_rw r (va_up (RS.rw r) i ((RS.rw r) j)))) := hD
  refine lv_aload_n hx hb dX2_exchange_19 rfl (lv_at hl 1 rfl) ?_
  refine va_get (D := (dC, dI)) (ci := 2) (v := .ref (q 7)) (C := RX2) (T := TX2) (N := 12) hx hb hts inX2 hown hK hP 0 rfl rfl 9 (by decide) (hts _ tw_40) (fun _ h9 => h9) rfl dX2_exchange_20 ?_
  refine lv_iload_n hx hb dX2_exchange_23 rfl (lv_at hl 3 rfl) ?_
  refine lv_iload_n hx hb dX2_exchange_24 rfl (lv_at hl 0 rfl) ?_
  refine xa_ist hx hb hK hP hD hS 7 0 rfl rfl (by omega) (by decide) (aN_up _ _ _) dX2_exchange_25 (fun H locs hP hD hS => ?_)
  have hP : va_P (dC, dI) vwCl (wR q cI cZ (RS.s_rw (RS.s_rw r (va_up (RS.rw r) i ((RS.rw r) j))) (va_up (va_up (RS.rw r) i ((RS.rw r) j)) j ((RS.rw r) i)))) H := hP
  have hD : va_D A (wR q cI cZ (RS.s_rw (RS.s_rw r (va_up (RS.rw r) i ((RS.rw r) j))) (va_up (va_up (RS.rw r) i ((RS.rw r) j)) j ((RS.rw r) i)))) := hD
  refine lv_aload_n hx hb dX2_exchange_26 rfl (lv_at hl 1 rfl) ?_
  refine va_get (D := (dC, dI)) (ci := 2) (v := .ref (q 6)) (C := RX2) (T := TX2) (N := 12) hx hb hts inX2 hown hK hP 0 rfl rfl 8 (by decide) (hts _ tw_39) (fun _ h9 => h9) rfl dX2_exchange_27 ?_
  refine lv_aload_n hx hb dX2_exchange_30 rfl (lv_at hl 1 rfl) ?_
  refine va_get (D := (dC, dI)) (ci := 2) (v := .ref (q 7)) (C := RX2) (T := TX2) (N := 12) hx hb hts inX2 hown hK hP 0 rfl rfl 9 (by decide) (hts _ tw_40) (fun _ h9 => h9) rfl dX2_exchange_31 ?_
  refine lv_iload_n hx hb dX2_exchange_34 rfl (lv_at hl 2 rfl) ?_
  refine xa_ild hx hb hK hP 7 0 rfl rfl (v := nI ((va_up (va_up (RS.rw r) i ((RS.rw r) j)) j ((RS.rw r) i)) i)) (by omega) (by decide) rfl dX2_exchange_35 ?_
  refine lv_iload_n hx hb dX2_exchange_36 rfl (lv_at hl 2 rfl) ?_
  refine xa_ist hx hb hK hP hD hS 6 0 rfl rfl (up_lt (up_lt b_rw (b_rw _) _) (b_rw _) _ _) (by decide) (aZ_upN _ _ _) dX2_exchange_37 (fun H locs hP hD hS => ?_)
  have hP : va_P (dC, dI) vwCl (wR q cI cZ (RS.s_po (RS.s_rw (RS.s_rw r (va_up (RS.rw r) i ((RS.rw r) j))) (va_up (va_up (RS.rw r) i ((RS.rw r) j)) j ((RS.rw r) i))) (va_up (RS.po r) ((va_up (va_up (RS.rw r) i ((RS.rw r) j)) j ((RS.rw r) i)) i) ((i : Nat) : Int)))) H := hP
  have hD : va_D A (wR q cI cZ (RS.s_po (RS.s_rw (RS.s_rw r (va_up (RS.rw r) i ((RS.rw r) j))) (va_up (va_up (RS.rw r) i ((RS.rw r) j)) j ((RS.rw r) i))) (va_up (RS.po r) ((va_up (va_up (RS.rw r) i ((RS.rw r) j)) j ((RS.rw r) i)) i) ((i : Nat) : Int)))) := hD
  refine lv_aload_n hx hb dX2_exchange_38 rfl (lv_at hl 1 rfl) ?_
  refine va_get (D := (dC, dI)) (ci := 2) (v := .ref (q 6)) (C := RX2) (T := TX2) (N := 12) hx hb hts inX2 hown hK hP 0 rfl rfl 8 (by decide) (hts _ tw_39) (fun _ h9 => h9) rfl dX2_exchange_39 ?_
  refine lv_aload_n hx hb dX2_exchange_42 rfl (lv_at hl 1 rfl) ?_
  refine va_get (D := (dC, dI)) (ci := 2) (v := .ref (q 7)) (C := RX2) (T := TX2) (N := 12) hx hb hts inX2 hown hK hP 0 rfl rfl 9 (by decide) (hts _ tw_40) (fun _ h9 => h9) rfl dX2_exchange_43 ?_
  refine lv_iload_n hx hb dX2_exchange_46 rfl (lv_at hl 3 rfl) ?_
  refine xa_ild hx hb hK hP 7 0 rfl rfl (v := nI ((va_up (va_up (RS.rw r) i ((RS.rw r) j)) j ((RS.rw r) i)) j)) (by omega) (by decide) rfl dX2_exchange_47 ?_
  refine lv_iload_n hx hb dX2_exchange_48 rfl (lv_at hl 3 rfl) ?_
  refine xa_ist hx hb hK hP hD hS 6 0 rfl rfl (up_lt (up_lt b_rw (b_rw _) _) (b_rw _) _ _) (by decide) (aZ_upN _ _ _) dX2_exchange_49 (fun H locs hP hD hS => ?_)
  have hP : va_P (dC, dI) vwCl (wR q cI cZ (RS.s_po (RS.s_po (RS.s_rw (RS.s_rw r (va_up (RS.rw r) i ((RS.rw r) j))) (va_up (va_up (RS.rw r) i ((RS.rw r) j)) j ((RS.rw r) i))) (va_up (RS.po r) ((va_up (va_up (RS.rw r) i ((RS.rw r) j)) j ((RS.rw r) i)) i) ((i : Nat) : Int))) (va_up (va_up (RS.po r) ((va_up (va_up (RS.rw r) i ((RS.rw r) j)) j ((RS.rw r) i)) i) ((i : Nat) : Int)) ((va_up (va_up (RS.rw r) i ((RS.rw r) j)) j ((RS.rw r) i)) j) ((j : Nat) : Int)))) H := hP
  have hD : va_D A (wR q cI cZ (RS.s_po (RS.s_po (RS.s_rw (RS.s_rw r (va_up (RS.rw r) i ((RS.rw r) j))) (va_up (va_up (RS.rw r) i ((RS.rw r) j)) j ((RS.rw r) i))) (va_up (RS.po r) ((va_up (va_up (RS.rw r) i ((RS.rw r) j)) j ((RS.rw r) i)) i) ((i : Nat) : Int))) (va_up (va_up (RS.po r) ((va_up (va_up (RS.rw r) i ((RS.rw r) j)) j ((RS.rw r) i)) i) ((i : Nat) : Int)) ((va_up (va_up (RS.rw r) i ((RS.rw r) j)) j ((RS.rw r) i)) j) ((j : Nat) : Int)))) := hD
  exact xr_v hx hb hr hlk (u := RS.s_po (RS.s_po (RS.s_rw (RS.s_rw r (va_up (RS.rw r) i ((RS.rw r) j))) (va_up (va_up (RS.rw r) i ((RS.rw r) j)) j ((RS.rw r) i))) (va_up (RS.po r) ((va_up (va_up (RS.rw r) i ((RS.rw r) j)) j ((RS.rw r) i)) i) ((i : Nat) : Int))) (va_up (va_up (RS.po r) ((va_up (va_up (RS.rw r) i ((RS.rw r) j)) j ((RS.rw r) i)) i) ((i : Nat) : Int)) ((va_up (va_up (RS.rw r) i ((RS.rw r) j)) j ((RS.rw r) i)) j) ((j : Nat) : Int))) rfl hP hK hD hS dX2_exchange_50
set_option maxHeartbeats 4000000 in
set_option maxRecDepth 100000 in
theorem c_Rows_breaks (l : Launch) (dC : Nat → ClassId) (dI : Nat → Nat → Nat) (q : Nat → Nat) (cI cZ : ClassId) (sz : Nat) (r : RS) (i j : Nat) (hB : RB r) (h1 : i < 32) (h2 : j < 2) : Met l yX2_breaks (.code yX2_breaks cX2_breaks 3 (some .boolean) :: ALLG) ({ frames := 0, cells := 0, slots := 0, locals := 0 }) (va_Pc [.ref (q 0), .int (nI i), .int (nI j)] (cP (dC, dI) vwCl [(cI, .int), (cZ, .boolean)] (wR q cI cZ r) eT sz)) (va_Qi (fun (x : Int32) (_ : Unit) => x = nI (brk r i j)) (fun (_ : Unit) => cB (dC, dI) vwCl [(cI, .int), (cZ, .boolean)] (wR q cI cZ r) (va_A (wR q cI cZ r) sz)) (va_A (wR q cI cZ r) sz)) 0 0 (va_A (wR q cI cZ r) sz) := by
  refine xm_of (cc := cX2_breaks) (maxL := 3) (ret := some .boolean) (by decide) rfl (Nat.le_of_ble_eq_true rfl) ?_
  intro p e s m below meth c A hAe hx hb hr hml hts0 hown hlk hin hsz H locs hP hK hD hA hS hE ls hl
  have hts : ∀ w ∈ ALLG, w.before _ s = true := fun w h => hts0 w (List.mem_cons_of_mem _ h)
  rw [← hAe]
  obtain ⟨b_n, b_c, b_p, b_vb, b_ck, b_xx, b_yy, b_fl, b_po, b_rw, b_ch, b_st⟩ := hB
  have g1 := b_fl i
  have g2 := b_po i
  have hl : lv_has ls 3 [(0, .ref (q 0)), (1, .int (nI i)), (2, .int (nI j))] := hl
  refine lv_iload_n hx hb dX2_breaks_0 rfl (lv_at hl 2 rfl) ?_
  refine xn_zne (tgt := 13) hx hb (by omega) dX2_breaks_1 (by decide) (fun c_1 => ?_) (fun c_1 => ?_)
  · refine lv_aload_n hx hb dX2_breaks_13 rfl (lv_at hl 0 rfl) ?_
    refine va_get (D := (dC, dI)) (ci := 2) (v := .ref (q 6)) (C := RX2) (T := TX2) (N := 12) hx hb hts inX2 hown hK hP 0 rfl rfl 8 (by decide) (hts _ tw_39) (fun _ h9 => h9) rfl dX2_breaks_14 ?_
    refine lv_iload_n hx hb dX2_breaks_17 rfl (lv_at hl 1 rfl) ?_
    refine xa_ild hx hb hK hP 6 0 rfl rfl (v := zI ((RS.po r) i)) (by omega) (by decide) rfl dX2_breaks_18 ?_
    refine lv_iconst (v := zI (-1)) hx hb dX2_breaks_19 (by decide) ?_
    refine xz_cne (tgt := 27) hx hb (by omega) (by omega) (by omega) (by omega) dX2_breaks_20 (by decide) (fun c_2 => ?_) (fun c_2 => ?_)
    · refine lv_iconst (v := nI 0) hx hb dX2_breaks_27 (by decide) ?_
      exact xr_z hx hb hr hlk (by decide) (u := ()) (by unfold brk; first | rw [if_pos (by assumption)] | rw [if_neg (by omega), if_pos (by assumption)] | rw [if_neg (by omega), if_neg (by assumption)]) hP hK hD hS dX2_breaks_28
    · refine lv_iconst (v := nI 1) hx hb dX2_breaks_23 (by decide) ?_
      refine lv_goto (tgt := 28) hx hb dX2_breaks_24 (by decide) ?_
      exact xr_z hx hb hr hlk (by decide) (u := ()) (by unfold brk; first | rw [if_pos (by assumption)] | rw [if_neg (by omega), if_pos (by assumption)] | rw [if_neg (by omega), if_neg (by assumption)]) hP hK hD hS dX2_breaks_28
  · refine lv_aload_n hx hb dX2_breaks_4 rfl (lv_at hl 0 rfl) ?_
    refine va_get (D := (dC, dI)) (ci := 2) (v := .ref (q 5)) (C := RX2) (T := TX2) (N := 12) hx hb hts inX2 hown hK hP 0 rfl rfl 7 (by decide) (hts _ tw_38) (fun _ h9 => h9) rfl dX2_breaks_5 ?_
    refine lv_iload_n hx hb dX2_breaks_8 rfl (lv_at hl 1 rfl) ?_
    refine xa_zld hx hb hK hP 5 1 rfl rfl (v := nI ((RS.fl r) i)) (by omega) (by decide) rfl dX2_breaks_9 ?_
    refine lv_goto (tgt := 28) hx hb dX2_breaks_10 (by decide) ?_
    exact xr_z hx hb hr hlk (nar01v (by omega)) (u := ()) (by unfold brk; first | rw [if_pos (by assumption)] | rw [if_neg (by omega), if_pos (by assumption)] | rw [if_neg (by omega), if_neg (by assumption)]) hP hK hD hS dX2_breaks_28
set_option maxHeartbeats 4000000 in
set_option maxRecDepth 100000 in
theorem c_Rows_changeSet (l : Launch) (dC : Nat → ClassId) (dI : Nat → Nat → Nat) (q : Nat → Nat) (cI cZ : ClassId) (sz : Nat) (r : RS) (i f : Nat) (hB : RB r) (h1 : i < 32) (h2 : f < 2) : Met l yX2_changeSet (.code yX2_changeSet cX2_changeSet 4 (some .boolean) :: ALLG) ({ frames := 0, cells := 0, slots := 0, locals := 0 }) (va_Pc [.ref (q 0), .int (nI i), .int (nI f)] (cP (dC, dI) vwCl [(cI, .int), (cZ, .boolean)] (wR q cI cZ r) eT sz)) (va_Qi (fun (x : Int32) (u : RS) => x = nI (if r.fl i = f then 0 else 1) ∧ u = r.s_fl (va_up r.fl i f)) (fun (u : RS) => cB (dC, dI) vwCl [(cI, .int), (cZ, .boolean)] (wR q cI cZ u) (va_A (wR q cI cZ r) sz)) (va_A (wR q cI cZ r) sz)) 0 0 (va_A (wR q cI cZ r) sz) := by
  refine xm_of (cc := cX2_changeSet) (maxL := 4) (ret := some .boolean) (by decide) rfl (Nat.le_of_ble_eq_true rfl) ?_
  intro p e s m below meth c A hAe hx hb hr hml hts0 hown hlk hin hsz H locs hP hK hD hA hS hE ls hl
  have hts : ∀ w ∈ ALLG, w.before _ s = true := fun w h => hts0 w (List.mem_cons_of_mem _ h)
  rw [← hAe]
  obtain ⟨b_n, b_c, b_p, b_vb, b_ck, b_xx, b_yy, b_fl, b_po, b_rw, b_ch, b_st⟩ := hB
  have g1 := b_fl i
  have hl : lv_has ls 4 [(0, .ref (q 0)), (1, .int (nI i)), (2, .int (nI f))] := hl
  refine lv_aload_n hx hb dX2_changeSet_0 rfl (lv_at hl 0 rfl) ?_
  refine va_get (D := (dC, dI)) (ci := 2) (v := .ref (q 5)) (C := RX2) (T := TX2) (N := 12) hx hb hts inX2 hown hK hP 0 rfl rfl 7 (by decide) (hts _ tw_38) (fun _ h9 => h9) rfl dX2_changeSet_1 ?_
  refine lv_iload_n hx hb dX2_changeSet_4 rfl (lv_at hl 1 rfl) ?_
  refine xa_zld hx hb hK hP 5 1 rfl rfl (v := nI ((RS.fl r) i)) (by omega) (by decide) rfl dX2_changeSet_5 ?_
  refine lv_iload_n hx hb dX2_changeSet_6 rfl (lv_at hl 2 rfl) ?_
  refine xn_ceq (tgt := 14) hx hb (by omega) (by omega) dX2_changeSet_7 (by decide) (fun c_1 => ?_) (fun c_1 => ?_)
  · refine lv_iconst (v := nI 0) hx hb dX2_changeSet_14 (by decide) ?_
    refine lv_istore_n (lv' := [(3, .int (nI 0)), (0, .ref (q 0)), (1, .int (nI i)), (2, .int (nI f))]) hx hb dX2_changeSet_15 rfl hl (by decide) rfl (fun ls hl => ?_)
    refine lv_aload_n hx hb dX2_changeSet_16 rfl (lv_at hl 1 rfl) ?_
    refine va_get (D := (dC, dI)) (ci := 2) (v := .ref (q 5)) (C := RX2) (T := TX2) (N := 12) hx hb hts inX2 hown hK hP 0 rfl rfl 7 (by decide) (hts _ tw_38) (fun _ h9 => h9) rfl dX2_changeSet_17 ?_
    refine lv_iload_n hx hb dX2_changeSet_20 rfl (lv_at hl 2 rfl) ?_
    refine lv_iload_n hx hb dX2_changeSet_21 rfl (lv_at hl 3 rfl) ?_
    refine xa_zst hx hb hK hP hD hS 5 1 rfl rfl (by omega) (by decide) (nar01 h2) (aN_up _ _ _) dX2_changeSet_22 (fun H locs hP hD hS => ?_)
    have hP : va_P (dC, dI) vwCl (wR q cI cZ (RS.s_fl r (va_up (RS.fl r) i f))) H := hP
    have hD : va_D A (wR q cI cZ (RS.s_fl r (va_up (RS.fl r) i f))) := hD
    refine lv_iload_n hx hb dX2_changeSet_23 rfl (lv_at hl 0 rfl) ?_
    exact xr_z hx hb hr hlk (by decide) (u := RS.s_fl r (va_up (RS.fl r) i f)) (⟨by first | rw [if_pos (by assumption)] | rw [if_neg (by assumption)], rfl⟩) hP hK hD hS dX2_changeSet_24
  · refine lv_iconst (v := nI 1) hx hb dX2_changeSet_10 (by decide) ?_
    refine lv_goto (tgt := 15) hx hb dX2_changeSet_11 (by decide) ?_
    refine lv_istore_n (lv' := [(3, .int (nI 1)), (0, .ref (q 0)), (1, .int (nI i)), (2, .int (nI f))]) hx hb dX2_changeSet_15 rfl hl (by decide) rfl (fun ls hl => ?_)
    refine lv_aload_n hx hb dX2_changeSet_16 rfl (lv_at hl 1 rfl) ?_
    refine va_get (D := (dC, dI)) (ci := 2) (v := .ref (q 5)) (C := RX2) (T := TX2) (N := 12) hx hb hts inX2 hown hK hP 0 rfl rfl 7 (by decide) (hts _ tw_38) (fun _ h9 => h9) rfl dX2_changeSet_17 ?_
    refine lv_iload_n hx hb dX2_changeSet_20 rfl (lv_at hl 2 rfl) ?_
    refine lv_iload_n hx hb dX2_changeSet_21 rfl (lv_at hl 3 rfl) ?_
    refine xa_zst hx hb hK hP hD hS 5 1 rfl rfl (by omega) (by decide) (nar01 h2) (aN_up _ _ _) dX2_changeSet_22 (fun H locs hP hD hS => ?_)
    have hP : va_P (dC, dI) vwCl (wR q cI cZ (RS.s_fl r (va_up (RS.fl r) i f))) H := hP
    have hD : va_D A (wR q cI cZ (RS.s_fl r (va_up (RS.fl r) i f))) := hD
    refine lv_iload_n hx hb dX2_changeSet_23 rfl (lv_at hl 0 rfl) ?_
    exact xr_z hx hb hr hlk (by decide) (u := RS.s_fl r (va_up (RS.fl r) i f)) (⟨by first | rw [if_pos (by assumption)] | rw [if_neg (by assumption)], rfl⟩) hP hK hD hS dX2_changeSet_24
set_option maxHeartbeats 4000000 in
set_option maxRecDepth 100000 in
theorem c_Rows_addLatch (l : Launch) (dC : Nat → ClassId) (dI : Nat → Nat → Nat) (q : Nat → Nat) (cI cZ : ClassId) (sz : Nat) (r : RS) (ck : Nat) (xx yy : Int) (h1 : r.n < 32) : Met l yX2_addLatch (.code yX2_addLatch cX2_addLatch 5 (some .int) :: ALLG) ({ frames := 0, cells := 0, slots := 0, locals := 0 }) (va_Pc [.ref (q 0), .int (nI ck), .int (zI xx), .int (zI yy)] (cP (dC, dI) vwCl [(cI, .int), (cZ, .boolean)] (wR q cI cZ r) eT sz)) (va_Qi (fun (x : Int32) (u : RS) => x = nI r.n ∧ u = addL r ck xx yy) (fun (u : RS) => cB (dC, dI) vwCl [(cI, .int), (cZ, .boolean)] (wR q cI cZ u) (va_A (wR q cI cZ r) sz)) (va_A (wR q cI cZ r) sz)) 0 0 (va_A (wR q cI cZ r) sz) := by
  refine xm_of (cc := cX2_addLatch) (maxL := 5) (ret := some .int) (by decide) rfl (Nat.le_of_ble_eq_true rfl) ?_
  intro p e s m below meth c A hAe hx hb hr hml hts0 hown hlk hin hsz H locs hP hK hD hA hS hE ls hl
  have hts : ∀ w ∈ ALLG, w.before _ s = true := fun w h => hts0 w (List.mem_cons_of_mem _ h)
  rw [← hAe]
  have hl : lv_has ls 5 [(0, .ref (q 0)), (1, .int (nI ck)), (2, .int (zI xx)), (3, .int (zI yy))] := hl
  refine lv_aload_n hx hb dX2_addLatch_0 rfl (lv_at hl 0 rfl) ?_
  refine va_get (D := (dC, dI)) (ci := 2) (v := .int (nI (RS.n r))) (C := RX2) (T := TX2) (N := 12) hx hb hts inX2 hown hK hP 0 rfl rfl 0 (by decide) (hts _ tw_27) (fun _ h9 => h9) rfl dX2_addLatch_1 ?_
  refine lv_istore (lv' := [(4, .int (nI (RS.n r))), (0, .ref (q 0)), (1, .int (nI ck)), (2, .int (zI xx)), (3, .int (zI yy))]) hx hb dX2_addLatch_4 hl (by decide) rfl (fun ls hl => ?_)
  refine lv_aload_n hx hb dX2_addLatch_6 rfl (lv_at hl 1 rfl) ?_
  refine va_get (D := (dC, dI)) (ci := 2) (v := .ref (q 2)) (C := RX2) (T := TX2) (N := 12) hx hb hts inX2 hown hK hP 0 rfl rfl 4 (by decide) (hts _ tw_35) (fun _ h9 => h9) rfl dX2_addLatch_7 ?_
  refine lv_iload hx hb dX2_addLatch_10 (lv_at hl 0 rfl) ?_
  refine lv_iload_n hx hb dX2_addLatch_12 rfl (lv_at hl 2 rfl) ?_
  refine xa_ist hx hb hK hP hD hS 2 0 rfl rfl (by omega) (by decide) (aN_up _ _ _) dX2_addLatch_13 (fun H locs hP hD hS => ?_)
  have hP : va_P (dC, dI) vwCl (wR q cI cZ (RS.s_ck r (va_up (RS.ck r) (RS.n r) ck))) H := hP
  have hD : va_D A (wR q cI cZ (RS.s_ck r (va_up (RS.ck r) (RS.n r) ck))) := hD
  refine lv_aload_n hx hb dX2_addLatch_14 rfl (lv_at hl 1 rfl) ?_
  refine va_get (D := (dC, dI)) (ci := 2) (v := .ref (q 3)) (C := RX2) (T := TX2) (N := 12) hx hb hts inX2 hown hK hP 0 rfl rfl 5 (by decide) (hts _ tw_36) (fun _ h9 => h9) rfl dX2_addLatch_15 ?_
  refine lv_iload hx hb dX2_addLatch_18 (lv_at hl 0 rfl) ?_
  refine lv_iload_n hx hb dX2_addLatch_20 rfl (lv_at hl 3 rfl) ?_
  refine xa_ist hx hb hK hP hD hS 3 0 rfl rfl (by omega) (by decide) (aZ_up _ _ _) dX2_addLatch_21 (fun H locs hP hD hS => ?_)
  have hP : va_P (dC, dI) vwCl (wR q cI cZ (RS.s_xx (RS.s_ck r (va_up (RS.ck r) (RS.n r) ck)) (va_up (RS.xx r) (RS.n r) xx))) H := hP
  have hD : va_D A (wR q cI cZ (RS.s_xx (RS.s_ck r (va_up (RS.ck r) (RS.n r) ck)) (va_up (RS.xx r) (RS.n r) xx))) := hD
  refine lv_aload_n hx hb dX2_addLatch_22 rfl (lv_at hl 1 rfl) ?_
  refine va_get (D := (dC, dI)) (ci := 2) (v := .ref (q 4)) (C := RX2) (T := TX2) (N := 12) hx hb hts inX2 hown hK hP 0 rfl rfl 6 (by decide) (hts _ tw_37) (fun _ h9 => h9) rfl dX2_addLatch_23 ?_
  refine lv_iload hx hb dX2_addLatch_26 (lv_at hl 0 rfl) ?_
  refine lv_iload_n hx hb dX2_addLatch_28 rfl (lv_at hl 4 rfl) ?_
  refine xa_ist hx hb hK hP hD hS 4 0 rfl rfl (by omega) (by decide) (aZ_up _ _ _) dX2_addLatch_29 (fun H locs hP hD hS => ?_)
  have hP : va_P (dC, dI) vwCl (wR q cI cZ (RS.s_yy (RS.s_xx (RS.s_ck r (va_up (RS.ck r) (RS.n r) ck)) (va_up (RS.xx r) (RS.n r) xx)) (va_up (RS.yy r) (RS.n r) yy))) H := hP
  have hD : va_D A (wR q cI cZ (RS.s_yy (RS.s_xx (RS.s_ck r (va_up (RS.ck r) (RS.n r) ck)) (va_up (RS.xx r) (RS.n r) xx)) (va_up (RS.yy r) (RS.n r) yy))) := hD
  refine lv_aload_n hx hb dX2_addLatch_30 rfl (lv_at hl 1 rfl) ?_
  refine va_get (D := (dC, dI)) (ci := 2) (v := .ref (q 6)) (C := RX2) (T := TX2) (N := 12) hx hb hts inX2 hown hK hP 0 rfl rfl 8 (by decide) (hts _ tw_39) (fun _ h9 => h9) rfl dX2_addLatch_31 ?_
  refine lv_iload hx hb dX2_addLatch_34 (lv_at hl 0 rfl) ?_
  refine lv_iconst (v := zI (-1)) hx hb dX2_addLatch_36 (by decide) ?_
  refine xa_ist hx hb hK hP hD hS 6 0 rfl rfl (by omega) (by decide) (aZ_up _ _ _) dX2_addLatch_37 (fun H locs hP hD hS => ?_)
  have hP : va_P (dC, dI) vwCl (wR q cI cZ (RS.s_po (RS.s_yy (RS.s_xx (RS.s_ck r (va_up (RS.ck r) (RS.n r) ck)) (va_up (RS.xx r) (RS.n r) xx)) (va_up (RS.yy r) (RS.n r) yy)) (va_up (RS.po r) (RS.n r) (-1)))) H := hP
  have hD : va_D A (wR q cI cZ (RS.s_po (RS.s_yy (RS.s_xx (RS.s_ck r (va_up (RS.ck r) (RS.n r) ck)) (va_up (RS.xx r) (RS.n r) xx)) (va_up (RS.yy r) (RS.n r) yy)) (va_up (RS.po r) (RS.n r) (-1)))) := hD
  refine lv_aload_n hx hb dX2_addLatch_38 rfl (lv_at hl 1 rfl) ?_
  refine lv_dup hx hb dX2_addLatch_39 rfl ?_
  refine va_get (D := (dC, dI)) (ci := 2) (v := .int (nI (RS.n r))) (C := RX2) (T := TX2) (N := 12) hx hb hts inX2 hown hK hP 0 rfl rfl 0 (by decide) (hts _ tw_27) (fun _ h9 => h9) rfl dX2_addLatch_40 ?_
  refine lv_iconst (v := nI 1) hx hb dX2_addLatch_43 (by decide) ?_
  refine xn_add hx hb dX2_addLatch_44 ?_
  refine va_put (D := (dC, dI)) (ci := 2) (v := .int (nI ((RS.n r) + 1))) (ty := .int) (C := RX2) (T := TX2) (N := 12) hx hb hts inX2 tyX2 tyX2_ok nmX2 hown hK hP hD hS 0 rfl rfl 0 (by decide) (hts _ tw_27) (fun _ h9 => h9) rfl (by decide +kernel) rfl rfl (Nat.le_of_ble_eq_true rfl) dX2_addLatch_45 (fun H locs hP hD hS => ?_)
  have hP : va_P (dC, dI) vwCl (wR q cI cZ (RS.s_n (RS.s_po (RS.s_yy (RS.s_xx (RS.s_ck r (va_up (RS.ck r) (RS.n r) ck)) (va_up (RS.xx r) (RS.n r) xx)) (va_up (RS.yy r) (RS.n r) yy)) (va_up (RS.po r) (RS.n r) (-1))) ((RS.n r) + 1))) H := hP
  have hD : va_D A (wR q cI cZ (RS.s_n (RS.s_po (RS.s_yy (RS.s_xx (RS.s_ck r (va_up (RS.ck r) (RS.n r) ck)) (va_up (RS.xx r) (RS.n r) xx)) (va_up (RS.yy r) (RS.n r) yy)) (va_up (RS.po r) (RS.n r) (-1))) ((RS.n r) + 1))) := hD
  refine lv_iload hx hb dX2_addLatch_48 (lv_at hl 0 rfl) ?_
  exact xr_i hx hb hr hlk (u := RS.s_n (RS.s_po (RS.s_yy (RS.s_xx (RS.s_ck r (va_up (RS.ck r) (RS.n r) ck)) (va_up (RS.xx r) (RS.n r) xx)) (va_up (RS.yy r) (RS.n r) yy)) (va_up (RS.po r) (RS.n r) (-1))) ((RS.n r) + 1)) (⟨rfl, rfl⟩) hP hK hD hS dX2_addLatch_50
set_option maxHeartbeats 4000000 in
set_option maxRecDepth 100000 in
theorem c_Rows_shiftPlaces (l : Launch) (dC : Nat → ClassId) (dI : Nat → Nat → Nat) (q : Nat → Nat) (cI cZ : ClassId) (sz : Nat) (r : RS) (f t b : Nat) (hB : RB r) (h1 : f ≤ 32) (h2 : t ≤ 32) : Met l yX2_shiftPlaces (.code yX2_shiftPlaces cX2_shiftPlaces 8 (some .int) :: ALLG) ({ frames := 0, cells := 0, slots := 0, locals := 0 }) (va_Pc [.ref (q 0), .int (nI f), .int (nI t), .int (nI b)] (cP (dC, dI) vwCl [(cI, .int), (cZ, .boolean)] (wR q cI cZ r) eT sz)) (va_Qi (fun (x : Int32) (u : RS) => x = nI (shO r f t b) ∧ u = r.s_vb (shV r f t b)) (fun (u : RS) => cB (dC, dI) vwCl [(cI, .int), (cZ, .boolean)] (wR q cI cZ u) (va_A (wR q cI cZ r) sz)) (va_A (wR q cI cZ r) sz)) 0 0 (va_A (wR q cI cZ r) sz) := by
  refine xm_of (cc := cX2_shiftPlaces) (maxL := 8) (ret := some .int) (by decide) rfl (Nat.le_of_ble_eq_true rfl) ?_
  intro p e s m below meth c A hAe hx hb hr hml hts0 hown hlk hin hsz H locs hP hK hD hA hS hE ls hl
  have hts : ∀ w ∈ ALLG, w.before _ s = true := fun w h => hts0 w (List.mem_cons_of_mem _ h)
  rw [← hAe]
  obtain ⟨b_n, b_c, b_p, b_vb, b_ck, b_xx, b_yy, b_fl, b_po, b_rw, b_ch, b_st⟩ := hB
  have hl : lv_has ls 8 [(0, .ref (q 0)), (1, .int (nI f)), (2, .int (nI t)), (3, .int (nI b))] := hl
  refine lv_iload_n hx hb dX2_shiftPlaces_0 rfl (lv_at hl 1 rfl) ?_
  refine lv_iload_n hx hb dX2_shiftPlaces_1 rfl (lv_at hl 2 rfl) ?_
  refine xn_clt (tgt := 7) hx hb (by omega) (by omega) dX2_shiftPlaces_2 (by decide) (fun c_1 => ?_) (fun c_1 => ?_)
  · have h0 : f < t := by omega
    refine lv_iload_n hx hb dX2_shiftPlaces_7 rfl (lv_at hl 3 rfl) ?_
    refine lv_istore (lv' := [(4, .int (nI b)), (0, .ref (q 0)), (1, .int (nI f)), (2, .int (nI t)), (3, .int (nI b))]) hx hb dX2_shiftPlaces_8 hl (by decide) rfl (fun ls hl => ?_)
    refine lv_iload_n hx hb dX2_shiftPlaces_10 rfl (lv_at hl 2 rfl) ?_
    refine lv_istore (lv' := [(5, .int (nI f)), (4, .int (nI b)), (0, .ref (q 0)), (1, .int (nI f)), (2, .int (nI t)), (3, .int (nI b))]) hx hb dX2_shiftPlaces_11 hl (by decide) rfl (fun ls hl => ?_)
    have L13 : ∀ (fuel : Nat) (i : Nat) (cy : Nat) (vb : Nat → Nat), (f ≤ i) → (i ≤ t) → (cy = (shL r f b (i - f)).1) → (vb = (shL r f b (i - f)).2) → t - i < fuel → ∀ (H : Heap) (locs : List Loc), va_P (dC, dI) vwCl (wR q cI cZ (RS.s_vb r vb)) H → va_D A (wR q cI cZ (RS.s_vb r vb)) → va_S A s.heap H locs → ∀ ls : Array Slot, lv_has ls 8 [(0, .ref (q 0)), (2, .int (nI t)), (4, .int (nI cy)), (5, .int (nI i))] → W p l e ({ frames := 0, cells := 0, slots := 0, locals := 0 } : Room) s m ([.ref (q 0), .int (nI f), .int (nI t), .int (nI b)] : List Value).toArray below meth c H locs 0 0 (MQ below (va_Qi (fun (x : Int32) (u : RS) => x = nI (shO r f t b) ∧ u = r.s_vb (shV r f t b)) (fun (u : RS) => cB (dC, dI) vwCl [(cI, .int), (cZ, .boolean)] (wR q cI cZ u) (A)) (A)) ([.ref (q 0), .int (nI f), .int (nI t), .int (nI b)] : List Value).toArray s 0 0 A) (F0 m 13 ls []) := by
      intro fuel
      induction fuel with
      | zero => intro i cy vb i1 i2 e1 e2 hm H locs hP hD hS ls hl; exact absurd hm (Nat.not_lt_zero _)
      | succ fuel ih13 =>
        intro i cy vb i1 i2 e1 e2 hm H locs hP hD hS ls hl
        refine lv_iload hx hb dX2_shiftPlaces_13 (lv_at hl 3 rfl) ?_
        refine lv_iload_n hx hb dX2_shiftPlaces_15 rfl (lv_at hl 1 rfl) ?_
        refine xn_cge (tgt := 56) hx hb (by omega) (by omega) dX2_shiftPlaces_16 (by decide) (fun c_2 => ?_) (fun c_2 => ?_)
        · refine lv_iload hx hb dX2_shiftPlaces_56 (lv_at hl 2 rfl) ?_
          exact xr_i hx hb hr hlk (u := RS.s_vb r vb) (⟨by rw [shO_yes h0, e1, show i = t by omega], by rw [shV_yes h0, e2, show i = t by omega]⟩) hP hK hD hS dX2_shiftPlaces_58
        · refine lv_aload_n hx hb dX2_shiftPlaces_19 rfl (lv_at hl 0 rfl) ?_
          refine va_get (D := (dC, dI)) (ci := 2) (v := .ref (q 7)) (C := RX2) (T := TX2) (N := 12) hx hb hts inX2 hown hK hP 0 rfl rfl 9 (by decide) (hts _ tw_40) (fun _ h9 => h9) rfl dX2_shiftPlaces_20 ?_
          refine lv_iload hx hb dX2_shiftPlaces_23 (lv_at hl 3 rfl) ?_
          refine xa_ild hx hb hK hP 7 0 rfl rfl (v := nI ((RS.rw r) i)) (by omega) (by decide) rfl dX2_shiftPlaces_25 ?_
          refine lv_istore (lv' := [(6, .int (nI ((RS.rw r) i))), (0, .ref (q 0)), (2, .int (nI t)), (4, .int (nI cy)), (5, .int (nI i))]) hx hb dX2_shiftPlaces_26 hl (by decide) rfl (fun ls hl => ?_)
          refine lv_aload_n hx hb dX2_shiftPlaces_28 rfl (lv_at hl 1 rfl) ?_
          refine va_get (D := (dC, dI)) (ci := 2) (v := .ref (q 1)) (C := RX2) (T := TX2) (N := 12) hx hb hts inX2 hown hK hP 0 rfl rfl 3 (by decide) (hts _ tw_33) (fun _ h9 => h9) rfl dX2_shiftPlaces_29 ?_
          refine lv_iload hx hb dX2_shiftPlaces_32 (lv_at hl 0 rfl) ?_
          refine xa_ild hx hb hK hP 1 0 rfl rfl (v := nI (vb ((RS.rw r) i))) (b_rw _) (by decide) rfl dX2_shiftPlaces_34 ?_
          refine lv_istore (lv' := [(7, .int (nI (vb ((RS.rw r) i)))), (6, .int (nI ((RS.rw r) i))), (0, .ref (q 0)), (2, .int (nI t)), (4, .int (nI cy)), (5, .int (nI i))]) hx hb dX2_shiftPlaces_35 hl (by decide) rfl (fun ls hl => ?_)
          refine lv_aload_n hx hb dX2_shiftPlaces_37 rfl (lv_at hl 2 rfl) ?_
          refine va_get (D := (dC, dI)) (ci := 2) (v := .ref (q 1)) (C := RX2) (T := TX2) (N := 12) hx hb hts inX2 hown hK hP 0 rfl rfl 3 (by decide) (hts _ tw_33) (fun _ h9 => h9) rfl dX2_shiftPlaces_38 ?_
          refine lv_iload hx hb dX2_shiftPlaces_41 (lv_at hl 1 rfl) ?_
          refine lv_iload hx hb dX2_shiftPlaces_43 (lv_at hl 4 rfl) ?_
          refine xa_ist hx hb hK hP hD hS 1 0 rfl rfl (b_rw _) (by decide) (aN_up _ _ _) dX2_shiftPlaces_45 (fun H locs hP hD hS => ?_)
          have hP : va_P (dC, dI) vwCl (wR q cI cZ (RS.s_vb (RS.s_vb r vb) (va_up vb ((RS.rw r) i) cy))) H := hP
          have hD : va_D A (wR q cI cZ (RS.s_vb (RS.s_vb r vb) (va_up vb ((RS.rw r) i) cy))) := hD
          refine lv_iload hx hb dX2_shiftPlaces_46 (lv_at hl 0 rfl) ?_
          refine lv_istore (lv' := [(4, .int (nI (vb ((RS.rw r) i)))), (7, .int (nI (vb ((RS.rw r) i)))), (6, .int (nI ((RS.rw r) i))), (0, .ref (q 0)), (2, .int (nI t)), (5, .int (nI i))]) hx hb dX2_shiftPlaces_48 hl (by decide) rfl (fun ls hl => ?_)
          refine lv_iinc (v := nI (i + 1)) (lv' := [(5, .int (nI (i + 1))), (4, .int (nI (vb ((RS.rw r) i)))), (7, .int (nI (vb ((RS.rw r) i)))), (6, .int (nI ((RS.rw r) i))), (0, .ref (q 0)), (2, .int (nI t))]) hx hb dX2_shiftPlaces_50 hl (k := 5) rfl (nI_1 _) (by decide) rfl (fun ls hl => ?_)
          refine lv_goto (tgt := 13) hx hb dX2_shiftPlaces_53 (by decide) ?_
          exact ih13 (i + 1) (vb ((RS.rw r) i)) (va_up vb ((RS.rw r) i) cy) (by omega) (by omega) (by rw [show i + 1 - f = (i - f) + 1 by omega, shL_s, ← e1, ← e2, show f + (i - f) = i by omega]) (by rw [show i + 1 - f = (i - f) + 1 by omega, shL_s, ← e1, ← e2, show f + (i - f) = i by omega]) (by omega) H locs hP hD hS ls (lv_sub hl [4, 5, 1, 0] rfl)
    exact L13 ((t - f) + 1) f b (RS.vb r) (Nat.le_refl f) (by omega) (by rw [Nat.sub_self]; rfl) (by rw [Nat.sub_self]; rfl) (Nat.lt_succ_self _) H locs hP hD hS ls (lv_sub hl [2, 4, 1, 0] rfl)
  · refine lv_iconst (v := nI 0) hx hb dX2_shiftPlaces_5 (by decide) ?_
    exact xr_i hx hb hr hlk (u := r) (⟨by rw [shO_no (by omega)], by rw [shV_no (by omega)]⟩) hP hK hD hS dX2_shiftPlaces_6
