theorem sw_34 : Cond.selects "ScanRowsModel" (⟨"ScanRowsModel", "doTick", "(II)I"⟩ : MethodName) (⟨"ScanRowsModel", "doTick", "(II)I"⟩ : MethodName) ∈ ALLG := al_s (i := 34) (by decide +kernel) (by decide +kernel)
theorem sw_35 : Cond.selects "ScanRowsModel" (⟨"ScanRowsModel", "capture", "()V"⟩ : MethodName) (⟨"ScanRowsModel", "capture", "()V"⟩ : MethodName) ∈ ALLG := al_s (i := 35) (by decide +kernel) (by decide +kernel)
theorem sw_37 : Cond.selects "ScanRowsModel" (⟨"ScanRowsModel", "shiftData", "(I)I"⟩ : MethodName) (⟨"ScanRowsModel", "shiftData", "(I)I"⟩ : MethodName) ∈ ALLG := al_s (i := 37) (by decide +kernel) (by decide +kernel)
theorem tw_591 : (Cond.fieldLink "ScanRowsModel" (128 : Nat) "ScanRowsModel" "codeBits" "I") ∈ ALLG := al_t (i := 591) (by decide +kernel) (by decide +kernel)
theorem tw_593 : (Cond.fieldLink "ScanRowsModel" (119 : Nat) "ScanRowsModel" "state" "I") ∈ ALLG := al_t (i := 593) (by decide +kernel) (by decide +kernel)
theorem tw_594 : (Cond.fieldLink "ScanRowsModel" (47 : Nat) "ScanRowsModel" "far" "[I") ∈ ALLG := al_t (i := 594) (by decide +kernel) (by decide +kernel)
theorem tw_747 : (Cond.methodLink "ScanRowsModel" (135 : Nat) ({ cls := "ScanRowsModel", name := "doTick", desc := "(II)I" } : Jvm.MethodName)) ∈ ALLG := al_t (i := 747) (by decide +kernel) (by decide +kernel)
theorem tw_749 : (Cond.instanceMethod ({ cls := "ScanRowsModel", name := "doTick", desc := "(II)I" } : Jvm.MethodName)) ∈ ALLG := al_t (i := 749) (by decide +kernel) (by decide +kernel)
theorem tw_750 : (Cond.code ({ cls := "ScanRowsModel", name := "doTick", desc := "(II)I" } : Jvm.MethodName) prog_6_method_31_code (5 : Nat) (Option.some FieldType.int)) ∈ ALLG := al_t (i := 750) (by decide +kernel) (by decide +kernel)
theorem tw_751 : (Cond.methodLink "ScanRowsModel" (122 : Nat) ({ cls := "ScanRowsModel", name := "capture", desc := "()V" } : Jvm.MethodName)) ∈ ALLG := al_t (i := 751) (by decide +kernel) (by decide +kernel)
theorem tw_753 : (Cond.instanceMethod ({ cls := "ScanRowsModel", name := "capture", desc := "()V" } : Jvm.MethodName)) ∈ ALLG := al_t (i := 753) (by decide +kernel) (by decide +kernel)
theorem tw_754 : (Cond.code ({ cls := "ScanRowsModel", name := "capture", desc := "()V" } : Jvm.MethodName) prog_6_method_29_code (3 : Nat) (Option.none : Option Jvm.ClassFile.FieldType)) ∈ ALLG := al_t (i := 754) (by decide +kernel) (by decide +kernel)
theorem tw_759 : (Cond.methodLink "ScanRowsModel" (125 : Nat) ({ cls := "ScanRowsModel", name := "shiftData", desc := "(I)I" } : Jvm.MethodName)) ∈ ALLG := al_t (i := 759) (by decide +kernel) (by decide +kernel)
theorem tw_761 : (Cond.instanceMethod ({ cls := "ScanRowsModel", name := "shiftData", desc := "(I)I" } : Jvm.MethodName)) ∈ ALLG := al_t (i := 761) (by decide +kernel) (by decide +kernel)
theorem tw_762 : (Cond.code ({ cls := "ScanRowsModel", name := "shiftData", desc := "(I)I" } : Jvm.MethodName) prog_6_method_30_code (5 : Nat) (Option.some FieldType.int)) ∈ ALLG := al_t (i := 762) (by decide +kernel) (by decide +kernel)
theorem tw_763 : (Cond.methodLink "ScanRowsModel" (131 : Nat) ({ cls := "ScanRowsModel", name := "next", desc := "(II)I" } : Jvm.MethodName)) ∈ ALLG := al_t (i := 763) (by decide +kernel) (by decide +kernel)
theorem tw_764 : (Cond.static ({ cls := "ScanRowsModel", name := "next", desc := "(II)I" } : Jvm.MethodName)) ∈ ALLG := al_t (i := 764) (by decide +kernel) (by decide +kernel)
theorem tw_765 : (Cond.code ({ cls := "ScanRowsModel", name := "next", desc := "(II)I" } : Jvm.MethodName) prog_6_method_28_code (5 : Nat) (Option.some FieldType.int)) ∈ ALLG := al_t (i := 765) (by decide +kernel) (by decide +kernel)
theorem dX4_doTick_0 : decode cX4_doTick 0 = .ok (.iconst (-1), 1) := by decide +kernel
theorem dX4_doTick_1 : decode cX4_doTick 1 = .ok (.istore_n 3, 1) := by decide +kernel
theorem dX4_doTick_2 : decode cX4_doTick 2 = .ok (.aload_n 0, 1) := by decide +kernel
theorem dX4_doTick_3 : decode cX4_doTick 3 = .ok (.getfield 119, 3) := by decide +kernel
theorem dX4_doTick_6 : decode cX4_doTick 6 = .ok (.iconst 3, 1) := by decide +kernel
theorem dX4_doTick_7 : decode cX4_doTick 7 = .ok (.if_icmp .ne 10, 3) := by decide +kernel
theorem dX4_doTick_10 : decode cX4_doTick 10 = .ok (.aload_n 0, 1) := by decide +kernel
theorem dX4_doTick_11 : decode cX4_doTick 11 = .ok (.invokevirtual 122, 3) := by decide +kernel
theorem dX4_doTick_14 : decode cX4_doTick 14 = .ok (.goto 139, 3) := by decide +kernel
theorem dX4_doTick_17 : decode cX4_doTick 17 = .ok (.aload_n 0, 1) := by decide +kernel
theorem dX4_doTick_18 : decode cX4_doTick 18 = .ok (.getfield 119, 3) := by decide +kernel
theorem dX4_doTick_21 : decode cX4_doTick 21 = .ok (.iconst 4, 1) := by decide +kernel
theorem dX4_doTick_22 : decode cX4_doTick 22 = .ok (.if_icmp .ne 12, 3) := by decide +kernel
theorem dX4_doTick_25 : decode cX4_doTick 25 = .ok (.aload_n 0, 1) := by decide +kernel
theorem dX4_doTick_26 : decode cX4_doTick 26 = .ok (.iload_n 2, 1) := by decide +kernel
theorem dX4_doTick_27 : decode cX4_doTick 27 = .ok (.invokevirtual 125, 3) := by decide +kernel
theorem dX4_doTick_30 : decode cX4_doTick 30 = .ok (.istore_n 3, 1) := by decide +kernel
theorem dX4_doTick_31 : decode cX4_doTick 31 = .ok (.goto 122, 3) := by decide +kernel
theorem dX4_doTick_34 : decode cX4_doTick 34 = .ok (.aload_n 0, 1) := by decide +kernel
theorem dX4_doTick_35 : decode cX4_doTick 35 = .ok (.getfield 119, 3) := by decide +kernel
theorem dX4_doTick_38 : decode cX4_doTick 38 = .ok (.bipush 8, 2) := by decide +kernel
theorem dX4_doTick_40 : decode cX4_doTick 40 = .ok (.if_icmp .ne 46, 3) := by decide +kernel
theorem dX4_doTick_43 : decode cX4_doTick 43 = .ok (.aload_n 0, 1) := by decide +kernel
theorem dX4_doTick_44 : decode cX4_doTick 44 = .ok (.getfield 54, 3) := by decide +kernel
theorem dX4_doTick_47 : decode cX4_doTick 47 = .ok (.iconst 2, 1) := by decide +kernel
theorem dX4_doTick_48 : decode cX4_doTick 48 = .ok (.if_icmp .ge 38, 3) := by decide +kernel
theorem dX4_doTick_51 : decode cX4_doTick 51 = .ok (.iconst 0, 1) := by decide +kernel
theorem dX4_doTick_52 : decode cX4_doTick 52 = .ok (.istore 4, 2) := by decide +kernel
theorem dX4_doTick_54 : decode cX4_doTick 54 = .ok (.iload 4, 2) := by decide +kernel
theorem dX4_doTick_56 : decode cX4_doTick 56 = .ok (.aload_n 0, 1) := by decide +kernel
theorem dX4_doTick_57 : decode cX4_doTick 57 = .ok (.getfield 66, 3) := by decide +kernel
theorem dX4_doTick_60 : decode cX4_doTick 60 = .ok (.if_icmp .ge 23, 3) := by decide +kernel
theorem dX4_doTick_63 : decode cX4_doTick 63 = .ok (.aload_n 0, 1) := by decide +kernel
theorem dX4_doTick_64 : decode cX4_doTick 64 = .ok (.getfield 38, 3) := by decide +kernel
theorem dX4_doTick_67 : decode cX4_doTick 67 = .ok (.iload 4, 2) := by decide +kernel
theorem dX4_doTick_69 : decode cX4_doTick 69 = .ok (.aload_n 0, 1) := by decide +kernel
theorem dX4_doTick_70 : decode cX4_doTick 70 = .ok (.getfield 41, 3) := by decide +kernel
theorem dX4_doTick_73 : decode cX4_doTick 73 = .ok (.iload 4, 2) := by decide +kernel
theorem dX4_doTick_75 : decode cX4_doTick 75 = .ok (.iaload, 1) := by decide +kernel
theorem dX4_doTick_76 : decode cX4_doTick 76 = .ok (.iastore, 1) := by decide +kernel
theorem dX4_doTick_77 : decode cX4_doTick 77 = .ok (.iinc 4 1, 3) := by decide +kernel
theorem dX4_doTick_80 : decode cX4_doTick 80 = .ok (.goto (-26), 3) := by decide +kernel
theorem dX4_doTick_83 : decode cX4_doTick 83 = .ok (.goto 70, 3) := by decide +kernel
theorem dX4_doTick_86 : decode cX4_doTick 86 = .ok (.aload_n 0, 1) := by decide +kernel
theorem dX4_doTick_87 : decode cX4_doTick 87 = .ok (.getfield 119, 3) := by decide +kernel
theorem dX4_doTick_90 : decode cX4_doTick 90 = .ok (.bipush 10, 2) := by decide +kernel
theorem dX4_doTick_92 : decode cX4_doTick 92 = .ok (.if_icmp .ne 11, 3) := by decide +kernel
theorem dX4_doTick_95 : decode cX4_doTick 95 = .ok (.aload_n 0, 1) := by decide +kernel
theorem dX4_doTick_96 : decode cX4_doTick 96 = .ok (.iconst 1, 1) := by decide +kernel
theorem dX4_doTick_97 : decode cX4_doTick 97 = .ok (.putfield 128, 3) := by decide +kernel
theorem dX4_doTick_100 : decode cX4_doTick 100 = .ok (.goto 53, 3) := by decide +kernel
theorem dX4_doTick_103 : decode cX4_doTick 103 = .ok (.aload_n 0, 1) := by decide +kernel
theorem dX4_doTick_104 : decode cX4_doTick 104 = .ok (.getfield 119, 3) := by decide +kernel
theorem dX4_doTick_107 : decode cX4_doTick 107 = .ok (.bipush 11, 2) := by decide +kernel
theorem dX4_doTick_109 : decode cX4_doTick 109 = .ok (.if_icmp .ne 27, 3) := by decide +kernel
theorem dX4_doTick_112 : decode cX4_doTick 112 = .ok (.aload_n 0, 1) := by decide +kernel
theorem dX4_doTick_113 : decode cX4_doTick 113 = .ok (.getfield 128, 3) := by decide +kernel
theorem dX4_doTick_116 : decode cX4_doTick 116 = .ok (.iconst 1, 1) := by decide +kernel
theorem dX4_doTick_117 : decode cX4_doTick 117 = .ok (.iand, 1) := by decide +kernel
theorem dX4_doTick_118 : decode cX4_doTick 118 = .ok (.istore_n 3, 1) := by decide +kernel
theorem dX4_doTick_119 : decode cX4_doTick 119 = .ok (.aload_n 0, 1) := by decide +kernel
theorem dX4_doTick_120 : decode cX4_doTick 120 = .ok (.aload_n 0, 1) := by decide +kernel
theorem dX4_doTick_121 : decode cX4_doTick 121 = .ok (.getfield 128, 3) := by decide +kernel
theorem dX4_doTick_124 : decode cX4_doTick 124 = .ok (.iconst 1, 1) := by decide +kernel
theorem dX4_doTick_125 : decode cX4_doTick 125 = .ok (.ishr, 1) := by decide +kernel
theorem dX4_doTick_126 : decode cX4_doTick 126 = .ok (.iload_n 2, 1) := by decide +kernel
theorem dX4_doTick_127 : decode cX4_doTick 127 = .ok (.iconst 3, 1) := by decide +kernel
theorem dX4_doTick_128 : decode cX4_doTick 128 = .ok (.ishl, 1) := by decide +kernel
theorem dX4_doTick_129 : decode cX4_doTick 129 = .ok (.ior, 1) := by decide +kernel
theorem dX4_doTick_130 : decode cX4_doTick 130 = .ok (.putfield 128, 3) := by decide +kernel
theorem dX4_doTick_133 : decode cX4_doTick 133 = .ok (.goto 20, 3) := by decide +kernel
theorem dX4_doTick_136 : decode cX4_doTick 136 = .ok (.aload_n 0, 1) := by decide +kernel
theorem dX4_doTick_137 : decode cX4_doTick 137 = .ok (.getfield 119, 3) := by decide +kernel
theorem dX4_doTick_140 : decode cX4_doTick 140 = .ok (.bipush 15, 2) := by decide +kernel
theorem dX4_doTick_142 : decode cX4_doTick 142 = .ok (.if_icmp .ne 11, 3) := by decide +kernel
theorem dX4_doTick_145 : decode cX4_doTick 145 = .ok (.aload_n 0, 1) := by decide +kernel
theorem dX4_doTick_146 : decode cX4_doTick 146 = .ok (.aload_n 0, 1) := by decide +kernel
theorem dX4_doTick_147 : decode cX4_doTick 147 = .ok (.getfield 128, 3) := by decide +kernel
theorem dX4_doTick_150 : decode cX4_doTick 150 = .ok (.putfield 54, 3) := by decide +kernel
theorem dX4_doTick_153 : decode cX4_doTick 153 = .ok (.aload_n 0, 1) := by decide +kernel
theorem dX4_doTick_154 : decode cX4_doTick 154 = .ok (.aload_n 0, 1) := by decide +kernel
theorem dX4_doTick_155 : decode cX4_doTick 155 = .ok (.getfield 119, 3) := by decide +kernel
theorem dX4_doTick_158 : decode cX4_doTick 158 = .ok (.iload_n 1, 1) := by decide +kernel
theorem dX4_doTick_159 : decode cX4_doTick 159 = .ok (.invokestatic 131, 3) := by decide +kernel
theorem dX4_doTick_162 : decode cX4_doTick 162 = .ok (.putfield 119, 3) := by decide +kernel
theorem dX4_doTick_165 : decode cX4_doTick 165 = .ok (.aload_n 0, 1) := by decide +kernel
theorem dX4_doTick_166 : decode cX4_doTick 166 = .ok (.aload_n 0, 1) := by decide +kernel
theorem dX4_doTick_167 : decode cX4_doTick 167 = .ok (.getfield 119, 3) := by decide +kernel
theorem dX4_doTick_170 : decode cX4_doTick 170 = .ok (.ifCond .ne 7, 3) := by decide +kernel
theorem dX4_doTick_173 : decode cX4_doTick 173 = .ok (.iconst 2, 1) := by decide +kernel
theorem dX4_doTick_174 : decode cX4_doTick 174 = .ok (.goto 7, 3) := by decide +kernel
theorem dX4_doTick_177 : decode cX4_doTick 177 = .ok (.aload_n 0, 1) := by decide +kernel
theorem dX4_doTick_178 : decode cX4_doTick 178 = .ok (.getfield 54, 3) := by decide +kernel
theorem dX4_doTick_181 : decode cX4_doTick 181 = .ok (.putfield 54, 3) := by decide +kernel
theorem dX4_doTick_184 : decode cX4_doTick 184 = .ok (.iload_n 3, 1) := by decide +kernel
theorem dX4_doTick_185 : decode cX4_doTick 185 = .ok (.ireturn, 1) := by decide +kernel
theorem dX4_tick_0 : decode cX4_tick 0 = .ok (.aload_n 0, 1) := by decide +kernel
theorem dX4_tick_1 : decode cX4_tick 1 = .ok (.iload_n 1, 1) := by decide +kernel
theorem dX4_tick_2 : decode cX4_tick 2 = .ok (.ifCond .lt 17, 3) := by decide +kernel
theorem dX4_tick_5 : decode cX4_tick 5 = .ok (.iload_n 1, 1) := by decide +kernel
theorem dX4_tick_6 : decode cX4_tick 6 = .ok (.iconst 1, 1) := by decide +kernel
theorem dX4_tick_7 : decode cX4_tick 7 = .ok (.if_icmp .gt 12, 3) := by decide +kernel
theorem dX4_tick_10 : decode cX4_tick 10 = .ok (.iload_n 2, 1) := by decide +kernel
theorem dX4_tick_11 : decode cX4_tick 11 = .ok (.ifCond .lt 8, 3) := by decide +kernel
theorem dX4_tick_14 : decode cX4_tick 14 = .ok (.iload_n 2, 1) := by decide +kernel
theorem dX4_tick_15 : decode cX4_tick 15 = .ok (.iconst 1, 1) := by decide +kernel
theorem dX4_tick_16 : decode cX4_tick 16 = .ok (.if_icmp .le 7, 3) := by decide +kernel
theorem dX4_tick_19 : decode cX4_tick 19 = .ok (.iconst 1, 1) := by decide +kernel
theorem dX4_tick_20 : decode cX4_tick 20 = .ok (.goto 4, 3) := by decide +kernel
theorem dX4_tick_23 : decode cX4_tick 23 = .ok (.iconst 0, 1) := by decide +kernel
theorem dX4_tick_24 : decode cX4_tick 24 = .ok (.putfield 57, 3) := by decide +kernel
theorem dX4_tick_27 : decode cX4_tick 27 = .ok (.aload_n 0, 1) := by decide +kernel
theorem dX4_tick_28 : decode cX4_tick 28 = .ok (.getfield 57, 3) := by decide +kernel
theorem dX4_tick_31 : decode cX4_tick 31 = .ok (.ifCond .le 7, 3) := by decide +kernel
theorem dX4_tick_34 : decode cX4_tick 34 = .ok (.iconst 0, 1) := by decide +kernel
theorem dX4_tick_35 : decode cX4_tick 35 = .ok (.goto 9, 3) := by decide +kernel
theorem dX4_tick_38 : decode cX4_tick 38 = .ok (.aload_n 0, 1) := by decide +kernel
theorem dX4_tick_39 : decode cX4_tick 39 = .ok (.iload_n 1, 1) := by decide +kernel
theorem dX4_tick_40 : decode cX4_tick 40 = .ok (.iload_n 2, 1) := by decide +kernel
theorem dX4_tick_41 : decode cX4_tick 41 = .ok (.invokevirtual 135, 3) := by decide +kernel
theorem dX4_tick_44 : decode cX4_tick 44 = .ok (.ireturn, 1) := by decide +kernel
theorem dX4_state_0 : decode cX4_state 0 = .ok (.aload_n 0, 1) := by decide +kernel
theorem dX4_state_1 : decode cX4_state 1 = .ok (.iconst 0, 1) := by decide +kernel
theorem dX4_state_2 : decode cX4_state 2 = .ok (.putfield 57, 3) := by decide +kernel
theorem dX4_state_5 : decode cX4_state 5 = .ok (.aload_n 0, 1) := by decide +kernel
theorem dX4_state_6 : decode cX4_state 6 = .ok (.getfield 119, 3) := by decide +kernel
theorem dX4_state_9 : decode cX4_state 9 = .ok (.ireturn, 1) := by decide +kernel
theorem dX4_count_0 : decode cX4_count 0 = .ok (.aload_n 0, 1) := by decide +kernel
theorem dX4_count_1 : decode cX4_count 1 = .ok (.iload_n 1, 1) := by decide +kernel
theorem dX4_count_2 : decode cX4_count 2 = .ok (.ifCond .lt 8, 3) := by decide +kernel
theorem dX4_count_5 : decode cX4_count 5 = .ok (.iload_n 1, 1) := by decide +kernel
theorem dX4_count_6 : decode cX4_count 6 = .ok (.iconst 4, 1) := by decide +kernel
theorem dX4_count_7 : decode cX4_count 7 = .ok (.if_icmp .le 7, 3) := by decide +kernel
theorem dX4_count_10 : decode cX4_count 10 = .ok (.iconst 1, 1) := by decide +kernel
theorem dX4_count_11 : decode cX4_count 11 = .ok (.goto 4, 3) := by decide +kernel
theorem dX4_count_14 : decode cX4_count 14 = .ok (.iconst 0, 1) := by decide +kernel
theorem dX4_count_15 : decode cX4_count 15 = .ok (.putfield 57, 3) := by decide +kernel
theorem dX4_count_18 : decode cX4_count 18 = .ok (.aload_n 0, 1) := by decide +kernel
theorem dX4_count_19 : decode cX4_count 19 = .ok (.getfield 57, 3) := by decide +kernel
theorem dX4_count_22 : decode cX4_count 22 = .ok (.ifCond .le 5, 3) := by decide +kernel
theorem dX4_count_25 : decode cX4_count 25 = .ok (.iconst 0, 1) := by decide +kernel
theorem dX4_count_26 : decode cX4_count 26 = .ok (.ireturn, 1) := by decide +kernel
theorem dX4_count_27 : decode cX4_count 27 = .ok (.aload_n 0, 1) := by decide +kernel
theorem dX4_count_28 : decode cX4_count 28 = .ok (.invokevirtual 113, 3) := by decide +kernel
theorem dX4_count_31 : decode cX4_count 31 = .ok (.istore_n 2, 1) := by decide +kernel
theorem dX4_count_32 : decode cX4_count 32 = .ok (.iload_n 2, 1) := by decide +kernel
theorem dX4_count_33 : decode cX4_count 33 = .ok (.ifCond .ne 10, 3) := by decide +kernel
theorem dX4_count_36 : decode cX4_count 36 = .ok (.aload_n 0, 1) := by decide +kernel
theorem dX4_count_37 : decode cX4_count 37 = .ok (.getfield 66, 3) := by decide +kernel
theorem dX4_count_40 : decode cX4_count 40 = .ok (.goto 26, 3) := by decide +kernel
theorem dX4_count_43 : decode cX4_count 43 = .ok (.iload_n 2, 1) := by decide +kernel
theorem dX4_count_44 : decode cX4_count 44 = .ok (.iconst 2, 1) := by decide +kernel
theorem dX4_count_45 : decode cX4_count 45 = .ok (.if_icmp .ne 8, 3) := by decide +kernel
theorem dX4_count_48 : decode cX4_count 48 = .ok (.bipush 32, 2) := by decide +kernel
theorem dX4_count_50 : decode cX4_count 50 = .ok (.goto 16, 3) := by decide +kernel
theorem dX4_count_53 : decode cX4_count 53 = .ok (.iload_n 2, 1) := by decide +kernel
theorem dX4_count_54 : decode cX4_count 54 = .ok (.iconst 3, 1) := by decide +kernel
theorem dX4_count_55 : decode cX4_count 55 = .ok (.if_icmp .ne 10, 3) := by decide +kernel
theorem dX4_count_58 : decode cX4_count 58 = .ok (.aload_n 0, 1) := by decide +kernel
theorem dX4_count_59 : decode cX4_count 59 = .ok (.getfield 77, 3) := by decide +kernel
theorem dX4_count_62 : decode cX4_count 62 = .ok (.goto 4, 3) := by decide +kernel
theorem dX4_count_65 : decode cX4_count 65 = .ok (.iconst 1, 1) := by decide +kernel
theorem dX4_count_66 : decode cX4_count 66 = .ok (.istore_n 3, 1) := by decide +kernel
theorem dX4_count_67 : decode cX4_count 67 = .ok (.iload_n 1, 1) := by decide +kernel
theorem dX4_count_68 : decode cX4_count 68 = .ok (.ifCond .ne 10, 3) := by decide +kernel
theorem dX4_count_71 : decode cX4_count 71 = .ok (.aload_n 0, 1) := by decide +kernel
theorem dX4_count_72 : decode cX4_count 72 = .ok (.getfield 60, 3) := by decide +kernel
theorem dX4_count_75 : decode cX4_count 75 = .ok (.goto 40, 3) := by decide +kernel
theorem dX4_count_78 : decode cX4_count 78 = .ok (.iload_n 1, 1) := by decide +kernel
theorem dX4_count_79 : decode cX4_count 79 = .ok (.iconst 1, 1) := by decide +kernel
theorem dX4_count_80 : decode cX4_count 80 = .ok (.if_icmp .ne 10, 3) := by decide +kernel
theorem dX4_count_83 : decode cX4_count 83 = .ok (.aload_n 0, 1) := by decide +kernel
theorem dX4_count_84 : decode cX4_count 84 = .ok (.getfield 63, 3) := by decide +kernel
theorem dX4_count_87 : decode cX4_count 87 = .ok (.goto 28, 3) := by decide +kernel
theorem dX4_count_90 : decode cX4_count 90 = .ok (.iload_n 1, 1) := by decide +kernel
theorem dX4_count_91 : decode cX4_count 91 = .ok (.iconst 2, 1) := by decide +kernel
theorem dX4_count_92 : decode cX4_count 92 = .ok (.if_icmp .ne 10, 3) := by decide +kernel
theorem dX4_count_95 : decode cX4_count 95 = .ok (.aload_n 0, 1) := by decide +kernel
theorem dX4_count_96 : decode cX4_count 96 = .ok (.getfield 66, 3) := by decide +kernel
theorem dX4_count_99 : decode cX4_count 99 = .ok (.goto 16, 3) := by decide +kernel
theorem dX4_count_102 : decode cX4_count 102 = .ok (.iload_n 1, 1) := by decide +kernel
theorem dX4_count_103 : decode cX4_count 103 = .ok (.iconst 3, 1) := by decide +kernel
theorem dX4_count_104 : decode cX4_count 104 = .ok (.if_icmp .ne 7, 3) := by decide +kernel
theorem dX4_count_107 : decode cX4_count 107 = .ok (.iload_n 3, 1) := by decide +kernel
theorem dX4_count_108 : decode cX4_count 108 = .ok (.goto 7, 3) := by decide +kernel
theorem dX4_count_111 : decode cX4_count 111 = .ok (.aload_n 0, 1) := by decide +kernel
theorem dX4_count_112 : decode cX4_count 112 = .ok (.getfield 54, 3) := by decide +kernel
theorem dX4_count_115 : decode cX4_count 115 = .ok (.ireturn, 1) := by decide +kernel
theorem dX4_go_0 : decode cX4_go 0 = .ok (.aload_n 0, 1) := by decide +kernel
theorem dX4_go_1 : decode cX4_go 1 = .ok (.iload_n 1, 1) := by decide +kernel
theorem dX4_go_2 : decode cX4_go 2 = .ok (.ifCond .lt 9, 3) := by decide +kernel
theorem dX4_go_5 : decode cX4_go 5 = .ok (.iload_n 1, 1) := by decide +kernel
theorem dX4_go_6 : decode cX4_go 6 = .ok (.bipush 15, 2) := by decide +kernel
theorem dX4_go_8 : decode cX4_go 8 = .ok (.if_icmp .le 7, 3) := by decide +kernel
theorem dX4_go_11 : decode cX4_go 11 = .ok (.iconst 1, 1) := by decide +kernel
theorem dX4_go_12 : decode cX4_go 12 = .ok (.goto 4, 3) := by decide +kernel
theorem dX4_go_15 : decode cX4_go 15 = .ok (.iconst 0, 1) := by decide +kernel
theorem dX4_go_16 : decode cX4_go 16 = .ok (.putfield 57, 3) := by decide +kernel
theorem dX4_go_19 : decode cX4_go 19 = .ok (.aload_n 0, 1) := by decide +kernel
theorem dX4_go_20 : decode cX4_go 20 = .ok (.getfield 57, 3) := by decide +kernel
theorem dX4_go_23 : decode cX4_go 23 = .ok (.ifCond .le 5, 3) := by decide +kernel
theorem dX4_go_26 : decode cX4_go 26 = .ok (.iconst 0, 1) := by decide +kernel
theorem dX4_go_27 : decode cX4_go 27 = .ok (.ireturn, 1) := by decide +kernel
theorem dX4_go_28 : decode cX4_go 28 = .ok (.iconst 0, 1) := by decide +kernel
theorem dX4_go_29 : decode cX4_go 29 = .ok (.istore_n 2, 1) := by decide +kernel
theorem dX4_go_30 : decode cX4_go 30 = .ok (.iload_n 2, 1) := by decide +kernel
theorem dX4_go_31 : decode cX4_go 31 = .ok (.bipush 16, 2) := by decide +kernel
theorem dX4_go_33 : decode cX4_go 33 = .ok (.if_icmp .ge 26, 3) := by decide +kernel
theorem dX4_go_36 : decode cX4_go 36 = .ok (.aload_n 0, 1) := by decide +kernel
theorem dX4_go_37 : decode cX4_go 37 = .ok (.getfield 47, 3) := by decide +kernel
theorem dX4_go_40 : decode cX4_go 40 = .ok (.iload_n 2, 1) := by decide +kernel
theorem dX4_go_41 : decode cX4_go 41 = .ok (.iload_n 2, 1) := by decide +kernel
theorem dX4_go_42 : decode cX4_go 42 = .ok (.iload_n 1, 1) := by decide +kernel
theorem dX4_go_43 : decode cX4_go 43 = .ok (.if_icmp .ne 7, 3) := by decide +kernel
theorem dX4_go_46 : decode cX4_go 46 = .ok (.iconst 0, 1) := by decide +kernel
theorem dX4_go_47 : decode cX4_go 47 = .ok (.goto 5, 3) := by decide +kernel
theorem dX4_go_50 : decode cX4_go 50 = .ok (.bipush 99, 2) := by decide +kernel
theorem dX4_go_52 : decode cX4_go 52 = .ok (.iastore, 1) := by decide +kernel
theorem dX4_go_53 : decode cX4_go 53 = .ok (.iinc 2 1, 3) := by decide +kernel
theorem dX4_go_56 : decode cX4_go 56 = .ok (.goto (-26), 3) := by decide +kernel
theorem dX4_go_59 : decode cX4_go 59 = .ok (.iconst 0, 1) := by decide +kernel
theorem dX4_go_60 : decode cX4_go 60 = .ok (.istore_n 2, 1) := by decide +kernel
theorem dX4_go_61 : decode cX4_go 61 = .ok (.iload_n 2, 1) := by decide +kernel
theorem dX4_go_62 : decode cX4_go 62 = .ok (.bipush 16, 2) := by decide +kernel
theorem dX4_go_64 : decode cX4_go 64 = .ok (.if_icmp .ge 103, 3) := by decide +kernel
theorem dX4_go_67 : decode cX4_go 67 = .ok (.iconst 0, 1) := by decide +kernel
theorem dX4_go_68 : decode cX4_go 68 = .ok (.istore_n 3, 1) := by decide +kernel
theorem dX4_go_69 : decode cX4_go 69 = .ok (.iload_n 3, 1) := by decide +kernel
theorem dX4_go_70 : decode cX4_go 70 = .ok (.bipush 16, 2) := by decide +kernel
theorem dX4_go_72 : decode cX4_go 72 = .ok (.if_icmp .ge 89, 3) := by decide +kernel
theorem dX4_go_75 : decode cX4_go 75 = .ok (.aload_n 0, 1) := by decide +kernel
theorem dX4_go_76 : decode cX4_go 76 = .ok (.getfield 47, 3) := by decide +kernel
theorem dX4_go_79 : decode cX4_go 79 = .ok (.iload_n 3, 1) := by decide +kernel
theorem dX4_go_80 : decode cX4_go 80 = .ok (.iconst 0, 1) := by decide +kernel
theorem dX4_go_81 : decode cX4_go 81 = .ok (.invokestatic 131, 3) := by decide +kernel
theorem dX4_go_84 : decode cX4_go 84 = .ok (.iaload, 1) := by decide +kernel
theorem dX4_go_85 : decode cX4_go 85 = .ok (.aload_n 0, 1) := by decide +kernel
theorem dX4_go_86 : decode cX4_go 86 = .ok (.getfield 47, 3) := by decide +kernel
theorem dX4_go_89 : decode cX4_go 89 = .ok (.iload_n 3, 1) := by decide +kernel
theorem dX4_go_90 : decode cX4_go 90 = .ok (.iconst 1, 1) := by decide +kernel
theorem dX4_go_91 : decode cX4_go 91 = .ok (.invokestatic 131, 3) := by decide +kernel
theorem dX4_go_94 : decode cX4_go 94 = .ok (.iaload, 1) := by decide +kernel
theorem dX4_go_95 : decode cX4_go 95 = .ok (.if_icmp .ge 16, 3) := by decide +kernel
theorem dX4_go_98 : decode cX4_go 98 = .ok (.aload_n 0, 1) := by decide +kernel
theorem dX4_go_99 : decode cX4_go 99 = .ok (.getfield 47, 3) := by decide +kernel
theorem dX4_go_102 : decode cX4_go 102 = .ok (.iload_n 3, 1) := by decide +kernel
theorem dX4_go_103 : decode cX4_go 103 = .ok (.iconst 0, 1) := by decide +kernel
theorem dX4_go_104 : decode cX4_go 104 = .ok (.invokestatic 131, 3) := by decide +kernel
theorem dX4_go_107 : decode cX4_go 107 = .ok (.iaload, 1) := by decide +kernel
theorem dX4_go_108 : decode cX4_go 108 = .ok (.goto 13, 3) := by decide +kernel
theorem dX4_go_111 : decode cX4_go 111 = .ok (.aload_n 0, 1) := by decide +kernel
theorem dX4_go_112 : decode cX4_go 112 = .ok (.getfield 47, 3) := by decide +kernel
theorem dX4_go_115 : decode cX4_go 115 = .ok (.iload_n 3, 1) := by decide +kernel
theorem dX4_go_116 : decode cX4_go 116 = .ok (.iconst 1, 1) := by decide +kernel
theorem dX4_go_117 : decode cX4_go 117 = .ok (.invokestatic 131, 3) := by decide +kernel
theorem dX4_go_120 : decode cX4_go 120 = .ok (.iaload, 1) := by decide +kernel
theorem dX4_go_121 : decode cX4_go 121 = .ok (.istore 4, 2) := by decide +kernel
theorem dX4_go_123 : decode cX4_go 123 = .ok (.aload_n 0, 1) := by decide +kernel
theorem dX4_go_124 : decode cX4_go 124 = .ok (.getfield 47, 3) := by decide +kernel
theorem dX4_go_127 : decode cX4_go 127 = .ok (.iload_n 3, 1) := by decide +kernel
theorem dX4_go_128 : decode cX4_go 128 = .ok (.iload 4, 2) := by decide +kernel
theorem dX4_go_130 : decode cX4_go 130 = .ok (.iconst 1, 1) := by decide +kernel
theorem dX4_go_131 : decode cX4_go 131 = .ok (.iadd, 1) := by decide +kernel
theorem dX4_go_132 : decode cX4_go 132 = .ok (.aload_n 0, 1) := by decide +kernel
theorem dX4_go_133 : decode cX4_go 133 = .ok (.getfield 47, 3) := by decide +kernel
theorem dX4_go_136 : decode cX4_go 136 = .ok (.iload_n 3, 1) := by decide +kernel
theorem dX4_go_137 : decode cX4_go 137 = .ok (.iaload, 1) := by decide +kernel
theorem dX4_go_138 : decode cX4_go 138 = .ok (.if_icmp .ge 10, 3) := by decide +kernel
theorem dX4_go_141 : decode cX4_go 141 = .ok (.iload 4, 2) := by decide +kernel
theorem dX4_go_143 : decode cX4_go 143 = .ok (.iconst 1, 1) := by decide +kernel
theorem dX4_go_144 : decode cX4_go 144 = .ok (.iadd, 1) := by decide +kernel
theorem dX4_go_145 : decode cX4_go 145 = .ok (.goto 9, 3) := by decide +kernel
theorem dX4_go_148 : decode cX4_go 148 = .ok (.aload_n 0, 1) := by decide +kernel
theorem dX4_go_149 : decode cX4_go 149 = .ok (.getfield 47, 3) := by decide +kernel
theorem dX4_go_152 : decode cX4_go 152 = .ok (.iload_n 3, 1) := by decide +kernel
theorem dX4_go_153 : decode cX4_go 153 = .ok (.iaload, 1) := by decide +kernel
theorem dX4_go_154 : decode cX4_go 154 = .ok (.iastore, 1) := by decide +kernel
theorem dX4_go_155 : decode cX4_go 155 = .ok (.iinc 3 1, 3) := by decide +kernel
theorem dX4_go_158 : decode cX4_go 158 = .ok (.goto (-89), 3) := by decide +kernel
theorem dX4_go_161 : decode cX4_go 161 = .ok (.iinc 2 1, 3) := by decide +kernel
theorem dX4_go_164 : decode cX4_go 164 = .ok (.goto (-103), 3) := by decide +kernel
theorem dX4_go_167 : decode cX4_go 167 = .ok (.iconst 0, 1) := by decide +kernel
theorem dX4_go_168 : decode cX4_go 168 = .ok (.istore_n 2, 1) := by decide +kernel
theorem dX4_go_169 : decode cX4_go 169 = .ok (.aload_n 0, 1) := by decide +kernel
theorem dX4_go_170 : decode cX4_go 170 = .ok (.getfield 119, 3) := by decide +kernel
theorem dX4_go_173 : decode cX4_go 173 = .ok (.iload_n 1, 1) := by decide +kernel
theorem dX4_go_174 : decode cX4_go 174 = .ok (.if_icmp .eq 49, 3) := by decide +kernel
theorem dX4_go_177 : decode cX4_go 177 = .ok (.aload_n 0, 1) := by decide +kernel
theorem dX4_go_178 : decode cX4_go 178 = .ok (.aload_n 0, 1) := by decide +kernel
theorem dX4_go_179 : decode cX4_go 179 = .ok (.getfield 47, 3) := by decide +kernel
theorem dX4_go_182 : decode cX4_go 182 = .ok (.aload_n 0, 1) := by decide +kernel
theorem dX4_go_183 : decode cX4_go 183 = .ok (.getfield 119, 3) := by decide +kernel
theorem dX4_go_186 : decode cX4_go 186 = .ok (.iconst 0, 1) := by decide +kernel
theorem dX4_go_187 : decode cX4_go 187 = .ok (.invokestatic 131, 3) := by decide +kernel
theorem dX4_go_190 : decode cX4_go 190 = .ok (.iaload, 1) := by decide +kernel
theorem dX4_go_191 : decode cX4_go 191 = .ok (.aload_n 0, 1) := by decide +kernel
theorem dX4_go_192 : decode cX4_go 192 = .ok (.getfield 47, 3) := by decide +kernel
theorem dX4_go_195 : decode cX4_go 195 = .ok (.aload_n 0, 1) := by decide +kernel
theorem dX4_go_196 : decode cX4_go 196 = .ok (.getfield 119, 3) := by decide +kernel
theorem dX4_go_199 : decode cX4_go 199 = .ok (.iconst 1, 1) := by decide +kernel
theorem dX4_go_200 : decode cX4_go 200 = .ok (.invokestatic 131, 3) := by decide +kernel
theorem dX4_go_203 : decode cX4_go 203 = .ok (.iaload, 1) := by decide +kernel
theorem dX4_go_204 : decode cX4_go 204 = .ok (.if_icmp .gt 7, 3) := by decide +kernel
theorem dX4_go_207 : decode cX4_go 207 = .ok (.iconst 0, 1) := by decide +kernel
theorem dX4_go_208 : decode cX4_go 208 = .ok (.goto 4, 3) := by decide +kernel
theorem dX4_go_211 : decode cX4_go 211 = .ok (.iconst 1, 1) := by decide +kernel
theorem dX4_go_212 : decode cX4_go 212 = .ok (.iconst 0, 1) := by decide +kernel
theorem dX4_go_213 : decode cX4_go 213 = .ok (.invokevirtual 135, 3) := by decide +kernel
theorem dX4_go_216 : decode cX4_go 216 = .ok (.pop, 1) := by decide +kernel
theorem dX4_go_217 : decode cX4_go 217 = .ok (.iinc 2 1, 3) := by decide +kernel
theorem dX4_go_220 : decode cX4_go 220 = .ok (.goto (-51), 3) := by decide +kernel
theorem dX4_go_223 : decode cX4_go 223 = .ok (.iload_n 2, 1) := by decide +kernel
theorem dX4_go_224 : decode cX4_go 224 = .ok (.ireturn, 1) := by decide +kernel
set_option maxHeartbeats 4000000 in
set_option maxRecDepth 100000 in
theorem c_ScanRowsModel_doTick (l : Launch) (dC : Nat → ClassId) (dI : Nat → Nat → Nat) (q : Nat → Nat) (cI cZ : ClassId) (sz : Nat) (y : MS) (m0 b : Nat) (hM : MB y) (h1 : m0 < 2) (h2 : b < 2) : Met l yX4_doTick (.code yX4_doTick cX4_doTick 5 (some .int) :: ALLG) ({ frames := 2, cells := 0, slots := 0, locals := 49 }) (va_Pc [.ref (q 0), .int (nI m0), .int (nI b)] (cP (dC, dI) vwCl [(cI, .int), (cZ, .boolean)] (wM q cI cZ y) eT sz)) (va_Qi (fun (x : Int32) (u : MS) => x = zI (mTick y m0 b).1 ∧ u = (mTick y m0 b).2) (fun (u : MS) => cB (dC, dI) vwCl [(cI, .int), (cZ, .boolean)] (wM q cI cZ u) (va_A (wM q cI cZ y) sz)) (va_A (wM q cI cZ y) sz)) 0 0 (va_A (wM q cI cZ y) sz) := by
  refine xm_of (cc := cX4_doTick) (maxL := 5) (ret := some .int) (by decide) rfl (Nat.le_of_ble_eq_true rfl) ?_
  intro p e s m below meth c A hAe hx hb hr hml hts0 hown hlk hin hsz H locs hP hK hD hA hS hE ls hl
  have hts : ∀ w ∈ ALLG, w.before _ s = true := fun w h => hts0 w (List.mem_cons_of_mem _ h)
  rw [← hAe]
  have hM0 := hM
  have b_n : y.n ≤ 32 := hM.1.1
  have b_c : y.c ≤ 8 := hM.1.2.1
  have b_p : y.p ≤ y.n := hM.1.2.2.1
  have b_vb : ∀ z, y.vb z < 2 := hM.1.2.2.2.1
  have b_ck : ∀ z, y.ck z < 4 := hM.1.2.2.2.2.1
  have b_xx : ∀ z, -1000 ≤ y.xx z ∧ y.xx z ≤ 1000 := hM.1.2.2.2.2.2.1
  have b_yy : ∀ z, -1000 ≤ y.yy z ∧ y.yy z ≤ 1000 := hM.1.2.2.2.2.2.2.1
  have b_fl : ∀ z, y.fl z < 2 := hM.1.2.2.2.2.2.2.2.1
  have b_rw : ∀ z, y.rw z < 32 := hM.1.2.2.2.2.2.2.2.2.2.1
  have b_st : ∀ z, y.st z ≤ 32 := hM.1.2.2.2.2.2.2.2.2.2.2.2
  have k_n : y.cn ≤ 20 := hM.2.1.1
  have k_pin : ∀ z, y.pin z < 2 := hM.2.1.2.1
  have k_ki : ∀ z, y.ki z < 2 := hM.2.1.2.2.1
  have k_he : ∀ z, y.he z < 2 := hM.2.1.2.2.2.1
  have k_ir : ∀ z, y.ir z < 2 := hM.2.1.2.2.2.2
  have a_by := hM.2.2.1
  have a_cr := hM.2.2.2.1
  have a_co := hM.2.2.2.2.1
  have a_sa := hM.2.2.2.2.2.1
  have b_nb := hM.2.2.2.2.2.2
  have hl : lv_has ls 5 [(0, .ref (q 0)), (1, .int (nI m0)), (2, .int (nI b))] := hl
  refine lv_iconst (v := zI (-1)) hx hb dX4_doTick_0 (by decide) ?_
  refine lv_istore_n (lv' := [(3, .int (zI (-1))), (0, .ref (q 0)), (1, .int (nI m0)), (2, .int (nI b))]) hx hb dX4_doTick_1 rfl hl (by decide) rfl (fun ls hl => ?_)
  refine lv_aload_n hx hb dX4_doTick_2 rfl (lv_at hl 1 rfl) ?_
  refine va_get (D := (dC, dI)) (ci := 4) (v := .int (nI (MS.sa y))) (C := RX4) (T := TX4) (N := 23) hx hb hts inX4 hown hK hP 0 rfl rfl 21 (by decide) (hts _ tw_593) (fun _ h9 => h9) rfl dX4_doTick_3 ?_
  refine lv_iconst (v := nI 3) hx hb dX4_doTick_6 (by decide) ?_
  refine xn_cne (tgt := 17) hx hb (by omega) (by omega) dX4_doTick_7 (by decide) (fun c_1 => ?_) (fun c_1 => ?_)
  · refine lv_aload_n hx hb dX4_doTick_17 rfl (lv_at hl 1 rfl) ?_
    refine va_get (D := (dC, dI)) (ci := 4) (v := .int (nI (MS.sa y))) (C := RX4) (T := TX4) (N := 23) hx hb hts inX4 hown hK hP 0 rfl rfl 21 (by decide) (hts _ tw_593) (fun _ h9 => h9) rfl dX4_doTick_18 ?_
    refine lv_iconst (v := nI 4) hx hb dX4_doTick_21 (by decide) ?_
    refine xn_cne (tgt := 34) hx hb (by omega) (by omega) dX4_doTick_22 (by decide) (fun c_2 => ?_) (fun c_2 => ?_)
    · refine lv_aload_n hx hb dX4_doTick_34 rfl (lv_at hl 1 rfl) ?_
      refine va_get (D := (dC, dI)) (ci := 4) (v := .int (nI (MS.sa y))) (C := RX4) (T := TX4) (N := 23) hx hb hts inX4 hown hK hP 0 rfl rfl 21 (by decide) (hts _ tw_593) (fun _ h9 => h9) rfl dX4_doTick_35 ?_
      refine lv_bipush (v := nI 8) hx hb dX4_doTick_38 (by decide) ?_
      refine xn_cne (tgt := 86) hx hb (by omega) (by omega) dX4_doTick_40 (by decide) (fun c_3 => ?_) (fun c_3 => ?_)
      · refine lv_aload_n hx hb dX4_doTick_86 rfl (lv_at hl 1 rfl) ?_
        refine va_get (D := (dC, dI)) (ci := 4) (v := .int (nI (MS.sa y))) (C := RX4) (T := TX4) (N := 23) hx hb hts inX4 hown hK hP 0 rfl rfl 21 (by decide) (hts _ tw_593) (fun _ h9 => h9) rfl dX4_doTick_87 ?_
        refine lv_bipush (v := nI 10) hx hb dX4_doTick_90 (by decide) ?_
        refine xn_cne (tgt := 103) hx hb (by omega) (by omega) dX4_doTick_92 (by decide) (fun c_4 => ?_) (fun c_4 => ?_)
        · refine lv_aload_n hx hb dX4_doTick_103 rfl (lv_at hl 1 rfl) ?_
          refine va_get (D := (dC, dI)) (ci := 4) (v := .int (nI (MS.sa y))) (C := RX4) (T := TX4) (N := 23) hx hb hts inX4 hown hK hP 0 rfl rfl 21 (by decide) (hts _ tw_593) (fun _ h9 => h9) rfl dX4_doTick_104 ?_
          refine lv_bipush (v := nI 11) hx hb dX4_doTick_107 (by decide) ?_
          refine xn_cne (tgt := 136) hx hb (by omega) (by omega) dX4_doTick_109 (by decide) (fun c_5 => ?_) (fun c_5 => ?_)
          · refine lv_aload_n hx hb dX4_doTick_136 rfl (lv_at hl 1 rfl) ?_
            refine va_get (D := (dC, dI)) (ci := 4) (v := .int (nI (MS.sa y))) (C := RX4) (T := TX4) (N := 23) hx hb hts inX4 hown hK hP 0 rfl rfl 21 (by decide) (hts _ tw_593) (fun _ h9 => h9) rfl dX4_doTick_137 ?_
            refine lv_bipush (v := nI 15) hx hb dX4_doTick_140 (by decide) ?_
            refine xn_cne (tgt := 153) hx hb (by omega) (by omega) dX4_doTick_142 (by decide) (fun c_6 => ?_) (fun c_6 => ?_)
            · have e6 : (mAct y b).1 = -1 := by unfold mAct; rw [if_neg (by assumption), if_neg (by assumption), if_neg (fun z => by omega), if_neg (by assumption), if_neg (by assumption), if_neg (by assumption)]
              have e5 : y = (mAct y b).2 := by unfold mAct; rw [if_neg (by assumption), if_neg (by assumption), if_neg (fun z => by omega), if_neg (by assumption), if_neg (by assumption), if_neg (by assumption)]
              rw [e5] at hP hD
              have hA2 : (mAct y b).2.sa < 16 := by rw [(mAct_sa y b).1]; exact a_sa
              have hC2 : (mAct y b).2.co < 16 := (mAct_MB h2 hM0).2.2.2.2.1
              have hN2 := NX_lt (2 * (mAct y b).2.sa + m0)
              refine lv_aload_n hx hb dX4_doTick_153 rfl (lv_at hl 1 rfl) ?_
              refine lv_aload_n hx hb dX4_doTick_154 rfl (lv_at hl 1 rfl) ?_
              refine va_get (D := (dC, dI)) (ci := 4) (v := .int (nI (MS.sa ((mAct y b).2)))) (C := RX4) (T := TX4) (N := 23) hx hb hts inX4 hown hK hP 0 rfl rfl 21 (by decide) (hts _ tw_593) (fun _ h9 => h9) rfl dX4_doTick_155 ?_
              refine lv_iload_n hx hb dX4_doTick_158 rfl (lv_at hl 2 rfl) ?_
              refine xc_Si (As := [.int (nI (MS.sa ((mAct y b).2))), .int (nI m0)]) (wr := wM q cI cZ ((mAct y b).2)) ⟨hx, hb, hml, hown, hts⟩ (c_ScanRowsModel_next l dC dI q cI cZ H.size (MS.sa ((mAct y b).2)) m0 (by omega) (by omega)) (cwS 2 hts (gS tw_763 tw_764 tw_5 tw_765) rfl rfl rfl (by decide +kernel) ⟨Nat.le_of_ble_eq_true rfl, Nat.le_of_ble_eq_true rfl⟩) rfl hl.1 rfl (Nat.le_of_ble_eq_true rfl) dX4_doTick_159 ⟨Nat.zero_le _, Nat.zero_le _⟩ hP hD hK hS hA [] [0, 1, 2, 3, 4, 5, 6, 7, 8, 9, 10, 11, 12, 13] rfl rfl (by decide) (by decide) (by decide) [0, 1] rfl eT_M (trivial) (fun r_7 u_8 H locs w_9 hP hD hS => ?_)
              obtain rfl : r_7 = nI (NX (2 * MS.sa (mAct y b).2 + m0)) := w_9
              have hP : va_P (dC, dI) vwCl (wM q cI cZ ((mAct y b).2)) H := hP
              have hD : va_D A (wM q cI cZ ((mAct y b).2)) := hD
              refine va_put (D := (dC, dI)) (ci := 4) (v := .int (nI (NX (2 * MS.sa (mAct y b).2 + m0)))) (ty := .int) (C := RX4) (T := TX4) (N := 23) hx hb hts inX4 tyX4 tyX4_ok nmX4 hown hK hP hD hS 0 rfl rfl 21 (by decide) (hts _ tw_593) (fun _ h9 => h9) rfl (by decide +kernel) rfl rfl (Nat.le_of_ble_eq_true rfl) dX4_doTick_162 (fun H locs hP hD hS => ?_)
              have hP : va_P (dC, dI) vwCl (wM q cI cZ (MS.s_sa ((mAct y b).2) (NX (2 * MS.sa (mAct y b).2 + m0)))) H := va_eqP (wM_s_sa q cI cZ ((mAct y b).2) (NX (2 * MS.sa (mAct y b).2 + m0))) hP
              have hD : va_D A (wM q cI cZ (MS.s_sa ((mAct y b).2) (NX (2 * MS.sa (mAct y b).2 + m0)))) := va_eqD (wM_s_sa q cI cZ ((mAct y b).2) (NX (2 * MS.sa (mAct y b).2 + m0))) hD
              refine lv_aload_n hx hb dX4_doTick_165 rfl (lv_at hl 1 rfl) ?_
              refine lv_aload_n hx hb dX4_doTick_166 rfl (lv_at hl 1 rfl) ?_
              refine va_get (D := (dC, dI)) (ci := 4) (v := .int (nI (NX (2 * MS.sa (mAct y b).2 + m0)))) (C := RX4) (T := TX4) (N := 23) hx hb hts inX4 hown hK hP 0 rfl rfl 21 (by decide) (hts _ tw_593) (fun _ h9 => h9) rfl dX4_doTick_167 ?_
              refine xn_zne (tgt := 177) hx hb (by omega) dX4_doTick_170 (by decide) (fun c_10 => ?_) (fun c_10 => ?_)
              · refine lv_aload_n hx hb dX4_doTick_177 rfl (lv_at hl 1 rfl) ?_
                refine va_get (D := (dC, dI)) (ci := 4) (v := .int (nI (MS.co ((mAct y b).2)))) (C := RX4) (T := TX4) (N := 23) hx hb hts inX4 hown hK hP 0 rfl rfl 20 (by decide) (hts _ tw_592) (fun _ h9 => h9) rfl dX4_doTick_178 ?_
                refine va_put (D := (dC, dI)) (ci := 4) (v := .int (nI (MS.co ((mAct y b).2)))) (ty := .int) (C := RX4) (T := TX4) (N := 23) hx hb hts inX4 tyX4 tyX4_ok nmX4 hown hK hP hD hS 0 rfl rfl 20 (by decide) (hts _ tw_592) (fun _ h9 => h9) rfl (by decide +kernel) rfl rfl (Nat.le_of_ble_eq_true rfl) dX4_doTick_181 (fun H locs hP hD hS => ?_)
                have hP : va_P (dC, dI) vwCl (wM q cI cZ (MS.s_co (MS.s_sa ((mAct y b).2) (NX (2 * MS.sa (mAct y b).2 + m0))) (MS.co ((mAct y b).2)))) H := va_eqP (wM_s_co q cI cZ (MS.s_sa ((mAct y b).2) (NX (2 * MS.sa (mAct y b).2 + m0))) (MS.co ((mAct y b).2))) hP
                have hD : va_D A (wM q cI cZ (MS.s_co (MS.s_sa ((mAct y b).2) (NX (2 * MS.sa (mAct y b).2 + m0))) (MS.co ((mAct y b).2)))) := va_eqD (wM_s_co q cI cZ (MS.s_sa ((mAct y b).2) (NX (2 * MS.sa (mAct y b).2 + m0))) (MS.co ((mAct y b).2))) hD
                refine lv_iload_n hx hb dX4_doTick_184 rfl (lv_at hl 0 rfl) ?_
                exact xr_i hx hb hr hlk (u := MS.s_co (MS.s_sa ((mAct y b).2) (NX (2 * MS.sa (mAct y b).2 + m0))) (MS.co ((mAct y b).2))) (⟨by rw [show (mTick y m0 b).1 = (mAct y b).1 from rfl, e6], by unfold mTick; rw [if_neg (by omega)]⟩) hP hK hD hS dX4_doTick_185
              · refine lv_iconst (v := nI 2) hx hb dX4_doTick_173 (by decide) ?_
                refine lv_goto (tgt := 181) hx hb dX4_doTick_174 (by decide) ?_
                refine va_put (D := (dC, dI)) (ci := 4) (v := .int (nI 2)) (ty := .int) (C := RX4) (T := TX4) (N := 23) hx hb hts inX4 tyX4 tyX4_ok nmX4 hown hK hP hD hS 0 rfl rfl 20 (by decide) (hts _ tw_592) (fun _ h9 => h9) rfl (by decide +kernel) rfl rfl (Nat.le_of_ble_eq_true rfl) dX4_doTick_181 (fun H locs hP hD hS => ?_)
                have hP : va_P (dC, dI) vwCl (wM q cI cZ (MS.s_co (MS.s_sa ((mAct y b).2) (NX (2 * MS.sa (mAct y b).2 + m0))) 2)) H := va_eqP (wM_s_co q cI cZ (MS.s_sa ((mAct y b).2) (NX (2 * MS.sa (mAct y b).2 + m0))) 2) hP
                have hD : va_D A (wM q cI cZ (MS.s_co (MS.s_sa ((mAct y b).2) (NX (2 * MS.sa (mAct y b).2 + m0))) 2)) := va_eqD (wM_s_co q cI cZ (MS.s_sa ((mAct y b).2) (NX (2 * MS.sa (mAct y b).2 + m0))) 2) hD
                refine lv_iload_n hx hb dX4_doTick_184 rfl (lv_at hl 0 rfl) ?_
                exact xr_i hx hb hr hlk (u := MS.s_co (MS.s_sa ((mAct y b).2) (NX (2 * MS.sa (mAct y b).2 + m0))) 2) (⟨by rw [show (mTick y m0 b).1 = (mAct y b).1 from rfl, e6], by unfold mTick; rw [if_pos (by assumption)]⟩) hP hK hD hS dX4_doTick_185
            · refine lv_aload_n hx hb dX4_doTick_145 rfl (lv_at hl 1 rfl) ?_
              refine lv_aload_n hx hb dX4_doTick_146 rfl (lv_at hl 1 rfl) ?_
              refine va_get (D := (dC, dI)) (ci := 4) (v := .int (nI (MS.cr y))) (C := RX4) (T := TX4) (N := 23) hx hb hts inX4 hown hK hP 0 rfl rfl 19 (by decide) (hts _ tw_591) (fun _ h9 => h9) rfl dX4_doTick_147 ?_
              refine va_put (D := (dC, dI)) (ci := 4) (v := .int (nI (MS.cr y))) (ty := .int) (C := RX4) (T := TX4) (N := 23) hx hb hts inX4 tyX4 tyX4_ok nmX4 hown hK hP hD hS 0 rfl rfl 20 (by decide) (hts _ tw_592) (fun _ h9 => h9) rfl (by decide +kernel) rfl rfl (Nat.le_of_ble_eq_true rfl) dX4_doTick_150 (fun H locs hP hD hS => ?_)
              have hP : va_P (dC, dI) vwCl (wM q cI cZ (MS.s_co y (MS.cr y))) H := va_eqP (wM_s_co q cI cZ y (MS.cr y)) hP
              have hD : va_D A (wM q cI cZ (MS.s_co y (MS.cr y))) := va_eqD (wM_s_co q cI cZ y (MS.cr y)) hD
              have e6 : (mAct y b).1 = -1 := by unfold mAct; rw [if_neg (by assumption), if_neg (by assumption), if_neg (fun z => by omega), if_neg (by assumption), if_neg (by assumption), if_pos (by assumption)]
              have e5 : MS.s_co y (MS.cr y) = (mAct y b).2 := by unfold mAct; rw [if_neg (by assumption), if_neg (by assumption), if_neg (fun z => by omega), if_neg (by assumption), if_neg (by assumption), if_pos (by assumption)]
              rw [e5] at hP hD
              have hA2 : (mAct y b).2.sa < 16 := by rw [(mAct_sa y b).1]; exact a_sa
              have hC2 : (mAct y b).2.co < 16 := (mAct_MB h2 hM0).2.2.2.2.1
              have hN2 := NX_lt (2 * (mAct y b).2.sa + m0)
              refine lv_aload_n hx hb dX4_doTick_153 rfl (lv_at hl 1 rfl) ?_
              refine lv_aload_n hx hb dX4_doTick_154 rfl (lv_at hl 1 rfl) ?_
              refine va_get (D := (dC, dI)) (ci := 4) (v := .int (nI (MS.sa ((mAct y b).2)))) (C := RX4) (T := TX4) (N := 23) hx hb hts inX4 hown hK hP 0 rfl rfl 21 (by decide) (hts _ tw_593) (fun _ h9 => h9) rfl dX4_doTick_155 ?_
              refine lv_iload_n hx hb dX4_doTick_158 rfl (lv_at hl 2 rfl) ?_
              refine xc_Si (As := [.int (nI (MS.sa ((mAct y b).2))), .int (nI m0)]) (wr := wM q cI cZ ((mAct y b).2)) ⟨hx, hb, hml, hown, hts⟩ (c_ScanRowsModel_next l dC dI q cI cZ H.size (MS.sa ((mAct y b).2)) m0 (by omega) (by omega)) (cwS 2 hts (gS tw_763 tw_764 tw_5 tw_765) rfl rfl rfl (by decide +kernel) ⟨Nat.le_of_ble_eq_true rfl, Nat.le_of_ble_eq_true rfl⟩) rfl hl.1 rfl (Nat.le_of_ble_eq_true rfl) dX4_doTick_159 ⟨Nat.zero_le _, Nat.zero_le _⟩ hP hD hK hS hA [] [0, 1, 2, 3, 4, 5, 6, 7, 8, 9, 10, 11, 12, 13] rfl rfl (by decide) (by decide) (by decide) [0, 1] rfl eT_M (trivial) (fun r_11 u_12 H locs w_13 hP hD hS => ?_)
              obtain rfl : r_11 = nI (NX (2 * MS.sa (mAct y b).2 + m0)) := w_13
              have hP : va_P (dC, dI) vwCl (wM q cI cZ ((mAct y b).2)) H := hP
              have hD : va_D A (wM q cI cZ ((mAct y b).2)) := hD
              refine va_put (D := (dC, dI)) (ci := 4) (v := .int (nI (NX (2 * MS.sa (mAct y b).2 + m0)))) (ty := .int) (C := RX4) (T := TX4) (N := 23) hx hb hts inX4 tyX4 tyX4_ok nmX4 hown hK hP hD hS 0 rfl rfl 21 (by decide) (hts _ tw_593) (fun _ h9 => h9) rfl (by decide +kernel) rfl rfl (Nat.le_of_ble_eq_true rfl) dX4_doTick_162 (fun H locs hP hD hS => ?_)
              have hP : va_P (dC, dI) vwCl (wM q cI cZ (MS.s_sa ((mAct y b).2) (NX (2 * MS.sa (mAct y b).2 + m0)))) H := va_eqP (wM_s_sa q cI cZ ((mAct y b).2) (NX (2 * MS.sa (mAct y b).2 + m0))) hP
              have hD : va_D A (wM q cI cZ (MS.s_sa ((mAct y b).2) (NX (2 * MS.sa (mAct y b).2 + m0)))) := va_eqD (wM_s_sa q cI cZ ((mAct y b).2) (NX (2 * MS.sa (mAct y b).2 + m0))) hD
              refine lv_aload_n hx hb dX4_doTick_165 rfl (lv_at hl 1 rfl) ?_
              refine lv_aload_n hx hb dX4_doTick_166 rfl (lv_at hl 1 rfl) ?_
              refine va_get (D := (dC, dI)) (ci := 4) (v := .int (nI (NX (2 * MS.sa (mAct y b).2 + m0)))) (C := RX4) (T := TX4) (N := 23) hx hb hts inX4 hown hK hP 0 rfl rfl 21 (by decide) (hts _ tw_593) (fun _ h9 => h9) rfl dX4_doTick_167 ?_
              refine xn_zne (tgt := 177) hx hb (by omega) dX4_doTick_170 (by decide) (fun c_14 => ?_) (fun c_14 => ?_)
              · refine lv_aload_n hx hb dX4_doTick_177 rfl (lv_at hl 1 rfl) ?_
                refine va_get (D := (dC, dI)) (ci := 4) (v := .int (nI (MS.co ((mAct y b).2)))) (C := RX4) (T := TX4) (N := 23) hx hb hts inX4 hown hK hP 0 rfl rfl 20 (by decide) (hts _ tw_592) (fun _ h9 => h9) rfl dX4_doTick_178 ?_
                refine va_put (D := (dC, dI)) (ci := 4) (v := .int (nI (MS.co ((mAct y b).2)))) (ty := .int) (C := RX4) (T := TX4) (N := 23) hx hb hts inX4 tyX4 tyX4_ok nmX4 hown hK hP hD hS 0 rfl rfl 20 (by decide) (hts _ tw_592) (fun _ h9 => h9) rfl (by decide +kernel) rfl rfl (Nat.le_of_ble_eq_true rfl) dX4_doTick_181 (fun H locs hP hD hS => ?_)
                have hP : va_P (dC, dI) vwCl (wM q cI cZ (MS.s_co (MS.s_sa ((mAct y b).2) (NX (2 * MS.sa (mAct y b).2 + m0))) (MS.co ((mAct y b).2)))) H := va_eqP (wM_s_co q cI cZ (MS.s_sa ((mAct y b).2) (NX (2 * MS.sa (mAct y b).2 + m0))) (MS.co ((mAct y b).2))) hP
                have hD : va_D A (wM q cI cZ (MS.s_co (MS.s_sa ((mAct y b).2) (NX (2 * MS.sa (mAct y b).2 + m0))) (MS.co ((mAct y b).2)))) := va_eqD (wM_s_co q cI cZ (MS.s_sa ((mAct y b).2) (NX (2 * MS.sa (mAct y b).2 + m0))) (MS.co ((mAct y b).2))) hD
                refine lv_iload_n hx hb dX4_doTick_184 rfl (lv_at hl 0 rfl) ?_
                exact xr_i hx hb hr hlk (u := MS.s_co (MS.s_sa ((mAct y b).2) (NX (2 * MS.sa (mAct y b).2 + m0))) (MS.co ((mAct y b).2))) (⟨by rw [show (mTick y m0 b).1 = (mAct y b).1 from rfl, e6], by unfold mTick; rw [if_neg (by omega)]⟩) hP hK hD hS dX4_doTick_185
              · refine lv_iconst (v := nI 2) hx hb dX4_doTick_173 (by decide) ?_
                refine lv_goto (tgt := 181) hx hb dX4_doTick_174 (by decide) ?_
                refine va_put (D := (dC, dI)) (ci := 4) (v := .int (nI 2)) (ty := .int) (C := RX4) (T := TX4) (N := 23) hx hb hts inX4 tyX4 tyX4_ok nmX4 hown hK hP hD hS 0 rfl rfl 20 (by decide) (hts _ tw_592) (fun _ h9 => h9) rfl (by decide +kernel) rfl rfl (Nat.le_of_ble_eq_true rfl) dX4_doTick_181 (fun H locs hP hD hS => ?_)
                have hP : va_P (dC, dI) vwCl (wM q cI cZ (MS.s_co (MS.s_sa ((mAct y b).2) (NX (2 * MS.sa (mAct y b).2 + m0))) 2)) H := va_eqP (wM_s_co q cI cZ (MS.s_sa ((mAct y b).2) (NX (2 * MS.sa (mAct y b).2 + m0))) 2) hP
                have hD : va_D A (wM q cI cZ (MS.s_co (MS.s_sa ((mAct y b).2) (NX (2 * MS.sa (mAct y b).2 + m0))) 2)) := va_eqD (wM_s_co q cI cZ (MS.s_sa ((mAct y b).2) (NX (2 * MS.sa (mAct y b).2 + m0))) 2) hD
                refine lv_iload_n hx hb dX4_doTick_184 rfl (lv_at hl 0 rfl) ?_
                exact xr_i hx hb hr hlk (u := MS.s_co (MS.s_sa ((mAct y b).2) (NX (2 * MS.sa (mAct y b).2 + m0))) 2) (⟨by rw [show (mTick y m0 b).1 = (mAct y b).1 from rfl, e6], by unfold mTick; rw [if_pos (by assumption)]⟩) hP hK hD hS dX4_doTick_185
          · refine lv_aload_n hx hb dX4_doTick_112 rfl (lv_at hl 1 rfl) ?_
            refine va_get (D := (dC, dI)) (ci := 4) (v := .int (nI (MS.cr y))) (C := RX4) (T := TX4) (N := 23) hx hb hts inX4 hown hK hP 0 rfl rfl 19 (by decide) (hts _ tw_591) (fun _ h9 => h9) rfl dX4_doTick_113 ?_
            refine lv_iconst (v := nI 1) hx hb dX4_doTick_116 (by decide) ?_
            refine lv_iand hx hb dX4_doTick_117 ?_
            refine xt_i (show ((nI (MS.cr y)) &&& (nI 1)) = nI (y.cr % 2) from cr_and a_cr) ?_
            refine lv_istore_n (lv' := [(3, .int (nI (y.cr % 2))), (0, .ref (q 0)), (1, .int (nI m0)), (2, .int (nI b))]) hx hb dX4_doTick_118 rfl hl (by decide) rfl (fun ls hl => ?_)
            refine lv_aload_n hx hb dX4_doTick_119 rfl (lv_at hl 1 rfl) ?_
            refine lv_aload_n hx hb dX4_doTick_120 rfl (lv_at hl 1 rfl) ?_
            refine va_get (D := (dC, dI)) (ci := 4) (v := .int (nI (MS.cr y))) (C := RX4) (T := TX4) (N := 23) hx hb hts inX4 hown hK hP 0 rfl rfl 19 (by decide) (hts _ tw_591) (fun _ h9 => h9) rfl dX4_doTick_121 ?_
            refine lv_iconst (v := nI 1) hx hb dX4_doTick_124 (by decide) ?_
            refine lv_ishr hx hb dX4_doTick_125 ?_
            refine lv_iload_n hx hb dX4_doTick_126 rfl (lv_at hl 3 rfl) ?_
            refine lv_iconst (v := nI 3) hx hb dX4_doTick_127 (by decide) ?_
            refine lv_ishl hx hb dX4_doTick_128 ?_
            refine lv_ior hx hb dX4_doTick_129 ?_
            refine xt_i (show (((nI (MS.cr y)) >>> ((nI 1) &&& 31)) ||| ((nI b) <<< ((nI 3) &&& 31))) = nI (y.cr / 2 + b * 8) from cr_sh2 a_cr h2) ?_
            refine va_put (D := (dC, dI)) (ci := 4) (v := .int (nI (y.cr / 2 + b * 8))) (ty := .int) (C := RX4) (T := TX4) (N := 23) hx hb hts inX4 tyX4 tyX4_ok nmX4 hown hK hP hD hS 0 rfl rfl 19 (by decide) (hts _ tw_591) (fun _ h9 => h9) rfl (by decide +kernel) rfl rfl (Nat.le_of_ble_eq_true rfl) dX4_doTick_130 (fun H locs hP hD hS => ?_)
            have hP : va_P (dC, dI) vwCl (wM q cI cZ (MS.s_cr y (y.cr / 2 + b * 8))) H := va_eqP (wM_s_cr q cI cZ y (y.cr / 2 + b * 8)) hP
            have hD : va_D A (wM q cI cZ (MS.s_cr y (y.cr / 2 + b * 8))) := va_eqD (wM_s_cr q cI cZ y (y.cr / 2 + b * 8)) hD
            refine lv_goto (tgt := 153) hx hb dX4_doTick_133 (by decide) ?_
            have e6 : (mAct y b).1 = ((y.cr % 2 : Nat) : Int) := by unfold mAct; rw [if_neg (by assumption), if_neg (by assumption), if_neg (fun z => by omega), if_neg (by assumption), if_pos (by assumption)]
            have e5 : MS.s_cr y (y.cr / 2 + b * 8) = (mAct y b).2 := by unfold mAct; rw [if_neg (by assumption), if_neg (by assumption), if_neg (fun z => by omega), if_neg (by assumption), if_pos (by assumption)]
            rw [e5] at hP hD
            have hA2 : (mAct y b).2.sa < 16 := by rw [(mAct_sa y b).1]; exact a_sa
            have hC2 : (mAct y b).2.co < 16 := (mAct_MB h2 hM0).2.2.2.2.1
            have hN2 := NX_lt (2 * (mAct y b).2.sa + m0)
            refine lv_aload_n hx hb dX4_doTick_153 rfl (lv_at hl 1 rfl) ?_
            refine lv_aload_n hx hb dX4_doTick_154 rfl (lv_at hl 1 rfl) ?_
            refine va_get (D := (dC, dI)) (ci := 4) (v := .int (nI (MS.sa ((mAct y b).2)))) (C := RX4) (T := TX4) (N := 23) hx hb hts inX4 hown hK hP 0 rfl rfl 21 (by decide) (hts _ tw_593) (fun _ h9 => h9) rfl dX4_doTick_155 ?_
            refine lv_iload_n hx hb dX4_doTick_158 rfl (lv_at hl 2 rfl) ?_
            refine xc_Si (As := [.int (nI (MS.sa ((mAct y b).2))), .int (nI m0)]) (wr := wM q cI cZ ((mAct y b).2)) ⟨hx, hb, hml, hown, hts⟩ (c_ScanRowsModel_next l dC dI q cI cZ H.size (MS.sa ((mAct y b).2)) m0 (by omega) (by omega)) (cwS 2 hts (gS tw_763 tw_764 tw_5 tw_765) rfl rfl rfl (by decide +kernel) ⟨Nat.le_of_ble_eq_true rfl, Nat.le_of_ble_eq_true rfl⟩) rfl hl.1 rfl (Nat.le_of_ble_eq_true rfl) dX4_doTick_159 ⟨Nat.zero_le _, Nat.zero_le _⟩ hP hD hK hS hA [] [0, 1, 2, 3, 4, 5, 6, 7, 8, 9, 10, 11, 12, 13] rfl rfl (by decide) (by decide) (by decide) [0, 1] rfl eT_M (trivial) (fun r_15 u_16 H locs w_17 hP hD hS => ?_)
            obtain rfl : r_15 = nI (NX (2 * MS.sa (mAct y b).2 + m0)) := w_17
            have hP : va_P (dC, dI) vwCl (wM q cI cZ ((mAct y b).2)) H := hP
            have hD : va_D A (wM q cI cZ ((mAct y b).2)) := hD
            refine va_put (D := (dC, dI)) (ci := 4) (v := .int (nI (NX (2 * MS.sa (mAct y b).2 + m0)))) (ty := .int) (C := RX4) (T := TX4) (N := 23) hx hb hts inX4 tyX4 tyX4_ok nmX4 hown hK hP hD hS 0 rfl rfl 21 (by decide) (hts _ tw_593) (fun _ h9 => h9) rfl (by decide +kernel) rfl rfl (Nat.le_of_ble_eq_true rfl) dX4_doTick_162 (fun H locs hP hD hS => ?_)
            have hP : va_P (dC, dI) vwCl (wM q cI cZ (MS.s_sa ((mAct y b).2) (NX (2 * MS.sa (mAct y b).2 + m0)))) H := va_eqP (wM_s_sa q cI cZ ((mAct y b).2) (NX (2 * MS.sa (mAct y b).2 + m0))) hP
            have hD : va_D A (wM q cI cZ (MS.s_sa ((mAct y b).2) (NX (2 * MS.sa (mAct y b).2 + m0)))) := va_eqD (wM_s_sa q cI cZ ((mAct y b).2) (NX (2 * MS.sa (mAct y b).2 + m0))) hD
            refine lv_aload_n hx hb dX4_doTick_165 rfl (lv_at hl 1 rfl) ?_
            refine lv_aload_n hx hb dX4_doTick_166 rfl (lv_at hl 1 rfl) ?_
            refine va_get (D := (dC, dI)) (ci := 4) (v := .int (nI (NX (2 * MS.sa (mAct y b).2 + m0)))) (C := RX4) (T := TX4) (N := 23) hx hb hts inX4 hown hK hP 0 rfl rfl 21 (by decide) (hts _ tw_593) (fun _ h9 => h9) rfl dX4_doTick_167 ?_
            refine xn_zne (tgt := 177) hx hb (by omega) dX4_doTick_170 (by decide) (fun c_18 => ?_) (fun c_18 => ?_)
            · refine lv_aload_n hx hb dX4_doTick_177 rfl (lv_at hl 1 rfl) ?_
              refine va_get (D := (dC, dI)) (ci := 4) (v := .int (nI (MS.co ((mAct y b).2)))) (C := RX4) (T := TX4) (N := 23) hx hb hts inX4 hown hK hP 0 rfl rfl 20 (by decide) (hts _ tw_592) (fun _ h9 => h9) rfl dX4_doTick_178 ?_
              refine va_put (D := (dC, dI)) (ci := 4) (v := .int (nI (MS.co ((mAct y b).2)))) (ty := .int) (C := RX4) (T := TX4) (N := 23) hx hb hts inX4 tyX4 tyX4_ok nmX4 hown hK hP hD hS 0 rfl rfl 20 (by decide) (hts _ tw_592) (fun _ h9 => h9) rfl (by decide +kernel) rfl rfl (Nat.le_of_ble_eq_true rfl) dX4_doTick_181 (fun H locs hP hD hS => ?_)
              have hP : va_P (dC, dI) vwCl (wM q cI cZ (MS.s_co (MS.s_sa ((mAct y b).2) (NX (2 * MS.sa (mAct y b).2 + m0))) (MS.co ((mAct y b).2)))) H := va_eqP (wM_s_co q cI cZ (MS.s_sa ((mAct y b).2) (NX (2 * MS.sa (mAct y b).2 + m0))) (MS.co ((mAct y b).2))) hP
              have hD : va_D A (wM q cI cZ (MS.s_co (MS.s_sa ((mAct y b).2) (NX (2 * MS.sa (mAct y b).2 + m0))) (MS.co ((mAct y b).2)))) := va_eqD (wM_s_co q cI cZ (MS.s_sa ((mAct y b).2) (NX (2 * MS.sa (mAct y b).2 + m0))) (MS.co ((mAct y b).2))) hD
              refine lv_iload_n hx hb dX4_doTick_184 rfl (lv_at hl 0 rfl) ?_
              exact xr_i hx hb hr hlk (u := MS.s_co (MS.s_sa ((mAct y b).2) (NX (2 * MS.sa (mAct y b).2 + m0))) (MS.co ((mAct y b).2))) (⟨by rw [show (mTick y m0 b).1 = (mAct y b).1 from rfl, e6, zI_nI], by unfold mTick; rw [if_neg (by omega)]⟩) hP hK hD hS dX4_doTick_185
            · refine lv_iconst (v := nI 2) hx hb dX4_doTick_173 (by decide) ?_
              refine lv_goto (tgt := 181) hx hb dX4_doTick_174 (by decide) ?_
              refine va_put (D := (dC, dI)) (ci := 4) (v := .int (nI 2)) (ty := .int) (C := RX4) (T := TX4) (N := 23) hx hb hts inX4 tyX4 tyX4_ok nmX4 hown hK hP hD hS 0 rfl rfl 20 (by decide) (hts _ tw_592) (fun _ h9 => h9) rfl (by decide +kernel) rfl rfl (Nat.le_of_ble_eq_true rfl) dX4_doTick_181 (fun H locs hP hD hS => ?_)
              have hP : va_P (dC, dI) vwCl (wM q cI cZ (MS.s_co (MS.s_sa ((mAct y b).2) (NX (2 * MS.sa (mAct y b).2 + m0))) 2)) H := va_eqP (wM_s_co q cI cZ (MS.s_sa ((mAct y b).2) (NX (2 * MS.sa (mAct y b).2 + m0))) 2) hP
              have hD : va_D A (wM q cI cZ (MS.s_co (MS.s_sa ((mAct y b).2) (NX (2 * MS.sa (mAct y b).2 + m0))) 2)) := va_eqD (wM_s_co q cI cZ (MS.s_sa ((mAct y b).2) (NX (2 * MS.sa (mAct y b).2 + m0))) 2) hD
              refine lv_iload_n hx hb dX4_doTick_184 rfl (lv_at hl 0 rfl) ?_
              exact xr_i hx hb hr hlk (u := MS.s_co (MS.s_sa ((mAct y b).2) (NX (2 * MS.sa (mAct y b).2 + m0))) 2) (⟨by rw [show (mTick y m0 b).1 = (mAct y b).1 from rfl, e6, zI_nI], by unfold mTick; rw [if_pos (by assumption)]⟩) hP hK hD hS dX4_doTick_185
        · refine lv_aload_n hx hb dX4_doTick_95 rfl (lv_at hl 1 rfl) ?_
          refine lv_iconst (v := nI 1) hx hb dX4_doTick_96 (by decide) ?_
          refine va_put (D := (dC, dI)) (ci := 4) (v := .int (nI 1)) (ty := .int) (C := RX4) (T := TX4) (N := 23) hx hb hts inX4 tyX4 tyX4_ok nmX4 hown hK hP hD hS 0 rfl rfl 19 (by decide) (hts _ tw_591) (fun _ h9 => h9) rfl (by decide +kernel) rfl rfl (Nat.le_of_ble_eq_true rfl) dX4_doTick_97 (fun H locs hP hD hS => ?_)
          have hP : va_P (dC, dI) vwCl (wM q cI cZ (MS.s_cr y 1)) H := va_eqP (wM_s_cr q cI cZ y 1) hP
          have hD : va_D A (wM q cI cZ (MS.s_cr y 1)) := va_eqD (wM_s_cr q cI cZ y 1) hD
          refine lv_goto (tgt := 153) hx hb dX4_doTick_100 (by decide) ?_
          have e6 : (mAct y b).1 = -1 := by unfold mAct; rw [if_neg (by assumption), if_neg (by assumption), if_neg (fun z => by omega), if_pos (by assumption)]
          have e5 : MS.s_cr y 1 = (mAct y b).2 := by unfold mAct; rw [if_neg (by assumption), if_neg (by assumption), if_neg (fun z => by omega), if_pos (by assumption)]
          rw [e5] at hP hD
          have hA2 : (mAct y b).2.sa < 16 := by rw [(mAct_sa y b).1]; exact a_sa
          have hC2 : (mAct y b).2.co < 16 := (mAct_MB h2 hM0).2.2.2.2.1
          have hN2 := NX_lt (2 * (mAct y b).2.sa + m0)
          refine lv_aload_n hx hb dX4_doTick_153 rfl (lv_at hl 1 rfl) ?_
          refine lv_aload_n hx hb dX4_doTick_154 rfl (lv_at hl 1 rfl) ?_
          refine va_get (D := (dC, dI)) (ci := 4) (v := .int (nI (MS.sa ((mAct y b).2)))) (C := RX4) (T := TX4) (N := 23) hx hb hts inX4 hown hK hP 0 rfl rfl 21 (by decide) (hts _ tw_593) (fun _ h9 => h9) rfl dX4_doTick_155 ?_
          refine lv_iload_n hx hb dX4_doTick_158 rfl (lv_at hl 2 rfl) ?_
          refine xc_Si (As := [.int (nI (MS.sa ((mAct y b).2))), .int (nI m0)]) (wr := wM q cI cZ ((mAct y b).2)) ⟨hx, hb, hml, hown, hts⟩ (c_ScanRowsModel_next l dC dI q cI cZ H.size (MS.sa ((mAct y b).2)) m0 (by omega) (by omega)) (cwS 2 hts (gS tw_763 tw_764 tw_5 tw_765) rfl rfl rfl (by decide +kernel) ⟨Nat.le_of_ble_eq_true rfl, Nat.le_of_ble_eq_true rfl⟩) rfl hl.1 rfl (Nat.le_of_ble_eq_true rfl) dX4_doTick_159 ⟨Nat.zero_le _, Nat.zero_le _⟩ hP hD hK hS hA [] [0, 1, 2, 3, 4, 5, 6, 7, 8, 9, 10, 11, 12, 13] rfl rfl (by decide) (by decide) (by decide) [0, 1] rfl eT_M (trivial) (fun r_19 u_20 H locs w_21 hP hD hS => ?_)
          obtain rfl : r_19 = nI (NX (2 * MS.sa (mAct y b).2 + m0)) := w_21
          have hP : va_P (dC, dI) vwCl (wM q cI cZ ((mAct y b).2)) H := hP
          have hD : va_D A (wM q cI cZ ((mAct y b).2)) := hD
          refine va_put (D := (dC, dI)) (ci := 4) (v := .int (nI (NX (2 * MS.sa (mAct y b).2 + m0)))) (ty := .int) (C := RX4) (T := TX4) (N := 23) hx hb hts inX4 tyX4 tyX4_ok nmX4 hown hK hP hD hS 0 rfl rfl 21 (by decide) (hts _ tw_593) (fun _ h9 => h9) rfl (by decide +kernel) rfl rfl (Nat.le_of_ble_eq_true rfl) dX4_doTick_162 (fun H locs hP hD hS => ?_)
          have hP : va_P (dC, dI) vwCl (wM q cI cZ (MS.s_sa ((mAct y b).2) (NX (2 * MS.sa (mAct y b).2 + m0)))) H := va_eqP (wM_s_sa q cI cZ ((mAct y b).2) (NX (2 * MS.sa (mAct y b).2 + m0))) hP
          have hD : va_D A (wM q cI cZ (MS.s_sa ((mAct y b).2) (NX (2 * MS.sa (mAct y b).2 + m0)))) := va_eqD (wM_s_sa q cI cZ ((mAct y b).2) (NX (2 * MS.sa (mAct y b).2 + m0))) hD
          refine lv_aload_n hx hb dX4_doTick_165 rfl (lv_at hl 1 rfl) ?_
          refine lv_aload_n hx hb dX4_doTick_166 rfl (lv_at hl 1 rfl) ?_
          refine va_get (D := (dC, dI)) (ci := 4) (v := .int (nI (NX (2 * MS.sa (mAct y b).2 + m0)))) (C := RX4) (T := TX4) (N := 23) hx hb hts inX4 hown hK hP 0 rfl rfl 21 (by decide) (hts _ tw_593) (fun _ h9 => h9) rfl dX4_doTick_167 ?_
          refine xn_zne (tgt := 177) hx hb (by omega) dX4_doTick_170 (by decide) (fun c_22 => ?_) (fun c_22 => ?_)
          · refine lv_aload_n hx hb dX4_doTick_177 rfl (lv_at hl 1 rfl) ?_
            refine va_get (D := (dC, dI)) (ci := 4) (v := .int (nI (MS.co ((mAct y b).2)))) (C := RX4) (T := TX4) (N := 23) hx hb hts inX4 hown hK hP 0 rfl rfl 20 (by decide) (hts _ tw_592) (fun _ h9 => h9) rfl dX4_doTick_178 ?_
            refine va_put (D := (dC, dI)) (ci := 4) (v := .int (nI (MS.co ((mAct y b).2)))) (ty := .int) (C := RX4) (T := TX4) (N := 23) hx hb hts inX4 tyX4 tyX4_ok nmX4 hown hK hP hD hS 0 rfl rfl 20 (by decide) (hts _ tw_592) (fun _ h9 => h9) rfl (by decide +kernel) rfl rfl (Nat.le_of_ble_eq_true rfl) dX4_doTick_181 (fun H locs hP hD hS => ?_)
            have hP : va_P (dC, dI) vwCl (wM q cI cZ (MS.s_co (MS.s_sa ((mAct y b).2) (NX (2 * MS.sa (mAct y b).2 + m0))) (MS.co ((mAct y b).2)))) H := va_eqP (wM_s_co q cI cZ (MS.s_sa ((mAct y b).2) (NX (2 * MS.sa (mAct y b).2 + m0))) (MS.co ((mAct y b).2))) hP
            have hD : va_D A (wM q cI cZ (MS.s_co (MS.s_sa ((mAct y b).2) (NX (2 * MS.sa (mAct y b).2 + m0))) (MS.co ((mAct y b).2)))) := va_eqD (wM_s_co q cI cZ (MS.s_sa ((mAct y b).2) (NX (2 * MS.sa (mAct y b).2 + m0))) (MS.co ((mAct y b).2))) hD
            refine lv_iload_n hx hb dX4_doTick_184 rfl (lv_at hl 0 rfl) ?_
            exact xr_i hx hb hr hlk (u := MS.s_co (MS.s_sa ((mAct y b).2) (NX (2 * MS.sa (mAct y b).2 + m0))) (MS.co ((mAct y b).2))) (⟨by rw [show (mTick y m0 b).1 = (mAct y b).1 from rfl, e6], by unfold mTick; rw [if_neg (by omega)]⟩) hP hK hD hS dX4_doTick_185
          · refine lv_iconst (v := nI 2) hx hb dX4_doTick_173 (by decide) ?_
            refine lv_goto (tgt := 181) hx hb dX4_doTick_174 (by decide) ?_
            refine va_put (D := (dC, dI)) (ci := 4) (v := .int (nI 2)) (ty := .int) (C := RX4) (T := TX4) (N := 23) hx hb hts inX4 tyX4 tyX4_ok nmX4 hown hK hP hD hS 0 rfl rfl 20 (by decide) (hts _ tw_592) (fun _ h9 => h9) rfl (by decide +kernel) rfl rfl (Nat.le_of_ble_eq_true rfl) dX4_doTick_181 (fun H locs hP hD hS => ?_)
            have hP : va_P (dC, dI) vwCl (wM q cI cZ (MS.s_co (MS.s_sa ((mAct y b).2) (NX (2 * MS.sa (mAct y b).2 + m0))) 2)) H := va_eqP (wM_s_co q cI cZ (MS.s_sa ((mAct y b).2) (NX (2 * MS.sa (mAct y b).2 + m0))) 2) hP
            have hD : va_D A (wM q cI cZ (MS.s_co (MS.s_sa ((mAct y b).2) (NX (2 * MS.sa (mAct y b).2 + m0))) 2)) := va_eqD (wM_s_co q cI cZ (MS.s_sa ((mAct y b).2) (NX (2 * MS.sa (mAct y b).2 + m0))) 2) hD
            refine lv_iload_n hx hb dX4_doTick_184 rfl (lv_at hl 0 rfl) ?_
            exact xr_i hx hb hr hlk (u := MS.s_co (MS.s_sa ((mAct y b).2) (NX (2 * MS.sa (mAct y b).2 + m0))) 2) (⟨by rw [show (mTick y m0 b).1 = (mAct y b).1 from rfl, e6], by unfold mTick; rw [if_pos (by assumption)]⟩) hP hK hD hS dX4_doTick_185
      · refine lv_aload_n hx hb dX4_doTick_43 rfl (lv_at hl 1 rfl) ?_
        refine va_get (D := (dC, dI)) (ci := 4) (v := .int (nI (MS.co y))) (C := RX4) (T := TX4) (N := 23) hx hb hts inX4 hown hK hP 0 rfl rfl 20 (by decide) (hts _ tw_592) (fun _ h9 => h9) rfl dX4_doTick_44 ?_
        refine lv_iconst (v := nI 2) hx hb dX4_doTick_47 (by decide) ?_
        refine xn_cge (tgt := 86) hx hb (by omega) (by omega) dX4_doTick_48 (by decide) (fun c_23 => ?_) (fun c_23 => ?_)
        · refine lv_aload_n hx hb dX4_doTick_86 rfl (lv_at hl 1 rfl) ?_
          refine va_get (D := (dC, dI)) (ci := 4) (v := .int (nI (MS.sa y))) (C := RX4) (T := TX4) (N := 23) hx hb hts inX4 hown hK hP 0 rfl rfl 21 (by decide) (hts _ tw_593) (fun _ h9 => h9) rfl dX4_doTick_87 ?_
          refine lv_bipush (v := nI 10) hx hb dX4_doTick_90 (by decide) ?_
          refine xn_cne (tgt := 103) hx hb (by omega) (by omega) dX4_doTick_92 (by decide) (fun c_24 => ?_) (fun c_24 => ?_)
          · refine lv_aload_n hx hb dX4_doTick_103 rfl (lv_at hl 1 rfl) ?_
            refine va_get (D := (dC, dI)) (ci := 4) (v := .int (nI (MS.sa y))) (C := RX4) (T := TX4) (N := 23) hx hb hts inX4 hown hK hP 0 rfl rfl 21 (by decide) (hts _ tw_593) (fun _ h9 => h9) rfl dX4_doTick_104 ?_
            refine lv_bipush (v := nI 11) hx hb dX4_doTick_107 (by decide) ?_
            refine xn_cne (tgt := 136) hx hb (by omega) (by omega) dX4_doTick_109 (by decide) (fun c_25 => ?_) (fun c_25 => ?_)
            · refine lv_aload_n hx hb dX4_doTick_136 rfl (lv_at hl 1 rfl) ?_
              refine va_get (D := (dC, dI)) (ci := 4) (v := .int (nI (MS.sa y))) (C := RX4) (T := TX4) (N := 23) hx hb hts inX4 hown hK hP 0 rfl rfl 21 (by decide) (hts _ tw_593) (fun _ h9 => h9) rfl dX4_doTick_137 ?_
              refine lv_bipush (v := nI 15) hx hb dX4_doTick_140 (by decide) ?_
              refine xn_cne (tgt := 153) hx hb (by omega) (by omega) dX4_doTick_142 (by decide) (fun c_26 => ?_) (fun c_26 => ?_)
              · have e6 : (mAct y b).1 = -1 := by unfold mAct; rw [if_neg (by assumption), if_neg (by assumption), if_neg (fun z => by omega), if_neg (by assumption), if_neg (by assumption), if_neg (by assumption)]
                have e5 : y = (mAct y b).2 := by unfold mAct; rw [if_neg (by assumption), if_neg (by assumption), if_neg (fun z => by omega), if_neg (by assumption), if_neg (by assumption), if_neg (by assumption)]
                rw [e5] at hP hD
                have hA2 : (mAct y b).2.sa < 16 := by rw [(mAct_sa y b).1]; exact a_sa
                have hC2 : (mAct y b).2.co < 16 := (mAct_MB h2 hM0).2.2.2.2.1
                have hN2 := NX_lt (2 * (mAct y b).2.sa + m0)
                refine lv_aload_n hx hb dX4_doTick_153 rfl (lv_at hl 1 rfl) ?_
                refine lv_aload_n hx hb dX4_doTick_154 rfl (lv_at hl 1 rfl) ?_
                refine va_get (D := (dC, dI)) (ci := 4) (v := .int (nI (MS.sa ((mAct y b).2)))) (C := RX4) (T := TX4) (N := 23) hx hb hts inX4 hown hK hP 0 rfl rfl 21 (by decide) (hts _ tw_593) (fun _ h9 => h9) rfl dX4_doTick_155 ?_
                refine lv_iload_n hx hb dX4_doTick_158 rfl (lv_at hl 2 rfl) ?_
                refine xc_Si (As := [.int (nI (MS.sa ((mAct y b).2))), .int (nI m0)]) (wr := wM q cI cZ ((mAct y b).2)) ⟨hx, hb, hml, hown, hts⟩ (c_ScanRowsModel_next l dC dI q cI cZ H.size (MS.sa ((mAct y b).2)) m0 (by omega) (by omega)) (cwS 2 hts (gS tw_763 tw_764 tw_5 tw_765) rfl rfl rfl (by decide +kernel) ⟨Nat.le_of_ble_eq_true rfl, Nat.le_of_ble_eq_true rfl⟩) rfl hl.1 rfl (Nat.le_of_ble_eq_true rfl) dX4_doTick_159 ⟨Nat.zero_le _, Nat.zero_le _⟩ hP hD hK hS hA [] [0, 1, 2, 3, 4, 5, 6, 7, 8, 9, 10, 11, 12, 13] rfl rfl (by decide) (by decide) (by decide) [0, 1] rfl eT_M (trivial) (fun r_27 u_28 H locs w_29 hP hD hS => ?_)
                obtain rfl : r_27 = nI (NX (2 * MS.sa (mAct y b).2 + m0)) := w_29
                have hP : va_P (dC, dI) vwCl (wM q cI cZ ((mAct y b).2)) H := hP
                have hD : va_D A (wM q cI cZ ((mAct y b).2)) := hD
                refine va_put (D := (dC, dI)) (ci := 4) (v := .int (nI (NX (2 * MS.sa (mAct y b).2 + m0)))) (ty := .int) (C := RX4) (T := TX4) (N := 23) hx hb hts inX4 tyX4 tyX4_ok nmX4 hown hK hP hD hS 0 rfl rfl 21 (by decide) (hts _ tw_593) (fun _ h9 => h9) rfl (by decide +kernel) rfl rfl (Nat.le_of_ble_eq_true rfl) dX4_doTick_162 (fun H locs hP hD hS => ?_)
                have hP : va_P (dC, dI) vwCl (wM q cI cZ (MS.s_sa ((mAct y b).2) (NX (2 * MS.sa (mAct y b).2 + m0)))) H := va_eqP (wM_s_sa q cI cZ ((mAct y b).2) (NX (2 * MS.sa (mAct y b).2 + m0))) hP
                have hD : va_D A (wM q cI cZ (MS.s_sa ((mAct y b).2) (NX (2 * MS.sa (mAct y b).2 + m0)))) := va_eqD (wM_s_sa q cI cZ ((mAct y b).2) (NX (2 * MS.sa (mAct y b).2 + m0))) hD
                refine lv_aload_n hx hb dX4_doTick_165 rfl (lv_at hl 1 rfl) ?_
                refine lv_aload_n hx hb dX4_doTick_166 rfl (lv_at hl 1 rfl) ?_
                refine va_get (D := (dC, dI)) (ci := 4) (v := .int (nI (NX (2 * MS.sa (mAct y b).2 + m0)))) (C := RX4) (T := TX4) (N := 23) hx hb hts inX4 hown hK hP 0 rfl rfl 21 (by decide) (hts _ tw_593) (fun _ h9 => h9) rfl dX4_doTick_167 ?_
                refine xn_zne (tgt := 177) hx hb (by omega) dX4_doTick_170 (by decide) (fun c_30 => ?_) (fun c_30 => ?_)
                · refine lv_aload_n hx hb dX4_doTick_177 rfl (lv_at hl 1 rfl) ?_
                  refine va_get (D := (dC, dI)) (ci := 4) (v := .int (nI (MS.co ((mAct y b).2)))) (C := RX4) (T := TX4) (N := 23) hx hb hts inX4 hown hK hP 0 rfl rfl 20 (by decide) (hts _ tw_592) (fun _ h9 => h9) rfl dX4_doTick_178 ?_
                  refine va_put (D := (dC, dI)) (ci := 4) (v := .int (nI (MS.co ((mAct y b).2)))) (ty := .int) (C := RX4) (T := TX4) (N := 23) hx hb hts inX4 tyX4 tyX4_ok nmX4 hown hK hP hD hS 0 rfl rfl 20 (by decide) (hts _ tw_592) (fun _ h9 => h9) rfl (by decide +kernel) rfl rfl (Nat.le_of_ble_eq_true rfl) dX4_doTick_181 (fun H locs hP hD hS => ?_)
                  have hP : va_P (dC, dI) vwCl (wM q cI cZ (MS.s_co (MS.s_sa ((mAct y b).2) (NX (2 * MS.sa (mAct y b).2 + m0))) (MS.co ((mAct y b).2)))) H := va_eqP (wM_s_co q cI cZ (MS.s_sa ((mAct y b).2) (NX (2 * MS.sa (mAct y b).2 + m0))) (MS.co ((mAct y b).2))) hP
                  have hD : va_D A (wM q cI cZ (MS.s_co (MS.s_sa ((mAct y b).2) (NX (2 * MS.sa (mAct y b).2 + m0))) (MS.co ((mAct y b).2)))) := va_eqD (wM_s_co q cI cZ (MS.s_sa ((mAct y b).2) (NX (2 * MS.sa (mAct y b).2 + m0))) (MS.co ((mAct y b).2))) hD
                  refine lv_iload_n hx hb dX4_doTick_184 rfl (lv_at hl 0 rfl) ?_
                  exact xr_i hx hb hr hlk (u := MS.s_co (MS.s_sa ((mAct y b).2) (NX (2 * MS.sa (mAct y b).2 + m0))) (MS.co ((mAct y b).2))) (⟨by rw [show (mTick y m0 b).1 = (mAct y b).1 from rfl, e6], by unfold mTick; rw [if_neg (by omega)]⟩) hP hK hD hS dX4_doTick_185
                · refine lv_iconst (v := nI 2) hx hb dX4_doTick_173 (by decide) ?_
                  refine lv_goto (tgt := 181) hx hb dX4_doTick_174 (by decide) ?_
                  refine va_put (D := (dC, dI)) (ci := 4) (v := .int (nI 2)) (ty := .int) (C := RX4) (T := TX4) (N := 23) hx hb hts inX4 tyX4 tyX4_ok nmX4 hown hK hP hD hS 0 rfl rfl 20 (by decide) (hts _ tw_592) (fun _ h9 => h9) rfl (by decide +kernel) rfl rfl (Nat.le_of_ble_eq_true rfl) dX4_doTick_181 (fun H locs hP hD hS => ?_)
                  have hP : va_P (dC, dI) vwCl (wM q cI cZ (MS.s_co (MS.s_sa ((mAct y b).2) (NX (2 * MS.sa (mAct y b).2 + m0))) 2)) H := va_eqP (wM_s_co q cI cZ (MS.s_sa ((mAct y b).2) (NX (2 * MS.sa (mAct y b).2 + m0))) 2) hP
                  have hD : va_D A (wM q cI cZ (MS.s_co (MS.s_sa ((mAct y b).2) (NX (2 * MS.sa (mAct y b).2 + m0))) 2)) := va_eqD (wM_s_co q cI cZ (MS.s_sa ((mAct y b).2) (NX (2 * MS.sa (mAct y b).2 + m0))) 2) hD
                  refine lv_iload_n hx hb dX4_doTick_184 rfl (lv_at hl 0 rfl) ?_
                  exact xr_i hx hb hr hlk (u := MS.s_co (MS.s_sa ((mAct y b).2) (NX (2 * MS.sa (mAct y b).2 + m0))) 2) (⟨by rw [show (mTick y m0 b).1 = (mAct y b).1 from rfl, e6], by unfold mTick; rw [if_pos (by assumption)]⟩) hP hK hD hS dX4_doTick_185
              · refine lv_aload_n hx hb dX4_doTick_145 rfl (lv_at hl 1 rfl) ?_
                refine lv_aload_n hx hb dX4_doTick_146 rfl (lv_at hl 1 rfl) ?_
                refine va_get (D := (dC, dI)) (ci := 4) (v := .int (nI (MS.cr y))) (C := RX4) (T := TX4) (N := 23) hx hb hts inX4 hown hK hP 0 rfl rfl 19 (by decide) (hts _ tw_591) (fun _ h9 => h9) rfl dX4_doTick_147 ?_
                refine va_put (D := (dC, dI)) (ci := 4) (v := .int (nI (MS.cr y))) (ty := .int) (C := RX4) (T := TX4) (N := 23) hx hb hts inX4 tyX4 tyX4_ok nmX4 hown hK hP hD hS 0 rfl rfl 20 (by decide) (hts _ tw_592) (fun _ h9 => h9) rfl (by decide +kernel) rfl rfl (Nat.le_of_ble_eq_true rfl) dX4_doTick_150 (fun H locs hP hD hS => ?_)
                have hP : va_P (dC, dI) vwCl (wM q cI cZ (MS.s_co y (MS.cr y))) H := va_eqP (wM_s_co q cI cZ y (MS.cr y)) hP
                have hD : va_D A (wM q cI cZ (MS.s_co y (MS.cr y))) := va_eqD (wM_s_co q cI cZ y (MS.cr y)) hD
                have e6 : (mAct y b).1 = -1 := by unfold mAct; rw [if_neg (by assumption), if_neg (by assumption), if_neg (fun z => by omega), if_neg (by assumption), if_neg (by assumption), if_pos (by assumption)]
                have e5 : MS.s_co y (MS.cr y) = (mAct y b).2 := by unfold mAct; rw [if_neg (by assumption), if_neg (by assumption), if_neg (fun z => by omega), if_neg (by assumption), if_neg (by assumption), if_pos (by assumption)]
                rw [e5] at hP hD
                have hA2 : (mAct y b).2.sa < 16 := by rw [(mAct_sa y b).1]; exact a_sa
                have hC2 : (mAct y b).2.co < 16 := (mAct_MB h2 hM0).2.2.2.2.1
                have hN2 := NX_lt (2 * (mAct y b).2.sa + m0)
                refine lv_aload_n hx hb dX4_doTick_153 rfl (lv_at hl 1 rfl) ?_
                refine lv_aload_n hx hb dX4_doTick_154 rfl (lv_at hl 1 rfl) ?_
                refine va_get (D := (dC, dI)) (ci := 4) (v := .int (nI (MS.sa ((mAct y b).2)))) (C := RX4) (T := TX4) (N := 23) hx hb hts inX4 hown hK hP 0 rfl rfl 21 (by decide) (hts _ tw_593) (fun _ h9 => h9) rfl dX4_doTick_155 ?_
                refine lv_iload_n hx hb dX4_doTick_158 rfl (lv_at hl 2 rfl) ?_
                refine xc_Si (As := [.int (nI (MS.sa ((mAct y b).2))), .int (nI m0)]) (wr := wM q cI cZ ((mAct y b).2)) ⟨hx, hb, hml, hown, hts⟩ (c_ScanRowsModel_next l dC dI q cI cZ H.size (MS.sa ((mAct y b).2)) m0 (by omega) (by omega)) (cwS 2 hts (gS tw_763 tw_764 tw_5 tw_765) rfl rfl rfl (by decide +kernel) ⟨Nat.le_of_ble_eq_true rfl, Nat.le_of_ble_eq_true rfl⟩) rfl hl.1 rfl (Nat.le_of_ble_eq_true rfl) dX4_doTick_159 ⟨Nat.zero_le _, Nat.zero_le _⟩ hP hD hK hS hA [] [0, 1, 2, 3, 4, 5, 6, 7, 8, 9, 10, 11, 12, 13] rfl rfl (by decide) (by decide) (by decide) [0, 1] rfl eT_M (trivial) (fun r_31 u_32 H locs w_33 hP hD hS => ?_)
                obtain rfl : r_31 = nI (NX (2 * MS.sa (mAct y b).2 + m0)) := w_33
                have hP : va_P (dC, dI) vwCl (wM q cI cZ ((mAct y b).2)) H := hP
                have hD : va_D A (wM q cI cZ ((mAct y b).2)) := hD
                refine va_put (D := (dC, dI)) (ci := 4) (v := .int (nI (NX (2 * MS.sa (mAct y b).2 + m0)))) (ty := .int) (C := RX4) (T := TX4) (N := 23) hx hb hts inX4 tyX4 tyX4_ok nmX4 hown hK hP hD hS 0 rfl rfl 21 (by decide) (hts _ tw_593) (fun _ h9 => h9) rfl (by decide +kernel) rfl rfl (Nat.le_of_ble_eq_true rfl) dX4_doTick_162 (fun H locs hP hD hS => ?_)
                have hP : va_P (dC, dI) vwCl (wM q cI cZ (MS.s_sa ((mAct y b).2) (NX (2 * MS.sa (mAct y b).2 + m0)))) H := va_eqP (wM_s_sa q cI cZ ((mAct y b).2) (NX (2 * MS.sa (mAct y b).2 + m0))) hP
                have hD : va_D A (wM q cI cZ (MS.s_sa ((mAct y b).2) (NX (2 * MS.sa (mAct y b).2 + m0)))) := va_eqD (wM_s_sa q cI cZ ((mAct y b).2) (NX (2 * MS.sa (mAct y b).2 + m0))) hD
                refine lv_aload_n hx hb dX4_doTick_165 rfl (lv_at hl 1 rfl) ?_
                refine lv_aload_n hx hb dX4_doTick_166 rfl (lv_at hl 1 rfl) ?_
                refine va_get (D := (dC, dI)) (ci := 4) (v := .int (nI (NX (2 * MS.sa (mAct y b).2 + m0)))) (C := RX4) (T := TX4) (N := 23) hx hb hts inX4 hown hK hP 0 rfl rfl 21 (by decide) (hts _ tw_593) (fun _ h9 => h9) rfl dX4_doTick_167 ?_
                refine xn_zne (tgt := 177) hx hb (by omega) dX4_doTick_170 (by decide) (fun c_34 => ?_) (fun c_34 => ?_)
                · refine lv_aload_n hx hb dX4_doTick_177 rfl (lv_at hl 1 rfl) ?_
                  refine va_get (D := (dC, dI)) (ci := 4) (v := .int (nI (MS.co ((mAct y b).2)))) (C := RX4) (T := TX4) (N := 23) hx hb hts inX4 hown hK hP 0 rfl rfl 20 (by decide) (hts _ tw_592) (fun _ h9 => h9) rfl dX4_doTick_178 ?_
                  refine va_put (D := (dC, dI)) (ci := 4) (v := .int (nI (MS.co ((mAct y b).2)))) (ty := .int) (C := RX4) (T := TX4) (N := 23) hx hb hts inX4 tyX4 tyX4_ok nmX4 hown hK hP hD hS 0 rfl rfl 20 (by decide) (hts _ tw_592) (fun _ h9 => h9) rfl (by decide +kernel) rfl rfl (Nat.le_of_ble_eq_true rfl) dX4_doTick_181 (fun H locs hP hD hS => ?_)
                  have hP : va_P (dC, dI) vwCl (wM q cI cZ (MS.s_co (MS.s_sa ((mAct y b).2) (NX (2 * MS.sa (mAct y b).2 + m0))) (MS.co ((mAct y b).2)))) H := va_eqP (wM_s_co q cI cZ (MS.s_sa ((mAct y b).2) (NX (2 * MS.sa (mAct y b).2 + m0))) (MS.co ((mAct y b).2))) hP
                  have hD : va_D A (wM q cI cZ (MS.s_co (MS.s_sa ((mAct y b).2) (NX (2 * MS.sa (mAct y b).2 + m0))) (MS.co ((mAct y b).2)))) := va_eqD (wM_s_co q cI cZ (MS.s_sa ((mAct y b).2) (NX (2 * MS.sa (mAct y b).2 + m0))) (MS.co ((mAct y b).2))) hD
                  refine lv_iload_n hx hb dX4_doTick_184 rfl (lv_at hl 0 rfl) ?_
                  exact xr_i hx hb hr hlk (u := MS.s_co (MS.s_sa ((mAct y b).2) (NX (2 * MS.sa (mAct y b).2 + m0))) (MS.co ((mAct y b).2))) (⟨by rw [show (mTick y m0 b).1 = (mAct y b).1 from rfl, e6], by unfold mTick; rw [if_neg (by omega)]⟩) hP hK hD hS dX4_doTick_185
                · refine lv_iconst (v := nI 2) hx hb dX4_doTick_173 (by decide) ?_
                  refine lv_goto (tgt := 181) hx hb dX4_doTick_174 (by decide) ?_
                  refine va_put (D := (dC, dI)) (ci := 4) (v := .int (nI 2)) (ty := .int) (C := RX4) (T := TX4) (N := 23) hx hb hts inX4 tyX4 tyX4_ok nmX4 hown hK hP hD hS 0 rfl rfl 20 (by decide) (hts _ tw_592) (fun _ h9 => h9) rfl (by decide +kernel) rfl rfl (Nat.le_of_ble_eq_true rfl) dX4_doTick_181 (fun H locs hP hD hS => ?_)
                  have hP : va_P (dC, dI) vwCl (wM q cI cZ (MS.s_co (MS.s_sa ((mAct y b).2) (NX (2 * MS.sa (mAct y b).2 + m0))) 2)) H := va_eqP (wM_s_co q cI cZ (MS.s_sa ((mAct y b).2) (NX (2 * MS.sa (mAct y b).2 + m0))) 2) hP
                  have hD : va_D A (wM q cI cZ (MS.s_co (MS.s_sa ((mAct y b).2) (NX (2 * MS.sa (mAct y b).2 + m0))) 2)) := va_eqD (wM_s_co q cI cZ (MS.s_sa ((mAct y b).2) (NX (2 * MS.sa (mAct y b).2 + m0))) 2) hD
                  refine lv_iload_n hx hb dX4_doTick_184 rfl (lv_at hl 0 rfl) ?_
                  exact xr_i hx hb hr hlk (u := MS.s_co (MS.s_sa ((mAct y b).2) (NX (2 * MS.sa (mAct y b).2 + m0))) 2) (⟨by rw [show (mTick y m0 b).1 = (mAct y b).1 from rfl, e6], by unfold mTick; rw [if_pos (by assumption)]⟩) hP hK hD hS dX4_doTick_185
            · refine lv_aload_n hx hb dX4_doTick_112 rfl (lv_at hl 1 rfl) ?_
              refine va_get (D := (dC, dI)) (ci := 4) (v := .int (nI (MS.cr y))) (C := RX4) (T := TX4) (N := 23) hx hb hts inX4 hown hK hP 0 rfl rfl 19 (by decide) (hts _ tw_591) (fun _ h9 => h9) rfl dX4_doTick_113 ?_
              refine lv_iconst (v := nI 1) hx hb dX4_doTick_116 (by decide) ?_
              refine lv_iand hx hb dX4_doTick_117 ?_
              refine xt_i (show ((nI (MS.cr y)) &&& (nI 1)) = nI (y.cr % 2) from cr_and a_cr) ?_
              refine lv_istore_n (lv' := [(3, .int (nI (y.cr % 2))), (0, .ref (q 0)), (1, .int (nI m0)), (2, .int (nI b))]) hx hb dX4_doTick_118 rfl hl (by decide) rfl (fun ls hl => ?_)
              refine lv_aload_n hx hb dX4_doTick_119 rfl (lv_at hl 1 rfl) ?_
              refine lv_aload_n hx hb dX4_doTick_120 rfl (lv_at hl 1 rfl) ?_
              refine va_get (D := (dC, dI)) (ci := 4) (v := .int (nI (MS.cr y))) (C := RX4) (T := TX4) (N := 23) hx hb hts inX4 hown hK hP 0 rfl rfl 19 (by decide) (hts _ tw_591) (fun _ h9 => h9) rfl dX4_doTick_121 ?_
              refine lv_iconst (v := nI 1) hx hb dX4_doTick_124 (by decide) ?_
              refine lv_ishr hx hb dX4_doTick_125 ?_
              refine lv_iload_n hx hb dX4_doTick_126 rfl (lv_at hl 3 rfl) ?_
              refine lv_iconst (v := nI 3) hx hb dX4_doTick_127 (by decide) ?_
              refine lv_ishl hx hb dX4_doTick_128 ?_
              refine lv_ior hx hb dX4_doTick_129 ?_
              refine xt_i (show (((nI (MS.cr y)) >>> ((nI 1) &&& 31)) ||| ((nI b) <<< ((nI 3) &&& 31))) = nI (y.cr / 2 + b * 8) from cr_sh2 a_cr h2) ?_
              refine va_put (D := (dC, dI)) (ci := 4) (v := .int (nI (y.cr / 2 + b * 8))) (ty := .int) (C := RX4) (T := TX4) (N := 23) hx hb hts inX4 tyX4 tyX4_ok nmX4 hown hK hP hD hS 0 rfl rfl 19 (by decide) (hts _ tw_591) (fun _ h9 => h9) rfl (by decide +kernel) rfl rfl (Nat.le_of_ble_eq_true rfl) dX4_doTick_130 (fun H locs hP hD hS => ?_)
              have hP : va_P (dC, dI) vwCl (wM q cI cZ (MS.s_cr y (y.cr / 2 + b * 8))) H := va_eqP (wM_s_cr q cI cZ y (y.cr / 2 + b * 8)) hP
              have hD : va_D A (wM q cI cZ (MS.s_cr y (y.cr / 2 + b * 8))) := va_eqD (wM_s_cr q cI cZ y (y.cr / 2 + b * 8)) hD
              refine lv_goto (tgt := 153) hx hb dX4_doTick_133 (by decide) ?_
              have e6 : (mAct y b).1 = ((y.cr % 2 : Nat) : Int) := by unfold mAct; rw [if_neg (by assumption), if_neg (by assumption), if_neg (fun z => by omega), if_neg (by assumption), if_pos (by assumption)]
              have e5 : MS.s_cr y (y.cr / 2 + b * 8) = (mAct y b).2 := by unfold mAct; rw [if_neg (by assumption), if_neg (by assumption), if_neg (fun z => by omega), if_neg (by assumption), if_pos (by assumption)]
              rw [e5] at hP hD
              have hA2 : (mAct y b).2.sa < 16 := by rw [(mAct_sa y b).1]; exact a_sa
              have hC2 : (mAct y b).2.co < 16 := (mAct_MB h2 hM0).2.2.2.2.1
              have hN2 := NX_lt (2 * (mAct y b).2.sa + m0)
              refine lv_aload_n hx hb dX4_doTick_153 rfl (lv_at hl 1 rfl) ?_
              refine lv_aload_n hx hb dX4_doTick_154 rfl (lv_at hl 1 rfl) ?_
              refine va_get (D := (dC, dI)) (ci := 4) (v := .int (nI (MS.sa ((mAct y b).2)))) (C := RX4) (T := TX4) (N := 23) hx hb hts inX4 hown hK hP 0 rfl rfl 21 (by decide) (hts _ tw_593) (fun _ h9 => h9) rfl dX4_doTick_155 ?_
              refine lv_iload_n hx hb dX4_doTick_158 rfl (lv_at hl 2 rfl) ?_
              refine xc_Si (As := [.int (nI (MS.sa ((mAct y b).2))), .int (nI m0)]) (wr := wM q cI cZ ((mAct y b).2)) ⟨hx, hb, hml, hown, hts⟩ (c_ScanRowsModel_next l dC dI q cI cZ H.size (MS.sa ((mAct y b).2)) m0 (by omega) (by omega)) (cwS 2 hts (gS tw_763 tw_764 tw_5 tw_765) rfl rfl rfl (by decide +kernel) ⟨Nat.le_of_ble_eq_true rfl, Nat.le_of_ble_eq_true rfl⟩) rfl hl.1 rfl (Nat.le_of_ble_eq_true rfl) dX4_doTick_159 ⟨Nat.zero_le _, Nat.zero_le _⟩ hP hD hK hS hA [] [0, 1, 2, 3, 4, 5, 6, 7, 8, 9, 10, 11, 12, 13] rfl rfl (by decide) (by decide) (by decide) [0, 1] rfl eT_M (trivial) (fun r_35 u_36 H locs w_37 hP hD hS => ?_)
              obtain rfl : r_35 = nI (NX (2 * MS.sa (mAct y b).2 + m0)) := w_37
              have hP : va_P (dC, dI) vwCl (wM q cI cZ ((mAct y b).2)) H := hP
              have hD : va_D A (wM q cI cZ ((mAct y b).2)) := hD
              refine va_put (D := (dC, dI)) (ci := 4) (v := .int (nI (NX (2 * MS.sa (mAct y b).2 + m0)))) (ty := .int) (C := RX4) (T := TX4) (N := 23) hx hb hts inX4 tyX4 tyX4_ok nmX4 hown hK hP hD hS 0 rfl rfl 21 (by decide) (hts _ tw_593) (fun _ h9 => h9) rfl (by decide +kernel) rfl rfl (Nat.le_of_ble_eq_true rfl) dX4_doTick_162 (fun H locs hP hD hS => ?_)
              have hP : va_P (dC, dI) vwCl (wM q cI cZ (MS.s_sa ((mAct y b).2) (NX (2 * MS.sa (mAct y b).2 + m0)))) H := va_eqP (wM_s_sa q cI cZ ((mAct y b).2) (NX (2 * MS.sa (mAct y b).2 + m0))) hP
              have hD : va_D A (wM q cI cZ (MS.s_sa ((mAct y b).2) (NX (2 * MS.sa (mAct y b).2 + m0)))) := va_eqD (wM_s_sa q cI cZ ((mAct y b).2) (NX (2 * MS.sa (mAct y b).2 + m0))) hD
              refine lv_aload_n hx hb dX4_doTick_165 rfl (lv_at hl 1 rfl) ?_
              refine lv_aload_n hx hb dX4_doTick_166 rfl (lv_at hl 1 rfl) ?_
              refine va_get (D := (dC, dI)) (ci := 4) (v := .int (nI (NX (2 * MS.sa (mAct y b).2 + m0)))) (C := RX4) (T := TX4) (N := 23) hx hb hts inX4 hown hK hP 0 rfl rfl 21 (by decide) (hts _ tw_593) (fun _ h9 => h9) rfl dX4_doTick_167 ?_
              refine xn_zne (tgt := 177) hx hb (by omega) dX4_doTick_170 (by decide) (fun c_38 => ?_) (fun c_38 => ?_)
              · refine lv_aload_n hx hb dX4_doTick_177 rfl (lv_at hl 1 rfl) ?_
                refine va_get (D := (dC, dI)) (ci := 4) (v := .int (nI (MS.co ((mAct y b).2)))) (C := RX4) (T := TX4) (N := 23) hx hb hts inX4 hown hK hP 0 rfl rfl 20 (by decide) (hts _ tw_592) (fun _ h9 => h9) rfl dX4_doTick_178 ?_
                refine va_put (D := (dC, dI)) (ci := 4) (v := .int (nI (MS.co ((mAct y b).2)))) (ty := .int) (C := RX4) (T := TX4) (N := 23) hx hb hts inX4 tyX4 tyX4_ok nmX4 hown hK hP hD hS 0 rfl rfl 20 (by decide) (hts _ tw_592) (fun _ h9 => h9) rfl (by decide +kernel) rfl rfl (Nat.le_of_ble_eq_true rfl) dX4_doTick_181 (fun H locs hP hD hS => ?_)
                have hP : va_P (dC, dI) vwCl (wM q cI cZ (MS.s_co (MS.s_sa ((mAct y b).2) (NX (2 * MS.sa (mAct y b).2 + m0))) (MS.co ((mAct y b).2)))) H := va_eqP (wM_s_co q cI cZ (MS.s_sa ((mAct y b).2) (NX (2 * MS.sa (mAct y b).2 + m0))) (MS.co ((mAct y b).2))) hP
                have hD : va_D A (wM q cI cZ (MS.s_co (MS.s_sa ((mAct y b).2) (NX (2 * MS.sa (mAct y b).2 + m0))) (MS.co ((mAct y b).2)))) := va_eqD (wM_s_co q cI cZ (MS.s_sa ((mAct y b).2) (NX (2 * MS.sa (mAct y b).2 + m0))) (MS.co ((mAct y b).2))) hD
                refine lv_iload_n hx hb dX4_doTick_184 rfl (lv_at hl 0 rfl) ?_
                exact xr_i hx hb hr hlk (u := MS.s_co (MS.s_sa ((mAct y b).2) (NX (2 * MS.sa (mAct y b).2 + m0))) (MS.co ((mAct y b).2))) (⟨by rw [show (mTick y m0 b).1 = (mAct y b).1 from rfl, e6, zI_nI], by unfold mTick; rw [if_neg (by omega)]⟩) hP hK hD hS dX4_doTick_185
              · refine lv_iconst (v := nI 2) hx hb dX4_doTick_173 (by decide) ?_
                refine lv_goto (tgt := 181) hx hb dX4_doTick_174 (by decide) ?_
                refine va_put (D := (dC, dI)) (ci := 4) (v := .int (nI 2)) (ty := .int) (C := RX4) (T := TX4) (N := 23) hx hb hts inX4 tyX4 tyX4_ok nmX4 hown hK hP hD hS 0 rfl rfl 20 (by decide) (hts _ tw_592) (fun _ h9 => h9) rfl (by decide +kernel) rfl rfl (Nat.le_of_ble_eq_true rfl) dX4_doTick_181 (fun H locs hP hD hS => ?_)
                have hP : va_P (dC, dI) vwCl (wM q cI cZ (MS.s_co (MS.s_sa ((mAct y b).2) (NX (2 * MS.sa (mAct y b).2 + m0))) 2)) H := va_eqP (wM_s_co q cI cZ (MS.s_sa ((mAct y b).2) (NX (2 * MS.sa (mAct y b).2 + m0))) 2) hP
                have hD : va_D A (wM q cI cZ (MS.s_co (MS.s_sa ((mAct y b).2) (NX (2 * MS.sa (mAct y b).2 + m0))) 2)) := va_eqD (wM_s_co q cI cZ (MS.s_sa ((mAct y b).2) (NX (2 * MS.sa (mAct y b).2 + m0))) 2) hD
                refine lv_iload_n hx hb dX4_doTick_184 rfl (lv_at hl 0 rfl) ?_
                exact xr_i hx hb hr hlk (u := MS.s_co (MS.s_sa ((mAct y b).2) (NX (2 * MS.sa (mAct y b).2 + m0))) 2) (⟨by rw [show (mTick y m0 b).1 = (mAct y b).1 from rfl, e6, zI_nI], by unfold mTick; rw [if_pos (by assumption)]⟩) hP hK hD hS dX4_doTick_185
          · refine lv_aload_n hx hb dX4_doTick_95 rfl (lv_at hl 1 rfl) ?_
            refine lv_iconst (v := nI 1) hx hb dX4_doTick_96 (by decide) ?_
            refine va_put (D := (dC, dI)) (ci := 4) (v := .int (nI 1)) (ty := .int) (C := RX4) (T := TX4) (N := 23) hx hb hts inX4 tyX4 tyX4_ok nmX4 hown hK hP hD hS 0 rfl rfl 19 (by decide) (hts _ tw_591) (fun _ h9 => h9) rfl (by decide +kernel) rfl rfl (Nat.le_of_ble_eq_true rfl) dX4_doTick_97 (fun H locs hP hD hS => ?_)
            have hP : va_P (dC, dI) vwCl (wM q cI cZ (MS.s_cr y 1)) H := va_eqP (wM_s_cr q cI cZ y 1) hP
            have hD : va_D A (wM q cI cZ (MS.s_cr y 1)) := va_eqD (wM_s_cr q cI cZ y 1) hD
            refine lv_goto (tgt := 153) hx hb dX4_doTick_100 (by decide) ?_
            have e6 : (mAct y b).1 = -1 := by unfold mAct; rw [if_neg (by assumption), if_neg (by assumption), if_neg (fun z => by omega), if_pos (by assumption)]
            have e5 : MS.s_cr y 1 = (mAct y b).2 := by unfold mAct; rw [if_neg (by assumption), if_neg (by assumption), if_neg (fun z => by omega), if_pos (by assumption)]
            rw [e5] at hP hD
            have hA2 : (mAct y b).2.sa < 16 := by rw [(mAct_sa y b).1]; exact a_sa
            have hC2 : (mAct y b).2.co < 16 := (mAct_MB h2 hM0).2.2.2.2.1
            have hN2 := NX_lt (2 * (mAct y b).2.sa + m0)
            refine lv_aload_n hx hb dX4_doTick_153 rfl (lv_at hl 1 rfl) ?_
            refine lv_aload_n hx hb dX4_doTick_154 rfl (lv_at hl 1 rfl) ?_
            refine va_get (D := (dC, dI)) (ci := 4) (v := .int (nI (MS.sa ((mAct y b).2)))) (C := RX4) (T := TX4) (N := 23) hx hb hts inX4 hown hK hP 0 rfl rfl 21 (by decide) (hts _ tw_593) (fun _ h9 => h9) rfl dX4_doTick_155 ?_
            refine lv_iload_n hx hb dX4_doTick_158 rfl (lv_at hl 2 rfl) ?_
            refine xc_Si (As := [.int (nI (MS.sa ((mAct y b).2))), .int (nI m0)]) (wr := wM q cI cZ ((mAct y b).2)) ⟨hx, hb, hml, hown, hts⟩ (c_ScanRowsModel_next l dC dI q cI cZ H.size (MS.sa ((mAct y b).2)) m0 (by omega) (by omega)) (cwS 2 hts (gS tw_763 tw_764 tw_5 tw_765) rfl rfl rfl (by decide +kernel) ⟨Nat.le_of_ble_eq_true rfl, Nat.le_of_ble_eq_true rfl⟩) rfl hl.1 rfl (Nat.le_of_ble_eq_true rfl) dX4_doTick_159 ⟨Nat.zero_le _, Nat.zero_le _⟩ hP hD hK hS hA [] [0, 1, 2, 3, 4, 5, 6, 7, 8, 9, 10, 11, 12, 13] rfl rfl (by decide) (by decide) (by decide) [0, 1] rfl eT_M (trivial) (fun r_39 u_40 H locs w_41 hP hD hS => ?_)
            obtain rfl : r_39 = nI (NX (2 * MS.sa (mAct y b).2 + m0)) := w_41
            have hP : va_P (dC, dI) vwCl (wM q cI cZ ((mAct y b).2)) H := hP
            have hD : va_D A (wM q cI cZ ((mAct y b).2)) := hD
            refine va_put (D := (dC, dI)) (ci := 4) (v := .int (nI (NX (2 * MS.sa (mAct y b).2 + m0)))) (ty := .int) (C := RX4) (T := TX4) (N := 23) hx hb hts inX4 tyX4 tyX4_ok nmX4 hown hK hP hD hS 0 rfl rfl 21 (by decide) (hts _ tw_593) (fun _ h9 => h9) rfl (by decide +kernel) rfl rfl (Nat.le_of_ble_eq_true rfl) dX4_doTick_162 (fun H locs hP hD hS => ?_)
            have hP : va_P (dC, dI) vwCl (wM q cI cZ (MS.s_sa ((mAct y b).2) (NX (2 * MS.sa (mAct y b).2 + m0)))) H := va_eqP (wM_s_sa q cI cZ ((mAct y b).2) (NX (2 * MS.sa (mAct y b).2 + m0))) hP
            have hD : va_D A (wM q cI cZ (MS.s_sa ((mAct y b).2) (NX (2 * MS.sa (mAct y b).2 + m0)))) := va_eqD (wM_s_sa q cI cZ ((mAct y b).2) (NX (2 * MS.sa (mAct y b).2 + m0))) hD
            refine lv_aload_n hx hb dX4_doTick_165 rfl (lv_at hl 1 rfl) ?_
            refine lv_aload_n hx hb dX4_doTick_166 rfl (lv_at hl 1 rfl) ?_
            refine va_get (D := (dC, dI)) (ci := 4) (v := .int (nI (NX (2 * MS.sa (mAct y b).2 + m0)))) (C := RX4) (T := TX4) (N := 23) hx hb hts inX4 hown hK hP 0 rfl rfl 21 (by decide) (hts _ tw_593) (fun _ h9 => h9) rfl dX4_doTick_167 ?_
            refine xn_zne (tgt := 177) hx hb (by omega) dX4_doTick_170 (by decide) (fun c_42 => ?_) (fun c_42 => ?_)
            · refine lv_aload_n hx hb dX4_doTick_177 rfl (lv_at hl 1 rfl) ?_
              refine va_get (D := (dC, dI)) (ci := 4) (v := .int (nI (MS.co ((mAct y b).2)))) (C := RX4) (T := TX4) (N := 23) hx hb hts inX4 hown hK hP 0 rfl rfl 20 (by decide) (hts _ tw_592) (fun _ h9 => h9) rfl dX4_doTick_178 ?_
              refine va_put (D := (dC, dI)) (ci := 4) (v := .int (nI (MS.co ((mAct y b).2)))) (ty := .int) (C := RX4) (T := TX4) (N := 23) hx hb hts inX4 tyX4 tyX4_ok nmX4 hown hK hP hD hS 0 rfl rfl 20 (by decide) (hts _ tw_592) (fun _ h9 => h9) rfl (by decide +kernel) rfl rfl (Nat.le_of_ble_eq_true rfl) dX4_doTick_181 (fun H locs hP hD hS => ?_)
              have hP : va_P (dC, dI) vwCl (wM q cI cZ (MS.s_co (MS.s_sa ((mAct y b).2) (NX (2 * MS.sa (mAct y b).2 + m0))) (MS.co ((mAct y b).2)))) H := va_eqP (wM_s_co q cI cZ (MS.s_sa ((mAct y b).2) (NX (2 * MS.sa (mAct y b).2 + m0))) (MS.co ((mAct y b).2))) hP
              have hD : va_D A (wM q cI cZ (MS.s_co (MS.s_sa ((mAct y b).2) (NX (2 * MS.sa (mAct y b).2 + m0))) (MS.co ((mAct y b).2)))) := va_eqD (wM_s_co q cI cZ (MS.s_sa ((mAct y b).2) (NX (2 * MS.sa (mAct y b).2 + m0))) (MS.co ((mAct y b).2))) hD
              refine lv_iload_n hx hb dX4_doTick_184 rfl (lv_at hl 0 rfl) ?_
              exact xr_i hx hb hr hlk (u := MS.s_co (MS.s_sa ((mAct y b).2) (NX (2 * MS.sa (mAct y b).2 + m0))) (MS.co ((mAct y b).2))) (⟨by rw [show (mTick y m0 b).1 = (mAct y b).1 from rfl, e6], by unfold mTick; rw [if_neg (by omega)]⟩) hP hK hD hS dX4_doTick_185
            · refine lv_iconst (v := nI 2) hx hb dX4_doTick_173 (by decide) ?_
              refine lv_goto (tgt := 181) hx hb dX4_doTick_174 (by decide) ?_
              refine va_put (D := (dC, dI)) (ci := 4) (v := .int (nI 2)) (ty := .int) (C := RX4) (T := TX4) (N := 23) hx hb hts inX4 tyX4 tyX4_ok nmX4 hown hK hP hD hS 0 rfl rfl 20 (by decide) (hts _ tw_592) (fun _ h9 => h9) rfl (by decide +kernel) rfl rfl (Nat.le_of_ble_eq_true rfl) dX4_doTick_181 (fun H locs hP hD hS => ?_)
              have hP : va_P (dC, dI) vwCl (wM q cI cZ (MS.s_co (MS.s_sa ((mAct y b).2) (NX (2 * MS.sa (mAct y b).2 + m0))) 2)) H := va_eqP (wM_s_co q cI cZ (MS.s_sa ((mAct y b).2) (NX (2 * MS.sa (mAct y b).2 + m0))) 2) hP
              have hD : va_D A (wM q cI cZ (MS.s_co (MS.s_sa ((mAct y b).2) (NX (2 * MS.sa (mAct y b).2 + m0))) 2)) := va_eqD (wM_s_co q cI cZ (MS.s_sa ((mAct y b).2) (NX (2 * MS.sa (mAct y b).2 + m0))) 2) hD
              refine lv_iload_n hx hb dX4_doTick_184 rfl (lv_at hl 0 rfl) ?_
              exact xr_i hx hb hr hlk (u := MS.s_co (MS.s_sa ((mAct y b).2) (NX (2 * MS.sa (mAct y b).2 + m0))) 2) (⟨by rw [show (mTick y m0 b).1 = (mAct y b).1 from rfl, e6], by unfold mTick; rw [if_pos (by assumption)]⟩) hP hK hD hS dX4_doTick_185
        · refine lv_iconst (v := nI 0) hx hb dX4_doTick_51 (by decide) ?_
          refine lv_istore (lv' := [(4, .int (nI 0)), (3, .int (zI (-1))), (0, .ref (q 0)), (1, .int (nI m0)), (2, .int (nI b))]) hx hb dX4_doTick_52 hl (by decide) rfl (fun ls hl => ?_)
          have hP : va_P (dC, dI) vwCl (wM q cI cZ (MS.s_he y (MS.he y))) H := va_eqP (wM_r_he q cI cZ y) hP
          have hD : va_D A (wM q cI cZ (MS.s_he y (MS.he y))) := va_eqD (wM_r_he q cI cZ y) hD
          have L54 : ∀ (fuel : Nat) (i : Nat) (g : Nat → Nat), (i ≤ y.cn) → (g = cpN y.ir y.he i) → y.cn - i < fuel → ∀ (H : Heap) (locs : List Loc), va_P (dC, dI) vwCl (wM q cI cZ (MS.s_he y g)) H → va_D A (wM q cI cZ (MS.s_he y g)) → va_S A s.heap H locs → ∀ ls : Array Slot, lv_has ls 5 [(0, .ref (q 0)), (1, .int (nI m0)), (2, .int (nI b)), (3, .int (zI (-1))), (4, .int (nI i))] → W p l e ({ frames := 2, cells := 0, slots := 0, locals := 49 } : Room) s m ([.ref (q 0), .int (nI m0), .int (nI b)] : List Value).toArray below meth c H locs 0 0 (MQ below (va_Qi (fun (x : Int32) (u : MS) => x = zI (mTick y m0 b).1 ∧ u = (mTick y m0 b).2) (fun (u : MS) => cB (dC, dI) vwCl [(cI, .int), (cZ, .boolean)] (wM q cI cZ u) (A)) (A)) ([.ref (q 0), .int (nI m0), .int (nI b)] : List Value).toArray s 0 0 A) (F0 m 54 ls []) := by
            intro fuel
            induction fuel with
            | zero => intro i g i1 e1 hm H locs hP hD hS ls hl; exact absurd hm (Nat.not_lt_zero _)
            | succ fuel ih54 =>
              intro i g i1 e1 hm H locs hP hD hS ls hl
              refine lv_iload hx hb dX4_doTick_54 (lv_at hl 4 rfl) ?_
              refine lv_aload_n hx hb dX4_doTick_56 rfl (lv_at hl 0 rfl) ?_
              refine va_get (D := (dC, dI)) (ci := 4) (v := .int (nI (MS.cn y))) (C := RX4) (T := TX4) (N := 23) hx hb hts inX4 hown hK hP 0 rfl rfl 16 (by decide) (hts _ tw_588) (fun _ h9 => h9) rfl dX4_doTick_57 ?_
              refine xn_cge (tgt := 83) hx hb (by omega) (by omega) dX4_doTick_60 (by decide) (fun c_43 => ?_) (fun c_43 => ?_)
              · refine lv_goto (tgt := 153) hx hb dX4_doTick_83 (by decide) ?_
                have e6 : (mAct y b).1 = -1 := by unfold mAct; rw [if_neg (by assumption), if_neg (by assumption), if_pos ⟨by assumption, by omega⟩]
                have e5 : MS.s_he y g = (mAct y b).2 := by unfold mAct; rw [if_neg (by assumption), if_neg (by assumption), if_pos ⟨by assumption, by omega⟩, e1, show i = y.cn by omega]
                rw [e5] at hP hD
                have hA2 : (mAct y b).2.sa < 16 := by rw [(mAct_sa y b).1]; exact a_sa
                have hC2 : (mAct y b).2.co < 16 := (mAct_MB h2 hM0).2.2.2.2.1
                have hN2 := NX_lt (2 * (mAct y b).2.sa + m0)
                refine lv_aload_n hx hb dX4_doTick_153 rfl (lv_at hl 0 rfl) ?_
                refine lv_aload_n hx hb dX4_doTick_154 rfl (lv_at hl 0 rfl) ?_
                refine va_get (D := (dC, dI)) (ci := 4) (v := .int (nI (MS.sa ((mAct y b).2)))) (C := RX4) (T := TX4) (N := 23) hx hb hts inX4 hown hK hP 0 rfl rfl 21 (by decide) (hts _ tw_593) (fun _ h9 => h9) rfl dX4_doTick_155 ?_
                refine lv_iload_n hx hb dX4_doTick_158 rfl (lv_at hl 1 rfl) ?_
                refine xc_Si (As := [.int (nI (MS.sa ((mAct y b).2))), .int (nI m0)]) (wr := wM q cI cZ ((mAct y b).2)) ⟨hx, hb, hml, hown, hts⟩ (c_ScanRowsModel_next l dC dI q cI cZ H.size (MS.sa ((mAct y b).2)) m0 (by omega) (by omega)) (cwS 2 hts (gS tw_763 tw_764 tw_5 tw_765) rfl rfl rfl (by decide +kernel) ⟨Nat.le_of_ble_eq_true rfl, Nat.le_of_ble_eq_true rfl⟩) rfl hl.1 rfl (Nat.le_of_ble_eq_true rfl) dX4_doTick_159 ⟨Nat.zero_le _, Nat.zero_le _⟩ hP hD hK hS hA [] [0, 1, 2, 3, 4, 5, 6, 7, 8, 9, 10, 11, 12, 13] rfl rfl (by decide) (by decide) (by decide) [0, 1] rfl eT_M (trivial) (fun r_44 u_45 H locs w_46 hP hD hS => ?_)
                obtain rfl : r_44 = nI (NX (2 * MS.sa (mAct y b).2 + m0)) := w_46
                have hP : va_P (dC, dI) vwCl (wM q cI cZ ((mAct y b).2)) H := hP
                have hD : va_D A (wM q cI cZ ((mAct y b).2)) := hD
                refine va_put (D := (dC, dI)) (ci := 4) (v := .int (nI (NX (2 * MS.sa (mAct y b).2 + m0)))) (ty := .int) (C := RX4) (T := TX4) (N := 23) hx hb hts inX4 tyX4 tyX4_ok nmX4 hown hK hP hD hS 0 rfl rfl 21 (by decide) (hts _ tw_593) (fun _ h9 => h9) rfl (by decide +kernel) rfl rfl (Nat.le_of_ble_eq_true rfl) dX4_doTick_162 (fun H locs hP hD hS => ?_)
                have hP : va_P (dC, dI) vwCl (wM q cI cZ (MS.s_sa ((mAct y b).2) (NX (2 * MS.sa (mAct y b).2 + m0)))) H := va_eqP (wM_s_sa q cI cZ ((mAct y b).2) (NX (2 * MS.sa (mAct y b).2 + m0))) hP
                have hD : va_D A (wM q cI cZ (MS.s_sa ((mAct y b).2) (NX (2 * MS.sa (mAct y b).2 + m0)))) := va_eqD (wM_s_sa q cI cZ ((mAct y b).2) (NX (2 * MS.sa (mAct y b).2 + m0))) hD
                refine lv_aload_n hx hb dX4_doTick_165 rfl (lv_at hl 0 rfl) ?_
                refine lv_aload_n hx hb dX4_doTick_166 rfl (lv_at hl 0 rfl) ?_
                refine va_get (D := (dC, dI)) (ci := 4) (v := .int (nI (NX (2 * MS.sa (mAct y b).2 + m0)))) (C := RX4) (T := TX4) (N := 23) hx hb hts inX4 hown hK hP 0 rfl rfl 21 (by decide) (hts _ tw_593) (fun _ h9 => h9) rfl dX4_doTick_167 ?_
                refine xn_zne (tgt := 177) hx hb (by omega) dX4_doTick_170 (by decide) (fun c_47 => ?_) (fun c_47 => ?_)
                · refine lv_aload_n hx hb dX4_doTick_177 rfl (lv_at hl 0 rfl) ?_
                  refine va_get (D := (dC, dI)) (ci := 4) (v := .int (nI (MS.co ((mAct y b).2)))) (C := RX4) (T := TX4) (N := 23) hx hb hts inX4 hown hK hP 0 rfl rfl 20 (by decide) (hts _ tw_592) (fun _ h9 => h9) rfl dX4_doTick_178 ?_
                  refine va_put (D := (dC, dI)) (ci := 4) (v := .int (nI (MS.co ((mAct y b).2)))) (ty := .int) (C := RX4) (T := TX4) (N := 23) hx hb hts inX4 tyX4 tyX4_ok nmX4 hown hK hP hD hS 0 rfl rfl 20 (by decide) (hts _ tw_592) (fun _ h9 => h9) rfl (by decide +kernel) rfl rfl (Nat.le_of_ble_eq_true rfl) dX4_doTick_181 (fun H locs hP hD hS => ?_)
                  have hP : va_P (dC, dI) vwCl (wM q cI cZ (MS.s_co (MS.s_sa ((mAct y b).2) (NX (2 * MS.sa (mAct y b).2 + m0))) (MS.co ((mAct y b).2)))) H := va_eqP (wM_s_co q cI cZ (MS.s_sa ((mAct y b).2) (NX (2 * MS.sa (mAct y b).2 + m0))) (MS.co ((mAct y b).2))) hP
                  have hD : va_D A (wM q cI cZ (MS.s_co (MS.s_sa ((mAct y b).2) (NX (2 * MS.sa (mAct y b).2 + m0))) (MS.co ((mAct y b).2)))) := va_eqD (wM_s_co q cI cZ (MS.s_sa ((mAct y b).2) (NX (2 * MS.sa (mAct y b).2 + m0))) (MS.co ((mAct y b).2))) hD
                  refine lv_iload_n hx hb dX4_doTick_184 rfl (lv_at hl 3 rfl) ?_
                  exact xr_i hx hb hr hlk (u := MS.s_co (MS.s_sa ((mAct y b).2) (NX (2 * MS.sa (mAct y b).2 + m0))) (MS.co ((mAct y b).2))) (⟨by rw [show (mTick y m0 b).1 = (mAct y b).1 from rfl, e6], by unfold mTick; rw [if_neg (by omega)]⟩) hP hK hD hS dX4_doTick_185
                · refine lv_iconst (v := nI 2) hx hb dX4_doTick_173 (by decide) ?_
                  refine lv_goto (tgt := 181) hx hb dX4_doTick_174 (by decide) ?_
                  refine va_put (D := (dC, dI)) (ci := 4) (v := .int (nI 2)) (ty := .int) (C := RX4) (T := TX4) (N := 23) hx hb hts inX4 tyX4 tyX4_ok nmX4 hown hK hP hD hS 0 rfl rfl 20 (by decide) (hts _ tw_592) (fun _ h9 => h9) rfl (by decide +kernel) rfl rfl (Nat.le_of_ble_eq_true rfl) dX4_doTick_181 (fun H locs hP hD hS => ?_)
                  have hP : va_P (dC, dI) vwCl (wM q cI cZ (MS.s_co (MS.s_sa ((mAct y b).2) (NX (2 * MS.sa (mAct y b).2 + m0))) 2)) H := va_eqP (wM_s_co q cI cZ (MS.s_sa ((mAct y b).2) (NX (2 * MS.sa (mAct y b).2 + m0))) 2) hP
                  have hD : va_D A (wM q cI cZ (MS.s_co (MS.s_sa ((mAct y b).2) (NX (2 * MS.sa (mAct y b).2 + m0))) 2)) := va_eqD (wM_s_co q cI cZ (MS.s_sa ((mAct y b).2) (NX (2 * MS.sa (mAct y b).2 + m0))) 2) hD
                  refine lv_iload_n hx hb dX4_doTick_184 rfl (lv_at hl 3 rfl) ?_
                  exact xr_i hx hb hr hlk (u := MS.s_co (MS.s_sa ((mAct y b).2) (NX (2 * MS.sa (mAct y b).2 + m0))) 2) (⟨by rw [show (mTick y m0 b).1 = (mAct y b).1 from rfl, e6], by unfold mTick; rw [if_pos (by assumption)]⟩) hP hK hD hS dX4_doTick_185
              · refine lv_aload_n hx hb dX4_doTick_63 rfl (lv_at hl 0 rfl) ?_
                refine va_get (D := (dC, dI)) (ci := 4) (v := .ref (q 10)) (C := RX4) (T := TX4) (N := 23) hx hb hts inX4 hown hK hP 0 rfl rfl 14 (by decide) (hts _ tw_586) (fun _ h9 => h9) rfl dX4_doTick_64 ?_
                refine lv_iload hx hb dX4_doTick_67 (lv_at hl 4 rfl) ?_
                refine lv_aload_n hx hb dX4_doTick_69 rfl (lv_at hl 0 rfl) ?_
                refine va_get (D := (dC, dI)) (ci := 4) (v := .ref (q 11)) (C := RX4) (T := TX4) (N := 23) hx hb hts inX4 hown hK hP 0 rfl rfl 15 (by decide) (hts _ tw_587) (fun _ h9 => h9) rfl dX4_doTick_70 ?_
                refine lv_iload hx hb dX4_doTick_73 (lv_at hl 4 rfl) ?_
                refine xa_ild hx hb hK hP 11 0 rfl rfl (v := nI ((MS.ir y) i)) (by omega) (by decide) rfl dX4_doTick_75 ?_
                refine xa_ist hx hb hK hP hD hS 10 0 rfl rfl (by omega) (by decide) (aN_up _ _ _) dX4_doTick_76 (fun H locs hP hD hS => ?_)
                have hP : va_P (dC, dI) vwCl (wM q cI cZ (MS.s_he (MS.s_he y g) (va_up g i ((MS.ir y) i)))) H := va_eqP (wM_s_he q cI cZ (MS.s_he y g) (va_up g i ((MS.ir y) i))) hP
                have hD : va_D A (wM q cI cZ (MS.s_he (MS.s_he y g) (va_up g i ((MS.ir y) i)))) := va_eqD (wM_s_he q cI cZ (MS.s_he y g) (va_up g i ((MS.ir y) i))) hD
                refine lv_iinc (v := nI (i + 1)) (lv' := [(4, .int (nI (i + 1))), (0, .ref (q 0)), (1, .int (nI m0)), (2, .int (nI b)), (3, .int (zI (-1)))]) hx hb dX4_doTick_77 hl (k := 4) rfl (nI_1 _) (by decide) rfl (fun ls hl => ?_)
                refine lv_goto (tgt := 54) hx hb dX4_doTick_80 (by decide) ?_
                exact ih54 (i + 1) (va_up g i ((MS.ir y) i)) (by omega) (by rw [e1, ← cpN_s]) (by omega) H locs hP hD hS ls (lv_sub hl [1, 2, 3, 4, 0] rfl)
          exact L54 ((y.cn - 0) + 1) 0 (MS.he y) (Nat.zero_le _) ((cpN_0 _ _).symm) (Nat.lt_succ_self _) H locs hP hD hS ls (lv_sub hl [2, 3, 4, 1, 0] rfl)
    · refine lv_aload_n hx hb dX4_doTick_25 rfl (lv_at hl 1 rfl) ?_
      refine lv_iload_n hx hb dX4_doTick_26 rfl (lv_at hl 3 rfl) ?_
      refine xc_Vi (As := [.int (nI b)]) (wr := []) ⟨hx, hb, hml, hown, hts⟩ (c_ScanRowsModel_shiftData l dC dI q cI cZ H.size y b hM0) (cwV 1 hts (gV tw_759 tw_761 sw_37 tw_5 tw_762) rfl rfl rfl (by decide +kernel) ⟨Nat.le_of_ble_eq_true rfl, Nat.le_of_ble_eq_true rfl⟩) rfl hl.1 rfl (Nat.le_of_ble_eq_true rfl) dX4_doTick_27 ⟨Nat.zero_le _, Nat.zero_le _⟩ hP hD hK hS hA [0, 1, 2, 3, 4, 5, 6, 7, 8, 9, 10, 11, 12, 13] [] rfl rfl (by decide) (by decide) (by decide) [0, 1] rfl (q0 := 0) rfl rfl rfl eT_M (trivial) (fun r_48 u_49 H locs w_50 hP hD hS => ?_)
      obtain ⟨rfl, rfl⟩ := w_50
      have hP : va_P (dC, dI) vwCl (wM q cI cZ ((mShD y b).2)) H := hP
      have hD : va_D A (wM q cI cZ ((mShD y b).2)) := hD
      refine lv_istore_n (lv' := [(3, .int (nI ((mShD y b).1))), (0, .ref (q 0)), (1, .int (nI m0)), (2, .int (nI b))]) hx hb dX4_doTick_30 rfl hl (by decide) rfl (fun ls hl => ?_)
      refine lv_goto (tgt := 153) hx hb dX4_doTick_31 (by decide) ?_
      have e6 : (mAct y b).1 = (((mShD y b).1 : Nat) : Int) := by unfold mAct; rw [if_neg (by assumption), if_pos (by assumption)]
      have e5 : (mShD y b).2 = (mAct y b).2 := by unfold mAct; rw [if_neg (by assumption), if_pos (by assumption)]
      rw [e5] at hP hD
      have hA2 : (mAct y b).2.sa < 16 := by rw [(mAct_sa y b).1]; exact a_sa
      have hC2 : (mAct y b).2.co < 16 := (mAct_MB h2 hM0).2.2.2.2.1
      have hN2 := NX_lt (2 * (mAct y b).2.sa + m0)
      refine lv_aload_n hx hb dX4_doTick_153 rfl (lv_at hl 1 rfl) ?_
      refine lv_aload_n hx hb dX4_doTick_154 rfl (lv_at hl 1 rfl) ?_
      refine va_get (D := (dC, dI)) (ci := 4) (v := .int (nI (MS.sa ((mAct y b).2)))) (C := RX4) (T := TX4) (N := 23) hx hb hts inX4 hown hK hP 0 rfl rfl 21 (by decide) (hts _ tw_593) (fun _ h9 => h9) rfl dX4_doTick_155 ?_
      refine lv_iload_n hx hb dX4_doTick_158 rfl (lv_at hl 2 rfl) ?_
      refine xc_Si (As := [.int (nI (MS.sa ((mAct y b).2))), .int (nI m0)]) (wr := wM q cI cZ ((mAct y b).2)) ⟨hx, hb, hml, hown, hts⟩ (c_ScanRowsModel_next l dC dI q cI cZ H.size (MS.sa ((mAct y b).2)) m0 (by omega) (by omega)) (cwS 2 hts (gS tw_763 tw_764 tw_5 tw_765) rfl rfl rfl (by decide +kernel) ⟨Nat.le_of_ble_eq_true rfl, Nat.le_of_ble_eq_true rfl⟩) rfl hl.1 rfl (Nat.le_of_ble_eq_true rfl) dX4_doTick_159 ⟨Nat.zero_le _, Nat.zero_le _⟩ hP hD hK hS hA [] [0, 1, 2, 3, 4, 5, 6, 7, 8, 9, 10, 11, 12, 13] rfl rfl (by decide) (by decide) (by decide) [0, 1] rfl eT_M (trivial) (fun r_51 u_52 H locs w_53 hP hD hS => ?_)
      obtain rfl : r_51 = nI (NX (2 * MS.sa (mAct y b).2 + m0)) := w_53
      have hP : va_P (dC, dI) vwCl (wM q cI cZ ((mAct y b).2)) H := hP
      have hD : va_D A (wM q cI cZ ((mAct y b).2)) := hD
      refine va_put (D := (dC, dI)) (ci := 4) (v := .int (nI (NX (2 * MS.sa (mAct y b).2 + m0)))) (ty := .int) (C := RX4) (T := TX4) (N := 23) hx hb hts inX4 tyX4 tyX4_ok nmX4 hown hK hP hD hS 0 rfl rfl 21 (by decide) (hts _ tw_593) (fun _ h9 => h9) rfl (by decide +kernel) rfl rfl (Nat.le_of_ble_eq_true rfl) dX4_doTick_162 (fun H locs hP hD hS => ?_)
      have hP : va_P (dC, dI) vwCl (wM q cI cZ (MS.s_sa ((mAct y b).2) (NX (2 * MS.sa (mAct y b).2 + m0)))) H := va_eqP (wM_s_sa q cI cZ ((mAct y b).2) (NX (2 * MS.sa (mAct y b).2 + m0))) hP
      have hD : va_D A (wM q cI cZ (MS.s_sa ((mAct y b).2) (NX (2 * MS.sa (mAct y b).2 + m0)))) := va_eqD (wM_s_sa q cI cZ ((mAct y b).2) (NX (2 * MS.sa (mAct y b).2 + m0))) hD
      refine lv_aload_n hx hb dX4_doTick_165 rfl (lv_at hl 1 rfl) ?_
      refine lv_aload_n hx hb dX4_doTick_166 rfl (lv_at hl 1 rfl) ?_
      refine va_get (D := (dC, dI)) (ci := 4) (v := .int (nI (NX (2 * MS.sa (mAct y b).2 + m0)))) (C := RX4) (T := TX4) (N := 23) hx hb hts inX4 hown hK hP 0 rfl rfl 21 (by decide) (hts _ tw_593) (fun _ h9 => h9) rfl dX4_doTick_167 ?_
      refine xn_zne (tgt := 177) hx hb (by omega) dX4_doTick_170 (by decide) (fun c_54 => ?_) (fun c_54 => ?_)
      · refine lv_aload_n hx hb dX4_doTick_177 rfl (lv_at hl 1 rfl) ?_
        refine va_get (D := (dC, dI)) (ci := 4) (v := .int (nI (MS.co ((mAct y b).2)))) (C := RX4) (T := TX4) (N := 23) hx hb hts inX4 hown hK hP 0 rfl rfl 20 (by decide) (hts _ tw_592) (fun _ h9 => h9) rfl dX4_doTick_178 ?_
        refine va_put (D := (dC, dI)) (ci := 4) (v := .int (nI (MS.co ((mAct y b).2)))) (ty := .int) (C := RX4) (T := TX4) (N := 23) hx hb hts inX4 tyX4 tyX4_ok nmX4 hown hK hP hD hS 0 rfl rfl 20 (by decide) (hts _ tw_592) (fun _ h9 => h9) rfl (by decide +kernel) rfl rfl (Nat.le_of_ble_eq_true rfl) dX4_doTick_181 (fun H locs hP hD hS => ?_)
        have hP : va_P (dC, dI) vwCl (wM q cI cZ (MS.s_co (MS.s_sa ((mAct y b).2) (NX (2 * MS.sa (mAct y b).2 + m0))) (MS.co ((mAct y b).2)))) H := va_eqP (wM_s_co q cI cZ (MS.s_sa ((mAct y b).2) (NX (2 * MS.sa (mAct y b).2 + m0))) (MS.co ((mAct y b).2))) hP
        have hD : va_D A (wM q cI cZ (MS.s_co (MS.s_sa ((mAct y b).2) (NX (2 * MS.sa (mAct y b).2 + m0))) (MS.co ((mAct y b).2)))) := va_eqD (wM_s_co q cI cZ (MS.s_sa ((mAct y b).2) (NX (2 * MS.sa (mAct y b).2 + m0))) (MS.co ((mAct y b).2))) hD
        refine lv_iload_n hx hb dX4_doTick_184 rfl (lv_at hl 0 rfl) ?_
        exact xr_i hx hb hr hlk (u := MS.s_co (MS.s_sa ((mAct y b).2) (NX (2 * MS.sa (mAct y b).2 + m0))) (MS.co ((mAct y b).2))) (⟨by rw [show (mTick y m0 b).1 = (mAct y b).1 from rfl, e6, zI_nI], by unfold mTick; rw [if_neg (by omega)]⟩) hP hK hD hS dX4_doTick_185
      · refine lv_iconst (v := nI 2) hx hb dX4_doTick_173 (by decide) ?_
        refine lv_goto (tgt := 181) hx hb dX4_doTick_174 (by decide) ?_
        refine va_put (D := (dC, dI)) (ci := 4) (v := .int (nI 2)) (ty := .int) (C := RX4) (T := TX4) (N := 23) hx hb hts inX4 tyX4 tyX4_ok nmX4 hown hK hP hD hS 0 rfl rfl 20 (by decide) (hts _ tw_592) (fun _ h9 => h9) rfl (by decide +kernel) rfl rfl (Nat.le_of_ble_eq_true rfl) dX4_doTick_181 (fun H locs hP hD hS => ?_)
        have hP : va_P (dC, dI) vwCl (wM q cI cZ (MS.s_co (MS.s_sa ((mAct y b).2) (NX (2 * MS.sa (mAct y b).2 + m0))) 2)) H := va_eqP (wM_s_co q cI cZ (MS.s_sa ((mAct y b).2) (NX (2 * MS.sa (mAct y b).2 + m0))) 2) hP
        have hD : va_D A (wM q cI cZ (MS.s_co (MS.s_sa ((mAct y b).2) (NX (2 * MS.sa (mAct y b).2 + m0))) 2)) := va_eqD (wM_s_co q cI cZ (MS.s_sa ((mAct y b).2) (NX (2 * MS.sa (mAct y b).2 + m0))) 2) hD
        refine lv_iload_n hx hb dX4_doTick_184 rfl (lv_at hl 0 rfl) ?_
        exact xr_i hx hb hr hlk (u := MS.s_co (MS.s_sa ((mAct y b).2) (NX (2 * MS.sa (mAct y b).2 + m0))) 2) (⟨by rw [show (mTick y m0 b).1 = (mAct y b).1 from rfl, e6, zI_nI], by unfold mTick; rw [if_pos (by assumption)]⟩) hP hK hD hS dX4_doTick_185
  · refine lv_aload_n hx hb dX4_doTick_10 rfl (lv_at hl 1 rfl) ?_
    refine xc_Vv (As := []) (wr := []) ⟨hx, hb, hml, hown, hts⟩ (c_ScanRowsModel_capture l dC dI q cI cZ H.size y hM0) (cwV 0 hts (gV tw_751 tw_753 sw_35 tw_5 tw_754) rfl rfl rfl (by decide +kernel) ⟨Nat.le_of_ble_eq_true rfl, Nat.le_of_ble_eq_true rfl⟩) rfl hl.1 rfl (Nat.le_of_ble_eq_true rfl) dX4_doTick_11 ⟨Nat.zero_le _, Nat.zero_le _⟩ hP hD hK hS hA [0, 1, 2, 3, 4, 5, 6, 7, 8, 9, 10, 11, 12, 13] [] rfl rfl (by decide) (by decide) (by decide) [0, 1] rfl (q0 := 0) rfl rfl rfl eT_M (trivial) (fun u_56 H locs w_57 hP hD hS => ?_)
    obtain rfl := w_57
    have hP : va_P (dC, dI) vwCl (wM q cI cZ (mCap y)) H := hP
    have hD : va_D A (wM q cI cZ (mCap y)) := hD
    refine lv_goto (tgt := 153) hx hb dX4_doTick_14 (by decide) ?_
    have e6 : (mAct y b).1 = -1 := by unfold mAct; rw [if_pos (by assumption)]
    have e5 : mCap y = (mAct y b).2 := by unfold mAct; rw [if_pos (by assumption)]
    rw [e5] at hP hD
    have hA2 : (mAct y b).2.sa < 16 := by rw [(mAct_sa y b).1]; exact a_sa
    have hC2 : (mAct y b).2.co < 16 := (mAct_MB h2 hM0).2.2.2.2.1
    have hN2 := NX_lt (2 * (mAct y b).2.sa + m0)
    refine lv_aload_n hx hb dX4_doTick_153 rfl (lv_at hl 1 rfl) ?_
    refine lv_aload_n hx hb dX4_doTick_154 rfl (lv_at hl 1 rfl) ?_
    refine va_get (D := (dC, dI)) (ci := 4) (v := .int (nI (MS.sa ((mAct y b).2)))) (C := RX4) (T := TX4) (N := 23) hx hb hts inX4 hown hK hP 0 rfl rfl 21 (by decide) (hts _ tw_593) (fun _ h9 => h9) rfl dX4_doTick_155 ?_
    refine lv_iload_n hx hb dX4_doTick_158 rfl (lv_at hl 2 rfl) ?_
    refine xc_Si (As := [.int (nI (MS.sa ((mAct y b).2))), .int (nI m0)]) (wr := wM q cI cZ ((mAct y b).2)) ⟨hx, hb, hml, hown, hts⟩ (c_ScanRowsModel_next l dC dI q cI cZ H.size (MS.sa ((mAct y b).2)) m0 (by omega) (by omega)) (cwS 2 hts (gS tw_763 tw_764 tw_5 tw_765) rfl rfl rfl (by decide +kernel) ⟨Nat.le_of_ble_eq_true rfl, Nat.le_of_ble_eq_true rfl⟩) rfl hl.1 rfl (Nat.le_of_ble_eq_true rfl) dX4_doTick_159 ⟨Nat.zero_le _, Nat.zero_le _⟩ hP hD hK hS hA [] [0, 1, 2, 3, 4, 5, 6, 7, 8, 9, 10, 11, 12, 13] rfl rfl (by decide) (by decide) (by decide) [0, 1] rfl eT_M (trivial) (fun r_58 u_59 H locs w_60 hP hD hS => ?_)
    obtain rfl : r_58 = nI (NX (2 * MS.sa (mAct y b).2 + m0)) := w_60
    have hP : va_P (dC, dI) vwCl (wM q cI cZ ((mAct y b).2)) H := hP
    have hD : va_D A (wM q cI cZ ((mAct y b).2)) := hD
    refine va_put (D := (dC, dI)) (ci := 4) (v := .int (nI (NX (2 * MS.sa (mAct y b).2 + m0)))) (ty := .int) (C := RX4) (T := TX4) (N := 23) hx hb hts inX4 tyX4 tyX4_ok nmX4 hown hK hP hD hS 0 rfl rfl 21 (by decide) (hts _ tw_593) (fun _ h9 => h9) rfl (by decide +kernel) rfl rfl (Nat.le_of_ble_eq_true rfl) dX4_doTick_162 (fun H locs hP hD hS => ?_)
    have hP : va_P (dC, dI) vwCl (wM q cI cZ (MS.s_sa ((mAct y b).2) (NX (2 * MS.sa (mAct y b).2 + m0)))) H := va_eqP (wM_s_sa q cI cZ ((mAct y b).2) (NX (2 * MS.sa (mAct y b).2 + m0))) hP
    have hD : va_D A (wM q cI cZ (MS.s_sa ((mAct y b).2) (NX (2 * MS.sa (mAct y b).2 + m0)))) := va_eqD (wM_s_sa q cI cZ ((mAct y b).2) (NX (2 * MS.sa (mAct y b).2 + m0))) hD
    refine lv_aload_n hx hb dX4_doTick_165 rfl (lv_at hl 1 rfl) ?_
    refine lv_aload_n hx hb dX4_doTick_166 rfl (lv_at hl 1 rfl) ?_
    refine va_get (D := (dC, dI)) (ci := 4) (v := .int (nI (NX (2 * MS.sa (mAct y b).2 + m0)))) (C := RX4) (T := TX4) (N := 23) hx hb hts inX4 hown hK hP 0 rfl rfl 21 (by decide) (hts _ tw_593) (fun _ h9 => h9) rfl dX4_doTick_167 ?_
    refine xn_zne (tgt := 177) hx hb (by omega) dX4_doTick_170 (by decide) (fun c_61 => ?_) (fun c_61 => ?_)
    · refine lv_aload_n hx hb dX4_doTick_177 rfl (lv_at hl 1 rfl) ?_
      refine va_get (D := (dC, dI)) (ci := 4) (v := .int (nI (MS.co ((mAct y b).2)))) (C := RX4) (T := TX4) (N := 23) hx hb hts inX4 hown hK hP 0 rfl rfl 20 (by decide) (hts _ tw_592) (fun _ h9 => h9) rfl dX4_doTick_178 ?_
      refine va_put (D := (dC, dI)) (ci := 4) (v := .int (nI (MS.co ((mAct y b).2)))) (ty := .int) (C := RX4) (T := TX4) (N := 23) hx hb hts inX4 tyX4 tyX4_ok nmX4 hown hK hP hD hS 0 rfl rfl 20 (by decide) (hts _ tw_592) (fun _ h9 => h9) rfl (by decide +kernel) rfl rfl (Nat.le_of_ble_eq_true rfl) dX4_doTick_181 (fun H locs hP hD hS => ?_)
      have hP : va_P (dC, dI) vwCl (wM q cI cZ (MS.s_co (MS.s_sa ((mAct y b).2) (NX (2 * MS.sa (mAct y b).2 + m0))) (MS.co ((mAct y b).2)))) H := va_eqP (wM_s_co q cI cZ (MS.s_sa ((mAct y b).2) (NX (2 * MS.sa (mAct y b).2 + m0))) (MS.co ((mAct y b).2))) hP
      have hD : va_D A (wM q cI cZ (MS.s_co (MS.s_sa ((mAct y b).2) (NX (2 * MS.sa (mAct y b).2 + m0))) (MS.co ((mAct y b).2)))) := va_eqD (wM_s_co q cI cZ (MS.s_sa ((mAct y b).2) (NX (2 * MS.sa (mAct y b).2 + m0))) (MS.co ((mAct y b).2))) hD
      refine lv_iload_n hx hb dX4_doTick_184 rfl (lv_at hl 0 rfl) ?_
      exact xr_i hx hb hr hlk (u := MS.s_co (MS.s_sa ((mAct y b).2) (NX (2 * MS.sa (mAct y b).2 + m0))) (MS.co ((mAct y b).2))) (⟨by rw [show (mTick y m0 b).1 = (mAct y b).1 from rfl, e6], by unfold mTick; rw [if_neg (by omega)]⟩) hP hK hD hS dX4_doTick_185
    · refine lv_iconst (v := nI 2) hx hb dX4_doTick_173 (by decide) ?_
      refine lv_goto (tgt := 181) hx hb dX4_doTick_174 (by decide) ?_
      refine va_put (D := (dC, dI)) (ci := 4) (v := .int (nI 2)) (ty := .int) (C := RX4) (T := TX4) (N := 23) hx hb hts inX4 tyX4 tyX4_ok nmX4 hown hK hP hD hS 0 rfl rfl 20 (by decide) (hts _ tw_592) (fun _ h9 => h9) rfl (by decide +kernel) rfl rfl (Nat.le_of_ble_eq_true rfl) dX4_doTick_181 (fun H locs hP hD hS => ?_)
      have hP : va_P (dC, dI) vwCl (wM q cI cZ (MS.s_co (MS.s_sa ((mAct y b).2) (NX (2 * MS.sa (mAct y b).2 + m0))) 2)) H := va_eqP (wM_s_co q cI cZ (MS.s_sa ((mAct y b).2) (NX (2 * MS.sa (mAct y b).2 + m0))) 2) hP
      have hD : va_D A (wM q cI cZ (MS.s_co (MS.s_sa ((mAct y b).2) (NX (2 * MS.sa (mAct y b).2 + m0))) 2)) := va_eqD (wM_s_co q cI cZ (MS.s_sa ((mAct y b).2) (NX (2 * MS.sa (mAct y b).2 + m0))) 2) hD
      refine lv_iload_n hx hb dX4_doTick_184 rfl (lv_at hl 0 rfl) ?_
      exact xr_i hx hb hr hlk (u := MS.s_co (MS.s_sa ((mAct y b).2) (NX (2 * MS.sa (mAct y b).2 + m0))) 2) (⟨by rw [show (mTick y m0 b).1 = (mAct y b).1 from rfl, e6], by unfold mTick; rw [if_pos (by assumption)]⟩) hP hK hD hS dX4_doTick_185
set_option maxHeartbeats 4000000 in
set_option maxRecDepth 100000 in
theorem c_ScanRowsModel_tick (l : Launch) (dC : Nat → ClassId) (dI : Nat → Nat → Nat) (q : Nat → Nat) (cI cZ : ClassId) (sz : Nat) (y : MS) (m0 b : Nat) (hM : MB y) (h1 : m0 < 2) (h2 : b < 2) : Met l yX4_tick (.code yX4_tick cX4_tick 3 (some .int) :: ALLG) ({ frames := 3, cells := 0, slots := 0, locals := 73 }) (va_Pc [.ref (q 0), .int (nI m0), .int (nI b)] (cP (dC, dI) vwCl [(cI, .int), (cZ, .boolean)] (wM q cI cZ y) eT sz)) (va_Qi (fun (x : Int32) (u : MS) => x = zI (mTick (y.s_th 0) m0 b).1 ∧ u = (mTick (y.s_th 0) m0 b).2) (fun (u : MS) => cB (dC, dI) vwCl [(cI, .int), (cZ, .boolean)] (wM q cI cZ u) (va_A (wM q cI cZ y) sz)) (va_A (wM q cI cZ y) sz)) 0 0 (va_A (wM q cI cZ y) sz) := by
  refine xm_of (cc := cX4_tick) (maxL := 3) (ret := some .int) (by decide) rfl (Nat.le_of_ble_eq_true rfl) ?_
  intro p e s m below meth c A hAe hx hb hr hml hts0 hown hlk hin hsz H locs hP hK hD hA hS hE ls hl
  have hts : ∀ w ∈ ALLG, w.before _ s = true := fun w h => hts0 w (List.mem_cons_of_mem _ h)
  rw [← hAe]
  have hM0 := hM
  have hl : lv_has ls 3 [(0, .ref (q 0)), (1, .int (nI m0)), (2, .int (nI b))] := hl
  refine lv_aload_n hx hb dX4_tick_0 rfl (lv_at hl 0 rfl) ?_
  refine lv_iload_n hx hb dX4_tick_1 rfl (lv_at hl 1 rfl) ?_
  refine xn_zlt (tgt := 19) hx hb (by omega) dX4_tick_2 (by decide) ?_
  refine lv_iload_n hx hb dX4_tick_5 rfl (lv_at hl 1 rfl) ?_
  refine lv_iconst (v := nI 1) hx hb dX4_tick_6 (by decide) ?_
  refine xn_cgt (tgt := 19) hx hb (by omega) (by omega) dX4_tick_7 (by decide) (fun c_2 => ?_) (fun c_2 => ?_)
  · exact absurd (show False by omega) id
  · refine lv_iload_n hx hb dX4_tick_10 rfl (lv_at hl 2 rfl) ?_
    refine xn_zlt (tgt := 19) hx hb (by omega) dX4_tick_11 (by decide) ?_
    refine lv_iload_n hx hb dX4_tick_14 rfl (lv_at hl 2 rfl) ?_
    refine lv_iconst (v := nI 1) hx hb dX4_tick_15 (by decide) ?_
    refine xn_cle (tgt := 23) hx hb (by omega) (by omega) dX4_tick_16 (by decide) (fun c_4 => ?_) (fun c_4 => ?_)
    · refine lv_iconst (v := nI 0) hx hb dX4_tick_23 (by decide) ?_
      refine va_put (D := (dC, dI)) (ci := 4) (v := .int (nI 0)) (ty := .int) (C := RX4) (T := TX4) (N := 23) hx hb hts inX4 tyX4 tyX4_ok nmX4 hown hK hP hD hS 0 rfl rfl 0 (by decide) (hts _ tw_572) (fun _ h9 => h9) rfl (by decide +kernel) rfl rfl (Nat.le_of_ble_eq_true rfl) dX4_tick_24 (fun H locs hP hD hS => ?_)
      have hP : va_P (dC, dI) vwCl (wM q cI cZ (MS.s_th y 0)) H := va_eqP (wM_s_th q cI cZ y 0) hP
      have hD : va_D A (wM q cI cZ (MS.s_th y 0)) := va_eqD (wM_s_th q cI cZ y 0) hD
      refine lv_aload_n hx hb dX4_tick_27 rfl (lv_at hl 0 rfl) ?_
      refine va_get (D := (dC, dI)) (ci := 4) (v := .int (nI 0)) (C := RX4) (T := TX4) (N := 23) hx hb hts inX4 hown hK hP 0 rfl rfl 0 (by decide) (hts _ tw_572) (fun _ h9 => h9) rfl dX4_tick_28 ?_
      refine xn_zle (tgt := 38) hx hb (by omega) dX4_tick_31 (by decide) (fun c_5 => ?_) (fun c_5 => ?_)
      · refine lv_aload_n hx hb dX4_tick_38 rfl (lv_at hl 0 rfl) ?_
        refine lv_iload_n hx hb dX4_tick_39 rfl (lv_at hl 1 rfl) ?_
        refine lv_iload_n hx hb dX4_tick_40 rfl (lv_at hl 2 rfl) ?_
        refine xc_Vi (As := [.int (nI m0), .int (nI b)]) (wr := []) ⟨hx, hb, hml, hown, hts⟩ (c_ScanRowsModel_doTick l dC dI q cI cZ H.size (MS.s_th y 0) m0 b (MB_th hM0 0) (by omega) (by omega)) (cwV 2 hts (gV tw_747 tw_749 sw_34 tw_5 tw_750) rfl rfl rfl (by decide +kernel) ⟨Nat.le_of_ble_eq_true rfl, Nat.le_of_ble_eq_true rfl⟩) rfl hl.1 rfl (Nat.le_of_ble_eq_true rfl) dX4_tick_41 ⟨Nat.zero_le _, Nat.zero_le _⟩ hP hD hK hS hA [0, 1, 2, 3, 4, 5, 6, 7, 8, 9, 10, 11, 12, 13] [] rfl rfl (by decide) (by decide) (by decide) [0, 1] rfl (q0 := 0) rfl rfl rfl eT_M (trivial) (fun r_6 u_7 H locs w_8 hP hD hS => ?_)
        obtain ⟨rfl, rfl⟩ := w_8
        have hP : va_P (dC, dI) vwCl (wM q cI cZ ((mTick (MS.s_th y 0) m0 b).2)) H := hP
        have hD : va_D A (wM q cI cZ ((mTick (MS.s_th y 0) m0 b).2)) := hD
        exact xr_i hx hb hr hlk (u := (mTick (MS.s_th y 0) m0 b).2) (⟨rfl, rfl⟩) hP hK hD hS dX4_tick_44
      · exact absurd (show False by omega) id
    · exact absurd (show False by omega) id
set_option maxHeartbeats 4000000 in
set_option maxRecDepth 100000 in
theorem c_M_tick1 (l : Launch) (dC : Nat → ClassId) (dI : Nat → Nat → Nat) (q : Nat → Nat) (cI cZ : ClassId) (sz : Nat) (y : MS) (mv bv : Int32) (h1 : mBadT mv bv) : Met l yX4_tick (.code yX4_tick cX4_tick 3 (some .int) :: ALLG) ({ frames := 3, cells := 0, slots := 0, locals := 73 }) (va_Pc [.ref (q 0), .int mv, .int bv] (cP (dC, dI) vwCl [(cI, .int), (cZ, .boolean)] (wM q cI cZ y) eT sz)) (va_Qi (fun (x : Int32) (u : MS) => x = nI 0 ∧ u = y.s_th 1) (fun (u : MS) => cB (dC, dI) vwCl [(cI, .int), (cZ, .boolean)] (wM q cI cZ u) (va_A (wM q cI cZ y) sz)) (va_A (wM q cI cZ y) sz)) 0 0 (va_A (wM q cI cZ y) sz) := by
  refine xm_of (cc := cX4_tick) (maxL := 3) (ret := some .int) (by decide) rfl (Nat.le_of_ble_eq_true rfl) ?_
  intro p e s m below meth c A hAe hx hb hr hml hts0 hown hlk hin hsz H locs hP hK hD hA hS hE ls hl
  have hts : ∀ w ∈ ALLG, w.before _ s = true := fun w h => hts0 w (List.mem_cons_of_mem _ h)
  rw [← hAe]
  have hl : lv_has ls 3 [(0, .ref (q 0)), (1, .int mv), (2, .int bv)] := hl
  refine lv_aload_n hx hb dX4_tick_0 rfl (lv_at hl 0 rfl) ?_
  refine lv_iload_n hx hb dX4_tick_1 rfl (lv_at hl 1 rfl) ?_
  refine lv_if_lt (tgt := 19) hx hb dX4_tick_2 (by decide) (fun c_1 => ?_) (fun c_1 => ?_)
  · refine lv_iconst (v := nI 1) hx hb dX4_tick_19 (by decide) ?_
    refine lv_goto (tgt := 24) hx hb dX4_tick_20 (by decide) ?_
    refine va_put (D := (dC, dI)) (ci := 4) (v := .int (nI 1)) (ty := .int) (C := RX4) (T := TX4) (N := 23) hx hb hts inX4 tyX4 tyX4_ok nmX4 hown hK hP hD hS 0 rfl rfl 0 (by decide) (hts _ tw_572) (fun _ h9 => h9) rfl (by decide +kernel) rfl rfl (Nat.le_of_ble_eq_true rfl) dX4_tick_24 (fun H locs hP hD hS => ?_)
    have hP : va_P (dC, dI) vwCl (wM q cI cZ (MS.s_th y 1)) H := va_eqP (wM_s_th q cI cZ y 1) hP
    have hD : va_D A (wM q cI cZ (MS.s_th y 1)) := va_eqD (wM_s_th q cI cZ y 1) hD
    refine lv_aload_n hx hb dX4_tick_27 rfl (lv_at hl 0 rfl) ?_
    refine va_get (D := (dC, dI)) (ci := 4) (v := .int (nI 1)) (C := RX4) (T := TX4) (N := 23) hx hb hts inX4 hown hK hP 0 rfl rfl 0 (by decide) (hts _ tw_572) (fun _ h9 => h9) rfl dX4_tick_28 ?_
    refine xn_zle (tgt := 38) hx hb (by omega) dX4_tick_31 (by decide) (fun c_2 => ?_) (fun c_2 => ?_)
    · exact absurd (show False by omega) id
    · refine lv_iconst (v := nI 0) hx hb dX4_tick_34 (by decide) ?_
      refine lv_goto (tgt := 44) hx hb dX4_tick_35 (by decide) ?_
      exact xr_i hx hb hr hlk (u := MS.s_th y 1) (⟨rfl, rfl⟩) hP hK hD hS dX4_tick_44
  · refine lv_iload_n hx hb dX4_tick_5 rfl (lv_at hl 1 rfl) ?_
    refine lv_iconst (v := nI 1) hx hb dX4_tick_6 (by decide) ?_
    refine lv_icmp_gt (tgt := 19) hx hb dX4_tick_7 (by decide) (fun c_3 => ?_) (fun c_3 => ?_)
    · refine lv_iconst (v := nI 1) hx hb dX4_tick_19 (by decide) ?_
      refine lv_goto (tgt := 24) hx hb dX4_tick_20 (by decide) ?_
      refine va_put (D := (dC, dI)) (ci := 4) (v := .int (nI 1)) (ty := .int) (C := RX4) (T := TX4) (N := 23) hx hb hts inX4 tyX4 tyX4_ok nmX4 hown hK hP hD hS 0 rfl rfl 0 (by decide) (hts _ tw_572) (fun _ h9 => h9) rfl (by decide +kernel) rfl rfl (Nat.le_of_ble_eq_true rfl) dX4_tick_24 (fun H locs hP hD hS => ?_)
      have hP : va_P (dC, dI) vwCl (wM q cI cZ (MS.s_th y 1)) H := va_eqP (wM_s_th q cI cZ y 1) hP
      have hD : va_D A (wM q cI cZ (MS.s_th y 1)) := va_eqD (wM_s_th q cI cZ y 1) hD
      refine lv_aload_n hx hb dX4_tick_27 rfl (lv_at hl 0 rfl) ?_
      refine va_get (D := (dC, dI)) (ci := 4) (v := .int (nI 1)) (C := RX4) (T := TX4) (N := 23) hx hb hts inX4 hown hK hP 0 rfl rfl 0 (by decide) (hts _ tw_572) (fun _ h9 => h9) rfl dX4_tick_28 ?_
      refine xn_zle (tgt := 38) hx hb (by omega) dX4_tick_31 (by decide) (fun c_4 => ?_) (fun c_4 => ?_)
      · exact absurd (show False by omega) id
      · refine lv_iconst (v := nI 0) hx hb dX4_tick_34 (by decide) ?_
        refine lv_goto (tgt := 44) hx hb dX4_tick_35 (by decide) ?_
        exact xr_i hx hb hr hlk (u := MS.s_th y 1) (⟨rfl, rfl⟩) hP hK hD hS dX4_tick_44
    · refine lv_iload_n hx hb dX4_tick_10 rfl (lv_at hl 2 rfl) ?_
      refine lv_if_lt (tgt := 19) hx hb dX4_tick_11 (by decide) (fun c_5 => ?_) (fun c_5 => ?_)
      · refine lv_iconst (v := nI 1) hx hb dX4_tick_19 (by decide) ?_
        refine lv_goto (tgt := 24) hx hb dX4_tick_20 (by decide) ?_
        refine va_put (D := (dC, dI)) (ci := 4) (v := .int (nI 1)) (ty := .int) (C := RX4) (T := TX4) (N := 23) hx hb hts inX4 tyX4 tyX4_ok nmX4 hown hK hP hD hS 0 rfl rfl 0 (by decide) (hts _ tw_572) (fun _ h9 => h9) rfl (by decide +kernel) rfl rfl (Nat.le_of_ble_eq_true rfl) dX4_tick_24 (fun H locs hP hD hS => ?_)
        have hP : va_P (dC, dI) vwCl (wM q cI cZ (MS.s_th y 1)) H := va_eqP (wM_s_th q cI cZ y 1) hP
        have hD : va_D A (wM q cI cZ (MS.s_th y 1)) := va_eqD (wM_s_th q cI cZ y 1) hD
        refine lv_aload_n hx hb dX4_tick_27 rfl (lv_at hl 0 rfl) ?_
        refine va_get (D := (dC, dI)) (ci := 4) (v := .int (nI 1)) (C := RX4) (T := TX4) (N := 23) hx hb hts inX4 hown hK hP 0 rfl rfl 0 (by decide) (hts _ tw_572) (fun _ h9 => h9) rfl dX4_tick_28 ?_
        refine xn_zle (tgt := 38) hx hb (by omega) dX4_tick_31 (by decide) (fun c_6 => ?_) (fun c_6 => ?_)
        · exact absurd (show False by omega) id
        · refine lv_iconst (v := nI 0) hx hb dX4_tick_34 (by decide) ?_
          refine lv_goto (tgt := 44) hx hb dX4_tick_35 (by decide) ?_
          exact xr_i hx hb hr hlk (u := MS.s_th y 1) (⟨rfl, rfl⟩) hP hK hD hS dX4_tick_44
      · refine lv_iload_n hx hb dX4_tick_14 rfl (lv_at hl 2 rfl) ?_
        refine lv_iconst (v := nI 1) hx hb dX4_tick_15 (by decide) ?_
        refine lv_icmp_le (tgt := 23) hx hb dX4_tick_16 (by decide) (fun c_7 => ?_) (fun c_7 => ?_)
        · exact absurd h1 (fun z => z.elim c_1 (fun z => z.elim c_3 (fun z => z.elim c_5 (fun z => z c_7))))
        · refine lv_iconst (v := nI 1) hx hb dX4_tick_19 (by decide) ?_
          refine lv_goto (tgt := 24) hx hb dX4_tick_20 (by decide) ?_
          refine va_put (D := (dC, dI)) (ci := 4) (v := .int (nI 1)) (ty := .int) (C := RX4) (T := TX4) (N := 23) hx hb hts inX4 tyX4 tyX4_ok nmX4 hown hK hP hD hS 0 rfl rfl 0 (by decide) (hts _ tw_572) (fun _ h9 => h9) rfl (by decide +kernel) rfl rfl (Nat.le_of_ble_eq_true rfl) dX4_tick_24 (fun H locs hP hD hS => ?_)
          have hP : va_P (dC, dI) vwCl (wM q cI cZ (MS.s_th y 1)) H := va_eqP (wM_s_th q cI cZ y 1) hP
          have hD : va_D A (wM q cI cZ (MS.s_th y 1)) := va_eqD (wM_s_th q cI cZ y 1) hD
          refine lv_aload_n hx hb dX4_tick_27 rfl (lv_at hl 0 rfl) ?_
          refine va_get (D := (dC, dI)) (ci := 4) (v := .int (nI 1)) (C := RX4) (T := TX4) (N := 23) hx hb hts inX4 hown hK hP 0 rfl rfl 0 (by decide) (hts _ tw_572) (fun _ h9 => h9) rfl dX4_tick_28 ?_
          refine xn_zle (tgt := 38) hx hb (by omega) dX4_tick_31 (by decide) (fun c_8 => ?_) (fun c_8 => ?_)
          · exact absurd (show False by omega) id
          · refine lv_iconst (v := nI 0) hx hb dX4_tick_34 (by decide) ?_
            refine lv_goto (tgt := 44) hx hb dX4_tick_35 (by decide) ?_
            exact xr_i hx hb hr hlk (u := MS.s_th y 1) (⟨rfl, rfl⟩) hP hK hD hS dX4_tick_44
set_option maxHeartbeats 4000000 in
set_option maxRecDepth 100000 in
theorem c_ScanRowsModel_state (l : Launch) (dC : Nat → ClassId) (dI : Nat → Nat → Nat) (q : Nat → Nat) (cI cZ : ClassId) (sz : Nat) (y : MS) : Met l yX4_state (.code yX4_state cX4_state 1 (some .int) :: ALLG) ({ frames := 0, cells := 0, slots := 0, locals := 0 }) (va_Pc [.ref (q 0)] (cP (dC, dI) vwCl [(cI, .int), (cZ, .boolean)] (wM q cI cZ y) eT sz)) (va_Qi (fun (x : Int32) (u : MS) => x = nI y.sa ∧ u = y.s_th 0) (fun (u : MS) => cB (dC, dI) vwCl [(cI, .int), (cZ, .boolean)] (wM q cI cZ u) (va_A (wM q cI cZ y) sz)) (va_A (wM q cI cZ y) sz)) 0 0 (va_A (wM q cI cZ y) sz) := by
  refine xm_of (cc := cX4_state) (maxL := 1) (ret := some .int) (by decide) rfl (Nat.le_of_ble_eq_true rfl) ?_
  intro p e s m below meth c A hAe hx hb hr hml hts0 hown hlk hin hsz H locs hP hK hD hA hS hE ls hl
  have hts : ∀ w ∈ ALLG, w.before _ s = true := fun w h => hts0 w (List.mem_cons_of_mem _ h)
  rw [← hAe]
  have hl : lv_has ls 1 [(0, .ref (q 0))] := hl
  refine lv_aload_n hx hb dX4_state_0 rfl (lv_at hl 0 rfl) ?_
  refine lv_iconst (v := nI 0) hx hb dX4_state_1 (by decide) ?_
  refine va_put (D := (dC, dI)) (ci := 4) (v := .int (nI 0)) (ty := .int) (C := RX4) (T := TX4) (N := 23) hx hb hts inX4 tyX4 tyX4_ok nmX4 hown hK hP hD hS 0 rfl rfl 0 (by decide) (hts _ tw_572) (fun _ h9 => h9) rfl (by decide +kernel) rfl rfl (Nat.le_of_ble_eq_true rfl) dX4_state_2 (fun H locs hP hD hS => ?_)
  have hP : va_P (dC, dI) vwCl (wM q cI cZ (MS.s_th y 0)) H := va_eqP (wM_s_th q cI cZ y 0) hP
  have hD : va_D A (wM q cI cZ (MS.s_th y 0)) := va_eqD (wM_s_th q cI cZ y 0) hD
  refine lv_aload_n hx hb dX4_state_5 rfl (lv_at hl 0 rfl) ?_
  refine va_get (D := (dC, dI)) (ci := 4) (v := .int (nI (MS.sa y))) (C := RX4) (T := TX4) (N := 23) hx hb hts inX4 hown hK hP 0 rfl rfl 21 (by decide) (hts _ tw_593) (fun _ h9 => h9) rfl dX4_state_6 ?_
  exact xr_i hx hb hr hlk (u := MS.s_th y 0) (⟨rfl, rfl⟩) hP hK hD hS dX4_state_9
set_option maxHeartbeats 4000000 in
set_option maxRecDepth 100000 in
theorem c_ScanRowsModel_count (l : Launch) (dC : Nat → ClassId) (dI : Nat → Nat → Nat) (q : Nat → Nat) (cI cZ : ClassId) (sz : Nat) (y : MS) (w0 : Nat) (hM : MB y) (h1 : w0 < 5) : Met l yX4_count (.code yX4_count cX4_count 4 (some .int) :: ALLG) ({ frames := 1, cells := 0, slots := 0, locals := 20 }) (va_Pc [.ref (q 0), .int (nI w0)] (cP (dC, dI) vwCl [(cI, .int), (cZ, .boolean)] (wM q cI cZ y) eT sz)) (va_Qi (fun (x : Int32) (u : MS) => x = nI (mCnt y w0) ∧ u = y.s_th 0) (fun (u : MS) => cB (dC, dI) vwCl [(cI, .int), (cZ, .boolean)] (wM q cI cZ u) (va_A (wM q cI cZ y) sz)) (va_A (wM q cI cZ y) sz)) 0 0 (va_A (wM q cI cZ y) sz) := by
  refine xm_of (cc := cX4_count) (maxL := 4) (ret := some .int) (by decide) rfl (Nat.le_of_ble_eq_true rfl) ?_
  intro p e s m below meth c A hAe hx hb hr hml hts0 hown hlk hin hsz H locs hP hK hD hA hS hE ls hl
  have hts : ∀ w ∈ ALLG, w.before _ s = true := fun w h => hts0 w (List.mem_cons_of_mem _ h)
  rw [← hAe]
  have hM0 := hM
  have b_n : y.n ≤ 32 := hM.1.1
  have b_c : y.c ≤ 8 := hM.1.2.1
  have b_p : y.p ≤ y.n := hM.1.2.2.1
  have b_vb : ∀ z, y.vb z < 2 := hM.1.2.2.2.1
  have b_ck : ∀ z, y.ck z < 4 := hM.1.2.2.2.2.1
  have b_xx : ∀ z, -1000 ≤ y.xx z ∧ y.xx z ≤ 1000 := hM.1.2.2.2.2.2.1
  have b_yy : ∀ z, -1000 ≤ y.yy z ∧ y.yy z ≤ 1000 := hM.1.2.2.2.2.2.2.1
  have b_fl : ∀ z, y.fl z < 2 := hM.1.2.2.2.2.2.2.2.1
  have b_rw : ∀ z, y.rw z < 32 := hM.1.2.2.2.2.2.2.2.2.2.1
  have b_st : ∀ z, y.st z ≤ 32 := hM.1.2.2.2.2.2.2.2.2.2.2.2
  have k_n : y.cn ≤ 20 := hM.2.1.1
  have k_pin : ∀ z, y.pin z < 2 := hM.2.1.2.1
  have k_ki : ∀ z, y.ki z < 2 := hM.2.1.2.2.1
  have k_he : ∀ z, y.he z < 2 := hM.2.1.2.2.2.1
  have k_ir : ∀ z, y.ir z < 2 := hM.2.1.2.2.2.2
  have a_by := hM.2.2.1
  have a_cr := hM.2.2.2.1
  have a_co := hM.2.2.2.2.1
  have a_sa := hM.2.2.2.2.2.1
  have b_nb := hM.2.2.2.2.2.2
  have g0 := mReg_le y.co y.cn y.p
  have hl : lv_has ls 4 [(0, .ref (q 0)), (1, .int (nI w0))] := hl
  refine lv_aload_n hx hb dX4_count_0 rfl (lv_at hl 0 rfl) ?_
  refine lv_iload_n hx hb dX4_count_1 rfl (lv_at hl 1 rfl) ?_
  refine xn_zlt (tgt := 10) hx hb (by omega) dX4_count_2 (by decide) ?_
  refine lv_iload_n hx hb dX4_count_5 rfl (lv_at hl 1 rfl) ?_
  refine lv_iconst (v := nI 4) hx hb dX4_count_6 (by decide) ?_
  refine xn_cle (tgt := 14) hx hb (by omega) (by omega) dX4_count_7 (by decide) (fun c_2 => ?_) (fun c_2 => ?_)
  · refine lv_iconst (v := nI 0) hx hb dX4_count_14 (by decide) ?_
    refine va_put (D := (dC, dI)) (ci := 4) (v := .int (nI 0)) (ty := .int) (C := RX4) (T := TX4) (N := 23) hx hb hts inX4 tyX4 tyX4_ok nmX4 hown hK hP hD hS 0 rfl rfl 0 (by decide) (hts _ tw_572) (fun _ h9 => h9) rfl (by decide +kernel) rfl rfl (Nat.le_of_ble_eq_true rfl) dX4_count_15 (fun H locs hP hD hS => ?_)
    have hP : va_P (dC, dI) vwCl (wM q cI cZ (MS.s_th y 0)) H := va_eqP (wM_s_th q cI cZ y 0) hP
    have hD : va_D A (wM q cI cZ (MS.s_th y 0)) := va_eqD (wM_s_th q cI cZ y 0) hD
    refine lv_aload_n hx hb dX4_count_18 rfl (lv_at hl 0 rfl) ?_
    refine va_get (D := (dC, dI)) (ci := 4) (v := .int (nI 0)) (C := RX4) (T := TX4) (N := 23) hx hb hts inX4 hown hK hP 0 rfl rfl 0 (by decide) (hts _ tw_572) (fun _ h9 => h9) rfl dX4_count_19 ?_
    refine xn_zle (tgt := 27) hx hb (by omega) dX4_count_22 (by decide) (fun c_3 => ?_) (fun c_3 => ?_)
    · refine lv_aload_n hx hb dX4_count_27 rfl (lv_at hl 0 rfl) ?_
      refine xc_Vi (As := []) (wr := []) ⟨hx, hb, hml, hown, hts⟩ (c_ScanRowsModel_register l dC dI q cI cZ H.size (MS.s_th y 0) (show y.co < 16 by omega) (show y.cn ≤ 20 by omega) (show y.p ≤ 32 by omega)) (cwV 0 hts (gV tw_755 tw_757 sw_36 tw_5 tw_758) rfl rfl rfl (by decide +kernel) ⟨Nat.le_of_ble_eq_true rfl, Nat.le_of_ble_eq_true rfl⟩) rfl hl.1 rfl (Nat.le_of_ble_eq_true rfl) dX4_count_28 ⟨Nat.zero_le _, Nat.zero_le _⟩ hP hD hK hS hA [0, 1, 2, 3, 4, 5, 6, 7, 8, 9, 10, 11, 12, 13] [] rfl rfl (by decide) (by decide) (by decide) [0, 1] rfl (q0 := 0) rfl rfl rfl eT_M (trivial) (fun r_4 u_5 H locs w_6 hP hD hS => ?_)
      obtain rfl : r_4 = nI (mReg y.co y.cn y.p) := w_6
      have hP : va_P (dC, dI) vwCl (wM q cI cZ (MS.s_th y 0)) H := hP
      have hD : va_D A (wM q cI cZ (MS.s_th y 0)) := hD
      refine lv_istore_n (lv' := [(2, .int (nI (mReg y.co y.cn y.p))), (0, .ref (q 0)), (1, .int (nI w0))]) hx hb dX4_count_31 rfl hl (by decide) rfl (fun ls hl => ?_)
      refine lv_iload_n hx hb dX4_count_32 rfl (lv_at hl 0 rfl) ?_
      refine xn_zne (tgt := 43) hx hb (by omega) dX4_count_33 (by decide) (fun c_7 => ?_) (fun c_7 => ?_)
      · refine lv_iload_n hx hb dX4_count_43 rfl (lv_at hl 0 rfl) ?_
        refine lv_iconst (v := nI 2) hx hb dX4_count_44 (by decide) ?_
        refine xn_cne (tgt := 53) hx hb (by omega) (by omega) dX4_count_45 (by decide) (fun c_8 => ?_) (fun c_8 => ?_)
        · refine lv_iload_n hx hb dX4_count_53 rfl (lv_at hl 0 rfl) ?_
          refine lv_iconst (v := nI 3) hx hb dX4_count_54 (by decide) ?_
          refine xn_cne (tgt := 65) hx hb (by omega) (by omega) dX4_count_55 (by decide) (fun c_9 => ?_) (fun c_9 => ?_)
          · refine lv_iconst (v := nI 1) hx hb dX4_count_65 (by decide) ?_
            refine lv_istore_n (lv' := [(3, .int (nI 1)), (2, .int (nI (mReg y.co y.cn y.p))), (0, .ref (q 0)), (1, .int (nI w0))]) hx hb dX4_count_66 rfl hl (by decide) rfl (fun ls hl => ?_)
            refine lv_iload_n hx hb dX4_count_67 rfl (lv_at hl 3 rfl) ?_
            refine xn_zne (tgt := 78) hx hb (by omega) dX4_count_68 (by decide) (fun c_10 => ?_) (fun c_10 => ?_)
            · refine lv_iload_n hx hb dX4_count_78 rfl (lv_at hl 3 rfl) ?_
              refine lv_iconst (v := nI 1) hx hb dX4_count_79 (by decide) ?_
              refine xn_cne (tgt := 90) hx hb (by omega) (by omega) dX4_count_80 (by decide) (fun c_11 => ?_) (fun c_11 => ?_)
              · refine lv_iload_n hx hb dX4_count_90 rfl (lv_at hl 3 rfl) ?_
                refine lv_iconst (v := nI 2) hx hb dX4_count_91 (by decide) ?_
                refine xn_cne (tgt := 102) hx hb (by omega) (by omega) dX4_count_92 (by decide) (fun c_12 => ?_) (fun c_12 => ?_)
                · refine lv_iload_n hx hb dX4_count_102 rfl (lv_at hl 3 rfl) ?_
                  refine lv_iconst (v := nI 3) hx hb dX4_count_103 (by decide) ?_
                  refine xn_cne (tgt := 111) hx hb (by omega) (by omega) dX4_count_104 (by decide) (fun c_13 => ?_) (fun c_13 => ?_)
                  · refine lv_aload_n hx hb dX4_count_111 rfl (lv_at hl 2 rfl) ?_
                    refine va_get (D := (dC, dI)) (ci := 4) (v := .int (nI (MS.co y))) (C := RX4) (T := TX4) (N := 23) hx hb hts inX4 hown hK hP 0 rfl rfl 20 (by decide) (hts _ tw_592) (fun _ h9 => h9) rfl dX4_count_112 ?_
                    exact xr_i hx hb hr hlk (u := MS.s_th y 0) (⟨congrArg nI (by unfold mCnt; rw [if_neg (show ¬ w0 = 0 by omega), if_neg (show ¬ w0 = 1 by omega), if_neg (show ¬ w0 = 2 by omega), if_neg (show ¬ w0 = 3 by omega)]), rfl⟩) hP hK hD hS dX4_count_115
                  · refine lv_iload_n hx hb dX4_count_107 rfl (lv_at hl 0 rfl) ?_
                    refine lv_goto (tgt := 115) hx hb dX4_count_108 (by decide) ?_
                    exact xr_i hx hb hr hlk (u := MS.s_th y 0) (⟨congrArg nI (by unfold mCnt; rw [if_neg (show ¬ w0 = 0 by omega), if_neg (show ¬ w0 = 1 by omega), if_neg (show ¬ w0 = 2 by omega), if_pos (show w0 = 3 by assumption)]; unfold mLen; rw [if_neg (show ¬ mReg y.co y.cn y.p = 0 by omega), if_neg (show ¬ mReg y.co y.cn y.p = 2 by assumption), if_neg (show ¬ mReg y.co y.cn y.p = 3 by assumption)]), rfl⟩) hP hK hD hS dX4_count_115
                · refine lv_aload_n hx hb dX4_count_95 rfl (lv_at hl 2 rfl) ?_
                  refine va_get (D := (dC, dI)) (ci := 4) (v := .int (nI (MS.cn y))) (C := RX4) (T := TX4) (N := 23) hx hb hts inX4 hown hK hP 0 rfl rfl 16 (by decide) (hts _ tw_588) (fun _ h9 => h9) rfl dX4_count_96 ?_
                  refine lv_goto (tgt := 115) hx hb dX4_count_99 (by decide) ?_
                  exact xr_i hx hb hr hlk (u := MS.s_th y 0) (⟨congrArg nI (by unfold mCnt; rw [if_neg (show ¬ w0 = 0 by omega), if_neg (show ¬ w0 = 1 by omega), if_pos (show w0 = 2 by assumption)]), rfl⟩) hP hK hD hS dX4_count_115
              · refine lv_aload_n hx hb dX4_count_83 rfl (lv_at hl 2 rfl) ?_
                refine va_get (D := (dC, dI)) (ci := 4) (v := .int (nI (MS.c y))) (C := RX4) (T := TX4) (N := 23) hx hb hts inX4 hown hK hP 0 rfl rfl 11 (by decide) (hts _ tw_583) (fun _ h9 => h9) rfl dX4_count_84 ?_
                refine lv_goto (tgt := 115) hx hb dX4_count_87 (by decide) ?_
                exact xr_i hx hb hr hlk (u := MS.s_th y 0) (⟨congrArg nI (by unfold mCnt; rw [if_neg (show ¬ w0 = 0 by omega), if_pos (show w0 = 1 by assumption)]), rfl⟩) hP hK hD hS dX4_count_115
            · refine lv_aload_n hx hb dX4_count_71 rfl (lv_at hl 2 rfl) ?_
              refine va_get (D := (dC, dI)) (ci := 4) (v := .int (nI (MS.n y))) (C := RX4) (T := TX4) (N := 23) hx hb hts inX4 hown hK hP 0 rfl rfl 7 (by decide) (hts _ tw_579) (fun _ h9 => h9) rfl dX4_count_72 ?_
              refine lv_goto (tgt := 115) hx hb dX4_count_75 (by decide) ?_
              exact xr_i hx hb hr hlk (u := MS.s_th y 0) (⟨congrArg nI (by unfold mCnt; rw [if_pos (show w0 = 0 by assumption)]), rfl⟩) hP hK hD hS dX4_count_115
          · refine lv_aload_n hx hb dX4_count_58 rfl (lv_at hl 1 rfl) ?_
            refine va_get (D := (dC, dI)) (ci := 4) (v := .int (nI (MS.p y))) (C := RX4) (T := TX4) (N := 23) hx hb hts inX4 hown hK hP 0 rfl rfl 9 (by decide) (hts _ tw_581) (fun _ h9 => h9) rfl dX4_count_59 ?_
            refine lv_goto (tgt := 66) hx hb dX4_count_62 (by decide) ?_
            refine lv_istore_n (lv' := [(3, .int (nI (MS.p y))), (2, .int (nI (mReg y.co y.cn y.p))), (0, .ref (q 0)), (1, .int (nI w0))]) hx hb dX4_count_66 rfl hl (by decide) rfl (fun ls hl => ?_)
            refine lv_iload_n hx hb dX4_count_67 rfl (lv_at hl 3 rfl) ?_
            refine xn_zne (tgt := 78) hx hb (by omega) dX4_count_68 (by decide) (fun c_14 => ?_) (fun c_14 => ?_)
            · refine lv_iload_n hx hb dX4_count_78 rfl (lv_at hl 3 rfl) ?_
              refine lv_iconst (v := nI 1) hx hb dX4_count_79 (by decide) ?_
              refine xn_cne (tgt := 90) hx hb (by omega) (by omega) dX4_count_80 (by decide) (fun c_15 => ?_) (fun c_15 => ?_)
              · refine lv_iload_n hx hb dX4_count_90 rfl (lv_at hl 3 rfl) ?_
                refine lv_iconst (v := nI 2) hx hb dX4_count_91 (by decide) ?_
                refine xn_cne (tgt := 102) hx hb (by omega) (by omega) dX4_count_92 (by decide) (fun c_16 => ?_) (fun c_16 => ?_)
                · refine lv_iload_n hx hb dX4_count_102 rfl (lv_at hl 3 rfl) ?_
                  refine lv_iconst (v := nI 3) hx hb dX4_count_103 (by decide) ?_
                  refine xn_cne (tgt := 111) hx hb (by omega) (by omega) dX4_count_104 (by decide) (fun c_17 => ?_) (fun c_17 => ?_)
                  · refine lv_aload_n hx hb dX4_count_111 rfl (lv_at hl 2 rfl) ?_
                    refine va_get (D := (dC, dI)) (ci := 4) (v := .int (nI (MS.co y))) (C := RX4) (T := TX4) (N := 23) hx hb hts inX4 hown hK hP 0 rfl rfl 20 (by decide) (hts _ tw_592) (fun _ h9 => h9) rfl dX4_count_112 ?_
                    exact xr_i hx hb hr hlk (u := MS.s_th y 0) (⟨congrArg nI (by unfold mCnt; rw [if_neg (show ¬ w0 = 0 by omega), if_neg (show ¬ w0 = 1 by omega), if_neg (show ¬ w0 = 2 by omega), if_neg (show ¬ w0 = 3 by omega)]), rfl⟩) hP hK hD hS dX4_count_115
                  · refine lv_iload_n hx hb dX4_count_107 rfl (lv_at hl 0 rfl) ?_
                    refine lv_goto (tgt := 115) hx hb dX4_count_108 (by decide) ?_
                    exact xr_i hx hb hr hlk (u := MS.s_th y 0) (⟨congrArg nI (by unfold mCnt; rw [if_neg (show ¬ w0 = 0 by omega), if_neg (show ¬ w0 = 1 by omega), if_neg (show ¬ w0 = 2 by omega), if_pos (show w0 = 3 by assumption)]; unfold mLen; rw [if_neg (show ¬ mReg y.co y.cn y.p = 0 by omega), if_neg (show ¬ mReg y.co y.cn y.p = 2 by assumption), if_pos (show mReg y.co y.cn y.p = 3 by assumption)]), rfl⟩) hP hK hD hS dX4_count_115
                · refine lv_aload_n hx hb dX4_count_95 rfl (lv_at hl 2 rfl) ?_
                  refine va_get (D := (dC, dI)) (ci := 4) (v := .int (nI (MS.cn y))) (C := RX4) (T := TX4) (N := 23) hx hb hts inX4 hown hK hP 0 rfl rfl 16 (by decide) (hts _ tw_588) (fun _ h9 => h9) rfl dX4_count_96 ?_
                  refine lv_goto (tgt := 115) hx hb dX4_count_99 (by decide) ?_
                  exact xr_i hx hb hr hlk (u := MS.s_th y 0) (⟨congrArg nI (by unfold mCnt; rw [if_neg (show ¬ w0 = 0 by omega), if_neg (show ¬ w0 = 1 by omega), if_pos (show w0 = 2 by assumption)]), rfl⟩) hP hK hD hS dX4_count_115
              · refine lv_aload_n hx hb dX4_count_83 rfl (lv_at hl 2 rfl) ?_
                refine va_get (D := (dC, dI)) (ci := 4) (v := .int (nI (MS.c y))) (C := RX4) (T := TX4) (N := 23) hx hb hts inX4 hown hK hP 0 rfl rfl 11 (by decide) (hts _ tw_583) (fun _ h9 => h9) rfl dX4_count_84 ?_
                refine lv_goto (tgt := 115) hx hb dX4_count_87 (by decide) ?_
                exact xr_i hx hb hr hlk (u := MS.s_th y 0) (⟨congrArg nI (by unfold mCnt; rw [if_neg (show ¬ w0 = 0 by omega), if_pos (show w0 = 1 by assumption)]), rfl⟩) hP hK hD hS dX4_count_115
            · refine lv_aload_n hx hb dX4_count_71 rfl (lv_at hl 2 rfl) ?_
              refine va_get (D := (dC, dI)) (ci := 4) (v := .int (nI (MS.n y))) (C := RX4) (T := TX4) (N := 23) hx hb hts inX4 hown hK hP 0 rfl rfl 7 (by decide) (hts _ tw_579) (fun _ h9 => h9) rfl dX4_count_72 ?_
              refine lv_goto (tgt := 115) hx hb dX4_count_75 (by decide) ?_
              exact xr_i hx hb hr hlk (u := MS.s_th y 0) (⟨congrArg nI (by unfold mCnt; rw [if_pos (show w0 = 0 by assumption)]), rfl⟩) hP hK hD hS dX4_count_115
        · refine lv_bipush (v := nI 32) hx hb dX4_count_48 (by decide) ?_
          refine lv_goto (tgt := 66) hx hb dX4_count_50 (by decide) ?_
          refine lv_istore_n (lv' := [(3, .int (nI 32)), (2, .int (nI (mReg y.co y.cn y.p))), (0, .ref (q 0)), (1, .int (nI w0))]) hx hb dX4_count_66 rfl hl (by decide) rfl (fun ls hl => ?_)
          refine lv_iload_n hx hb dX4_count_67 rfl (lv_at hl 3 rfl) ?_
          refine xn_zne (tgt := 78) hx hb (by omega) dX4_count_68 (by decide) (fun c_18 => ?_) (fun c_18 => ?_)
          · refine lv_iload_n hx hb dX4_count_78 rfl (lv_at hl 3 rfl) ?_
            refine lv_iconst (v := nI 1) hx hb dX4_count_79 (by decide) ?_
            refine xn_cne (tgt := 90) hx hb (by omega) (by omega) dX4_count_80 (by decide) (fun c_19 => ?_) (fun c_19 => ?_)
            · refine lv_iload_n hx hb dX4_count_90 rfl (lv_at hl 3 rfl) ?_
              refine lv_iconst (v := nI 2) hx hb dX4_count_91 (by decide) ?_
              refine xn_cne (tgt := 102) hx hb (by omega) (by omega) dX4_count_92 (by decide) (fun c_20 => ?_) (fun c_20 => ?_)
              · refine lv_iload_n hx hb dX4_count_102 rfl (lv_at hl 3 rfl) ?_
                refine lv_iconst (v := nI 3) hx hb dX4_count_103 (by decide) ?_
                refine xn_cne (tgt := 111) hx hb (by omega) (by omega) dX4_count_104 (by decide) (fun c_21 => ?_) (fun c_21 => ?_)
                · refine lv_aload_n hx hb dX4_count_111 rfl (lv_at hl 2 rfl) ?_
                  refine va_get (D := (dC, dI)) (ci := 4) (v := .int (nI (MS.co y))) (C := RX4) (T := TX4) (N := 23) hx hb hts inX4 hown hK hP 0 rfl rfl 20 (by decide) (hts _ tw_592) (fun _ h9 => h9) rfl dX4_count_112 ?_
                  exact xr_i hx hb hr hlk (u := MS.s_th y 0) (⟨congrArg nI (by unfold mCnt; rw [if_neg (show ¬ w0 = 0 by omega), if_neg (show ¬ w0 = 1 by omega), if_neg (show ¬ w0 = 2 by omega), if_neg (show ¬ w0 = 3 by omega)]), rfl⟩) hP hK hD hS dX4_count_115
                · refine lv_iload_n hx hb dX4_count_107 rfl (lv_at hl 0 rfl) ?_
                  refine lv_goto (tgt := 115) hx hb dX4_count_108 (by decide) ?_
                  exact xr_i hx hb hr hlk (u := MS.s_th y 0) (⟨congrArg nI (by unfold mCnt; rw [if_neg (show ¬ w0 = 0 by omega), if_neg (show ¬ w0 = 1 by omega), if_neg (show ¬ w0 = 2 by omega), if_pos (show w0 = 3 by assumption)]; unfold mLen; rw [if_neg (show ¬ mReg y.co y.cn y.p = 0 by omega), if_pos (show mReg y.co y.cn y.p = 2 by assumption)]), rfl⟩) hP hK hD hS dX4_count_115
              · refine lv_aload_n hx hb dX4_count_95 rfl (lv_at hl 2 rfl) ?_
                refine va_get (D := (dC, dI)) (ci := 4) (v := .int (nI (MS.cn y))) (C := RX4) (T := TX4) (N := 23) hx hb hts inX4 hown hK hP 0 rfl rfl 16 (by decide) (hts _ tw_588) (fun _ h9 => h9) rfl dX4_count_96 ?_
                refine lv_goto (tgt := 115) hx hb dX4_count_99 (by decide) ?_
                exact xr_i hx hb hr hlk (u := MS.s_th y 0) (⟨congrArg nI (by unfold mCnt; rw [if_neg (show ¬ w0 = 0 by omega), if_neg (show ¬ w0 = 1 by omega), if_pos (show w0 = 2 by assumption)]), rfl⟩) hP hK hD hS dX4_count_115
            · refine lv_aload_n hx hb dX4_count_83 rfl (lv_at hl 2 rfl) ?_
              refine va_get (D := (dC, dI)) (ci := 4) (v := .int (nI (MS.c y))) (C := RX4) (T := TX4) (N := 23) hx hb hts inX4 hown hK hP 0 rfl rfl 11 (by decide) (hts _ tw_583) (fun _ h9 => h9) rfl dX4_count_84 ?_
              refine lv_goto (tgt := 115) hx hb dX4_count_87 (by decide) ?_
              exact xr_i hx hb hr hlk (u := MS.s_th y 0) (⟨congrArg nI (by unfold mCnt; rw [if_neg (show ¬ w0 = 0 by omega), if_pos (show w0 = 1 by assumption)]), rfl⟩) hP hK hD hS dX4_count_115
          · refine lv_aload_n hx hb dX4_count_71 rfl (lv_at hl 2 rfl) ?_
            refine va_get (D := (dC, dI)) (ci := 4) (v := .int (nI (MS.n y))) (C := RX4) (T := TX4) (N := 23) hx hb hts inX4 hown hK hP 0 rfl rfl 7 (by decide) (hts _ tw_579) (fun _ h9 => h9) rfl dX4_count_72 ?_
            refine lv_goto (tgt := 115) hx hb dX4_count_75 (by decide) ?_
            exact xr_i hx hb hr hlk (u := MS.s_th y 0) (⟨congrArg nI (by unfold mCnt; rw [if_pos (show w0 = 0 by assumption)]), rfl⟩) hP hK hD hS dX4_count_115
      · refine lv_aload_n hx hb dX4_count_36 rfl (lv_at hl 1 rfl) ?_
        refine va_get (D := (dC, dI)) (ci := 4) (v := .int (nI (MS.cn y))) (C := RX4) (T := TX4) (N := 23) hx hb hts inX4 hown hK hP 0 rfl rfl 16 (by decide) (hts _ tw_588) (fun _ h9 => h9) rfl dX4_count_37 ?_
        refine lv_goto (tgt := 66) hx hb dX4_count_40 (by decide) ?_
        refine lv_istore_n (lv' := [(3, .int (nI (MS.cn y))), (2, .int (nI (mReg y.co y.cn y.p))), (0, .ref (q 0)), (1, .int (nI w0))]) hx hb dX4_count_66 rfl hl (by decide) rfl (fun ls hl => ?_)
        refine lv_iload_n hx hb dX4_count_67 rfl (lv_at hl 3 rfl) ?_
        refine xn_zne (tgt := 78) hx hb (by omega) dX4_count_68 (by decide) (fun c_22 => ?_) (fun c_22 => ?_)
        · refine lv_iload_n hx hb dX4_count_78 rfl (lv_at hl 3 rfl) ?_
          refine lv_iconst (v := nI 1) hx hb dX4_count_79 (by decide) ?_
          refine xn_cne (tgt := 90) hx hb (by omega) (by omega) dX4_count_80 (by decide) (fun c_23 => ?_) (fun c_23 => ?_)
          · refine lv_iload_n hx hb dX4_count_90 rfl (lv_at hl 3 rfl) ?_
            refine lv_iconst (v := nI 2) hx hb dX4_count_91 (by decide) ?_
            refine xn_cne (tgt := 102) hx hb (by omega) (by omega) dX4_count_92 (by decide) (fun c_24 => ?_) (fun c_24 => ?_)
            · refine lv_iload_n hx hb dX4_count_102 rfl (lv_at hl 3 rfl) ?_
              refine lv_iconst (v := nI 3) hx hb dX4_count_103 (by decide) ?_
              refine xn_cne (tgt := 111) hx hb (by omega) (by omega) dX4_count_104 (by decide) (fun c_25 => ?_) (fun c_25 => ?_)
              · refine lv_aload_n hx hb dX4_count_111 rfl (lv_at hl 2 rfl) ?_
                refine va_get (D := (dC, dI)) (ci := 4) (v := .int (nI (MS.co y))) (C := RX4) (T := TX4) (N := 23) hx hb hts inX4 hown hK hP 0 rfl rfl 20 (by decide) (hts _ tw_592) (fun _ h9 => h9) rfl dX4_count_112 ?_
                exact xr_i hx hb hr hlk (u := MS.s_th y 0) (⟨congrArg nI (by unfold mCnt; rw [if_neg (show ¬ w0 = 0 by omega), if_neg (show ¬ w0 = 1 by omega), if_neg (show ¬ w0 = 2 by omega), if_neg (show ¬ w0 = 3 by omega)]), rfl⟩) hP hK hD hS dX4_count_115
              · refine lv_iload_n hx hb dX4_count_107 rfl (lv_at hl 0 rfl) ?_
                refine lv_goto (tgt := 115) hx hb dX4_count_108 (by decide) ?_
                exact xr_i hx hb hr hlk (u := MS.s_th y 0) (⟨congrArg nI (by unfold mCnt; rw [if_neg (show ¬ w0 = 0 by omega), if_neg (show ¬ w0 = 1 by omega), if_neg (show ¬ w0 = 2 by omega), if_pos (show w0 = 3 by assumption)]; unfold mLen; rw [if_pos (show mReg y.co y.cn y.p = 0 by assumption)]), rfl⟩) hP hK hD hS dX4_count_115
            · refine lv_aload_n hx hb dX4_count_95 rfl (lv_at hl 2 rfl) ?_
              refine va_get (D := (dC, dI)) (ci := 4) (v := .int (nI (MS.cn y))) (C := RX4) (T := TX4) (N := 23) hx hb hts inX4 hown hK hP 0 rfl rfl 16 (by decide) (hts _ tw_588) (fun _ h9 => h9) rfl dX4_count_96 ?_
              refine lv_goto (tgt := 115) hx hb dX4_count_99 (by decide) ?_
              exact xr_i hx hb hr hlk (u := MS.s_th y 0) (⟨congrArg nI (by unfold mCnt; rw [if_neg (show ¬ w0 = 0 by omega), if_neg (show ¬ w0 = 1 by omega), if_pos (show w0 = 2 by assumption)]), rfl⟩) hP hK hD hS dX4_count_115
          · refine lv_aload_n hx hb dX4_count_83 rfl (lv_at hl 2 rfl) ?_
            refine va_get (D := (dC, dI)) (ci := 4) (v := .int (nI (MS.c y))) (C := RX4) (T := TX4) (N := 23) hx hb hts inX4 hown hK hP 0 rfl rfl 11 (by decide) (hts _ tw_583) (fun _ h9 => h9) rfl dX4_count_84 ?_
            refine lv_goto (tgt := 115) hx hb dX4_count_87 (by decide) ?_
            exact xr_i hx hb hr hlk (u := MS.s_th y 0) (⟨congrArg nI (by unfold mCnt; rw [if_neg (show ¬ w0 = 0 by omega), if_pos (show w0 = 1 by assumption)]), rfl⟩) hP hK hD hS dX4_count_115
        · refine lv_aload_n hx hb dX4_count_71 rfl (lv_at hl 2 rfl) ?_
          refine va_get (D := (dC, dI)) (ci := 4) (v := .int (nI (MS.n y))) (C := RX4) (T := TX4) (N := 23) hx hb hts inX4 hown hK hP 0 rfl rfl 7 (by decide) (hts _ tw_579) (fun _ h9 => h9) rfl dX4_count_72 ?_
          refine lv_goto (tgt := 115) hx hb dX4_count_75 (by decide) ?_
          exact xr_i hx hb hr hlk (u := MS.s_th y 0) (⟨congrArg nI (by unfold mCnt; rw [if_pos (show w0 = 0 by assumption)]), rfl⟩) hP hK hD hS dX4_count_115
    · exact absurd (show False by omega) id
  · exact absurd (show False by omega) id
set_option maxHeartbeats 4000000 in
set_option maxRecDepth 100000 in
theorem c_M_count1 (l : Launch) (dC : Nat → ClassId) (dI : Nat → Nat → Nat) (q : Nat → Nat) (cI cZ : ClassId) (sz : Nat) (y : MS) (v : Int32) (h1 : v < 0 ∨ ¬ v ≤ nI 4) : Met l yX4_count (.code yX4_count cX4_count 4 (some .int) :: ALLG) ({ frames := 1, cells := 0, slots := 0, locals := 20 }) (va_Pc [.ref (q 0), .int v] (cP (dC, dI) vwCl [(cI, .int), (cZ, .boolean)] (wM q cI cZ y) eT sz)) (va_Qi (fun (x : Int32) (u : MS) => x = nI 0 ∧ u = y.s_th 1) (fun (u : MS) => cB (dC, dI) vwCl [(cI, .int), (cZ, .boolean)] (wM q cI cZ u) (va_A (wM q cI cZ y) sz)) (va_A (wM q cI cZ y) sz)) 0 0 (va_A (wM q cI cZ y) sz) := by
  refine xm_of (cc := cX4_count) (maxL := 4) (ret := some .int) (by decide) rfl (Nat.le_of_ble_eq_true rfl) ?_
  intro p e s m below meth c A hAe hx hb hr hml hts0 hown hlk hin hsz H locs hP hK hD hA hS hE ls hl
  have hts : ∀ w ∈ ALLG, w.before _ s = true := fun w h => hts0 w (List.mem_cons_of_mem _ h)
  rw [← hAe]
  have hl : lv_has ls 4 [(0, .ref (q 0)), (1, .int v)] := hl
  refine lv_aload_n hx hb dX4_count_0 rfl (lv_at hl 0 rfl) ?_
  refine lv_iload_n hx hb dX4_count_1 rfl (lv_at hl 1 rfl) ?_
  refine lv_if_lt (tgt := 10) hx hb dX4_count_2 (by decide) (fun c_1 => ?_) (fun c_1 => ?_)
  · refine lv_iconst (v := nI 1) hx hb dX4_count_10 (by decide) ?_
    refine lv_goto (tgt := 15) hx hb dX4_count_11 (by decide) ?_
    refine va_put (D := (dC, dI)) (ci := 4) (v := .int (nI 1)) (ty := .int) (C := RX4) (T := TX4) (N := 23) hx hb hts inX4 tyX4 tyX4_ok nmX4 hown hK hP hD hS 0 rfl rfl 0 (by decide) (hts _ tw_572) (fun _ h9 => h9) rfl (by decide +kernel) rfl rfl (Nat.le_of_ble_eq_true rfl) dX4_count_15 (fun H locs hP hD hS => ?_)
    have hP : va_P (dC, dI) vwCl (wM q cI cZ (MS.s_th y 1)) H := va_eqP (wM_s_th q cI cZ y 1) hP
    have hD : va_D A (wM q cI cZ (MS.s_th y 1)) := va_eqD (wM_s_th q cI cZ y 1) hD
    refine lv_aload_n hx hb dX4_count_18 rfl (lv_at hl 0 rfl) ?_
    refine va_get (D := (dC, dI)) (ci := 4) (v := .int (nI 1)) (C := RX4) (T := TX4) (N := 23) hx hb hts inX4 hown hK hP 0 rfl rfl 0 (by decide) (hts _ tw_572) (fun _ h9 => h9) rfl dX4_count_19 ?_
    refine xn_zle (tgt := 27) hx hb (by omega) dX4_count_22 (by decide) (fun c_2 => ?_) (fun c_2 => ?_)
    · exact absurd (show False by omega) id
    · refine lv_iconst (v := nI 0) hx hb dX4_count_25 (by decide) ?_
      exact xr_i hx hb hr hlk (u := MS.s_th y 1) (⟨rfl, rfl⟩) hP hK hD hS dX4_count_26
  · refine lv_iload_n hx hb dX4_count_5 rfl (lv_at hl 1 rfl) ?_
    refine lv_iconst (v := nI 4) hx hb dX4_count_6 (by decide) ?_
    refine lv_icmp_le (tgt := 14) hx hb dX4_count_7 (by decide) (fun c_3 => ?_) (fun c_3 => ?_)
    · exact absurd h1 (fun z => z.elim c_1 (fun z => z c_3))
    · refine lv_iconst (v := nI 1) hx hb dX4_count_10 (by decide) ?_
      refine lv_goto (tgt := 15) hx hb dX4_count_11 (by decide) ?_
      refine va_put (D := (dC, dI)) (ci := 4) (v := .int (nI 1)) (ty := .int) (C := RX4) (T := TX4) (N := 23) hx hb hts inX4 tyX4 tyX4_ok nmX4 hown hK hP hD hS 0 rfl rfl 0 (by decide) (hts _ tw_572) (fun _ h9 => h9) rfl (by decide +kernel) rfl rfl (Nat.le_of_ble_eq_true rfl) dX4_count_15 (fun H locs hP hD hS => ?_)
      have hP : va_P (dC, dI) vwCl (wM q cI cZ (MS.s_th y 1)) H := va_eqP (wM_s_th q cI cZ y 1) hP
      have hD : va_D A (wM q cI cZ (MS.s_th y 1)) := va_eqD (wM_s_th q cI cZ y 1) hD
      refine lv_aload_n hx hb dX4_count_18 rfl (lv_at hl 0 rfl) ?_
      refine va_get (D := (dC, dI)) (ci := 4) (v := .int (nI 1)) (C := RX4) (T := TX4) (N := 23) hx hb hts inX4 hown hK hP 0 rfl rfl 0 (by decide) (hts _ tw_572) (fun _ h9 => h9) rfl dX4_count_19 ?_
      refine xn_zle (tgt := 27) hx hb (by omega) dX4_count_22 (by decide) (fun c_4 => ?_) (fun c_4 => ?_)
      · exact absurd (show False by omega) id
      · refine lv_iconst (v := nI 0) hx hb dX4_count_25 (by decide) ?_
        exact xr_i hx hb hr hlk (u := MS.s_th y 1) (⟨rfl, rfl⟩) hP hK hD hS dX4_count_26
set_option maxHeartbeats 4000000 in
set_option maxRecDepth 100000 in
theorem c_ScanRowsModel_go (l : Launch) (dC : Nat → ClassId) (dI : Nat → Nat → Nat) (q : Nat → Nat) (cI cZ : ClassId) (sz : Nat) (y : MS) (goal : Nat) (hM : MB y) (h1 : goal < 16) : Met l yX4_go (.code yX4_go cX4_go 5 (some .int) :: ALLG) ({ frames := 3, cells := 0, slots := 0, locals := 73 }) (va_Pc [.ref (q 0), .int (nI goal)] (cP (dC, dI) vwCl [(cI, .int), (cZ, .boolean)] (wM q cI cZ y) eT sz)) (va_Qi (fun (x : Int32) (u : MS) => x = nI (DT goal y.sa) ∧ u = mgoIt (MS.s_fa (MS.s_th y 0) (mgF goal y.fa)) (DT goal y.sa)) (fun (u : MS) => cB (dC, dI) vwCl [(cI, .int), (cZ, .boolean)] (wM q cI cZ u) (va_A (wM q cI cZ y) sz)) (va_A (wM q cI cZ y) sz)) 0 0 (va_A (wM q cI cZ y) sz) := by
  refine xm_of (cc := cX4_go) (maxL := 5) (ret := some .int) (by decide) rfl (Nat.le_of_ble_eq_true rfl) ?_
  intro p e s m below meth c A hAe hx hb hr hml hts0 hown hlk hin hsz H locs hP hK hD hA hS hE ls hl
  have hts : ∀ w ∈ ALLG, w.before _ s = true := fun w h => hts0 w (List.mem_cons_of_mem _ h)
  rw [← hAe]
  have hM0 := hM
  have a_sa : y.sa < 16 := hM.2.2.2.2.2.1
  have hl : lv_has ls 5 [(0, .ref (q 0)), (1, .int (nI goal))] := hl
  refine lv_aload_n hx hb dX4_go_0 rfl (lv_at hl 0 rfl) ?_
  refine lv_iload_n hx hb dX4_go_1 rfl (lv_at hl 1 rfl) ?_
  refine xn_zlt (tgt := 11) hx hb (by omega) dX4_go_2 (by decide) ?_
  refine lv_iload_n hx hb dX4_go_5 rfl (lv_at hl 1 rfl) ?_
  refine lv_bipush (v := nI 15) hx hb dX4_go_6 (by decide) ?_
  refine xn_cle (tgt := 15) hx hb (by omega) (by omega) dX4_go_8 (by decide) (fun c_2 => ?_) (fun c_2 => ?_)
  · refine lv_iconst (v := nI 0) hx hb dX4_go_15 (by decide) ?_
    refine va_put (D := (dC, dI)) (ci := 4) (v := .int (nI 0)) (ty := .int) (C := RX4) (T := TX4) (N := 23) hx hb hts inX4 tyX4 tyX4_ok nmX4 hown hK hP hD hS 0 rfl rfl 0 (by decide) (hts _ tw_572) (fun _ h9 => h9) rfl (by decide +kernel) rfl rfl (Nat.le_of_ble_eq_true rfl) dX4_go_16 (fun H locs hP hD hS => ?_)
    have hP : va_P (dC, dI) vwCl (wM q cI cZ (MS.s_th y 0)) H := va_eqP (wM_s_th q cI cZ y 0) hP
    have hD : va_D A (wM q cI cZ (MS.s_th y 0)) := va_eqD (wM_s_th q cI cZ y 0) hD
    refine lv_aload_n hx hb dX4_go_19 rfl (lv_at hl 0 rfl) ?_
    refine va_get (D := (dC, dI)) (ci := 4) (v := .int (nI 0)) (C := RX4) (T := TX4) (N := 23) hx hb hts inX4 hown hK hP 0 rfl rfl 0 (by decide) (hts _ tw_572) (fun _ h9 => h9) rfl dX4_go_20 ?_
    refine xn_zle (tgt := 28) hx hb (by omega) dX4_go_23 (by decide) (fun c_3 => ?_) (fun c_3 => ?_)
    · refine lv_iconst (v := nI 0) hx hb dX4_go_28 (by decide) ?_
      refine lv_istore_n (lv' := [(2, .int (nI 0)), (0, .ref (q 0)), (1, .int (nI goal))]) hx hb dX4_go_29 rfl hl (by decide) rfl (fun ls hl => ?_)
      have hP : va_P (dC, dI) vwCl (wM q cI cZ (MS.s_fa (MS.s_th y 0) (MS.fa y))) H := va_eqP (wM_r_fa q cI cZ (MS.s_th y 0)) hP
      have hD : va_D A (wM q cI cZ (MS.s_fa (MS.s_th y 0) (MS.fa y))) := va_eqD (wM_r_fa q cI cZ (MS.s_th y 0)) hD
      have L30 : ∀ (fuel : Nat) (i : Nat) (g : Nat → Nat), (i ≤ 16) → (g = cpN (tk1 goal) y.fa i) → 16 - i < fuel → ∀ (H : Heap) (locs : List Loc), va_P (dC, dI) vwCl (wM q cI cZ (MS.s_fa (MS.s_th y 0) g)) H → va_D A (wM q cI cZ (MS.s_fa (MS.s_th y 0) g)) → va_S A s.heap H locs → ∀ ls : Array Slot, lv_has ls 5 [(0, .ref (q 0)), (1, .int (nI goal)), (2, .int (nI i))] → W p l e ({ frames := 3, cells := 0, slots := 0, locals := 73 } : Room) s m ([.ref (q 0), .int (nI goal)] : List Value).toArray below meth c H locs 0 0 (MQ below (va_Qi (fun (x : Int32) (u : MS) => x = nI (DT goal y.sa) ∧ u = mgoIt (MS.s_fa (MS.s_th y 0) (mgF goal y.fa)) (DT goal y.sa)) (fun (u : MS) => cB (dC, dI) vwCl [(cI, .int), (cZ, .boolean)] (wM q cI cZ u) (A)) (A)) ([.ref (q 0), .int (nI goal)] : List Value).toArray s 0 0 A) (F0 m 30 ls []) := by
        intro fuel
        induction fuel with
        | zero => intro i g i1 e1 hm H locs hP hD hS ls hl; exact absurd hm (Nat.not_lt_zero _)
        | succ fuel ih30 =>
          intro i g i1 e1 hm H locs hP hD hS ls hl
          refine lv_iload_n hx hb dX4_go_30 rfl (lv_at hl 2 rfl) ?_
          refine lv_bipush (v := nI 16) hx hb dX4_go_31 (by decide) ?_
          refine xn_cge (tgt := 59) hx hb (by omega) (by omega) dX4_go_33 (by decide) (fun c_4 => ?_) (fun c_4 => ?_)
          · refine lv_iconst (v := nI 0) hx hb dX4_go_59 (by decide) ?_
            refine lv_istore_n (lv' := [(2, .int (nI 0)), (0, .ref (q 0)), (1, .int (nI goal))]) hx hb dX4_go_60 rfl hl (by decide) rfl (fun ls hl => ?_)
            have L61 : ∀ (fuel : Nat) (i : Nat) (g : Nat → Nat), (i ≤ 16) → (g = mtO (cpN (tk1 goal) y.fa 16) i) → 16 - i < fuel → ∀ (H : Heap) (locs : List Loc), va_P (dC, dI) vwCl (wM q cI cZ (MS.s_fa (MS.s_th y 0) g)) H → va_D A (wM q cI cZ (MS.s_fa (MS.s_th y 0) g)) → va_S A s.heap H locs → ∀ ls : Array Slot, lv_has ls 5 [(0, .ref (q 0)), (1, .int (nI goal)), (2, .int (nI i))] → W p l e ({ frames := 3, cells := 0, slots := 0, locals := 73 } : Room) s m ([.ref (q 0), .int (nI goal)] : List Value).toArray below meth c H locs 0 0 (MQ below (va_Qi (fun (x : Int32) (u : MS) => x = nI (DT goal y.sa) ∧ u = mgoIt (MS.s_fa (MS.s_th y 0) (mgF goal y.fa)) (DT goal y.sa)) (fun (u : MS) => cB (dC, dI) vwCl [(cI, .int), (cZ, .boolean)] (wM q cI cZ u) (A)) (A)) ([.ref (q 0), .int (nI goal)] : List Value).toArray s 0 0 A) (F0 m 61 ls []) := by
              intro fuel
              induction fuel with
              | zero => intro i g i1 e1 hm H locs hP hD hS ls hl; exact absurd hm (Nat.not_lt_zero _)
              | succ fuel ih61 =>
                intro i g i1 e1 hm H locs hP hD hS ls hl
                refine lv_iload_n hx hb dX4_go_61 rfl (lv_at hl 2 rfl) ?_
                refine lv_bipush (v := nI 16) hx hb dX4_go_62 (by decide) ?_
                refine xn_cge (tgt := 167) hx hb (by omega) (by omega) dX4_go_64 (by decide) (fun c_5 => ?_) (fun c_5 => ?_)
                · refine lv_iconst (v := nI 0) hx hb dX4_go_167 (by decide) ?_
                  refine lv_istore_n (lv' := [(2, .int (nI 0)), (0, .ref (q 0)), (1, .int (nI goal))]) hx hb dX4_go_168 rfl hl (by decide) rfl (fun ls hl => ?_)
                  rw [show g = mgF goal y.fa by rw [e1, show i = 16 by omega]; rfl] at hP hD
                  have L169 : ∀ (fuel : Nat) (i : Nat), (i + DT goal (MS.sa (mgoIt (MS.s_fa (MS.s_th y 0) (mgF goal y.fa)) i)) = DT goal y.sa) → DT goal (MS.sa (mgoIt (MS.s_fa (MS.s_th y 0) (mgF goal y.fa)) i)) < fuel → ∀ (H : Heap) (locs : List Loc), va_P (dC, dI) vwCl (wM q cI cZ (mgoIt (MS.s_fa (MS.s_th y 0) (mgF goal y.fa)) i)) H → va_D A (wM q cI cZ (mgoIt (MS.s_fa (MS.s_th y 0) (mgF goal y.fa)) i)) → va_S A s.heap H locs → ∀ ls : Array Slot, lv_has ls 5 [(0, .ref (q 0)), (1, .int (nI goal)), (2, .int (nI i))] → W p l e ({ frames := 3, cells := 0, slots := 0, locals := 73 } : Room) s m ([.ref (q 0), .int (nI goal)] : List Value).toArray below meth c H locs 0 0 (MQ below (va_Qi (fun (x : Int32) (u : MS) => x = nI (DT goal y.sa) ∧ u = mgoIt (MS.s_fa (MS.s_th y 0) (mgF goal y.fa)) (DT goal y.sa)) (fun (u : MS) => cB (dC, dI) vwCl [(cI, .int), (cZ, .boolean)] (wM q cI cZ u) (A)) (A)) ([.ref (q 0), .int (nI goal)] : List Value).toArray s 0 0 A) (F0 m 169 ls []) := by
                    intro fuel
                    induction fuel with
                    | zero => intro i i1 hm H locs hP hD hS ls hl; exact absurd hm (Nat.not_lt_zero _)
                    | succ fuel ih169 =>
                      intro i i1 hm H locs hP hD hS ls hl
                      have hMi := mgoIt_MB (y := MS.s_fa (MS.s_th y 0) (mgF goal y.fa)) hM0 i
                      have hsi : MS.sa (mgoIt (MS.s_fa (MS.s_th y 0) (mgF goal y.fa)) i) < 16 := hMi.2.2.2.2.2.1
                      have hfi : ∀ z, z < 16 → (mgoIt (MS.s_fa (MS.s_th y 0) (mgF goal y.fa)) i).fa z = DT goal z := fun z hz => by rw [mgoIt_fa]; exact mgF_DT h1 y.fa z hz
                      have q1 := NX_lt (2 * MS.sa (mgoIt (MS.s_fa (MS.s_th y 0) (mgF goal y.fa)) i))
                      have q2 := NX_lt (2 * MS.sa (mgoIt (MS.s_fa (MS.s_th y 0) (mgF goal y.fa)) i) + 1)
                      have q3 := hfi _ q1
                      have q4 := hfi _ q2
                      have q5 := DT_b goal h1 _ q1
                      have q6 := DT_b goal h1 _ q2
                      refine lv_aload_n hx hb dX4_go_169 rfl (lv_at hl 0 rfl) ?_
                      refine va_get (D := (dC, dI)) (ci := 4) (v := .int (nI (MS.sa (mgoIt (MS.s_fa (MS.s_th y 0) (mgF goal y.fa)) i)))) (C := RX4) (T := TX4) (N := 23) hx hb hts inX4 hown hK hP 0 rfl rfl 21 (by decide) (hts _ tw_593) (fun _ h9 => h9) rfl dX4_go_170 ?_
                      refine lv_iload_n hx hb dX4_go_173 rfl (lv_at hl 1 rfl) ?_
                      refine xn_ceq (tgt := 223) hx hb (by omega) (by omega) dX4_go_174 (by decide) (fun c_6 => ?_) (fun c_6 => ?_)
                      · have e9 : DT goal y.sa = i := by have := DT_t goal h1; rw [c_6, this] at i1; omega
                        refine lv_iload_n hx hb dX4_go_223 rfl (lv_at hl 2 rfl) ?_
                        exact xr_i hx hb hr hlk (u := mgoIt (MS.s_fa (MS.s_th y 0) (mgF goal y.fa)) i) (⟨by rw [show DT goal y.sa = i from e9], by rw [show DT goal y.sa = i from e9]⟩) hP hK hD hS dX4_go_224
                      · have e8 := mgoIt_DT (y := MS.s_fa (MS.s_th y 0) (mgF goal y.fa)) h1 (fun z hz => mgF_DT h1 y.fa z hz) hsi c_6
                        refine lv_aload_n hx hb dX4_go_177 rfl (lv_at hl 0 rfl) ?_
                        refine lv_aload_n hx hb dX4_go_178 rfl (lv_at hl 0 rfl) ?_
                        refine va_get (D := (dC, dI)) (ci := 4) (v := .ref (q 13)) (C := RX4) (T := TX4) (N := 23) hx hb hts inX4 hown hK hP 0 rfl rfl 22 (by decide) (hts _ tw_594) (fun _ h9 => h9) rfl dX4_go_179 ?_
                        refine lv_aload_n hx hb dX4_go_182 rfl (lv_at hl 0 rfl) ?_
                        refine va_get (D := (dC, dI)) (ci := 4) (v := .int (nI (MS.sa (mgoIt (MS.s_fa (MS.s_th y 0) (mgF goal y.fa)) i)))) (C := RX4) (T := TX4) (N := 23) hx hb hts inX4 hown hK hP 0 rfl rfl 21 (by decide) (hts _ tw_593) (fun _ h9 => h9) rfl dX4_go_183 ?_
                        refine lv_iconst (v := nI 0) hx hb dX4_go_186 (by decide) ?_
                        refine xc_Si (As := [.int (nI (MS.sa (mgoIt (MS.s_fa (MS.s_th y 0) (mgF goal y.fa)) i))), .int (nI 0)]) (wr := wM q cI cZ (mgoIt (MS.s_fa (MS.s_th y 0) (mgF goal y.fa)) i)) ⟨hx, hb, hml, hown, hts⟩ (c_ScanRowsModel_next l dC dI q cI cZ H.size (MS.sa (mgoIt (MS.s_fa (MS.s_th y 0) (mgF goal y.fa)) i)) 0 (by omega) (by omega)) (cwS 2 hts (gS tw_763 tw_764 tw_5 tw_765) rfl rfl rfl (by decide +kernel) ⟨Nat.le_of_ble_eq_true rfl, Nat.le_of_ble_eq_true rfl⟩) rfl hl.1 rfl (Nat.le_of_ble_eq_true rfl) dX4_go_187 ⟨Nat.zero_le _, Nat.zero_le _⟩ hP hD hK hS hA [] [0, 1, 2, 3, 4, 5, 6, 7, 8, 9, 10, 11, 12, 13] rfl rfl (by decide) (by decide) (by decide) [0, 1] rfl eT_M (trivial) (fun r_7 u_8 H locs w_9 hP hD hS => ?_)
                        obtain rfl : r_7 = nI (NX (2 * MS.sa (mgoIt (MS.s_fa (MS.s_th y 0) (mgF goal y.fa)) i))) := w_9
                        have hP : va_P (dC, dI) vwCl (wM q cI cZ (mgoIt (MS.s_fa (MS.s_th y 0) (mgF goal y.fa)) i)) H := hP
                        have hD : va_D A (wM q cI cZ (mgoIt (MS.s_fa (MS.s_th y 0) (mgF goal y.fa)) i)) := hD
                        refine xa_ild hx hb hK hP 13 0 rfl rfl (v := nI ((MS.fa (mgoIt (MS.s_fa (MS.s_th y 0) (mgF goal y.fa)) i)) (NX (2 * MS.sa (mgoIt (MS.s_fa (MS.s_th y 0) (mgF goal y.fa)) i))))) (by omega) (by decide) rfl dX4_go_190 ?_
                        refine lv_aload_n hx hb dX4_go_191 rfl (lv_at hl 0 rfl) ?_
                        refine va_get (D := (dC, dI)) (ci := 4) (v := .ref (q 13)) (C := RX4) (T := TX4) (N := 23) hx hb hts inX4 hown hK hP 0 rfl rfl 22 (by decide) (hts _ tw_594) (fun _ h9 => h9) rfl dX4_go_192 ?_
                        refine lv_aload_n hx hb dX4_go_195 rfl (lv_at hl 0 rfl) ?_
                        refine va_get (D := (dC, dI)) (ci := 4) (v := .int (nI (MS.sa (mgoIt (MS.s_fa (MS.s_th y 0) (mgF goal y.fa)) i)))) (C := RX4) (T := TX4) (N := 23) hx hb hts inX4 hown hK hP 0 rfl rfl 21 (by decide) (hts _ tw_593) (fun _ h9 => h9) rfl dX4_go_196 ?_
                        refine lv_iconst (v := nI 1) hx hb dX4_go_199 (by decide) ?_
                        refine xc_Si (As := [.int (nI (MS.sa (mgoIt (MS.s_fa (MS.s_th y 0) (mgF goal y.fa)) i))), .int (nI 1)]) (wr := wM q cI cZ (mgoIt (MS.s_fa (MS.s_th y 0) (mgF goal y.fa)) i)) ⟨hx, hb, hml, hown, hts⟩ (c_ScanRowsModel_next l dC dI q cI cZ H.size (MS.sa (mgoIt (MS.s_fa (MS.s_th y 0) (mgF goal y.fa)) i)) 1 (by omega) (by omega)) (cwS 2 hts (gS tw_763 tw_764 tw_5 tw_765) rfl rfl rfl (by decide +kernel) ⟨Nat.le_of_ble_eq_true rfl, Nat.le_of_ble_eq_true rfl⟩) rfl hl.1 rfl (Nat.le_of_ble_eq_true rfl) dX4_go_200 ⟨Nat.zero_le _, Nat.zero_le _⟩ hP hD hK hS hA [] [0, 1, 2, 3, 4, 5, 6, 7, 8, 9, 10, 11, 12, 13] rfl rfl (by decide) (by decide) (by decide) [0, 1] rfl eT_M (trivial) (fun r_10 u_11 H locs w_12 hP hD hS => ?_)
                        obtain rfl : r_10 = nI (NX (2 * MS.sa (mgoIt (MS.s_fa (MS.s_th y 0) (mgF goal y.fa)) i) + 1)) := w_12
                        have hP : va_P (dC, dI) vwCl (wM q cI cZ (mgoIt (MS.s_fa (MS.s_th y 0) (mgF goal y.fa)) i)) H := hP
                        have hD : va_D A (wM q cI cZ (mgoIt (MS.s_fa (MS.s_th y 0) (mgF goal y.fa)) i)) := hD
                        refine xa_ild hx hb hK hP 13 0 rfl rfl (v := nI ((MS.fa (mgoIt (MS.s_fa (MS.s_th y 0) (mgF goal y.fa)) i)) (NX (2 * MS.sa (mgoIt (MS.s_fa (MS.s_th y 0) (mgF goal y.fa)) i) + 1)))) (by omega) (by decide) rfl dX4_go_203 ?_
                        refine xn_cgt (tgt := 211) hx hb (by omega) (by omega) dX4_go_204 (by decide) (fun c_13 => ?_) (fun c_13 => ?_)
                        · refine lv_iconst (v := nI 1) hx hb dX4_go_211 (by decide) ?_
                          refine xt_i (show nI 1 = nI (mmode (mgoIt (MS.s_fa (MS.s_th y 0) (mgF goal y.fa)) i)) from congrArg nI (by unfold mmode; rw [if_neg (by omega)])) ?_
                          refine lv_iconst (v := nI 0) hx hb dX4_go_212 (by decide) ?_
                          refine xc_Vi (As := [.int (nI (mmode (mgoIt (MS.s_fa (MS.s_th y 0) (mgF goal y.fa)) i))), .int (nI 0)]) (wr := []) ⟨hx, hb, hml, hown, hts⟩ (c_ScanRowsModel_doTick l dC dI q cI cZ H.size (mgoIt (MS.s_fa (MS.s_th y 0) (mgF goal y.fa)) i) (mmode (mgoIt (MS.s_fa (MS.s_th y 0) (mgF goal y.fa)) i)) 0 hMi (mmode_lt _) (by decide)) (cwV 2 hts (gV tw_747 tw_749 sw_34 tw_5 tw_750) rfl rfl rfl (by decide +kernel) ⟨Nat.le_of_ble_eq_true rfl, Nat.le_of_ble_eq_true rfl⟩) rfl hl.1 rfl (Nat.le_of_ble_eq_true rfl) dX4_go_213 ⟨Nat.zero_le _, Nat.zero_le _⟩ hP hD hK hS hA [0, 1, 2, 3, 4, 5, 6, 7, 8, 9, 10, 11, 12, 13] [] rfl rfl (by decide) (by decide) (by decide) [0, 1] rfl (q0 := 0) rfl rfl rfl eT_M (trivial) (fun r_14 u_15 H locs w_16 hP hD hS => ?_)
                          obtain ⟨rfl, rfl⟩ := w_16
                          have hP : va_P (dC, dI) vwCl (wM q cI cZ (mgoIt (MS.s_fa (MS.s_th y 0) (mgF goal y.fa)) (i + 1))) H := hP
                          have hD : va_D A (wM q cI cZ (mgoIt (MS.s_fa (MS.s_th y 0) (mgF goal y.fa)) (i + 1))) := hD
                          refine lv_pop hx hb dX4_go_216 rfl ?_
                          refine lv_iinc (v := nI (i + 1)) (lv' := [(2, .int (nI (i + 1))), (0, .ref (q 0)), (1, .int (nI goal))]) hx hb dX4_go_217 hl (k := 2) rfl (nI_1 _) (by decide) rfl (fun ls hl => ?_)
                          refine lv_goto (tgt := 169) hx hb dX4_go_220 (by decide) ?_
                          exact ih169 (i + 1) (by omega) (by omega) H locs hP hD hS ls (lv_sub hl [1, 2, 0] rfl)
                        · refine lv_iconst (v := nI 0) hx hb dX4_go_207 (by decide) ?_
                          refine lv_goto (tgt := 212) hx hb dX4_go_208 (by decide) ?_
                          refine xt_i (show nI 0 = nI (mmode (mgoIt (MS.s_fa (MS.s_th y 0) (mgF goal y.fa)) i)) from congrArg nI (by unfold mmode; rw [if_pos (by omega)])) ?_
                          refine lv_iconst (v := nI 0) hx hb dX4_go_212 (by decide) ?_
                          refine xc_Vi (As := [.int (nI (mmode (mgoIt (MS.s_fa (MS.s_th y 0) (mgF goal y.fa)) i))), .int (nI 0)]) (wr := []) ⟨hx, hb, hml, hown, hts⟩ (c_ScanRowsModel_doTick l dC dI q cI cZ H.size (mgoIt (MS.s_fa (MS.s_th y 0) (mgF goal y.fa)) i) (mmode (mgoIt (MS.s_fa (MS.s_th y 0) (mgF goal y.fa)) i)) 0 hMi (mmode_lt _) (by decide)) (cwV 2 hts (gV tw_747 tw_749 sw_34 tw_5 tw_750) rfl rfl rfl (by decide +kernel) ⟨Nat.le_of_ble_eq_true rfl, Nat.le_of_ble_eq_true rfl⟩) rfl hl.1 rfl (Nat.le_of_ble_eq_true rfl) dX4_go_213 ⟨Nat.zero_le _, Nat.zero_le _⟩ hP hD hK hS hA [0, 1, 2, 3, 4, 5, 6, 7, 8, 9, 10, 11, 12, 13] [] rfl rfl (by decide) (by decide) (by decide) [0, 1] rfl (q0 := 0) rfl rfl rfl eT_M (trivial) (fun r_17 u_18 H locs w_19 hP hD hS => ?_)
                          obtain ⟨rfl, rfl⟩ := w_19
                          have hP : va_P (dC, dI) vwCl (wM q cI cZ (mgoIt (MS.s_fa (MS.s_th y 0) (mgF goal y.fa)) (i + 1))) H := hP
                          have hD : va_D A (wM q cI cZ (mgoIt (MS.s_fa (MS.s_th y 0) (mgF goal y.fa)) (i + 1))) := hD
                          refine lv_pop hx hb dX4_go_216 rfl ?_
                          refine lv_iinc (v := nI (i + 1)) (lv' := [(2, .int (nI (i + 1))), (0, .ref (q 0)), (1, .int (nI goal))]) hx hb dX4_go_217 hl (k := 2) rfl (nI_1 _) (by decide) rfl (fun ls hl => ?_)
                          refine lv_goto (tgt := 169) hx hb dX4_go_220 (by decide) ?_
                          exact ih169 (i + 1) (by omega) (by omega) H locs hP hD hS ls (lv_sub hl [1, 2, 0] rfl)
                  exact L169 ((DT goal y.sa) + 1) 0 (Nat.zero_add _) (Nat.lt_succ_self _) H locs hP hD hS ls (lv_sub hl [1, 2, 0] rfl)
                · refine lv_iconst (v := nI 0) hx hb dX4_go_67 (by decide) ?_
                  refine lv_istore_n (lv' := [(3, .int (nI 0)), (0, .ref (q 0)), (1, .int (nI goal)), (2, .int (nI i))]) hx hb dX4_go_68 rfl hl (by decide) rfl (fun ls hl => ?_)
                  have L69 : ∀ (fuel : Nat) (j : Nat) (g : Nat → Nat), (j ≤ 16) → (g = mtI (mtO (cpN (tk1 goal) y.fa 16) i) j) → 16 - j < fuel → ∀ (H : Heap) (locs : List Loc), va_P (dC, dI) vwCl (wM q cI cZ (MS.s_fa (MS.s_th y 0) g)) H → va_D A (wM q cI cZ (MS.s_fa (MS.s_th y 0) g)) → va_S A s.heap H locs → ∀ ls : Array Slot, lv_has ls 5 [(0, .ref (q 0)), (1, .int (nI goal)), (2, .int (nI i)), (3, .int (nI j))] → W p l e ({ frames := 3, cells := 0, slots := 0, locals := 73 } : Room) s m ([.ref (q 0), .int (nI goal)] : List Value).toArray below meth c H locs 0 0 (MQ below (va_Qi (fun (x : Int32) (u : MS) => x = nI (DT goal y.sa) ∧ u = mgoIt (MS.s_fa (MS.s_th y 0) (mgF goal y.fa)) (DT goal y.sa)) (fun (u : MS) => cB (dC, dI) vwCl [(cI, .int), (cZ, .boolean)] (wM q cI cZ u) (A)) (A)) ([.ref (q 0), .int (nI goal)] : List Value).toArray s 0 0 A) (F0 m 69 ls []) := by
                    intro fuel
                    induction fuel with
                    | zero => intro j g j1 e2 hm H locs hP hD hS ls hl; exact absurd hm (Nat.not_lt_zero _)
                    | succ fuel ih69 =>
                      intro j g j1 e2 hm H locs hP hD hS ls hl
                      refine lv_iload_n hx hb dX4_go_69 rfl (lv_at hl 3 rfl) ?_
                      refine lv_bipush (v := nI 16) hx hb dX4_go_70 (by decide) ?_
                      refine xn_cge (tgt := 161) hx hb (by omega) (by omega) dX4_go_72 (by decide) (fun c_20 => ?_) (fun c_20 => ?_)
                      · refine lv_iinc (v := nI (i + 1)) (lv' := [(2, .int (nI (i + 1))), (0, .ref (q 0)), (1, .int (nI goal)), (3, .int (nI j))]) hx hb dX4_go_161 hl (k := 2) rfl (nI_1 _) (by decide) rfl (fun ls hl => ?_)
                        refine lv_goto (tgt := 61) hx hb dX4_go_164 (by decide) ?_
                        exact ih61 (i + 1) g (by omega) (by rw [e2, show j = 16 by omega]; rfl) (by omega) H locs hP hD hS ls (lv_sub hl [1, 2, 0] rfl)
                      · have q1 := NX_lt (2 * j)
                        have q2 := NX_lt (2 * j + 1)
                        have b_g : ∀ z, z < 16 → g z ≤ 99 := fun z hz => by rw [e2]; exact mtI_l9 (mtO_l9 (tk1_l9 goal y.fa) i) j z hz
                        have q3 := b_g _ q1
                        have q4 := b_g _ q2
                        have q5 := b_g j (by omega)
                        refine lv_aload_n hx hb dX4_go_75 rfl (lv_at hl 0 rfl) ?_
                        refine va_get (D := (dC, dI)) (ci := 4) (v := .ref (q 13)) (C := RX4) (T := TX4) (N := 23) hx hb hts inX4 hown hK hP 0 rfl rfl 22 (by decide) (hts _ tw_594) (fun _ h9 => h9) rfl dX4_go_76 ?_
                        refine lv_iload_n hx hb dX4_go_79 rfl (lv_at hl 3 rfl) ?_
                        refine lv_iconst (v := nI 0) hx hb dX4_go_80 (by decide) ?_
                        refine xc_Si (As := [.int (nI j), .int (nI 0)]) (wr := wM q cI cZ (MS.s_fa (MS.s_th y 0) g)) ⟨hx, hb, hml, hown, hts⟩ (c_ScanRowsModel_next l dC dI q cI cZ H.size j 0 (by omega) (by omega)) (cwS 2 hts (gS tw_763 tw_764 tw_5 tw_765) rfl rfl rfl (by decide +kernel) ⟨Nat.le_of_ble_eq_true rfl, Nat.le_of_ble_eq_true rfl⟩) rfl hl.1 rfl (Nat.le_of_ble_eq_true rfl) dX4_go_81 ⟨Nat.zero_le _, Nat.zero_le _⟩ hP hD hK hS hA [] [0, 1, 2, 3, 4, 5, 6, 7, 8, 9, 10, 11, 12, 13] rfl rfl (by decide) (by decide) (by decide) [0, 1] rfl eT_M (trivial) (fun r_21 u_22 H locs w_23 hP hD hS => ?_)
                        obtain rfl : r_21 = nI (NX (2 * j)) := w_23
                        have hP : va_P (dC, dI) vwCl (wM q cI cZ (MS.s_fa (MS.s_th y 0) g)) H := hP
                        have hD : va_D A (wM q cI cZ (MS.s_fa (MS.s_th y 0) g)) := hD
                        refine xa_ild hx hb hK hP 13 0 rfl rfl (v := nI (g (NX (2 * j)))) (by omega) (by decide) rfl dX4_go_84 ?_
                        refine lv_aload_n hx hb dX4_go_85 rfl (lv_at hl 0 rfl) ?_
                        refine va_get (D := (dC, dI)) (ci := 4) (v := .ref (q 13)) (C := RX4) (T := TX4) (N := 23) hx hb hts inX4 hown hK hP 0 rfl rfl 22 (by decide) (hts _ tw_594) (fun _ h9 => h9) rfl dX4_go_86 ?_
                        refine lv_iload_n hx hb dX4_go_89 rfl (lv_at hl 3 rfl) ?_
                        refine lv_iconst (v := nI 1) hx hb dX4_go_90 (by decide) ?_
                        refine xc_Si (As := [.int (nI j), .int (nI 1)]) (wr := wM q cI cZ (MS.s_fa (MS.s_th y 0) g)) ⟨hx, hb, hml, hown, hts⟩ (c_ScanRowsModel_next l dC dI q cI cZ H.size j 1 (by omega) (by omega)) (cwS 2 hts (gS tw_763 tw_764 tw_5 tw_765) rfl rfl rfl (by decide +kernel) ⟨Nat.le_of_ble_eq_true rfl, Nat.le_of_ble_eq_true rfl⟩) rfl hl.1 rfl (Nat.le_of_ble_eq_true rfl) dX4_go_91 ⟨Nat.zero_le _, Nat.zero_le _⟩ hP hD hK hS hA [] [0, 1, 2, 3, 4, 5, 6, 7, 8, 9, 10, 11, 12, 13] rfl rfl (by decide) (by decide) (by decide) [0, 1] rfl eT_M (trivial) (fun r_24 u_25 H locs w_26 hP hD hS => ?_)
                        obtain rfl : r_24 = nI (NX (2 * j + 1)) := w_26
                        have hP : va_P (dC, dI) vwCl (wM q cI cZ (MS.s_fa (MS.s_th y 0) g)) H := hP
                        have hD : va_D A (wM q cI cZ (MS.s_fa (MS.s_th y 0) g)) := hD
                        refine xa_ild hx hb hK hP 13 0 rfl rfl (v := nI (g (NX (2 * j + 1)))) (by omega) (by decide) rfl dX4_go_94 ?_
                        refine xn_cge (tgt := 111) hx hb (by omega) (by omega) dX4_go_95 (by decide) (fun c_27 => ?_) (fun c_27 => ?_)
                        · refine lv_aload_n hx hb dX4_go_111 rfl (lv_at hl 0 rfl) ?_
                          refine va_get (D := (dC, dI)) (ci := 4) (v := .ref (q 13)) (C := RX4) (T := TX4) (N := 23) hx hb hts inX4 hown hK hP 0 rfl rfl 22 (by decide) (hts _ tw_594) (fun _ h9 => h9) rfl dX4_go_112 ?_
                          refine lv_iload_n hx hb dX4_go_115 rfl (lv_at hl 3 rfl) ?_
                          refine lv_iconst (v := nI 1) hx hb dX4_go_116 (by decide) ?_
                          refine xc_Si (As := [.int (nI j), .int (nI 1)]) (wr := wM q cI cZ (MS.s_fa (MS.s_th y 0) g)) ⟨hx, hb, hml, hown, hts⟩ (c_ScanRowsModel_next l dC dI q cI cZ H.size j 1 (by omega) (by omega)) (cwS 2 hts (gS tw_763 tw_764 tw_5 tw_765) rfl rfl rfl (by decide +kernel) ⟨Nat.le_of_ble_eq_true rfl, Nat.le_of_ble_eq_true rfl⟩) rfl hl.1 rfl (Nat.le_of_ble_eq_true rfl) dX4_go_117 ⟨Nat.zero_le _, Nat.zero_le _⟩ hP hD hK hS hA [] [0, 1, 2, 3, 4, 5, 6, 7, 8, 9, 10, 11, 12, 13] rfl rfl (by decide) (by decide) (by decide) [0, 1] rfl eT_M (trivial) (fun r_28 u_29 H locs w_30 hP hD hS => ?_)
                          obtain rfl : r_28 = nI (NX (2 * j + 1)) := w_30
                          have hP : va_P (dC, dI) vwCl (wM q cI cZ (MS.s_fa (MS.s_th y 0) g)) H := hP
                          have hD : va_D A (wM q cI cZ (MS.s_fa (MS.s_th y 0) g)) := hD
                          refine xa_ild hx hb hK hP 13 0 rfl rfl (v := nI (g (NX (2 * j + 1)))) (by omega) (by decide) rfl dX4_go_120 ?_
                          refine xt_i (show nI (g (NX (2 * j + 1))) = nI (min (g (NX (2 * j))) (g (NX (2 * j + 1)))) from congrArg nI (by rw [Nat.min_eq_right (by omega)])) ?_
                          refine lv_istore (lv' := [(4, .int (nI (min (g (NX (2 * j))) (g (NX (2 * j + 1)))))), (0, .ref (q 0)), (1, .int (nI goal)), (2, .int (nI i)), (3, .int (nI j))]) hx hb dX4_go_121 hl (by decide) rfl (fun ls hl => ?_)
                          refine lv_aload_n hx hb dX4_go_123 rfl (lv_at hl 1 rfl) ?_
                          refine va_get (D := (dC, dI)) (ci := 4) (v := .ref (q 13)) (C := RX4) (T := TX4) (N := 23) hx hb hts inX4 hown hK hP 0 rfl rfl 22 (by decide) (hts _ tw_594) (fun _ h9 => h9) rfl dX4_go_124 ?_
                          refine lv_iload_n hx hb dX4_go_127 rfl (lv_at hl 4 rfl) ?_
                          refine lv_iload hx hb dX4_go_128 (lv_at hl 0 rfl) ?_
                          refine lv_iconst (v := nI 1) hx hb dX4_go_130 (by decide) ?_
                          refine xn_add hx hb dX4_go_131 ?_
                          refine lv_aload_n hx hb dX4_go_132 rfl (lv_at hl 1 rfl) ?_
                          refine va_get (D := (dC, dI)) (ci := 4) (v := .ref (q 13)) (C := RX4) (T := TX4) (N := 23) hx hb hts inX4 hown hK hP 0 rfl rfl 22 (by decide) (hts _ tw_594) (fun _ h9 => h9) rfl dX4_go_133 ?_
                          refine lv_iload_n hx hb dX4_go_136 rfl (lv_at hl 4 rfl) ?_
                          refine xa_ild hx hb hK hP 13 0 rfl rfl (v := nI (g j)) (by omega) (by decide) rfl dX4_go_137 ?_
                          refine xn_cge (tgt := 148) hx hb (by omega) (by omega) dX4_go_138 (by decide) (fun c_31 => ?_) (fun c_31 => ?_)
                          · refine lv_aload_n hx hb dX4_go_148 rfl (lv_at hl 1 rfl) ?_
                            refine va_get (D := (dC, dI)) (ci := 4) (v := .ref (q 13)) (C := RX4) (T := TX4) (N := 23) hx hb hts inX4 hown hK hP 0 rfl rfl 22 (by decide) (hts _ tw_594) (fun _ h9 => h9) rfl dX4_go_149 ?_
                            refine lv_iload_n hx hb dX4_go_152 rfl (lv_at hl 4 rfl) ?_
                            refine xa_ild hx hb hK hP 13 0 rfl rfl (v := nI (g j)) (by omega) (by decide) rfl dX4_go_153 ?_
                            refine xt_i (show nI (g j) = nI (min (g j) (min (g (NX (2 * j))) (g (NX (2 * j + 1))) + 1)) from congrArg nI (by omega)) ?_
                            refine xa_ist hx hb hK hP hD hS 13 0 rfl rfl (by omega) (by decide) (aN_up _ _ _) dX4_go_154 (fun H locs hP hD hS => ?_)
                            have hP : va_P (dC, dI) vwCl (wM q cI cZ (MS.s_fa (MS.s_fa (MS.s_th y 0) g) (va_up g j (min (g j) (min (g (NX (2 * j))) (g (NX (2 * j + 1))) + 1))))) H := va_eqP (wM_s_fa q cI cZ (MS.s_fa (MS.s_th y 0) g) (va_up g j (min (g j) (min (g (NX (2 * j))) (g (NX (2 * j + 1))) + 1)))) hP
                            have hD : va_D A (wM q cI cZ (MS.s_fa (MS.s_fa (MS.s_th y 0) g) (va_up g j (min (g j) (min (g (NX (2 * j))) (g (NX (2 * j + 1))) + 1))))) := va_eqD (wM_s_fa q cI cZ (MS.s_fa (MS.s_th y 0) g) (va_up g j (min (g j) (min (g (NX (2 * j))) (g (NX (2 * j + 1))) + 1)))) hD
                            refine lv_iinc (v := nI (j + 1)) (lv' := [(3, .int (nI (j + 1))), (4, .int (nI (min (g (NX (2 * j))) (g (NX (2 * j + 1)))))), (0, .ref (q 0)), (1, .int (nI goal)), (2, .int (nI i))]) hx hb dX4_go_155 hl (k := 4) rfl (nI_1 _) (by decide) rfl (fun ls hl => ?_)
                            refine lv_goto (tgt := 69) hx hb dX4_go_158 (by decide) ?_
                            exact ih69 (j + 1) (va_up g j (min (g j) (min (g (NX (2 * j))) (g (NX (2 * j + 1))) + 1))) (by omega) (by rw [show mtI (mtO (cpN (tk1 goal) y.fa 16) i) (j + 1) = mtS (mtI (mtO (cpN (tk1 goal) y.fa 16) i) j) j from rfl, ← e2]; rfl) (by omega) H locs hP hD hS ls (lv_sub hl [2, 3, 4, 0] rfl)
                          · refine lv_iload hx hb dX4_go_141 (lv_at hl 0 rfl) ?_
                            refine lv_iconst (v := nI 1) hx hb dX4_go_143 (by decide) ?_
                            refine xn_add hx hb dX4_go_144 ?_
                            refine lv_goto (tgt := 154) hx hb dX4_go_145 (by decide) ?_
                            refine xt_i (show nI ((min (g (NX (2 * j))) (g (NX (2 * j + 1)))) + 1) = nI (min (g j) (min (g (NX (2 * j))) (g (NX (2 * j + 1))) + 1)) from congrArg nI (by omega)) ?_
                            refine xa_ist hx hb hK hP hD hS 13 0 rfl rfl (by omega) (by decide) (aN_up _ _ _) dX4_go_154 (fun H locs hP hD hS => ?_)
                            have hP : va_P (dC, dI) vwCl (wM q cI cZ (MS.s_fa (MS.s_fa (MS.s_th y 0) g) (va_up g j (min (g j) (min (g (NX (2 * j))) (g (NX (2 * j + 1))) + 1))))) H := va_eqP (wM_s_fa q cI cZ (MS.s_fa (MS.s_th y 0) g) (va_up g j (min (g j) (min (g (NX (2 * j))) (g (NX (2 * j + 1))) + 1)))) hP
                            have hD : va_D A (wM q cI cZ (MS.s_fa (MS.s_fa (MS.s_th y 0) g) (va_up g j (min (g j) (min (g (NX (2 * j))) (g (NX (2 * j + 1))) + 1))))) := va_eqD (wM_s_fa q cI cZ (MS.s_fa (MS.s_th y 0) g) (va_up g j (min (g j) (min (g (NX (2 * j))) (g (NX (2 * j + 1))) + 1)))) hD
                            refine lv_iinc (v := nI (j + 1)) (lv' := [(3, .int (nI (j + 1))), (4, .int (nI (min (g (NX (2 * j))) (g (NX (2 * j + 1)))))), (0, .ref (q 0)), (1, .int (nI goal)), (2, .int (nI i))]) hx hb dX4_go_155 hl (k := 4) rfl (nI_1 _) (by decide) rfl (fun ls hl => ?_)
                            refine lv_goto (tgt := 69) hx hb dX4_go_158 (by decide) ?_
                            exact ih69 (j + 1) (va_up g j (min (g j) (min (g (NX (2 * j))) (g (NX (2 * j + 1))) + 1))) (by omega) (by rw [show mtI (mtO (cpN (tk1 goal) y.fa 16) i) (j + 1) = mtS (mtI (mtO (cpN (tk1 goal) y.fa 16) i) j) j from rfl, ← e2]; rfl) (by omega) H locs hP hD hS ls (lv_sub hl [2, 3, 4, 0] rfl)
                        · refine lv_aload_n hx hb dX4_go_98 rfl (lv_at hl 0 rfl) ?_
                          refine va_get (D := (dC, dI)) (ci := 4) (v := .ref (q 13)) (C := RX4) (T := TX4) (N := 23) hx hb hts inX4 hown hK hP 0 rfl rfl 22 (by decide) (hts _ tw_594) (fun _ h9 => h9) rfl dX4_go_99 ?_
                          refine lv_iload_n hx hb dX4_go_102 rfl (lv_at hl 3 rfl) ?_
                          refine lv_iconst (v := nI 0) hx hb dX4_go_103 (by decide) ?_
                          refine xc_Si (As := [.int (nI j), .int (nI 0)]) (wr := wM q cI cZ (MS.s_fa (MS.s_th y 0) g)) ⟨hx, hb, hml, hown, hts⟩ (c_ScanRowsModel_next l dC dI q cI cZ H.size j 0 (by omega) (by omega)) (cwS 2 hts (gS tw_763 tw_764 tw_5 tw_765) rfl rfl rfl (by decide +kernel) ⟨Nat.le_of_ble_eq_true rfl, Nat.le_of_ble_eq_true rfl⟩) rfl hl.1 rfl (Nat.le_of_ble_eq_true rfl) dX4_go_104 ⟨Nat.zero_le _, Nat.zero_le _⟩ hP hD hK hS hA [] [0, 1, 2, 3, 4, 5, 6, 7, 8, 9, 10, 11, 12, 13] rfl rfl (by decide) (by decide) (by decide) [0, 1] rfl eT_M (trivial) (fun r_32 u_33 H locs w_34 hP hD hS => ?_)
                          obtain rfl : r_32 = nI (NX (2 * j)) := w_34
                          have hP : va_P (dC, dI) vwCl (wM q cI cZ (MS.s_fa (MS.s_th y 0) g)) H := hP
                          have hD : va_D A (wM q cI cZ (MS.s_fa (MS.s_th y 0) g)) := hD
                          refine xa_ild hx hb hK hP 13 0 rfl rfl (v := nI (g (NX (2 * j)))) (by omega) (by decide) rfl dX4_go_107 ?_
                          refine lv_goto (tgt := 121) hx hb dX4_go_108 (by decide) ?_
                          refine xt_i (show nI (g (NX (2 * j))) = nI (min (g (NX (2 * j))) (g (NX (2 * j + 1)))) from congrArg nI (by rw [Nat.min_eq_left (by omega)])) ?_
                          refine lv_istore (lv' := [(4, .int (nI (min (g (NX (2 * j))) (g (NX (2 * j + 1)))))), (0, .ref (q 0)), (1, .int (nI goal)), (2, .int (nI i)), (3, .int (nI j))]) hx hb dX4_go_121 hl (by decide) rfl (fun ls hl => ?_)
                          refine lv_aload_n hx hb dX4_go_123 rfl (lv_at hl 1 rfl) ?_
                          refine va_get (D := (dC, dI)) (ci := 4) (v := .ref (q 13)) (C := RX4) (T := TX4) (N := 23) hx hb hts inX4 hown hK hP 0 rfl rfl 22 (by decide) (hts _ tw_594) (fun _ h9 => h9) rfl dX4_go_124 ?_
                          refine lv_iload_n hx hb dX4_go_127 rfl (lv_at hl 4 rfl) ?_
                          refine lv_iload hx hb dX4_go_128 (lv_at hl 0 rfl) ?_
                          refine lv_iconst (v := nI 1) hx hb dX4_go_130 (by decide) ?_
                          refine xn_add hx hb dX4_go_131 ?_
                          refine lv_aload_n hx hb dX4_go_132 rfl (lv_at hl 1 rfl) ?_
                          refine va_get (D := (dC, dI)) (ci := 4) (v := .ref (q 13)) (C := RX4) (T := TX4) (N := 23) hx hb hts inX4 hown hK hP 0 rfl rfl 22 (by decide) (hts _ tw_594) (fun _ h9 => h9) rfl dX4_go_133 ?_
                          refine lv_iload_n hx hb dX4_go_136 rfl (lv_at hl 4 rfl) ?_
                          refine xa_ild hx hb hK hP 13 0 rfl rfl (v := nI (g j)) (by omega) (by decide) rfl dX4_go_137 ?_
                          refine xn_cge (tgt := 148) hx hb (by omega) (by omega) dX4_go_138 (by decide) (fun c_35 => ?_) (fun c_35 => ?_)
                          · refine lv_aload_n hx hb dX4_go_148 rfl (lv_at hl 1 rfl) ?_
                            refine va_get (D := (dC, dI)) (ci := 4) (v := .ref (q 13)) (C := RX4) (T := TX4) (N := 23) hx hb hts inX4 hown hK hP 0 rfl rfl 22 (by decide) (hts _ tw_594) (fun _ h9 => h9) rfl dX4_go_149 ?_
                            refine lv_iload_n hx hb dX4_go_152 rfl (lv_at hl 4 rfl) ?_
                            refine xa_ild hx hb hK hP 13 0 rfl rfl (v := nI (g j)) (by omega) (by decide) rfl dX4_go_153 ?_
                            refine xt_i (show nI (g j) = nI (min (g j) (min (g (NX (2 * j))) (g (NX (2 * j + 1))) + 1)) from congrArg nI (by omega)) ?_
                            refine xa_ist hx hb hK hP hD hS 13 0 rfl rfl (by omega) (by decide) (aN_up _ _ _) dX4_go_154 (fun H locs hP hD hS => ?_)
                            have hP : va_P (dC, dI) vwCl (wM q cI cZ (MS.s_fa (MS.s_fa (MS.s_th y 0) g) (va_up g j (min (g j) (min (g (NX (2 * j))) (g (NX (2 * j + 1))) + 1))))) H := va_eqP (wM_s_fa q cI cZ (MS.s_fa (MS.s_th y 0) g) (va_up g j (min (g j) (min (g (NX (2 * j))) (g (NX (2 * j + 1))) + 1)))) hP
                            have hD : va_D A (wM q cI cZ (MS.s_fa (MS.s_fa (MS.s_th y 0) g) (va_up g j (min (g j) (min (g (NX (2 * j))) (g (NX (2 * j + 1))) + 1))))) := va_eqD (wM_s_fa q cI cZ (MS.s_fa (MS.s_th y 0) g) (va_up g j (min (g j) (min (g (NX (2 * j))) (g (NX (2 * j + 1))) + 1)))) hD
                            refine lv_iinc (v := nI (j + 1)) (lv' := [(3, .int (nI (j + 1))), (4, .int (nI (min (g (NX (2 * j))) (g (NX (2 * j + 1)))))), (0, .ref (q 0)), (1, .int (nI goal)), (2, .int (nI i))]) hx hb dX4_go_155 hl (k := 4) rfl (nI_1 _) (by decide) rfl (fun ls hl => ?_)
                            refine lv_goto (tgt := 69) hx hb dX4_go_158 (by decide) ?_
                            exact ih69 (j + 1) (va_up g j (min (g j) (min (g (NX (2 * j))) (g (NX (2 * j + 1))) + 1))) (by omega) (by rw [show mtI (mtO (cpN (tk1 goal) y.fa 16) i) (j + 1) = mtS (mtI (mtO (cpN (tk1 goal) y.fa 16) i) j) j from rfl, ← e2]; rfl) (by omega) H locs hP hD hS ls (lv_sub hl [2, 3, 4, 0] rfl)
                          · refine lv_iload hx hb dX4_go_141 (lv_at hl 0 rfl) ?_
                            refine lv_iconst (v := nI 1) hx hb dX4_go_143 (by decide) ?_
                            refine xn_add hx hb dX4_go_144 ?_
                            refine lv_goto (tgt := 154) hx hb dX4_go_145 (by decide) ?_
                            refine xt_i (show nI ((min (g (NX (2 * j))) (g (NX (2 * j + 1)))) + 1) = nI (min (g j) (min (g (NX (2 * j))) (g (NX (2 * j + 1))) + 1)) from congrArg nI (by omega)) ?_
                            refine xa_ist hx hb hK hP hD hS 13 0 rfl rfl (by omega) (by decide) (aN_up _ _ _) dX4_go_154 (fun H locs hP hD hS => ?_)
                            have hP : va_P (dC, dI) vwCl (wM q cI cZ (MS.s_fa (MS.s_fa (MS.s_th y 0) g) (va_up g j (min (g j) (min (g (NX (2 * j))) (g (NX (2 * j + 1))) + 1))))) H := va_eqP (wM_s_fa q cI cZ (MS.s_fa (MS.s_th y 0) g) (va_up g j (min (g j) (min (g (NX (2 * j))) (g (NX (2 * j + 1))) + 1)))) hP
                            have hD : va_D A (wM q cI cZ (MS.s_fa (MS.s_fa (MS.s_th y 0) g) (va_up g j (min (g j) (min (g (NX (2 * j))) (g (NX (2 * j + 1))) + 1))))) := va_eqD (wM_s_fa q cI cZ (MS.s_fa (MS.s_th y 0) g) (va_up g j (min (g j) (min (g (NX (2 * j))) (g (NX (2 * j + 1))) + 1)))) hD
                            refine lv_iinc (v := nI (j + 1)) (lv' := [(3, .int (nI (j + 1))), (4, .int (nI (min (g (NX (2 * j))) (g (NX (2 * j + 1)))))), (0, .ref (q 0)), (1, .int (nI goal)), (2, .int (nI i))]) hx hb dX4_go_155 hl (k := 4) rfl (nI_1 _) (by decide) rfl (fun ls hl => ?_)
                            refine lv_goto (tgt := 69) hx hb dX4_go_158 (by decide) ?_
                            exact ih69 (j + 1) (va_up g j (min (g j) (min (g (NX (2 * j))) (g (NX (2 * j + 1))) + 1))) (by omega) (by rw [show mtI (mtO (cpN (tk1 goal) y.fa 16) i) (j + 1) = mtS (mtI (mtO (cpN (tk1 goal) y.fa 16) i) j) j from rfl, ← e2]; rfl) (by omega) H locs hP hD hS ls (lv_sub hl [2, 3, 4, 0] rfl)
                  exact L69 ((16 - 0) + 1) 0 g (Nat.zero_le _) e1 (Nat.lt_succ_self _) H locs hP hD hS ls (lv_sub hl [1, 2, 3, 0] rfl)
            exact L61 ((16 - 0) + 1) 0 g (Nat.zero_le _) (by rw [e1, show i = 16 by omega]; rfl) (Nat.lt_succ_self _) H locs hP hD hS ls (lv_sub hl [1, 2, 0] rfl)
          · refine lv_aload_n hx hb dX4_go_36 rfl (lv_at hl 0 rfl) ?_
            refine va_get (D := (dC, dI)) (ci := 4) (v := .ref (q 13)) (C := RX4) (T := TX4) (N := 23) hx hb hts inX4 hown hK hP 0 rfl rfl 22 (by decide) (hts _ tw_594) (fun _ h9 => h9) rfl dX4_go_37 ?_
            refine lv_iload_n hx hb dX4_go_40 rfl (lv_at hl 2 rfl) ?_
            refine lv_iload_n hx hb dX4_go_41 rfl (lv_at hl 2 rfl) ?_
            refine lv_iload_n hx hb dX4_go_42 rfl (lv_at hl 1 rfl) ?_
            refine xn_cne (tgt := 50) hx hb (by omega) (by omega) dX4_go_43 (by decide) (fun c_36 => ?_) (fun c_36 => ?_)
            · refine lv_bipush (v := nI 99) hx hb dX4_go_50 (by decide) ?_
              refine xa_ist hx hb hK hP hD hS 13 0 rfl rfl (by omega) (by decide) (aN_up _ _ _) dX4_go_52 (fun H locs hP hD hS => ?_)
              have hP : va_P (dC, dI) vwCl (wM q cI cZ (MS.s_fa (MS.s_fa (MS.s_th y 0) g) (va_up g i 99))) H := va_eqP (wM_s_fa q cI cZ (MS.s_fa (MS.s_th y 0) g) (va_up g i 99)) hP
              have hD : va_D A (wM q cI cZ (MS.s_fa (MS.s_fa (MS.s_th y 0) g) (va_up g i 99))) := va_eqD (wM_s_fa q cI cZ (MS.s_fa (MS.s_th y 0) g) (va_up g i 99)) hD
              refine lv_iinc (v := nI (i + 1)) (lv' := [(2, .int (nI (i + 1))), (0, .ref (q 0)), (1, .int (nI goal))]) hx hb dX4_go_53 hl (k := 2) rfl (nI_1 _) (by decide) rfl (fun ls hl => ?_)
              refine lv_goto (tgt := 30) hx hb dX4_go_56 (by decide) ?_
              exact ih30 (i + 1) (va_up g i 99) (by omega) (by rw [e1, ← cpN_s]; unfold tk1; rw [if_neg (by assumption)]) (by omega) H locs hP hD hS ls (lv_sub hl [1, 2, 0] rfl)
            · refine lv_iconst (v := nI 0) hx hb dX4_go_46 (by decide) ?_
              refine lv_goto (tgt := 52) hx hb dX4_go_47 (by decide) ?_
              refine xa_ist hx hb hK hP hD hS 13 0 rfl rfl (by omega) (by decide) (aN_up _ _ _) dX4_go_52 (fun H locs hP hD hS => ?_)
              have hP : va_P (dC, dI) vwCl (wM q cI cZ (MS.s_fa (MS.s_fa (MS.s_th y 0) g) (va_up g i 0))) H := va_eqP (wM_s_fa q cI cZ (MS.s_fa (MS.s_th y 0) g) (va_up g i 0)) hP
              have hD : va_D A (wM q cI cZ (MS.s_fa (MS.s_fa (MS.s_th y 0) g) (va_up g i 0))) := va_eqD (wM_s_fa q cI cZ (MS.s_fa (MS.s_th y 0) g) (va_up g i 0)) hD
              refine lv_iinc (v := nI (i + 1)) (lv' := [(2, .int (nI (i + 1))), (0, .ref (q 0)), (1, .int (nI goal))]) hx hb dX4_go_53 hl (k := 2) rfl (nI_1 _) (by decide) rfl (fun ls hl => ?_)
              refine lv_goto (tgt := 30) hx hb dX4_go_56 (by decide) ?_
              exact ih30 (i + 1) (va_up g i 0) (by omega) (by rw [e1, ← cpN_s]; unfold tk1; rw [if_pos (by assumption)]) (by omega) H locs hP hD hS ls (lv_sub hl [1, 2, 0] rfl)
      exact L30 ((16 - 0) + 1) 0 (MS.fa y) (Nat.zero_le _) ((cpN_0 _ _).symm) (Nat.lt_succ_self _) H locs hP hD hS ls (lv_sub hl [1, 2, 0] rfl)
    · exact absurd (show False by omega) id
  · exact absurd (show False by omega) id
set_option maxHeartbeats 4000000 in
set_option maxRecDepth 100000 in
theorem c_M_go1 (l : Launch) (dC : Nat → ClassId) (dI : Nat → Nat → Nat) (q : Nat → Nat) (cI cZ : ClassId) (sz : Nat) (y : MS) (v : Int32) (h1 : v < 0 ∨ ¬ v ≤ nI 15) : Met l yX4_go (.code yX4_go cX4_go 5 (some .int) :: ALLG) ({ frames := 3, cells := 0, slots := 0, locals := 73 }) (va_Pc [.ref (q 0), .int v] (cP (dC, dI) vwCl [(cI, .int), (cZ, .boolean)] (wM q cI cZ y) eT sz)) (va_Qi (fun (x : Int32) (u : MS) => x = nI 0 ∧ u = y.s_th 1) (fun (u : MS) => cB (dC, dI) vwCl [(cI, .int), (cZ, .boolean)] (wM q cI cZ u) (va_A (wM q cI cZ y) sz)) (va_A (wM q cI cZ y) sz)) 0 0 (va_A (wM q cI cZ y) sz) := by
  refine xm_of (cc := cX4_go) (maxL := 5) (ret := some .int) (by decide) rfl (Nat.le_of_ble_eq_true rfl) ?_
  intro p e s m below meth c A hAe hx hb hr hml hts0 hown hlk hin hsz H locs hP hK hD hA hS hE ls hl
  have hts : ∀ w ∈ ALLG, w.before _ s = true := fun w h => hts0 w (List.mem_cons_of_mem _ h)
  rw [← hAe]
  have hl : lv_has ls 5 [(0, .ref (q 0)), (1, .int v)] := hl
  refine lv_aload_n hx hb dX4_go_0 rfl (lv_at hl 0 rfl) ?_
  refine lv_iload_n hx hb dX4_go_1 rfl (lv_at hl 1 rfl) ?_
  refine lv_if_lt (tgt := 11) hx hb dX4_go_2 (by decide) (fun c_1 => ?_) (fun c_1 => ?_)
  · refine lv_iconst (v := nI 1) hx hb dX4_go_11 (by decide) ?_
    refine lv_goto (tgt := 16) hx hb dX4_go_12 (by decide) ?_
    refine va_put (D := (dC, dI)) (ci := 4) (v := .int (nI 1)) (ty := .int) (C := RX4) (T := TX4) (N := 23) hx hb hts inX4 tyX4 tyX4_ok nmX4 hown hK hP hD hS 0 rfl rfl 0 (by decide) (hts _ tw_572) (fun _ h9 => h9) rfl (by decide +kernel) rfl rfl (Nat.le_of_ble_eq_true rfl) dX4_go_16 (fun H locs hP hD hS => ?_)
    have hP : va_P (dC, dI) vwCl (wM q cI cZ (MS.s_th y 1)) H := va_eqP (wM_s_th q cI cZ y 1) hP
    have hD : va_D A (wM q cI cZ (MS.s_th y 1)) := va_eqD (wM_s_th q cI cZ y 1) hD
    refine lv_aload_n hx hb dX4_go_19 rfl (lv_at hl 0 rfl) ?_
    refine va_get (D := (dC, dI)) (ci := 4) (v := .int (nI 1)) (C := RX4) (T := TX4) (N := 23) hx hb hts inX4 hown hK hP 0 rfl rfl 0 (by decide) (hts _ tw_572) (fun _ h9 => h9) rfl dX4_go_20 ?_
    refine xn_zle (tgt := 28) hx hb (by omega) dX4_go_23 (by decide) (fun c_2 => ?_) (fun c_2 => ?_)
    · exact absurd (show False by omega) id
    · refine lv_iconst (v := nI 0) hx hb dX4_go_26 (by decide) ?_
      exact xr_i hx hb hr hlk (u := MS.s_th y 1) (⟨rfl, rfl⟩) hP hK hD hS dX4_go_27
  · refine lv_iload_n hx hb dX4_go_5 rfl (lv_at hl 1 rfl) ?_
    refine lv_bipush (v := nI 15) hx hb dX4_go_6 (by decide) ?_
    refine lv_icmp_le (tgt := 15) hx hb dX4_go_8 (by decide) (fun c_3 => ?_) (fun c_3 => ?_)
    · exact absurd h1 (fun z => z.elim c_1 (fun z => z c_3))
    · refine lv_iconst (v := nI 1) hx hb dX4_go_11 (by decide) ?_
      refine lv_goto (tgt := 16) hx hb dX4_go_12 (by decide) ?_
      refine va_put (D := (dC, dI)) (ci := 4) (v := .int (nI 1)) (ty := .int) (C := RX4) (T := TX4) (N := 23) hx hb hts inX4 tyX4 tyX4_ok nmX4 hown hK hP hD hS 0 rfl rfl 0 (by decide) (hts _ tw_572) (fun _ h9 => h9) rfl (by decide +kernel) rfl rfl (Nat.le_of_ble_eq_true rfl) dX4_go_16 (fun H locs hP hD hS => ?_)
      have hP : va_P (dC, dI) vwCl (wM q cI cZ (MS.s_th y 1)) H := va_eqP (wM_s_th q cI cZ y 1) hP
      have hD : va_D A (wM q cI cZ (MS.s_th y 1)) := va_eqD (wM_s_th q cI cZ y 1) hD
      refine lv_aload_n hx hb dX4_go_19 rfl (lv_at hl 0 rfl) ?_
      refine va_get (D := (dC, dI)) (ci := 4) (v := .int (nI 1)) (C := RX4) (T := TX4) (N := 23) hx hb hts inX4 hown hK hP 0 rfl rfl 0 (by decide) (hts _ tw_572) (fun _ h9 => h9) rfl dX4_go_20 ?_
      refine xn_zle (tgt := 28) hx hb (by omega) dX4_go_23 (by decide) (fun c_4 => ?_) (fun c_4 => ?_)
      · exact absurd (show False by omega) id
      · refine lv_iconst (v := nI 0) hx hb dX4_go_26 (by decide) ?_
        exact xr_i hx hb hr hlk (u := MS.s_th y 1) (⟨rfl, rfl⟩) hP hK hD hS dX4_go_27
