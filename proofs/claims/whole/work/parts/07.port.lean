theorem sw_2 : Cond.selects "ScanRows$Rows" (⟨"ScanRows$Rows", "shiftPlaces", "(III)I"⟩ : MethodName) (⟨"ScanRows$Rows", "shiftPlaces", "(III)I"⟩ : MethodName) ∈ ALLG := al_s (i := 2) (by decide +kernel) (by decide +kernel)
theorem sw_15 : Cond.selects "ScanRows$Access" (⟨"ScanRows$Access", "act", "(I)I"⟩ : MethodName) (⟨"ScanRows$Access", "act", "(I)I"⟩ : MethodName) ∈ ALLG := al_s (i := 15) (by decide +kernel) (by decide +kernel)
theorem sw_16 : Cond.selects "ScanRows$Access" (⟨"ScanRows$Access", "captureData", "()V"⟩ : MethodName) (⟨"ScanRows$Access", "captureData", "()V"⟩ : MethodName) ∈ ALLG := al_s (i := 16) (by decide +kernel) (by decide +kernel)
theorem sw_17 : Cond.selects "ScanRows$Access" (⟨"ScanRows$Access", "register", "()I"⟩ : MethodName) (⟨"ScanRows$Access", "register", "()I"⟩ : MethodName) ∈ ALLG := al_s (i := 17) (by decide +kernel) (by decide +kernel)
theorem sw_18 : Cond.selects "ScanRows$Access" (⟨"ScanRows$Access", "shiftData", "(I)I"⟩ : MethodName) (⟨"ScanRows$Access", "shiftData", "(I)I"⟩ : MethodName) ∈ ALLG := al_s (i := 18) (by decide +kernel) (by decide +kernel)
theorem sw_19 : Cond.selects "ScanRows$Access" (⟨"ScanRows$Access", "shiftNumber", "(I)I"⟩ : MethodName) (⟨"ScanRows$Access", "shiftNumber", "(I)I"⟩ : MethodName) ∈ ALLG := al_s (i := 19) (by decide +kernel) (by decide +kernel)
theorem sw_20 : Cond.selects "ScanRows$Access" (⟨"ScanRows$Access", "shiftBypass", "(I)I"⟩ : MethodName) (⟨"ScanRows$Access", "shiftBypass", "(I)I"⟩ : MethodName) ∈ ALLG := al_s (i := 20) (by decide +kernel) (by decide +kernel)
theorem sw_21 : Cond.selects "ScanRows$Access" (⟨"ScanRows$Access", "updateData", "()V"⟩ : MethodName) (⟨"ScanRows$Access", "updateData", "()V"⟩ : MethodName) ∈ ALLG := al_s (i := 21) (by decide +kernel) (by decide +kernel)
theorem sw_22 : Cond.selects "ScanRows$Access" (⟨"ScanRows$Access", "shiftCode", "(I)I"⟩ : MethodName) (⟨"ScanRows$Access", "shiftCode", "(I)I"⟩ : MethodName) ∈ ALLG := al_s (i := 22) (by decide +kernel) (by decide +kernel)
theorem tw_3 : (Cond.initialized "ScanRows$Cells") ∈ ALLG := al_t (i := 3) (by decide +kernel) (by decide +kernel)
theorem tw_4 : (Cond.initialized "ScanRows$Access") ∈ ALLG := al_t (i := 4) (by decide +kernel) (by decide +kernel)
theorem tw_31 : (Cond.fieldLink "ScanRows$Access" (60 : Nat) "ScanRows$Rows" "placed" "I") ∈ ALLG := al_t (i := 31) (by decide +kernel) (by decide +kernel)
theorem tw_77 : (Cond.fieldLink "ScanRows$Access" (55 : Nat) "ScanRows$Cells" "count" "I") ∈ ALLG := al_t (i := 77) (by decide +kernel) (by decide +kernel)
theorem tw_101 : (Cond.fieldLink "ScanRows$Access" (23 : Nat) "ScanRows$Access" "state" "I") ∈ ALLG := al_t (i := 101) (by decide +kernel) (by decide +kernel)
theorem tw_103 : (Cond.fieldLink "ScanRows$Access" (26 : Nat) "ScanRows$Access" "code" "I") ∈ ALLG := al_t (i := 103) (by decide +kernel) (by decide +kernel)
theorem tw_105 : (Cond.fieldLink "ScanRows$Access" (9 : Nat) "ScanRows$Access" "number" "I") ∈ ALLG := al_t (i := 105) (by decide +kernel) (by decide +kernel)
theorem tw_106 : (Cond.fieldLink "ScanRows$Access" (15 : Nat) "ScanRows$Access" "rows" "LScanRows$Rows;") ∈ ALLG := al_t (i := 106) (by decide +kernel) (by decide +kernel)
theorem tw_107 : (Cond.fieldLink "ScanRows$Access" (19 : Nat) "ScanRows$Access" "cells" "LScanRows$Cells;") ∈ ALLG := al_t (i := 107) (by decide +kernel) (by decide +kernel)
theorem tw_108 : (Cond.fieldLink "ScanRows$Access" (49 : Nat) "ScanRows$Access" "codeInRegister" "I") ∈ ALLG := al_t (i := 108) (by decide +kernel) (by decide +kernel)
theorem tw_109 : (Cond.fieldLink "ScanRows$Access" (72 : Nat) "ScanRows$Access" "numberInRegister" "I") ∈ ALLG := al_t (i := 109) (by decide +kernel) (by decide +kernel)
theorem tw_110 : (Cond.fieldLink "ScanRows$Access" (75 : Nat) "ScanRows$Access" "bypassBit" "I") ∈ ALLG := al_t (i := 110) (by decide +kernel) (by decide +kernel)
theorem tw_168 : (Cond.methodLink "ScanRows$Rows" (97 : Nat) ({ cls := "ScanRows$Rows", name := "shiftPlaces", desc := "(III)I" } : Jvm.MethodName)) ∈ ALLG := al_t (i := 168) (by decide +kernel) (by decide +kernel)
theorem tw_170 : (Cond.instanceMethod ({ cls := "ScanRows$Rows", name := "shiftPlaces", desc := "(III)I" } : Jvm.MethodName)) ∈ ALLG := al_t (i := 170) (by decide +kernel) (by decide +kernel)
theorem tw_171 : (Cond.code ({ cls := "ScanRows$Rows", name := "shiftPlaces", desc := "(III)I" } : Jvm.MethodName) prog_4_method_25_code (8 : Nat) (Option.some FieldType.int)) ∈ ALLG := al_t (i := 171) (by decide +kernel) (by decide +kernel)
theorem tw_469 : (Cond.methodLink "ScanRows$Access" (33 : Nat) ({ cls := "ScanRows$Access", name := "act", desc := "(I)I" } : Jvm.MethodName)) ∈ ALLG := al_t (i := 469) (by decide +kernel) (by decide +kernel)
theorem tw_471 : (Cond.instanceMethod ({ cls := "ScanRows$Access", name := "act", desc := "(I)I" } : Jvm.MethodName)) ∈ ALLG := al_t (i := 471) (by decide +kernel) (by decide +kernel)
theorem tw_472 : (Cond.code ({ cls := "ScanRows$Access", name := "act", desc := "(I)I" } : Jvm.MethodName) prog_2_method_3_code (2 : Nat) (Option.some FieldType.int)) ∈ ALLG := al_t (i := 472) (by decide +kernel) (by decide +kernel)
theorem tw_473 : (Cond.methodLink "ScanRows$Access" (40 : Nat) ({ cls := "ScanRows$Access", name := "captureData", desc := "()V" } : Jvm.MethodName)) ∈ ALLG := al_t (i := 473) (by decide +kernel) (by decide +kernel)
theorem tw_475 : (Cond.instanceMethod ({ cls := "ScanRows$Access", name := "captureData", desc := "()V" } : Jvm.MethodName)) ∈ ALLG := al_t (i := 475) (by decide +kernel) (by decide +kernel)
theorem tw_476 : (Cond.code ({ cls := "ScanRows$Access", name := "captureData", desc := "()V" } : Jvm.MethodName) prog_2_method_6_code (1 : Nat) (Option.none : Option Jvm.ClassFile.FieldType)) ∈ ALLG := al_t (i := 476) (by decide +kernel) (by decide +kernel)
theorem tw_477 : (Cond.methodLink "ScanRows$Access" (65 : Nat) ({ cls := "ScanRows$Access", name := "register", desc := "()I" } : Jvm.MethodName)) ∈ ALLG := al_t (i := 477) (by decide +kernel) (by decide +kernel)
theorem tw_479 : (Cond.instanceMethod ({ cls := "ScanRows$Access", name := "register", desc := "()I" } : Jvm.MethodName)) ∈ ALLG := al_t (i := 479) (by decide +kernel) (by decide +kernel)
theorem tw_480 : (Cond.code ({ cls := "ScanRows$Access", name := "register", desc := "()I" } : Jvm.MethodName) prog_2_method_4_code (1 : Nat) (Option.some FieldType.int)) ∈ ALLG := al_t (i := 480) (by decide +kernel) (by decide +kernel)
theorem tw_481 : (Cond.methodLink "ScanRows$Access" (69 : Nat) ({ cls := "ScanRows$Cells", name := "capture", desc := "()V" } : Jvm.MethodName)) ∈ ALLG := al_t (i := 481) (by decide +kernel) (by decide +kernel)
theorem tw_482 : (Cond.instanceMethod ({ cls := "ScanRows$Cells", name := "capture", desc := "()V" } : Jvm.MethodName)) ∈ ALLG := al_t (i := 482) (by decide +kernel) (by decide +kernel)
theorem tw_483 : (Cond.selects "ScanRows$Cells" ({ cls := "ScanRows$Cells", name := "capture", desc := "()V" } : Jvm.MethodName) ({ cls := "ScanRows$Cells", name := "capture", desc := "()V" } : Jvm.MethodName)) ∈ ALLG := al_t (i := 483) (by decide +kernel) (by decide +kernel)
theorem tw_484 : (Cond.code ({ cls := "ScanRows$Cells", name := "capture", desc := "()V" } : Jvm.MethodName) prog_3_method_3_code (2 : Nat) (Option.none : Option Jvm.ClassFile.FieldType)) ∈ ALLG := al_t (i := 484) (by decide +kernel) (by decide +kernel)
theorem tw_485 : (Cond.methodLink "ScanRows$Access" (43 : Nat) ({ cls := "ScanRows$Access", name := "shiftData", desc := "(I)I" } : Jvm.MethodName)) ∈ ALLG := al_t (i := 485) (by decide +kernel) (by decide +kernel)
theorem tw_487 : (Cond.instanceMethod ({ cls := "ScanRows$Access", name := "shiftData", desc := "(I)I" } : Jvm.MethodName)) ∈ ALLG := al_t (i := 487) (by decide +kernel) (by decide +kernel)
theorem tw_488 : (Cond.code ({ cls := "ScanRows$Access", name := "shiftData", desc := "(I)I" } : Jvm.MethodName) prog_2_method_7_code (2 : Nat) (Option.some FieldType.int)) ∈ ALLG := al_t (i := 488) (by decide +kernel) (by decide +kernel)
theorem tw_489 : (Cond.methodLink "ScanRows$Access" (78 : Nat) ({ cls := "ScanRows$Cells", name := "shiftRegister", desc := "(I)I" } : Jvm.MethodName)) ∈ ALLG := al_t (i := 489) (by decide +kernel) (by decide +kernel)
theorem tw_490 : (Cond.instanceMethod ({ cls := "ScanRows$Cells", name := "shiftRegister", desc := "(I)I" } : Jvm.MethodName)) ∈ ALLG := al_t (i := 490) (by decide +kernel) (by decide +kernel)
theorem tw_491 : (Cond.selects "ScanRows$Cells" ({ cls := "ScanRows$Cells", name := "shiftRegister", desc := "(I)I" } : Jvm.MethodName) ({ cls := "ScanRows$Cells", name := "shiftRegister", desc := "(I)I" } : Jvm.MethodName)) ∈ ALLG := al_t (i := 491) (by decide +kernel) (by decide +kernel)
theorem tw_492 : (Cond.code ({ cls := "ScanRows$Cells", name := "shiftRegister", desc := "(I)I" } : Jvm.MethodName) prog_3_method_4_code (5 : Nat) (Option.some FieldType.int)) ∈ ALLG := al_t (i := 492) (by decide +kernel) (by decide +kernel)
theorem tw_493 : (Cond.methodLink "ScanRows$Access" (81 : Nat) ({ cls := "ScanRows$Access", name := "shiftNumber", desc := "(I)I" } : Jvm.MethodName)) ∈ ALLG := al_t (i := 493) (by decide +kernel) (by decide +kernel)
theorem tw_495 : (Cond.instanceMethod ({ cls := "ScanRows$Access", name := "shiftNumber", desc := "(I)I" } : Jvm.MethodName)) ∈ ALLG := al_t (i := 495) (by decide +kernel) (by decide +kernel)
theorem tw_496 : (Cond.code ({ cls := "ScanRows$Access", name := "shiftNumber", desc := "(I)I" } : Jvm.MethodName) prog_2_method_8_code (3 : Nat) (Option.some FieldType.int)) ∈ ALLG := al_t (i := 496) (by decide +kernel) (by decide +kernel)
theorem tw_497 : (Cond.methodLink "ScanRows$Access" (84 : Nat) ({ cls := "ScanRows$Rows", name := "shiftWholeRow", desc := "(I)I" } : Jvm.MethodName)) ∈ ALLG := al_t (i := 497) (by decide +kernel) (by decide +kernel)
theorem tw_498 : (Cond.instanceMethod ({ cls := "ScanRows$Rows", name := "shiftWholeRow", desc := "(I)I" } : Jvm.MethodName)) ∈ ALLG := al_t (i := 498) (by decide +kernel) (by decide +kernel)
theorem tw_499 : (Cond.selects "ScanRows$Rows" ({ cls := "ScanRows$Rows", name := "shiftWholeRow", desc := "(I)I" } : Jvm.MethodName) ({ cls := "ScanRows$Rows", name := "shiftWholeRow", desc := "(I)I" } : Jvm.MethodName)) ∈ ALLG := al_t (i := 499) (by decide +kernel) (by decide +kernel)
theorem tw_500 : (Cond.code ({ cls := "ScanRows$Rows", name := "shiftWholeRow", desc := "(I)I" } : Jvm.MethodName) prog_4_method_24_code (2 : Nat) (Option.some FieldType.int)) ∈ ALLG := al_t (i := 500) (by decide +kernel) (by decide +kernel)
theorem tw_501 : (Cond.methodLink "ScanRows$Access" (87 : Nat) ({ cls := "ScanRows$Access", name := "shiftBypass", desc := "(I)I" } : Jvm.MethodName)) ∈ ALLG := al_t (i := 501) (by decide +kernel) (by decide +kernel)
theorem tw_503 : (Cond.instanceMethod ({ cls := "ScanRows$Access", name := "shiftBypass", desc := "(I)I" } : Jvm.MethodName)) ∈ ALLG := al_t (i := 503) (by decide +kernel) (by decide +kernel)
theorem tw_504 : (Cond.code ({ cls := "ScanRows$Access", name := "shiftBypass", desc := "(I)I" } : Jvm.MethodName) prog_2_method_9_code (3 : Nat) (Option.some FieldType.int)) ∈ ALLG := al_t (i := 504) (by decide +kernel) (by decide +kernel)
theorem tw_505 : (Cond.methodLink "ScanRows$Access" (46 : Nat) ({ cls := "ScanRows$Access", name := "updateData", desc := "()V" } : Jvm.MethodName)) ∈ ALLG := al_t (i := 505) (by decide +kernel) (by decide +kernel)
theorem tw_507 : (Cond.instanceMethod ({ cls := "ScanRows$Access", name := "updateData", desc := "()V" } : Jvm.MethodName)) ∈ ALLG := al_t (i := 507) (by decide +kernel) (by decide +kernel)
theorem tw_508 : (Cond.code ({ cls := "ScanRows$Access", name := "updateData", desc := "()V" } : Jvm.MethodName) prog_2_method_11_code (1 : Nat) (Option.none : Option Jvm.ClassFile.FieldType)) ∈ ALLG := al_t (i := 508) (by decide +kernel) (by decide +kernel)
theorem tw_509 : (Cond.methodLink "ScanRows$Access" (90 : Nat) ({ cls := "ScanRows$Cells", name := "update", desc := "()V" } : Jvm.MethodName)) ∈ ALLG := al_t (i := 509) (by decide +kernel) (by decide +kernel)
theorem tw_510 : (Cond.instanceMethod ({ cls := "ScanRows$Cells", name := "update", desc := "()V" } : Jvm.MethodName)) ∈ ALLG := al_t (i := 510) (by decide +kernel) (by decide +kernel)
theorem tw_511 : (Cond.selects "ScanRows$Cells" ({ cls := "ScanRows$Cells", name := "update", desc := "()V" } : Jvm.MethodName) ({ cls := "ScanRows$Cells", name := "update", desc := "()V" } : Jvm.MethodName)) ∈ ALLG := al_t (i := 511) (by decide +kernel) (by decide +kernel)
theorem tw_512 : (Cond.code ({ cls := "ScanRows$Cells", name := "update", desc := "()V" } : Jvm.MethodName) prog_3_method_5_code (2 : Nat) (Option.none : Option Jvm.ClassFile.FieldType)) ∈ ALLG := al_t (i := 512) (by decide +kernel) (by decide +kernel)
theorem tw_513 : (Cond.methodLink "ScanRows$Access" (52 : Nat) ({ cls := "ScanRows$Access", name := "shiftCode", desc := "(I)I" } : Jvm.MethodName)) ∈ ALLG := al_t (i := 513) (by decide +kernel) (by decide +kernel)
theorem tw_515 : (Cond.instanceMethod ({ cls := "ScanRows$Access", name := "shiftCode", desc := "(I)I" } : Jvm.MethodName)) ∈ ALLG := al_t (i := 515) (by decide +kernel) (by decide +kernel)
theorem tw_516 : (Cond.code ({ cls := "ScanRows$Access", name := "shiftCode", desc := "(I)I" } : Jvm.MethodName) prog_2_method_10_code (3 : Nat) (Option.some FieldType.int)) ∈ ALLG := al_t (i := 516) (by decide +kernel) (by decide +kernel)
theorem tw_517 : (Cond.fieldLink "ScanRows$Access" (37 : Nat) "ScanRows$Access" "NEXT" "[I") ∈ ALLG := al_t (i := 517) (by decide +kernel) (by decide +kernel)
theorem dX0_register_0 : decode cX0_register 0 = .ok (.aload_n 0, 1) := by decide +kernel
theorem dX0_register_1 : decode cX0_register 1 = .ok (.getfield 26, 3) := by decide +kernel
theorem dX0_register_4 : decode cX0_register 4 = .ok (.ifCond .eq 11, 3) := by decide +kernel
theorem dX0_register_7 : decode cX0_register 7 = .ok (.aload_n 0, 1) := by decide +kernel
theorem dX0_register_8 : decode cX0_register 8 = .ok (.getfield 26, 3) := by decide +kernel
theorem dX0_register_11 : decode cX0_register 11 = .ok (.iconst 1, 1) := by decide +kernel
theorem dX0_register_12 : decode cX0_register 12 = .ok (.if_icmp .ne 19, 3) := by decide +kernel
theorem dX0_register_15 : decode cX0_register 15 = .ok (.aload_n 0, 1) := by decide +kernel
theorem dX0_register_16 : decode cX0_register 16 = .ok (.getfield 19, 3) := by decide +kernel
theorem dX0_register_19 : decode cX0_register 19 = .ok (.getfield 55, 3) := by decide +kernel
theorem dX0_register_22 : decode cX0_register 22 = .ok (.ifCond .le 7, 3) := by decide +kernel
theorem dX0_register_25 : decode cX0_register 25 = .ok (.iconst 1, 1) := by decide +kernel
theorem dX0_register_26 : decode cX0_register 26 = .ok (.goto 4, 3) := by decide +kernel
theorem dX0_register_29 : decode cX0_register 29 = .ok (.iconst 0, 1) := by decide +kernel
theorem dX0_register_30 : decode cX0_register 30 = .ok (.ireturn, 1) := by decide +kernel
theorem dX0_register_31 : decode cX0_register 31 = .ok (.aload_n 0, 1) := by decide +kernel
theorem dX0_register_32 : decode cX0_register 32 = .ok (.getfield 26, 3) := by decide +kernel
theorem dX0_register_35 : decode cX0_register 35 = .ok (.iconst 2, 1) := by decide +kernel
theorem dX0_register_36 : decode cX0_register 36 = .ok (.if_icmp .ne 5, 3) := by decide +kernel
theorem dX0_register_39 : decode cX0_register 39 = .ok (.iconst 2, 1) := by decide +kernel
theorem dX0_register_40 : decode cX0_register 40 = .ok (.ireturn, 1) := by decide +kernel
theorem dX0_register_41 : decode cX0_register 41 = .ok (.aload_n 0, 1) := by decide +kernel
theorem dX0_register_42 : decode cX0_register 42 = .ok (.getfield 26, 3) := by decide +kernel
theorem dX0_register_45 : decode cX0_register 45 = .ok (.iconst 3, 1) := by decide +kernel
theorem dX0_register_46 : decode cX0_register 46 = .ok (.if_icmp .ne 17, 3) := by decide +kernel
theorem dX0_register_49 : decode cX0_register 49 = .ok (.aload_n 0, 1) := by decide +kernel
theorem dX0_register_50 : decode cX0_register 50 = .ok (.getfield 15, 3) := by decide +kernel
theorem dX0_register_53 : decode cX0_register 53 = .ok (.getfield 60, 3) := by decide +kernel
theorem dX0_register_56 : decode cX0_register 56 = .ok (.ifCond .le 7, 3) := by decide +kernel
theorem dX0_register_59 : decode cX0_register 59 = .ok (.iconst 3, 1) := by decide +kernel
theorem dX0_register_60 : decode cX0_register 60 = .ok (.goto 4, 3) := by decide +kernel
theorem dX0_register_63 : decode cX0_register 63 = .ok (.iconst 0, 1) := by decide +kernel
theorem dX0_register_64 : decode cX0_register 64 = .ok (.ireturn, 1) := by decide +kernel
theorem dX0_registerLength_0 : decode cX0_registerLength 0 = .ok (.aload_n 0, 1) := by decide +kernel
theorem dX0_registerLength_1 : decode cX0_registerLength 1 = .ok (.invokevirtual 65, 3) := by decide +kernel
theorem dX0_registerLength_4 : decode cX0_registerLength 4 = .ok (.tableswitch 47 1 3 #[28, 36, 39], 28) := by decide +kernel
theorem dX0_registerLength_32 : decode cX0_registerLength 32 = .ok (.aload_n 0, 1) := by decide +kernel
theorem dX0_registerLength_33 : decode cX0_registerLength 33 = .ok (.getfield 19, 3) := by decide +kernel
theorem dX0_registerLength_36 : decode cX0_registerLength 36 = .ok (.getfield 55, 3) := by decide +kernel
theorem dX0_registerLength_39 : decode cX0_registerLength 39 = .ok (.ireturn, 1) := by decide +kernel
theorem dX0_registerLength_40 : decode cX0_registerLength 40 = .ok (.bipush 32, 2) := by decide +kernel
theorem dX0_registerLength_42 : decode cX0_registerLength 42 = .ok (.ireturn, 1) := by decide +kernel
theorem dX0_registerLength_43 : decode cX0_registerLength 43 = .ok (.aload_n 0, 1) := by decide +kernel
theorem dX0_registerLength_44 : decode cX0_registerLength 44 = .ok (.getfield 15, 3) := by decide +kernel
theorem dX0_registerLength_47 : decode cX0_registerLength 47 = .ok (.getfield 60, 3) := by decide +kernel
theorem dX0_registerLength_50 : decode cX0_registerLength 50 = .ok (.ireturn, 1) := by decide +kernel
theorem dX0_registerLength_51 : decode cX0_registerLength 51 = .ok (.iconst 1, 1) := by decide +kernel
theorem dX0_registerLength_52 : decode cX0_registerLength 52 = .ok (.ireturn, 1) := by decide +kernel
theorem dX0_shiftBypass_0 : decode cX0_shiftBypass 0 = .ok (.aload_n 0, 1) := by decide +kernel
theorem dX0_shiftBypass_1 : decode cX0_shiftBypass 1 = .ok (.getfield 75, 3) := by decide +kernel
theorem dX0_shiftBypass_4 : decode cX0_shiftBypass 4 = .ok (.istore_n 2, 1) := by decide +kernel
theorem dX0_shiftBypass_5 : decode cX0_shiftBypass 5 = .ok (.aload_n 0, 1) := by decide +kernel
theorem dX0_shiftBypass_6 : decode cX0_shiftBypass 6 = .ok (.iload_n 1, 1) := by decide +kernel
theorem dX0_shiftBypass_7 : decode cX0_shiftBypass 7 = .ok (.putfield 75, 3) := by decide +kernel
theorem dX0_shiftBypass_10 : decode cX0_shiftBypass 10 = .ok (.iload_n 2, 1) := by decide +kernel
theorem dX0_shiftBypass_11 : decode cX0_shiftBypass 11 = .ok (.ireturn, 1) := by decide +kernel
theorem dX0_shiftNumber_0 : decode cX0_shiftNumber 0 = .ok (.aload_n 0, 1) := by decide +kernel
theorem dX0_shiftNumber_1 : decode cX0_shiftNumber 1 = .ok (.getfield 72, 3) := by decide +kernel
theorem dX0_shiftNumber_4 : decode cX0_shiftNumber 4 = .ok (.iconst 1, 1) := by decide +kernel
theorem dX0_shiftNumber_5 : decode cX0_shiftNumber 5 = .ok (.iand, 1) := by decide +kernel
theorem dX0_shiftNumber_6 : decode cX0_shiftNumber 6 = .ok (.istore_n 2, 1) := by decide +kernel
theorem dX0_shiftNumber_7 : decode cX0_shiftNumber 7 = .ok (.aload_n 0, 1) := by decide +kernel
theorem dX0_shiftNumber_8 : decode cX0_shiftNumber 8 = .ok (.aload_n 0, 1) := by decide +kernel
theorem dX0_shiftNumber_9 : decode cX0_shiftNumber 9 = .ok (.getfield 72, 3) := by decide +kernel
theorem dX0_shiftNumber_12 : decode cX0_shiftNumber 12 = .ok (.iconst 1, 1) := by decide +kernel
theorem dX0_shiftNumber_13 : decode cX0_shiftNumber 13 = .ok (.iushr, 1) := by decide +kernel
theorem dX0_shiftNumber_14 : decode cX0_shiftNumber 14 = .ok (.iload_n 1, 1) := by decide +kernel
theorem dX0_shiftNumber_15 : decode cX0_shiftNumber 15 = .ok (.bipush 31, 2) := by decide +kernel
theorem dX0_shiftNumber_17 : decode cX0_shiftNumber 17 = .ok (.ishl, 1) := by decide +kernel
theorem dX0_shiftNumber_18 : decode cX0_shiftNumber 18 = .ok (.ior, 1) := by decide +kernel
theorem dX0_shiftNumber_19 : decode cX0_shiftNumber 19 = .ok (.putfield 72, 3) := by decide +kernel
theorem dX0_shiftNumber_22 : decode cX0_shiftNumber 22 = .ok (.iload_n 2, 1) := by decide +kernel
theorem dX0_shiftNumber_23 : decode cX0_shiftNumber 23 = .ok (.ireturn, 1) := by decide +kernel
theorem dX0_shiftCode_0 : decode cX0_shiftCode 0 = .ok (.aload_n 0, 1) := by decide +kernel
theorem dX0_shiftCode_1 : decode cX0_shiftCode 1 = .ok (.getfield 49, 3) := by decide +kernel
theorem dX0_shiftCode_4 : decode cX0_shiftCode 4 = .ok (.iconst 1, 1) := by decide +kernel
theorem dX0_shiftCode_5 : decode cX0_shiftCode 5 = .ok (.iand, 1) := by decide +kernel
theorem dX0_shiftCode_6 : decode cX0_shiftCode 6 = .ok (.istore_n 2, 1) := by decide +kernel
theorem dX0_shiftCode_7 : decode cX0_shiftCode 7 = .ok (.aload_n 0, 1) := by decide +kernel
theorem dX0_shiftCode_8 : decode cX0_shiftCode 8 = .ok (.aload_n 0, 1) := by decide +kernel
theorem dX0_shiftCode_9 : decode cX0_shiftCode 9 = .ok (.getfield 49, 3) := by decide +kernel
theorem dX0_shiftCode_12 : decode cX0_shiftCode 12 = .ok (.iconst 1, 1) := by decide +kernel
theorem dX0_shiftCode_13 : decode cX0_shiftCode 13 = .ok (.iushr, 1) := by decide +kernel
theorem dX0_shiftCode_14 : decode cX0_shiftCode 14 = .ok (.iload_n 1, 1) := by decide +kernel
theorem dX0_shiftCode_15 : decode cX0_shiftCode 15 = .ok (.iconst 3, 1) := by decide +kernel
theorem dX0_shiftCode_16 : decode cX0_shiftCode 16 = .ok (.ishl, 1) := by decide +kernel
theorem dX0_shiftCode_17 : decode cX0_shiftCode 17 = .ok (.ior, 1) := by decide +kernel
theorem dX0_shiftCode_18 : decode cX0_shiftCode 18 = .ok (.putfield 49, 3) := by decide +kernel
theorem dX0_shiftCode_21 : decode cX0_shiftCode 21 = .ok (.iload_n 2, 1) := by decide +kernel
theorem dX0_shiftCode_22 : decode cX0_shiftCode 22 = .ok (.ireturn, 1) := by decide +kernel
theorem dX0_captureData_0 : decode cX0_captureData 0 = .ok (.aload_n 0, 1) := by decide +kernel
theorem dX0_captureData_1 : decode cX0_captureData 1 = .ok (.invokevirtual 65, 3) := by decide +kernel
theorem dX0_captureData_4 : decode cX0_captureData 4 = .ok (.tableswitch 52 1 3 #[28, 38, 49], 28) := by decide +kernel
theorem dX0_captureData_32 : decode cX0_captureData 32 = .ok (.aload_n 0, 1) := by decide +kernel
theorem dX0_captureData_33 : decode cX0_captureData 33 = .ok (.getfield 19, 3) := by decide +kernel
theorem dX0_captureData_36 : decode cX0_captureData 36 = .ok (.invokevirtual 69, 3) := by decide +kernel
theorem dX0_captureData_39 : decode cX0_captureData 39 = .ok (.goto 22, 3) := by decide +kernel
theorem dX0_captureData_42 : decode cX0_captureData 42 = .ok (.aload_n 0, 1) := by decide +kernel
theorem dX0_captureData_43 : decode cX0_captureData 43 = .ok (.aload_n 0, 1) := by decide +kernel
theorem dX0_captureData_44 : decode cX0_captureData 44 = .ok (.getfield 9, 3) := by decide +kernel
theorem dX0_captureData_47 : decode cX0_captureData 47 = .ok (.putfield 72, 3) := by decide +kernel
theorem dX0_captureData_50 : decode cX0_captureData 50 = .ok (.goto 11, 3) := by decide +kernel
theorem dX0_captureData_53 : decode cX0_captureData 53 = .ok (.goto 8, 3) := by decide +kernel
theorem dX0_captureData_56 : decode cX0_captureData 56 = .ok (.aload_n 0, 1) := by decide +kernel
theorem dX0_captureData_57 : decode cX0_captureData 57 = .ok (.iconst 0, 1) := by decide +kernel
theorem dX0_captureData_58 : decode cX0_captureData 58 = .ok (.putfield 75, 3) := by decide +kernel
theorem dX0_captureData_61 : decode cX0_captureData 61 = .ok (.return_, 1) := by decide +kernel
theorem dX2_shiftWholeRow_0 : decode cX2_shiftWholeRow 0 = .ok (.aload_n 0, 1) := by decide +kernel
theorem dX2_shiftWholeRow_1 : decode cX2_shiftWholeRow 1 = .ok (.iconst 0, 1) := by decide +kernel
theorem dX2_shiftWholeRow_2 : decode cX2_shiftWholeRow 2 = .ok (.aload_n 0, 1) := by decide +kernel
theorem dX2_shiftWholeRow_3 : decode cX2_shiftWholeRow 3 = .ok (.getfield 59, 3) := by decide +kernel
theorem dX2_shiftWholeRow_6 : decode cX2_shiftWholeRow 6 = .ok (.iload_n 1, 1) := by decide +kernel
theorem dX2_shiftWholeRow_7 : decode cX2_shiftWholeRow 7 = .ok (.invokevirtual 97, 3) := by decide +kernel
theorem dX2_shiftWholeRow_10 : decode cX2_shiftWholeRow 10 = .ok (.ireturn, 1) := by decide +kernel
theorem dX0_shiftData_0 : decode cX0_shiftData 0 = .ok (.aload_n 0, 1) := by decide +kernel
theorem dX0_shiftData_1 : decode cX0_shiftData 1 = .ok (.invokevirtual 65, 3) := by decide +kernel
theorem dX0_shiftData_4 : decode cX0_shiftData 4 = .ok (.tableswitch 52 1 3 #[28, 37, 43], 28) := by decide +kernel
theorem dX0_shiftData_32 : decode cX0_shiftData 32 = .ok (.aload_n 0, 1) := by decide +kernel
theorem dX0_shiftData_33 : decode cX0_shiftData 33 = .ok (.getfield 19, 3) := by decide +kernel
theorem dX0_shiftData_36 : decode cX0_shiftData 36 = .ok (.iload_n 1, 1) := by decide +kernel
theorem dX0_shiftData_37 : decode cX0_shiftData 37 = .ok (.invokevirtual 78, 3) := by decide +kernel
theorem dX0_shiftData_40 : decode cX0_shiftData 40 = .ok (.ireturn, 1) := by decide +kernel
theorem dX0_shiftData_41 : decode cX0_shiftData 41 = .ok (.aload_n 0, 1) := by decide +kernel
theorem dX0_shiftData_42 : decode cX0_shiftData 42 = .ok (.iload_n 1, 1) := by decide +kernel
theorem dX0_shiftData_43 : decode cX0_shiftData 43 = .ok (.invokevirtual 81, 3) := by decide +kernel
theorem dX0_shiftData_46 : decode cX0_shiftData 46 = .ok (.ireturn, 1) := by decide +kernel
theorem dX0_shiftData_47 : decode cX0_shiftData 47 = .ok (.aload_n 0, 1) := by decide +kernel
theorem dX0_shiftData_48 : decode cX0_shiftData 48 = .ok (.getfield 15, 3) := by decide +kernel
theorem dX0_shiftData_51 : decode cX0_shiftData 51 = .ok (.iload_n 1, 1) := by decide +kernel
theorem dX0_shiftData_52 : decode cX0_shiftData 52 = .ok (.invokevirtual 84, 3) := by decide +kernel
theorem dX0_shiftData_55 : decode cX0_shiftData 55 = .ok (.ireturn, 1) := by decide +kernel
theorem dX0_shiftData_56 : decode cX0_shiftData 56 = .ok (.aload_n 0, 1) := by decide +kernel
theorem dX0_shiftData_57 : decode cX0_shiftData 57 = .ok (.iload_n 1, 1) := by decide +kernel
theorem dX0_shiftData_58 : decode cX0_shiftData 58 = .ok (.invokevirtual 87, 3) := by decide +kernel
theorem dX0_shiftData_61 : decode cX0_shiftData 61 = .ok (.ireturn, 1) := by decide +kernel
theorem dX0_updateData_0 : decode cX0_updateData 0 = .ok (.aload_n 0, 1) := by decide +kernel
theorem dX0_updateData_1 : decode cX0_updateData 1 = .ok (.invokevirtual 65, 3) := by decide +kernel
theorem dX0_updateData_4 : decode cX0_updateData 4 = .ok (.iconst 1, 1) := by decide +kernel
theorem dX0_updateData_5 : decode cX0_updateData 5 = .ok (.if_icmp .ne 10, 3) := by decide +kernel
theorem dX0_updateData_8 : decode cX0_updateData 8 = .ok (.aload_n 0, 1) := by decide +kernel
theorem dX0_updateData_9 : decode cX0_updateData 9 = .ok (.getfield 19, 3) := by decide +kernel
theorem dX0_updateData_12 : decode cX0_updateData 12 = .ok (.invokevirtual 90, 3) := by decide +kernel
theorem dX0_updateData_15 : decode cX0_updateData 15 = .ok (.return_, 1) := by decide +kernel
theorem dX0_act_0 : decode cX0_act 0 = .ok (.aload_n 0, 1) := by decide +kernel
theorem dX0_act_1 : decode cX0_act 1 = .ok (.getfield 23, 3) := by decide +kernel
theorem dX0_act_4 : decode cX0_act 4 = .ok (.tableswitch 109 3 15 #[68, 74, 109, 109, 109, 80, 109, 86, 93, 109, 109, 109, 99], 68) := by decide +kernel
theorem dX0_act_72 : decode cX0_act 72 = .ok (.aload_n 0, 1) := by decide +kernel
theorem dX0_act_73 : decode cX0_act 73 = .ok (.invokevirtual 40, 3) := by decide +kernel
theorem dX0_act_76 : decode cX0_act 76 = .ok (.iconst (-1), 1) := by decide +kernel
theorem dX0_act_77 : decode cX0_act 77 = .ok (.ireturn, 1) := by decide +kernel
theorem dX0_act_78 : decode cX0_act 78 = .ok (.aload_n 0, 1) := by decide +kernel
theorem dX0_act_79 : decode cX0_act 79 = .ok (.iload_n 1, 1) := by decide +kernel
theorem dX0_act_80 : decode cX0_act 80 = .ok (.invokevirtual 43, 3) := by decide +kernel
theorem dX0_act_83 : decode cX0_act 83 = .ok (.ireturn, 1) := by decide +kernel
theorem dX0_act_84 : decode cX0_act 84 = .ok (.aload_n 0, 1) := by decide +kernel
theorem dX0_act_85 : decode cX0_act 85 = .ok (.invokevirtual 46, 3) := by decide +kernel
theorem dX0_act_88 : decode cX0_act 88 = .ok (.iconst (-1), 1) := by decide +kernel
theorem dX0_act_89 : decode cX0_act 89 = .ok (.ireturn, 1) := by decide +kernel
theorem dX0_act_90 : decode cX0_act 90 = .ok (.aload_n 0, 1) := by decide +kernel
theorem dX0_act_91 : decode cX0_act 91 = .ok (.iconst 1, 1) := by decide +kernel
theorem dX0_act_92 : decode cX0_act 92 = .ok (.putfield 49, 3) := by decide +kernel
theorem dX0_act_95 : decode cX0_act 95 = .ok (.iconst (-1), 1) := by decide +kernel
theorem dX0_act_96 : decode cX0_act 96 = .ok (.ireturn, 1) := by decide +kernel
theorem dX0_act_97 : decode cX0_act 97 = .ok (.aload_n 0, 1) := by decide +kernel
theorem dX0_act_98 : decode cX0_act 98 = .ok (.iload_n 1, 1) := by decide +kernel
theorem dX0_act_99 : decode cX0_act 99 = .ok (.invokevirtual 52, 3) := by decide +kernel
theorem dX0_act_102 : decode cX0_act 102 = .ok (.ireturn, 1) := by decide +kernel
theorem dX0_act_103 : decode cX0_act 103 = .ok (.aload_n 0, 1) := by decide +kernel
theorem dX0_act_104 : decode cX0_act 104 = .ok (.aload_n 0, 1) := by decide +kernel
theorem dX0_act_105 : decode cX0_act 105 = .ok (.getfield 49, 3) := by decide +kernel
theorem dX0_act_108 : decode cX0_act 108 = .ok (.putfield 26, 3) := by decide +kernel
theorem dX0_act_111 : decode cX0_act 111 = .ok (.iconst (-1), 1) := by decide +kernel
theorem dX0_act_112 : decode cX0_act 112 = .ok (.ireturn, 1) := by decide +kernel
theorem dX0_act_113 : decode cX0_act 113 = .ok (.iconst (-1), 1) := by decide +kernel
theorem dX0_act_114 : decode cX0_act 114 = .ok (.ireturn, 1) := by decide +kernel
theorem dX0_step_0 : decode cX0_step 0 = .ok (.aload_n 0, 1) := by decide +kernel
theorem dX0_step_1 : decode cX0_step 1 = .ok (.iload_n 2, 1) := by decide +kernel
theorem dX0_step_2 : decode cX0_step 2 = .ok (.invokevirtual 33, 3) := by decide +kernel
theorem dX0_step_5 : decode cX0_step 5 = .ok (.istore_n 3, 1) := by decide +kernel
theorem dX0_step_6 : decode cX0_step 6 = .ok (.aload_n 0, 1) := by decide +kernel
theorem dX0_step_7 : decode cX0_step 7 = .ok (.getstatic 37, 3) := by decide +kernel
theorem dX0_step_10 : decode cX0_step 10 = .ok (.iconst 2, 1) := by decide +kernel
theorem dX0_step_11 : decode cX0_step 11 = .ok (.aload_n 0, 1) := by decide +kernel
theorem dX0_step_12 : decode cX0_step 12 = .ok (.getfield 23, 3) := by decide +kernel
theorem dX0_step_15 : decode cX0_step 15 = .ok (.imul, 1) := by decide +kernel
theorem dX0_step_16 : decode cX0_step 16 = .ok (.iload_n 1, 1) := by decide +kernel
theorem dX0_step_17 : decode cX0_step 17 = .ok (.iadd, 1) := by decide +kernel
theorem dX0_step_18 : decode cX0_step 18 = .ok (.iaload, 1) := by decide +kernel
theorem dX0_step_19 : decode cX0_step 19 = .ok (.putfield 23, 3) := by decide +kernel
theorem dX0_step_22 : decode cX0_step 22 = .ok (.aload_n 0, 1) := by decide +kernel
theorem dX0_step_23 : decode cX0_step 23 = .ok (.getfield 23, 3) := by decide +kernel
theorem dX0_step_26 : decode cX0_step 26 = .ok (.ifCond .ne 8, 3) := by decide +kernel
theorem dX0_step_29 : decode cX0_step 29 = .ok (.aload_n 0, 1) := by decide +kernel
theorem dX0_step_30 : decode cX0_step 30 = .ok (.iconst 2, 1) := by decide +kernel
theorem dX0_step_31 : decode cX0_step 31 = .ok (.putfield 26, 3) := by decide +kernel
theorem dX0_step_34 : decode cX0_step 34 = .ok (.iload_n 3, 1) := by decide +kernel
theorem dX0_step_35 : decode cX0_step 35 = .ok (.ireturn, 1) := by decide +kernel
set_option maxHeartbeats 4000000 in
set_option maxRecDepth 100000 in
theorem c_Access_register (l : Launch) (dC : Nat → ClassId) (dI : Nat → Nat → Nat) (q : Nat → Nat) (cI cZ : ClassId) (sz : Nat) (r : RS) (k : CS) (a : AS) (h1 : a.co < 16) (h2 : k.n ≤ 20) (h3 : r.p ≤ 32) : Met l yX0_register (.code yX0_register cX0_register 1 (some .int) :: ALLG) ({ frames := 0, cells := 0, slots := 0, locals := 0 }) (va_Pc [.ref (q 15)] (cP (dC, dI) vwCl [(cI, .int), (cZ, .boolean)] (wY q cI cZ r k a) eT sz)) (va_Qi (fun (x : Int32) (_ : Unit) => x = nI (reg a.co k.n r.p)) (fun (_ : Unit) => cB (dC, dI) vwCl [(cI, .int), (cZ, .boolean)] (wY q cI cZ r k a) (va_A (wY q cI cZ r k a) sz)) (va_A (wY q cI cZ r k a) sz)) 0 0 (va_A (wY q cI cZ r k a) sz) := by
  refine xm_of (cc := cX0_register) (maxL := 1) (ret := some .int) (by decide) rfl (Nat.le_of_ble_eq_true rfl) ?_
  intro p e s m below meth c A hAe hx hb hr hml hts0 hown hlk hin hsz H locs hP hK hD hA hS hE ls hl
  have hts : ∀ w ∈ ALLG, w.before _ s = true := fun w h => hts0 w (List.mem_cons_of_mem _ h)
  rw [← hAe]
  have hl : lv_has ls 1 [(0, .ref (q 15))] := hl
  refine lv_aload_n hx hb dX0_register_0 rfl (lv_at hl 0 rfl) ?_
  refine va_get (D := (dC, dI)) (ci := 0) (v := .int (nI (AS.co a))) (C := RX0) (T := TX0) (N := 9) hx hb hts inX0 hown hK hP 15 rfl rfl 1 (by decide) (hts _ tw_103) (fun _ h9 => h9) rfl dX0_register_1 ?_
  refine xn_zeq (tgt := 15) hx hb (by omega) dX0_register_4 (by decide) (fun c_1 => ?_) (fun c_1 => ?_)
  · refine lv_aload_n hx hb dX0_register_15 rfl (lv_at hl 0 rfl) ?_
    refine va_get (D := (dC, dI)) (ci := 0) (v := .ref (q 10)) (C := RX0) (T := TX0) (N := 9) hx hb hts inX0 hown hK hP 15 rfl rfl 4 (by decide) (hts _ tw_107) (fun _ h9 => h9) rfl dX0_register_16 ?_
    refine va_get (D := (dC, dI)) (ci := 1) (v := .int (nI (CS.n k))) (C := RX1) (T := TX1) (N := 5) hx hb hts inX1 hown hK hP 10 rfl rfl 0 (by decide) (hts _ tw_77) (fun _ h9 => h9) rfl dX0_register_19 ?_
    refine xn_zle (tgt := 29) hx hb (by omega) dX0_register_22 (by decide) (fun c_2 => ?_) (fun c_2 => ?_)
    · refine lv_iconst (v := nI 0) hx hb dX0_register_29 (by decide) ?_
      exact xr_i hx hb hr hlk (u := ()) (by unfold reg; split <;> (try split) <;> (try split) <;> first | rfl | omega) hP hK hD hS dX0_register_30
    · refine lv_iconst (v := nI 1) hx hb dX0_register_25 (by decide) ?_
      refine lv_goto (tgt := 30) hx hb dX0_register_26 (by decide) ?_
      exact xr_i hx hb hr hlk (u := ()) (by unfold reg; split <;> (try split) <;> (try split) <;> first | rfl | omega) hP hK hD hS dX0_register_30
  · refine lv_aload_n hx hb dX0_register_7 rfl (lv_at hl 0 rfl) ?_
    refine va_get (D := (dC, dI)) (ci := 0) (v := .int (nI (AS.co a))) (C := RX0) (T := TX0) (N := 9) hx hb hts inX0 hown hK hP 15 rfl rfl 1 (by decide) (hts _ tw_103) (fun _ h9 => h9) rfl dX0_register_8 ?_
    refine lv_iconst (v := nI 1) hx hb dX0_register_11 (by decide) ?_
    refine xn_cne (tgt := 31) hx hb (by omega) (by omega) dX0_register_12 (by decide) (fun c_3 => ?_) (fun c_3 => ?_)
    · refine lv_aload_n hx hb dX0_register_31 rfl (lv_at hl 0 rfl) ?_
      refine va_get (D := (dC, dI)) (ci := 0) (v := .int (nI (AS.co a))) (C := RX0) (T := TX0) (N := 9) hx hb hts inX0 hown hK hP 15 rfl rfl 1 (by decide) (hts _ tw_103) (fun _ h9 => h9) rfl dX0_register_32 ?_
      refine lv_iconst (v := nI 2) hx hb dX0_register_35 (by decide) ?_
      refine xn_cne (tgt := 41) hx hb (by omega) (by omega) dX0_register_36 (by decide) (fun c_4 => ?_) (fun c_4 => ?_)
      · refine lv_aload_n hx hb dX0_register_41 rfl (lv_at hl 0 rfl) ?_
        refine va_get (D := (dC, dI)) (ci := 0) (v := .int (nI (AS.co a))) (C := RX0) (T := TX0) (N := 9) hx hb hts inX0 hown hK hP 15 rfl rfl 1 (by decide) (hts _ tw_103) (fun _ h9 => h9) rfl dX0_register_42 ?_
        refine lv_iconst (v := nI 3) hx hb dX0_register_45 (by decide) ?_
        refine xn_cne (tgt := 63) hx hb (by omega) (by omega) dX0_register_46 (by decide) (fun c_5 => ?_) (fun c_5 => ?_)
        · refine lv_iconst (v := nI 0) hx hb dX0_register_63 (by decide) ?_
          exact xr_i hx hb hr hlk (u := ()) (by unfold reg; split <;> (try split) <;> (try split) <;> first | rfl | omega) hP hK hD hS dX0_register_64
        · refine lv_aload_n hx hb dX0_register_49 rfl (lv_at hl 0 rfl) ?_
          refine va_get (D := (dC, dI)) (ci := 0) (v := .ref (q 0)) (C := RX0) (T := TX0) (N := 9) hx hb hts inX0 hown hK hP 15 rfl rfl 3 (by decide) (hts _ tw_106) (fun _ h9 => h9) rfl dX0_register_50 ?_
          refine va_get (D := (dC, dI)) (ci := 2) (v := .int (nI (RS.p r))) (C := RX2) (T := TX2) (N := 12) hx hb hts inX2 hown hK hP 0 rfl rfl 2 (by decide) (hts _ tw_31) (fun _ h9 => h9) rfl dX0_register_53 ?_
          refine xn_zle (tgt := 63) hx hb (by omega) dX0_register_56 (by decide) (fun c_6 => ?_) (fun c_6 => ?_)
          · refine lv_iconst (v := nI 0) hx hb dX0_register_63 (by decide) ?_
            exact xr_i hx hb hr hlk (u := ()) (by unfold reg; split <;> (try split) <;> (try split) <;> first | rfl | omega) hP hK hD hS dX0_register_64
          · refine lv_iconst (v := nI 3) hx hb dX0_register_59 (by decide) ?_
            refine lv_goto (tgt := 64) hx hb dX0_register_60 (by decide) ?_
            exact xr_i hx hb hr hlk (u := ()) (by unfold reg; split <;> (try split) <;> (try split) <;> first | rfl | omega) hP hK hD hS dX0_register_64
      · refine lv_iconst (v := nI 2) hx hb dX0_register_39 (by decide) ?_
        exact xr_i hx hb hr hlk (u := ()) (by unfold reg; split <;> (try split) <;> (try split) <;> first | rfl | omega) hP hK hD hS dX0_register_40
    · refine lv_aload_n hx hb dX0_register_15 rfl (lv_at hl 0 rfl) ?_
      refine va_get (D := (dC, dI)) (ci := 0) (v := .ref (q 10)) (C := RX0) (T := TX0) (N := 9) hx hb hts inX0 hown hK hP 15 rfl rfl 4 (by decide) (hts _ tw_107) (fun _ h9 => h9) rfl dX0_register_16 ?_
      refine va_get (D := (dC, dI)) (ci := 1) (v := .int (nI (CS.n k))) (C := RX1) (T := TX1) (N := 5) hx hb hts inX1 hown hK hP 10 rfl rfl 0 (by decide) (hts _ tw_77) (fun _ h9 => h9) rfl dX0_register_19 ?_
      refine xn_zle (tgt := 29) hx hb (by omega) dX0_register_22 (by decide) (fun c_7 => ?_) (fun c_7 => ?_)
      · refine lv_iconst (v := nI 0) hx hb dX0_register_29 (by decide) ?_
        exact xr_i hx hb hr hlk (u := ()) (by unfold reg; split <;> (try split) <;> (try split) <;> first | rfl | omega) hP hK hD hS dX0_register_30
      · refine lv_iconst (v := nI 1) hx hb dX0_register_25 (by decide) ?_
        refine lv_goto (tgt := 30) hx hb dX0_register_26 (by decide) ?_
        exact xr_i hx hb hr hlk (u := ()) (by unfold reg; split <;> (try split) <;> (try split) <;> first | rfl | omega) hP hK hD hS dX0_register_30
set_option maxHeartbeats 4000000 in
set_option maxRecDepth 100000 in
theorem c_Access_registerLength (l : Launch) (dC : Nat → ClassId) (dI : Nat → Nat → Nat) (q : Nat → Nat) (cI cZ : ClassId) (sz : Nat) (r : RS) (k : CS) (a : AS) (h1 : a.co < 16) (h2 : k.n ≤ 20) (h3 : r.p ≤ 32) : Met l yX0_registerLength (.code yX0_registerLength cX0_registerLength 1 (some .int) :: ALLG) ({ frames := 1, cells := 0, slots := 0, locals := 20 }) (va_Pc [.ref (q 15)] (cP (dC, dI) vwCl [(cI, .int), (cZ, .boolean)] (wY q cI cZ r k a) eT sz)) (va_Qi (fun (x : Int32) (_ : Unit) => x = nI (regLen a.co k.n r.p)) (fun (_ : Unit) => cB (dC, dI) vwCl [(cI, .int), (cZ, .boolean)] (wY q cI cZ r k a) (va_A (wY q cI cZ r k a) sz)) (va_A (wY q cI cZ r k a) sz)) 0 0 (va_A (wY q cI cZ r k a) sz) := by
  refine xm_of (cc := cX0_registerLength) (maxL := 1) (ret := some .int) (by decide) rfl (Nat.le_of_ble_eq_true rfl) ?_
  intro p e s m below meth c A hAe hx hb hr hml hts0 hown hlk hin hsz H locs hP hK hD hA hS hE ls hl
  have hts : ∀ w ∈ ALLG, w.before _ s = true := fun w h => hts0 w (List.mem_cons_of_mem _ h)
  rw [← hAe]
  have g0 := reg_lt a.co k.n r.p
  have hl : lv_has ls 1 [(0, .ref (q 15))] := hl
  refine lv_aload_n hx hb dX0_registerLength_0 rfl (lv_at hl 0 rfl) ?_
  refine xc_Vi (As := []) (wr := []) ⟨hx, hb, hml, hown, hts⟩ (c_Access_register l dC dI q cI cZ H.size r k a (by omega) (by omega) (by omega)) (cwV 0 hts (gV tw_477 tw_479 sw_17 tw_4 tw_480) rfl rfl rfl (by decide +kernel) ⟨Nat.le_of_ble_eq_true rfl, Nat.le_of_ble_eq_true rfl⟩) rfl hl.1 rfl (Nat.le_of_ble_eq_true rfl) dX0_registerLength_1 ⟨Nat.zero_le _, Nat.zero_le _⟩ hP hD hK hS hA [0, 1, 2, 3, 4, 5, 6, 7, 8, 9, 10, 11, 12, 13, 14, 15, 16] [] rfl rfl (by decide) (by decide) (by decide) [0, 1] rfl (q0 := 15) rfl rfl rfl eT_M (trivial) (fun r_1 u_2 H locs w_3 hP hD hS => ?_)
  obtain rfl := w_3
  have hP : va_P (dC, dI) vwCl (wY q cI cZ r k a) H := hP
  have hD : va_D A (wY q cI cZ r k a) := hD
  by_cases k_4 : (reg a.co k.n r.p) = 1
  · refine lv_tableIn (tgt := 32) hx hb dX0_registerLength_4 (by rw [k_4]; decide) (by rw [k_4]; decide) (by rw [k_4]; rfl) (by decide) ?_
    refine lv_aload_n hx hb dX0_registerLength_32 rfl (lv_at hl 0 rfl) ?_
    refine va_get (D := (dC, dI)) (ci := 0) (v := .ref (q 10)) (C := RX0) (T := TX0) (N := 9) hx hb hts inX0 hown hK hP 15 rfl rfl 4 (by decide) (hts _ tw_107) (fun _ h9 => h9) rfl dX0_registerLength_33 ?_
    refine va_get (D := (dC, dI)) (ci := 1) (v := .int (nI (CS.n k))) (C := RX1) (T := TX1) (N := 5) hx hb hts inX1 hown hK hP 10 rfl rfl 0 (by decide) (hts _ tw_77) (fun _ h9 => h9) rfl dX0_registerLength_36 ?_
    exact xr_i hx hb hr hlk (u := ()) (by unfold regLen; first | rw [if_pos (by assumption)] | (rw [if_neg (by omega), if_pos (by assumption)]) | (rw [if_neg (by omega), if_neg (by omega), if_pos (by assumption)]) | (rw [if_neg (by omega), if_neg (by omega), if_neg (by omega)])) hP hK hD hS dX0_registerLength_39
  · by_cases k_5 : (reg a.co k.n r.p) = 2
    · refine lv_tableIn (tgt := 40) hx hb dX0_registerLength_4 (by rw [k_5]; decide) (by rw [k_5]; decide) (by rw [k_5]; rfl) (by decide) ?_
      refine lv_bipush (v := nI 32) hx hb dX0_registerLength_40 (by decide) ?_
      exact xr_i hx hb hr hlk (u := ()) (by unfold regLen; first | rw [if_pos (by assumption)] | (rw [if_neg (by omega), if_pos (by assumption)]) | (rw [if_neg (by omega), if_neg (by omega), if_pos (by assumption)]) | (rw [if_neg (by omega), if_neg (by omega), if_neg (by omega)])) hP hK hD hS dX0_registerLength_42
    · by_cases k_6 : (reg a.co k.n r.p) = 3
      · refine lv_tableIn (tgt := 43) hx hb dX0_registerLength_4 (by rw [k_6]; decide) (by rw [k_6]; decide) (by rw [k_6]; rfl) (by decide) ?_
        refine lv_aload_n hx hb dX0_registerLength_43 rfl (lv_at hl 0 rfl) ?_
        refine va_get (D := (dC, dI)) (ci := 0) (v := .ref (q 0)) (C := RX0) (T := TX0) (N := 9) hx hb hts inX0 hown hK hP 15 rfl rfl 3 (by decide) (hts _ tw_106) (fun _ h9 => h9) rfl dX0_registerLength_44 ?_
        refine va_get (D := (dC, dI)) (ci := 2) (v := .int (nI (RS.p r))) (C := RX2) (T := TX2) (N := 12) hx hb hts inX2 hown hK hP 0 rfl rfl 2 (by decide) (hts _ tw_31) (fun _ h9 => h9) rfl dX0_registerLength_47 ?_
        exact xr_i hx hb hr hlk (u := ()) (by unfold regLen; first | rw [if_pos (by assumption)] | (rw [if_neg (by omega), if_pos (by assumption)]) | (rw [if_neg (by omega), if_neg (by omega), if_pos (by assumption)]) | (rw [if_neg (by omega), if_neg (by omega), if_neg (by omega)])) hP hK hD hS dX0_registerLength_50
      · refine lv_tableOut (tgt := 51) hx hb dX0_registerLength_4 (by rw [nI_toInt (by omega)]; omega) (by decide) ?_
        refine lv_iconst (v := nI 1) hx hb dX0_registerLength_51 (by decide) ?_
        exact xr_i hx hb hr hlk (u := ()) (by unfold regLen; first | rw [if_pos (by assumption)] | (rw [if_neg (by omega), if_pos (by assumption)]) | (rw [if_neg (by omega), if_neg (by omega), if_pos (by assumption)]) | (rw [if_neg (by omega), if_neg (by omega), if_neg (by omega)])) hP hK hD hS dX0_registerLength_52
set_option maxHeartbeats 4000000 in
set_option maxRecDepth 100000 in
theorem c_Access_shiftBypass (l : Launch) (dC : Nat → ClassId) (dI : Nat → Nat → Nat) (q : Nat → Nat) (cI cZ : ClassId) (sz : Nat) (r : RS) (k : CS) (a : AS) (b : Nat) : Met l yX0_shiftBypass (.code yX0_shiftBypass cX0_shiftBypass 3 (some .int) :: ALLG) ({ frames := 0, cells := 0, slots := 0, locals := 0 }) (va_Pc [.ref (q 15), .int (nI b)] (cP (dC, dI) vwCl [(cI, .int), (cZ, .boolean)] (wY q cI cZ r k a) eT sz)) (va_Qi (fun (x : Int32) (u : RS × CS × AS) => x = nI a.by_ ∧ u = (r, k, a.s_by_ b)) (fun (u : RS × CS × AS) => cB (dC, dI) vwCl [(cI, .int), (cZ, .boolean)] (wY q cI cZ u.1 u.2.1 u.2.2) (va_A (wY q cI cZ r k a) sz)) (va_A (wY q cI cZ r k a) sz)) 0 0 (va_A (wY q cI cZ r k a) sz) := by
  refine xm_of (cc := cX0_shiftBypass) (maxL := 3) (ret := some .int) (by decide) rfl (Nat.le_of_ble_eq_true rfl) ?_
  intro p e s m below meth c A hAe hx hb hr hml hts0 hown hlk hin hsz H locs hP hK hD hA hS hE ls hl
  have hts : ∀ w ∈ ALLG, w.before _ s = true := fun w h => hts0 w (List.mem_cons_of_mem _ h)
  rw [← hAe]
  have hl : lv_has ls 3 [(0, .ref (q 15)), (1, .int (nI b))] := hl
  refine lv_aload_n hx hb dX0_shiftBypass_0 rfl (lv_at hl 0 rfl) ?_
  refine va_get (D := (dC, dI)) (ci := 0) (v := .int (nI (AS.by_ a))) (C := RX0) (T := TX0) (N := 9) hx hb hts inX0 hown hK hP 15 rfl rfl 7 (by decide) (hts _ tw_110) (fun _ h9 => h9) rfl dX0_shiftBypass_1 ?_
  refine lv_istore_n (lv' := [(2, .int (nI (AS.by_ a))), (0, .ref (q 15)), (1, .int (nI b))]) hx hb dX0_shiftBypass_4 rfl hl (by decide) rfl (fun ls hl => ?_)
  refine lv_aload_n hx hb dX0_shiftBypass_5 rfl (lv_at hl 1 rfl) ?_
  refine lv_iload_n hx hb dX0_shiftBypass_6 rfl (lv_at hl 2 rfl) ?_
  refine va_put (D := (dC, dI)) (ci := 0) (v := .int (nI b)) (ty := .int) (C := RX0) (T := TX0) (N := 9) hx hb hts inX0 tyX0 tyX0_ok nmX0 hown hK hP hD hS 15 rfl rfl 7 (by decide) (hts _ tw_110) (fun _ h9 => h9) rfl (by decide +kernel) rfl rfl (Nat.le_of_ble_eq_true rfl) dX0_shiftBypass_7 (fun H locs hP hD hS => ?_)
  have hP : va_P (dC, dI) vwCl (wY q cI cZ r k (AS.s_by_ a b)) H := hP
  have hD : va_D A (wY q cI cZ r k (AS.s_by_ a b)) := hD
  refine lv_iload_n hx hb dX0_shiftBypass_10 rfl (lv_at hl 0 rfl) ?_
  exact xr_i hx hb hr hlk (u := (r, k, AS.s_by_ a b)) (⟨rfl, rfl⟩) hP hK hD hS dX0_shiftBypass_11
set_option maxHeartbeats 4000000 in
set_option maxRecDepth 100000 in
theorem c_Access_shiftNumber (l : Launch) (dC : Nat → ClassId) (dI : Nat → Nat → Nat) (q : Nat → Nat) (cI cZ : ClassId) (sz : Nat) (r : RS) (k : CS) (a : AS) (b : Nat) : Met l yX0_shiftNumber (.code yX0_shiftNumber cX0_shiftNumber 3 (some .int) :: ALLG) ({ frames := 0, cells := 0, slots := 0, locals := 0 }) (va_Pc [.ref (q 15), .int (nI b)] (cP (dC, dI) vwCl [(cI, .int), (cZ, .boolean)] (wY q cI cZ r k a) eT sz)) (va_Qi (fun (x : Int32) (u : RS × CS × AS) => x = nI (nbit a.nr) ∧ u = (r, k, a.s_nr (nrS a.nr b))) (fun (u : RS × CS × AS) => cB (dC, dI) vwCl [(cI, .int), (cZ, .boolean)] (wY q cI cZ u.1 u.2.1 u.2.2) (va_A (wY q cI cZ r k a) sz)) (va_A (wY q cI cZ r k a) sz)) 0 0 (va_A (wY q cI cZ r k a) sz) := by
  refine xm_of (cc := cX0_shiftNumber) (maxL := 3) (ret := some .int) (by decide) rfl (Nat.le_of_ble_eq_true rfl) ?_
  intro p e s m below meth c A hAe hx hb hr hml hts0 hown hlk hin hsz H locs hP hK hD hA hS hE ls hl
  have hts : ∀ w ∈ ALLG, w.before _ s = true := fun w h => hts0 w (List.mem_cons_of_mem _ h)
  rw [← hAe]
  have hl : lv_has ls 3 [(0, .ref (q 15)), (1, .int (nI b))] := hl
  refine lv_aload_n hx hb dX0_shiftNumber_0 rfl (lv_at hl 0 rfl) ?_
  refine va_get (D := (dC, dI)) (ci := 0) (v := .int (AS.nr a)) (C := RX0) (T := TX0) (N := 9) hx hb hts inX0 hown hK hP 15 rfl rfl 6 (by decide) (hts _ tw_109) (fun _ h9 => h9) rfl dX0_shiftNumber_1 ?_
  refine lv_iconst (v := nI 1) hx hb dX0_shiftNumber_4 (by decide) ?_
  refine lv_iand hx hb dX0_shiftNumber_5 ?_
  refine xt_i (show ((AS.nr a) &&& (nI 1)) = nI (nbit a.nr) from nbit_and _) ?_
  refine lv_istore_n (lv' := [(2, .int (nI (nbit a.nr))), (0, .ref (q 15)), (1, .int (nI b))]) hx hb dX0_shiftNumber_6 rfl hl (by decide) rfl (fun ls hl => ?_)
  refine lv_aload_n hx hb dX0_shiftNumber_7 rfl (lv_at hl 1 rfl) ?_
  refine lv_aload_n hx hb dX0_shiftNumber_8 rfl (lv_at hl 1 rfl) ?_
  refine va_get (D := (dC, dI)) (ci := 0) (v := .int (AS.nr a)) (C := RX0) (T := TX0) (N := 9) hx hb hts inX0 hown hK hP 15 rfl rfl 6 (by decide) (hts _ tw_109) (fun _ h9 => h9) rfl dX0_shiftNumber_9 ?_
  refine lv_iconst (v := nI 1) hx hb dX0_shiftNumber_12 (by decide) ?_
  refine lv_iushr hx hb dX0_shiftNumber_13 rfl ?_
  refine lv_iload_n hx hb dX0_shiftNumber_14 rfl (lv_at hl 2 rfl) ?_
  refine lv_bipush (v := nI 31) hx hb dX0_shiftNumber_15 (by decide) ?_
  refine lv_ishl hx hb dX0_shiftNumber_17 ?_
  refine lv_ior hx hb dX0_shiftNumber_18 ?_
  refine va_put (D := (dC, dI)) (ci := 0) (v := .int ((((AS.nr a).toUInt32 >>> ((nI 1).toUInt32 &&& Int32.toUInt32 31)).toInt32) ||| ((nI b) <<< ((nI 31) &&& 31)))) (ty := .int) (C := RX0) (T := TX0) (N := 9) hx hb hts inX0 tyX0 tyX0_ok nmX0 hown hK hP hD hS 15 rfl rfl 6 (by decide) (hts _ tw_109) (fun _ h9 => h9) rfl (by decide +kernel) rfl rfl (Nat.le_of_ble_eq_true rfl) dX0_shiftNumber_19 (fun H locs hP hD hS => ?_)
  have hP : va_P (dC, dI) vwCl (wY q cI cZ r k (AS.s_nr a ((((AS.nr a).toUInt32 >>> ((nI 1).toUInt32 &&& Int32.toUInt32 31)).toInt32) ||| ((nI b) <<< ((nI 31) &&& 31))))) H := hP
  have hD : va_D A (wY q cI cZ r k (AS.s_nr a ((((AS.nr a).toUInt32 >>> ((nI 1).toUInt32 &&& Int32.toUInt32 31)).toInt32) ||| ((nI b) <<< ((nI 31) &&& 31))))) := hD
  refine lv_iload_n hx hb dX0_shiftNumber_22 rfl (lv_at hl 0 rfl) ?_
  exact xr_i hx hb hr hlk (u := (r, k, AS.s_nr a ((((AS.nr a).toUInt32 >>> ((nI 1).toUInt32 &&& Int32.toUInt32 31)).toInt32) ||| ((nI b) <<< ((nI 31) &&& 31))))) (⟨rfl, rfl⟩) hP hK hD hS dX0_shiftNumber_23
set_option maxHeartbeats 4000000 in
set_option maxRecDepth 100000 in
theorem c_Access_shiftCode (l : Launch) (dC : Nat → ClassId) (dI : Nat → Nat → Nat) (q : Nat → Nat) (cI cZ : ClassId) (sz : Nat) (r : RS) (k : CS) (a : AS) (b : Nat) (h1 : a.cr < 16) (h2 : b < 2) : Met l yX0_shiftCode (.code yX0_shiftCode cX0_shiftCode 3 (some .int) :: ALLG) ({ frames := 0, cells := 0, slots := 0, locals := 0 }) (va_Pc [.ref (q 15), .int (nI b)] (cP (dC, dI) vwCl [(cI, .int), (cZ, .boolean)] (wY q cI cZ r k a) eT sz)) (va_Qi (fun (x : Int32) (u : RS × CS × AS) => x = nI (a.cr % 2) ∧ u = (r, k, a.s_cr (a.cr / 2 + b * 8))) (fun (u : RS × CS × AS) => cB (dC, dI) vwCl [(cI, .int), (cZ, .boolean)] (wY q cI cZ u.1 u.2.1 u.2.2) (va_A (wY q cI cZ r k a) sz)) (va_A (wY q cI cZ r k a) sz)) 0 0 (va_A (wY q cI cZ r k a) sz) := by
  refine xm_of (cc := cX0_shiftCode) (maxL := 3) (ret := some .int) (by decide) rfl (Nat.le_of_ble_eq_true rfl) ?_
  intro p e s m below meth c A hAe hx hb hr hml hts0 hown hlk hin hsz H locs hP hK hD hA hS hE ls hl
  have hts : ∀ w ∈ ALLG, w.before _ s = true := fun w h => hts0 w (List.mem_cons_of_mem _ h)
  rw [← hAe]
  have hl : lv_has ls 3 [(0, .ref (q 15)), (1, .int (nI b))] := hl
  refine lv_aload_n hx hb dX0_shiftCode_0 rfl (lv_at hl 0 rfl) ?_
  refine va_get (D := (dC, dI)) (ci := 0) (v := .int (nI (AS.cr a))) (C := RX0) (T := TX0) (N := 9) hx hb hts inX0 hown hK hP 15 rfl rfl 5 (by decide) (hts _ tw_108) (fun _ h9 => h9) rfl dX0_shiftCode_1 ?_
  refine lv_iconst (v := nI 1) hx hb dX0_shiftCode_4 (by decide) ?_
  refine lv_iand hx hb dX0_shiftCode_5 ?_
  refine xt_i (show ((nI (AS.cr a)) &&& (nI 1)) = nI (a.cr % 2) from cr_and h1) ?_
  refine lv_istore_n (lv' := [(2, .int (nI (a.cr % 2))), (0, .ref (q 15)), (1, .int (nI b))]) hx hb dX0_shiftCode_6 rfl hl (by decide) rfl (fun ls hl => ?_)
  refine lv_aload_n hx hb dX0_shiftCode_7 rfl (lv_at hl 1 rfl) ?_
  refine lv_aload_n hx hb dX0_shiftCode_8 rfl (lv_at hl 1 rfl) ?_
  refine va_get (D := (dC, dI)) (ci := 0) (v := .int (nI (AS.cr a))) (C := RX0) (T := TX0) (N := 9) hx hb hts inX0 hown hK hP 15 rfl rfl 5 (by decide) (hts _ tw_108) (fun _ h9 => h9) rfl dX0_shiftCode_9 ?_
  refine lv_iconst (v := nI 1) hx hb dX0_shiftCode_12 (by decide) ?_
  refine lv_iushr hx hb dX0_shiftCode_13 rfl ?_
  refine lv_iload_n hx hb dX0_shiftCode_14 rfl (lv_at hl 2 rfl) ?_
  refine lv_iconst (v := nI 3) hx hb dX0_shiftCode_15 (by decide) ?_
  refine lv_ishl hx hb dX0_shiftCode_16 ?_
  refine lv_ior hx hb dX0_shiftCode_17 ?_
  refine xt_i (show ((((nI (AS.cr a)).toUInt32 >>> ((nI 1).toUInt32 &&& Int32.toUInt32 31)).toInt32) ||| ((nI b) <<< ((nI 3) &&& 31))) = nI (a.cr / 2 + b * 8) from cr_sh h1 h2) ?_
  refine va_put (D := (dC, dI)) (ci := 0) (v := .int (nI (a.cr / 2 + b * 8))) (ty := .int) (C := RX0) (T := TX0) (N := 9) hx hb hts inX0 tyX0 tyX0_ok nmX0 hown hK hP hD hS 15 rfl rfl 5 (by decide) (hts _ tw_108) (fun _ h9 => h9) rfl (by decide +kernel) rfl rfl (Nat.le_of_ble_eq_true rfl) dX0_shiftCode_18 (fun H locs hP hD hS => ?_)
  have hP : va_P (dC, dI) vwCl (wY q cI cZ r k (AS.s_cr a (a.cr / 2 + b * 8))) H := hP
  have hD : va_D A (wY q cI cZ r k (AS.s_cr a (a.cr / 2 + b * 8))) := hD
  refine lv_iload_n hx hb dX0_shiftCode_21 rfl (lv_at hl 0 rfl) ?_
  exact xr_i hx hb hr hlk (u := (r, k, AS.s_cr a (a.cr / 2 + b * 8))) (⟨rfl, rfl⟩) hP hK hD hS dX0_shiftCode_22
set_option maxHeartbeats 4000000 in
set_option maxRecDepth 100000 in
theorem c_Access_captureData (l : Launch) (dC : Nat → ClassId) (dI : Nat → Nat → Nat) (q : Nat → Nat) (cI cZ : ClassId) (sz : Nat) (r : RS) (k : CS) (a : AS) (hY : YB (r, k, a)) : Met l yX0_captureData (.code yX0_captureData cX0_captureData 1 none :: ALLG) ({ frames := 1, cells := 0, slots := 0, locals := 21 }) (va_Pc [.ref (q 15)] (cP (dC, dI) vwCl [(cI, .int), (cZ, .boolean)] (wY q cI cZ r k a) eT sz)) (va_Qv (fun (u : RS × CS × AS) => u = capD r k a) (fun (u : RS × CS × AS) => cB (dC, dI) vwCl [(cI, .int), (cZ, .boolean)] (wY q cI cZ u.1 u.2.1 u.2.2) (va_A (wY q cI cZ r k a) sz)) (va_A (wY q cI cZ r k a) sz)) 0 0 (va_A (wY q cI cZ r k a) sz) := by
  refine xm_of (cc := cX0_captureData) (maxL := 1) (ret := none) (by decide) rfl (Nat.le_of_ble_eq_true rfl) ?_
  intro p e s m below meth c A hAe hx hb hr hml hts0 hown hlk hin hsz H locs hP hK hD hA hS hE ls hl
  have hts : ∀ w ∈ ALLG, w.before _ s = true := fun w h => hts0 w (List.mem_cons_of_mem _ h)
  rw [← hAe]
  have hY0 := hY
  have hR0 : RB r := hY.1
  have hA0 : AB a := hY.2.2
  obtain ⟨⟨b_n, b_c, b_p, b_vb, b_ck, b_xx, b_yy, b_fl, b_po, b_rw, b_ch, b_st⟩, ⟨k_n, k_pin, k_ki, k_he, k_ir⟩, a_st, a_co, a_cr, a_by, a_tk⟩ : RB r ∧ CB k ∧ AB a := hY
  have g0 := reg_lt a.co k.n r.p
  have hl : lv_has ls 1 [(0, .ref (q 15))] := hl
  refine lv_aload_n hx hb dX0_captureData_0 rfl (lv_at hl 0 rfl) ?_
  refine xc_Vi (As := []) (wr := []) ⟨hx, hb, hml, hown, hts⟩ (c_Access_register l dC dI q cI cZ H.size r k a (by omega) (by omega) (by omega)) (cwV 0 hts (gV tw_477 tw_479 sw_17 tw_4 tw_480) rfl rfl rfl (by decide +kernel) ⟨Nat.le_of_ble_eq_true rfl, Nat.le_of_ble_eq_true rfl⟩) rfl hl.1 rfl (Nat.le_of_ble_eq_true rfl) dX0_captureData_1 ⟨Nat.zero_le _, Nat.zero_le _⟩ hP hD hK hS hA [0, 1, 2, 3, 4, 5, 6, 7, 8, 9, 10, 11, 12, 13, 14, 15, 16] [] rfl rfl (by decide) (by decide) (by decide) [0, 1] rfl (q0 := 15) rfl rfl rfl eT_M (trivial) (fun r_1 u_2 H locs w_3 hP hD hS => ?_)
  obtain rfl := w_3
  have hP : va_P (dC, dI) vwCl (wY q cI cZ r k a) H := hP
  have hD : va_D A (wY q cI cZ r k a) := hD
  by_cases k_4 : (reg a.co k.n r.p) = 1
  · refine lv_tableIn (tgt := 32) hx hb dX0_captureData_4 (by rw [k_4]; decide) (by rw [k_4]; decide) (by rw [k_4]; rfl) (by decide) ?_
    refine lv_aload_n hx hb dX0_captureData_32 rfl (lv_at hl 0 rfl) ?_
    refine va_get (D := (dC, dI)) (ci := 0) (v := .ref (q 10)) (C := RX0) (T := TX0) (N := 9) hx hb hts inX0 hown hK hP 15 rfl rfl 4 (by decide) (hts _ tw_107) (fun _ h9 => h9) rfl dX0_captureData_33 ?_
    refine xc_Vv (As := []) (wr := wR q cI cZ r ++ wA q cI a) ⟨hx, hb, hml, hown, hts⟩ (c_Cells_capture l dC dI q cI cZ H.size k (by omega)) (cwV 0 hts (gV tw_481 tw_482 tw_483 tw_3 tw_484) rfl rfl rfl (by decide +kernel) ⟨Nat.le_of_ble_eq_true rfl, Nat.le_of_ble_eq_true rfl⟩) rfl hl.1 rfl (Nat.le_of_ble_eq_true rfl) dX0_captureData_36 ⟨Nat.zero_le _, Nat.zero_le _⟩ hP hD hK hS hA [10, 11, 12, 13, 14] [0, 1, 2, 3, 4, 5, 6, 7, 8, 9, 15, 16] rfl rfl (by decide) (by decide) (by decide) [0, 1] rfl (q0 := 0) rfl rfl rfl eT_M (trivial) (fun u_6 H locs w_7 hP hD hS => ?_)
    obtain rfl := w_7
    have hP : va_P (dC, dI) vwCl (wY q cI cZ r (CS.s_ir k (cpN (CS.pin k) (CS.ir k) (CS.n k))) a) H := hP.sub [0, 1, 2, 3, 4, 5, 6, 7, 8, 9, 12, 13, 14, 15, 16, 10, 11] rfl
    have hD : va_D A (wY q cI cZ r (CS.s_ir k (cpN (CS.pin k) (CS.ir k) (CS.n k))) a) := hD.sub [0, 1, 2, 3, 4, 5, 6, 7, 8, 9, 12, 13, 14, 15, 16, 10, 11] (by decide) rfl
    refine lv_goto (tgt := 61) hx hb dX0_captureData_39 (by decide) ?_
    exact xr_v hx hb hr hlk (u := (r, CS.s_ir k (cpN (CS.pin k) (CS.ir k) (CS.n k)), a)) (by unfold capD; simp [k_4]) hP hK hD hS dX0_captureData_61
  · by_cases k_8 : (reg a.co k.n r.p) = 2
    · refine lv_tableIn (tgt := 42) hx hb dX0_captureData_4 (by rw [k_8]; decide) (by rw [k_8]; decide) (by rw [k_8]; rfl) (by decide) ?_
      refine lv_aload_n hx hb dX0_captureData_42 rfl (lv_at hl 0 rfl) ?_
      refine lv_aload_n hx hb dX0_captureData_43 rfl (lv_at hl 0 rfl) ?_
      refine va_get (D := (dC, dI)) (ci := 0) (v := .int (AS.nu a)) (C := RX0) (T := TX0) (N := 9) hx hb hts inX0 hown hK hP 15 rfl rfl 2 (by decide) (hts _ tw_105) (fun _ h9 => h9) rfl dX0_captureData_44 ?_
      refine va_put (D := (dC, dI)) (ci := 0) (v := .int (AS.nu a)) (ty := .int) (C := RX0) (T := TX0) (N := 9) hx hb hts inX0 tyX0 tyX0_ok nmX0 hown hK hP hD hS 15 rfl rfl 6 (by decide) (hts _ tw_109) (fun _ h9 => h9) rfl (by decide +kernel) rfl rfl (Nat.le_of_ble_eq_true rfl) dX0_captureData_47 (fun H locs hP hD hS => ?_)
      have hP : va_P (dC, dI) vwCl (wY q cI cZ r k (AS.s_nr a (AS.nu a))) H := hP
      have hD : va_D A (wY q cI cZ r k (AS.s_nr a (AS.nu a))) := hD
      refine lv_goto (tgt := 61) hx hb dX0_captureData_50 (by decide) ?_
      exact xr_v hx hb hr hlk (u := (r, k, AS.s_nr a (AS.nu a))) (by unfold capD; simp [k_8]) hP hK hD hS dX0_captureData_61
    · by_cases k_9 : (reg a.co k.n r.p) = 3
      · refine lv_tableIn (tgt := 53) hx hb dX0_captureData_4 (by rw [k_9]; decide) (by rw [k_9]; decide) (by rw [k_9]; rfl) (by decide) ?_
        refine lv_goto (tgt := 61) hx hb dX0_captureData_53 (by decide) ?_
        exact xr_v hx hb hr hlk (u := (r, k, a)) (by unfold capD; simp [k_9]) hP hK hD hS dX0_captureData_61
      · refine lv_tableOut (tgt := 56) hx hb dX0_captureData_4 (by rw [nI_toInt (by omega)]; omega) (by decide) ?_
        refine lv_aload_n hx hb dX0_captureData_56 rfl (lv_at hl 0 rfl) ?_
        refine lv_iconst (v := nI 0) hx hb dX0_captureData_57 (by decide) ?_
        refine va_put (D := (dC, dI)) (ci := 0) (v := .int (nI 0)) (ty := .int) (C := RX0) (T := TX0) (N := 9) hx hb hts inX0 tyX0 tyX0_ok nmX0 hown hK hP hD hS 15 rfl rfl 7 (by decide) (hts _ tw_110) (fun _ h9 => h9) rfl (by decide +kernel) rfl rfl (Nat.le_of_ble_eq_true rfl) dX0_captureData_58 (fun H locs hP hD hS => ?_)
        have hP : va_P (dC, dI) vwCl (wY q cI cZ r k (AS.s_by_ a 0)) H := hP
        have hD : va_D A (wY q cI cZ r k (AS.s_by_ a 0)) := hD
        exact xr_v hx hb hr hlk (u := (r, k, AS.s_by_ a 0)) (by unfold capD; simp [k_4, k_8, k_9]) hP hK hD hS dX0_captureData_61
set_option maxHeartbeats 4000000 in
set_option maxRecDepth 100000 in
theorem c_Rows_shiftWholeRow (l : Launch) (dC : Nat → ClassId) (dI : Nat → Nat → Nat) (q : Nat → Nat) (cI cZ : ClassId) (sz : Nat) (r : RS) (b : Nat) (hB : RB r) : Met l yX2_shiftWholeRow (.code yX2_shiftWholeRow cX2_shiftWholeRow 2 (some .int) :: ALLG) ({ frames := 1, cells := 0, slots := 0, locals := 27 }) (va_Pc [.ref (q 0), .int (nI b)] (cP (dC, dI) vwCl [(cI, .int), (cZ, .boolean)] (wR q cI cZ r) eT sz)) (va_Qi (fun (x : Int32) (u : RS) => x = nI (shO r 0 r.p b) ∧ u = r.s_vb (shV r 0 r.p b)) (fun (u : RS) => cB (dC, dI) vwCl [(cI, .int), (cZ, .boolean)] (wR q cI cZ u) (va_A (wR q cI cZ r) sz)) (va_A (wR q cI cZ r) sz)) 0 0 (va_A (wR q cI cZ r) sz) := by
  refine xm_of (cc := cX2_shiftWholeRow) (maxL := 2) (ret := some .int) (by decide) rfl (Nat.le_of_ble_eq_true rfl) ?_
  intro p e s m below meth c A hAe hx hb hr hml hts0 hown hlk hin hsz H locs hP hK hD hA hS hE ls hl
  have hts : ∀ w ∈ ALLG, w.before _ s = true := fun w h => hts0 w (List.mem_cons_of_mem _ h)
  rw [← hAe]
  have g1 := hB.1
  have g2 := hB.2.2.1
  have hl : lv_has ls 2 [(0, .ref (q 0)), (1, .int (nI b))] := hl
  refine lv_aload_n hx hb dX2_shiftWholeRow_0 rfl (lv_at hl 0 rfl) ?_
  refine lv_iconst (v := nI 0) hx hb dX2_shiftWholeRow_1 (by decide) ?_
  refine lv_aload_n hx hb dX2_shiftWholeRow_2 rfl (lv_at hl 0 rfl) ?_
  refine va_get (D := (dC, dI)) (ci := 2) (v := .int (nI (RS.p r))) (C := RX2) (T := TX2) (N := 12) hx hb hts inX2 hown hK hP 0 rfl rfl 2 (by decide) (hts _ tw_32) (fun _ h9 => h9) rfl dX2_shiftWholeRow_3 ?_
  refine lv_iload_n hx hb dX2_shiftWholeRow_6 rfl (lv_at hl 1 rfl) ?_
  refine xc_Vi (As := [.int (nI 0), .int (nI (RS.p r)), .int (nI b)]) (wr := []) ⟨hx, hb, hml, hown, hts⟩ (c_Rows_shiftPlaces l dC dI q cI cZ H.size r 0 (RS.p r) b hB (by omega) (by omega)) (cwV 3 hts (gV tw_168 tw_170 sw_2 tw_2 tw_171) rfl rfl rfl (by decide +kernel) ⟨Nat.le_of_ble_eq_true rfl, Nat.le_of_ble_eq_true rfl⟩) rfl hl.1 rfl (Nat.le_of_ble_eq_true rfl) dX2_shiftWholeRow_7 ⟨Nat.zero_le _, Nat.zero_le _⟩ hP hD hK hS hA [0, 1, 2, 3, 4, 5, 6, 7, 8, 9] [] rfl rfl (by decide) (by decide) (by decide) [0, 1] rfl (q0 := 0) rfl rfl rfl eT_M (trivial) (fun r_1 u_2 H locs w_3 hP hD hS => ?_)
  obtain ⟨rfl, rfl⟩ := w_3
  have hP : va_P (dC, dI) vwCl (wR q cI cZ (RS.s_vb r (shV r 0 (RS.p r) b))) H := hP
  have hD : va_D A (wR q cI cZ (RS.s_vb r (shV r 0 (RS.p r) b))) := hD
  exact xr_i hx hb hr hlk (u := RS.s_vb r (shV r 0 (RS.p r) b)) (⟨rfl, rfl⟩) hP hK hD hS dX2_shiftWholeRow_10
set_option maxHeartbeats 4000000 in
set_option maxRecDepth 100000 in
theorem c_Access_shiftData (l : Launch) (dC : Nat → ClassId) (dI : Nat → Nat → Nat) (q : Nat → Nat) (cI cZ : ClassId) (sz : Nat) (r : RS) (k : CS) (a : AS) (b : Nat) (hY : YB (r, k, a)) : Met l yX0_shiftData (.code yX0_shiftData cX0_shiftData 2 (some .int) :: ALLG) ({ frames := 2, cells := 0, slots := 0, locals := 48 }) (va_Pc [.ref (q 15), .int (nI b)] (cP (dC, dI) vwCl [(cI, .int), (cZ, .boolean)] (wY q cI cZ r k a) eT sz)) (va_Qi (fun (x : Int32) (u : RS × CS × AS) => x = nI (shfD r k a b).1 ∧ u = (shfD r k a b).2) (fun (u : RS × CS × AS) => cB (dC, dI) vwCl [(cI, .int), (cZ, .boolean)] (wY q cI cZ u.1 u.2.1 u.2.2) (va_A (wY q cI cZ r k a) sz)) (va_A (wY q cI cZ r k a) sz)) 0 0 (va_A (wY q cI cZ r k a) sz) := by
  refine xm_of (cc := cX0_shiftData) (maxL := 2) (ret := some .int) (by decide) rfl (Nat.le_of_ble_eq_true rfl) ?_
  intro p e s m below meth c A hAe hx hb hr hml hts0 hown hlk hin hsz H locs hP hK hD hA hS hE ls hl
  have hts : ∀ w ∈ ALLG, w.before _ s = true := fun w h => hts0 w (List.mem_cons_of_mem _ h)
  rw [← hAe]
  have hY0 := hY
  have hR0 : RB r := hY.1
  have hA0 : AB a := hY.2.2
  obtain ⟨⟨b_n, b_c, b_p, b_vb, b_ck, b_xx, b_yy, b_fl, b_po, b_rw, b_ch, b_st⟩, ⟨k_n, k_pin, k_ki, k_he, k_ir⟩, a_st, a_co, a_cr, a_by, a_tk⟩ : RB r ∧ CB k ∧ AB a := hY
  have g0 := reg_lt a.co k.n r.p
  have hl : lv_has ls 2 [(0, .ref (q 15)), (1, .int (nI b))] := hl
  refine lv_aload_n hx hb dX0_shiftData_0 rfl (lv_at hl 0 rfl) ?_
  refine xc_Vi (As := []) (wr := []) ⟨hx, hb, hml, hown, hts⟩ (c_Access_register l dC dI q cI cZ H.size r k a (by omega) (by omega) (by omega)) (cwV 0 hts (gV tw_477 tw_479 sw_17 tw_4 tw_480) rfl rfl rfl (by decide +kernel) ⟨Nat.le_of_ble_eq_true rfl, Nat.le_of_ble_eq_true rfl⟩) rfl hl.1 rfl (Nat.le_of_ble_eq_true rfl) dX0_shiftData_1 ⟨Nat.zero_le _, Nat.zero_le _⟩ hP hD hK hS hA [0, 1, 2, 3, 4, 5, 6, 7, 8, 9, 10, 11, 12, 13, 14, 15, 16] [] rfl rfl (by decide) (by decide) (by decide) [0, 1] rfl (q0 := 15) rfl rfl rfl eT_M (trivial) (fun r_1 u_2 H locs w_3 hP hD hS => ?_)
  obtain rfl := w_3
  have hP : va_P (dC, dI) vwCl (wY q cI cZ r k a) H := hP
  have hD : va_D A (wY q cI cZ r k a) := hD
  by_cases k_4 : (reg a.co k.n r.p) = 1
  · refine lv_tableIn (tgt := 32) hx hb dX0_shiftData_4 (by rw [k_4]; decide) (by rw [k_4]; decide) (by rw [k_4]; rfl) (by decide) ?_
    refine lv_aload_n hx hb dX0_shiftData_32 rfl (lv_at hl 0 rfl) ?_
    refine va_get (D := (dC, dI)) (ci := 0) (v := .ref (q 10)) (C := RX0) (T := TX0) (N := 9) hx hb hts inX0 hown hK hP 15 rfl rfl 4 (by decide) (hts _ tw_107) (fun _ h9 => h9) rfl dX0_shiftData_33 ?_
    refine lv_iload_n hx hb dX0_shiftData_36 rfl (lv_at hl 1 rfl) ?_
    refine xc_Vi (As := [.int (nI b)]) (wr := wR q cI cZ r ++ wA q cI a) ⟨hx, hb, hml, hown, hts⟩ (c_Cells_shiftRegister l dC dI q cI cZ H.size k b (by omega)) (cwV 1 hts (gV tw_489 tw_490 tw_491 tw_3 tw_492) rfl rfl rfl (by decide +kernel) ⟨Nat.le_of_ble_eq_true rfl, Nat.le_of_ble_eq_true rfl⟩) rfl hl.1 rfl (Nat.le_of_ble_eq_true rfl) dX0_shiftData_37 ⟨Nat.zero_le _, Nat.zero_le _⟩ hP hD hK hS hA [10, 11, 12, 13, 14] [0, 1, 2, 3, 4, 5, 6, 7, 8, 9, 15, 16] rfl rfl (by decide) (by decide) (by decide) [0, 1] rfl (q0 := 0) rfl rfl rfl eT_M (trivial) (fun r_5 u_6 H locs w_7 hP hD hS => ?_)
    obtain ⟨rfl, rfl⟩ := w_7
    have hP : va_P (dC, dI) vwCl (wY q cI cZ r (CS.s_ir k (srV k.ir b k.n)) a) H := hP.sub [0, 1, 2, 3, 4, 5, 6, 7, 8, 9, 12, 13, 14, 15, 16, 10, 11] rfl
    have hD : va_D A (wY q cI cZ r (CS.s_ir k (srV k.ir b k.n)) a) := hD.sub [0, 1, 2, 3, 4, 5, 6, 7, 8, 9, 12, 13, 14, 15, 16, 10, 11] (by decide) rfl
    exact xr_i hx hb hr hlk (u := (r, CS.s_ir k (srV k.ir b k.n), a)) (⟨by unfold shfD; simp [k_4], by unfold shfD; simp [k_4]⟩) hP hK hD hS dX0_shiftData_40
  · by_cases k_8 : (reg a.co k.n r.p) = 2
    · refine lv_tableIn (tgt := 41) hx hb dX0_shiftData_4 (by rw [k_8]; decide) (by rw [k_8]; decide) (by rw [k_8]; rfl) (by decide) ?_
      refine lv_aload_n hx hb dX0_shiftData_41 rfl (lv_at hl 0 rfl) ?_
      refine lv_iload_n hx hb dX0_shiftData_42 rfl (lv_at hl 1 rfl) ?_
      refine xc_Vi (As := [.int (nI b)]) (wr := []) ⟨hx, hb, hml, hown, hts⟩ (c_Access_shiftNumber l dC dI q cI cZ H.size r k a b) (cwV 1 hts (gV tw_493 tw_495 sw_19 tw_4 tw_496) rfl rfl rfl (by decide +kernel) ⟨Nat.le_of_ble_eq_true rfl, Nat.le_of_ble_eq_true rfl⟩) rfl hl.1 rfl (Nat.le_of_ble_eq_true rfl) dX0_shiftData_43 ⟨Nat.zero_le _, Nat.zero_le _⟩ hP hD hK hS hA [0, 1, 2, 3, 4, 5, 6, 7, 8, 9, 10, 11, 12, 13, 14, 15, 16] [] rfl rfl (by decide) (by decide) (by decide) [0, 1] rfl (q0 := 15) rfl rfl rfl eT_M (trivial) (fun r_9 u_10 H locs w_11 hP hD hS => ?_)
      obtain ⟨rfl, rfl⟩ := w_11
      have hP : va_P (dC, dI) vwCl (wY q cI cZ r k (AS.s_nr a (nrS a.nr b))) H := hP
      have hD : va_D A (wY q cI cZ r k (AS.s_nr a (nrS a.nr b))) := hD
      exact xr_i hx hb hr hlk (u := (r, k, AS.s_nr a (nrS a.nr b))) (⟨by unfold shfD; simp [k_8], by unfold shfD; simp [k_8]⟩) hP hK hD hS dX0_shiftData_46
    · by_cases k_12 : (reg a.co k.n r.p) = 3
      · refine lv_tableIn (tgt := 47) hx hb dX0_shiftData_4 (by rw [k_12]; decide) (by rw [k_12]; decide) (by rw [k_12]; rfl) (by decide) ?_
        refine lv_aload_n hx hb dX0_shiftData_47 rfl (lv_at hl 0 rfl) ?_
        refine va_get (D := (dC, dI)) (ci := 0) (v := .ref (q 0)) (C := RX0) (T := TX0) (N := 9) hx hb hts inX0 hown hK hP 15 rfl rfl 3 (by decide) (hts _ tw_106) (fun _ h9 => h9) rfl dX0_shiftData_48 ?_
        refine lv_iload_n hx hb dX0_shiftData_51 rfl (lv_at hl 1 rfl) ?_
        refine xc_Vi (As := [.int (nI b)]) (wr := wC q cI k ++ wA q cI a) ⟨hx, hb, hml, hown, hts⟩ (c_Rows_shiftWholeRow l dC dI q cI cZ H.size r b hR0) (cwV 1 hts (gV tw_497 tw_498 tw_499 tw_2 tw_500) rfl rfl rfl (by decide +kernel) ⟨Nat.le_of_ble_eq_true rfl, Nat.le_of_ble_eq_true rfl⟩) rfl hl.1 rfl (Nat.le_of_ble_eq_true rfl) dX0_shiftData_52 ⟨Nat.zero_le _, Nat.zero_le _⟩ hP hD hK hS hA [0, 1, 2, 3, 4, 5, 6, 7, 8, 9] [10, 11, 12, 13, 14, 15, 16] rfl rfl (by decide) (by decide) (by decide) [0, 1] rfl (q0 := 0) rfl rfl rfl eT_M (trivial) (fun r_13 u_14 H locs w_15 hP hD hS => ?_)
        obtain ⟨rfl, rfl⟩ := w_15
        have hP : va_P (dC, dI) vwCl (wY q cI cZ (RS.s_vb r (shV r 0 r.p b)) k a) H := hP.sub [7, 8, 9, 10, 11, 12, 13, 14, 15, 16, 0, 1, 2, 3, 4, 5, 6] rfl
        have hD : va_D A (wY q cI cZ (RS.s_vb r (shV r 0 r.p b)) k a) := hD.sub [7, 8, 9, 10, 11, 12, 13, 14, 15, 16, 0, 1, 2, 3, 4, 5, 6] (by decide) rfl
        exact xr_i hx hb hr hlk (u := (RS.s_vb r (shV r 0 r.p b), k, a)) (⟨by unfold shfD; simp [k_12], by unfold shfD; simp [k_12]⟩) hP hK hD hS dX0_shiftData_55
      · refine lv_tableOut (tgt := 56) hx hb dX0_shiftData_4 (by rw [nI_toInt (by omega)]; omega) (by decide) ?_
        refine lv_aload_n hx hb dX0_shiftData_56 rfl (lv_at hl 0 rfl) ?_
        refine lv_iload_n hx hb dX0_shiftData_57 rfl (lv_at hl 1 rfl) ?_
        refine xc_Vi (As := [.int (nI b)]) (wr := []) ⟨hx, hb, hml, hown, hts⟩ (c_Access_shiftBypass l dC dI q cI cZ H.size r k a b) (cwV 1 hts (gV tw_501 tw_503 sw_20 tw_4 tw_504) rfl rfl rfl (by decide +kernel) ⟨Nat.le_of_ble_eq_true rfl, Nat.le_of_ble_eq_true rfl⟩) rfl hl.1 rfl (Nat.le_of_ble_eq_true rfl) dX0_shiftData_58 ⟨Nat.zero_le _, Nat.zero_le _⟩ hP hD hK hS hA [0, 1, 2, 3, 4, 5, 6, 7, 8, 9, 10, 11, 12, 13, 14, 15, 16] [] rfl rfl (by decide) (by decide) (by decide) [0, 1] rfl (q0 := 15) rfl rfl rfl eT_M (trivial) (fun r_16 u_17 H locs w_18 hP hD hS => ?_)
        obtain ⟨rfl, rfl⟩ := w_18
        have hP : va_P (dC, dI) vwCl (wY q cI cZ r k (AS.s_by_ a b)) H := hP
        have hD : va_D A (wY q cI cZ r k (AS.s_by_ a b)) := hD
        exact xr_i hx hb hr hlk (u := (r, k, AS.s_by_ a b)) (⟨by unfold shfD; simp [k_4, k_8, k_12], by unfold shfD; simp [k_4, k_8, k_12]⟩) hP hK hD hS dX0_shiftData_61
set_option maxHeartbeats 4000000 in
set_option maxRecDepth 100000 in
theorem c_Access_updateData (l : Launch) (dC : Nat → ClassId) (dI : Nat → Nat → Nat) (q : Nat → Nat) (cI cZ : ClassId) (sz : Nat) (r : RS) (k : CS) (a : AS) (hY : YB (r, k, a)) : Met l yX0_updateData (.code yX0_updateData cX0_updateData 1 none :: ALLG) ({ frames := 1, cells := 0, slots := 0, locals := 21 }) (va_Pc [.ref (q 15)] (cP (dC, dI) vwCl [(cI, .int), (cZ, .boolean)] (wY q cI cZ r k a) eT sz)) (va_Qv (fun (u : RS × CS × AS) => u = updD r k a) (fun (u : RS × CS × AS) => cB (dC, dI) vwCl [(cI, .int), (cZ, .boolean)] (wY q cI cZ u.1 u.2.1 u.2.2) (va_A (wY q cI cZ r k a) sz)) (va_A (wY q cI cZ r k a) sz)) 0 0 (va_A (wY q cI cZ r k a) sz) := by
  refine xm_of (cc := cX0_updateData) (maxL := 1) (ret := none) (by decide) rfl (Nat.le_of_ble_eq_true rfl) ?_
  intro p e s m below meth c A hAe hx hb hr hml hts0 hown hlk hin hsz H locs hP hK hD hA hS hE ls hl
  have hts : ∀ w ∈ ALLG, w.before _ s = true := fun w h => hts0 w (List.mem_cons_of_mem _ h)
  rw [← hAe]
  have hY0 := hY
  have hR0 : RB r := hY.1
  have hA0 : AB a := hY.2.2
  obtain ⟨⟨b_n, b_c, b_p, b_vb, b_ck, b_xx, b_yy, b_fl, b_po, b_rw, b_ch, b_st⟩, ⟨k_n, k_pin, k_ki, k_he, k_ir⟩, a_st, a_co, a_cr, a_by, a_tk⟩ : RB r ∧ CB k ∧ AB a := hY
  have g0 := reg_lt a.co k.n r.p
  have hl : lv_has ls 1 [(0, .ref (q 15))] := hl
  refine lv_aload_n hx hb dX0_updateData_0 rfl (lv_at hl 0 rfl) ?_
  refine xc_Vi (As := []) (wr := []) ⟨hx, hb, hml, hown, hts⟩ (c_Access_register l dC dI q cI cZ H.size r k a (by omega) (by omega) (by omega)) (cwV 0 hts (gV tw_477 tw_479 sw_17 tw_4 tw_480) rfl rfl rfl (by decide +kernel) ⟨Nat.le_of_ble_eq_true rfl, Nat.le_of_ble_eq_true rfl⟩) rfl hl.1 rfl (Nat.le_of_ble_eq_true rfl) dX0_updateData_1 ⟨Nat.zero_le _, Nat.zero_le _⟩ hP hD hK hS hA [0, 1, 2, 3, 4, 5, 6, 7, 8, 9, 10, 11, 12, 13, 14, 15, 16] [] rfl rfl (by decide) (by decide) (by decide) [0, 1] rfl (q0 := 15) rfl rfl rfl eT_M (trivial) (fun r_1 u_2 H locs w_3 hP hD hS => ?_)
  obtain rfl := w_3
  have hP : va_P (dC, dI) vwCl (wY q cI cZ r k a) H := hP
  have hD : va_D A (wY q cI cZ r k a) := hD
  refine lv_iconst (v := nI 1) hx hb dX0_updateData_4 (by decide) ?_
  refine xn_cne (tgt := 15) hx hb (by omega) (by omega) dX0_updateData_5 (by decide) (fun c_4 => ?_) (fun c_4 => ?_)
  · exact xr_v hx hb hr hlk (u := (r, k, a)) (by unfold updD; first | rw [if_pos (by assumption)] | rw [if_neg (by assumption)]) hP hK hD hS dX0_updateData_15
  · refine lv_aload_n hx hb dX0_updateData_8 rfl (lv_at hl 0 rfl) ?_
    refine va_get (D := (dC, dI)) (ci := 0) (v := .ref (q 10)) (C := RX0) (T := TX0) (N := 9) hx hb hts inX0 hown hK hP 15 rfl rfl 4 (by decide) (hts _ tw_107) (fun _ h9 => h9) rfl dX0_updateData_9 ?_
    refine xc_Vv (As := []) (wr := wR q cI cZ r ++ wA q cI a) ⟨hx, hb, hml, hown, hts⟩ (c_Cells_update l dC dI q cI cZ H.size k (by omega)) (cwV 0 hts (gV tw_509 tw_510 tw_511 tw_3 tw_512) rfl rfl rfl (by decide +kernel) ⟨Nat.le_of_ble_eq_true rfl, Nat.le_of_ble_eq_true rfl⟩) rfl hl.1 rfl (Nat.le_of_ble_eq_true rfl) dX0_updateData_12 ⟨Nat.zero_le _, Nat.zero_le _⟩ hP hD hK hS hA [10, 11, 12, 13, 14] [0, 1, 2, 3, 4, 5, 6, 7, 8, 9, 15, 16] rfl rfl (by decide) (by decide) (by decide) [0, 1] rfl (q0 := 0) rfl rfl rfl eT_M (trivial) (fun u_6 H locs w_7 hP hD hS => ?_)
    obtain rfl := w_7
    have hP : va_P (dC, dI) vwCl (wY q cI cZ r (CS.s_he k (cpN k.ir k.he k.n)) a) H := hP.sub [0, 1, 2, 3, 4, 5, 6, 7, 8, 9, 12, 13, 14, 15, 16, 10, 11] rfl
    have hD : va_D A (wY q cI cZ r (CS.s_he k (cpN k.ir k.he k.n)) a) := hD.sub [0, 1, 2, 3, 4, 5, 6, 7, 8, 9, 12, 13, 14, 15, 16, 10, 11] (by decide) rfl
    exact xr_v hx hb hr hlk (u := (r, CS.s_he k (cpN k.ir k.he k.n), a)) (by unfold updD; first | rw [if_pos (by assumption)] | rw [if_neg (by assumption)]) hP hK hD hS dX0_updateData_15
set_option maxHeartbeats 4000000 in
set_option maxRecDepth 100000 in
theorem c_Access_act (l : Launch) (dC : Nat → ClassId) (dI : Nat → Nat → Nat) (q : Nat → Nat) (cI cZ : ClassId) (sz : Nat) (r : RS) (k : CS) (a : AS) (b : Nat) (hY : YB (r, k, a)) (hb2 : b < 2) : Met l yX0_act (.code yX0_act cX0_act 2 (some .int) :: ALLG) ({ frames := 3, cells := 0, slots := 0, locals := 69 }) (va_Pc [.ref (q 15), .int (nI b)] (cP (dC, dI) vwCl [(cI, .int), (cZ, .boolean)] (wY q cI cZ r k a) eT sz)) (va_Qi (fun (x : Int32) (u : RS × CS × AS) => x = zI (actF r k a b).1 ∧ u = (actF r k a b).2) (fun (u : RS × CS × AS) => cB (dC, dI) vwCl [(cI, .int), (cZ, .boolean)] (wY q cI cZ u.1 u.2.1 u.2.2) (va_A (wY q cI cZ r k a) sz)) (va_A (wY q cI cZ r k a) sz)) 0 0 (va_A (wY q cI cZ r k a) sz) := by
  refine xm_of (cc := cX0_act) (maxL := 2) (ret := some .int) (by decide) rfl (Nat.le_of_ble_eq_true rfl) ?_
  intro p e s m below meth c A hAe hx hb hr hml hts0 hown hlk hin hsz H locs hP hK hD hA hS hE ls hl
  have hts : ∀ w ∈ ALLG, w.before _ s = true := fun w h => hts0 w (List.mem_cons_of_mem _ h)
  rw [← hAe]
  have hY0 := hY
  have hR0 : RB r := hY.1
  have hA0 : AB a := hY.2.2
  obtain ⟨⟨b_n, b_c, b_p, b_vb, b_ck, b_xx, b_yy, b_fl, b_po, b_rw, b_ch, b_st⟩, ⟨k_n, k_pin, k_ki, k_he, k_ir⟩, a_st, a_co, a_cr, a_by, a_tk⟩ : RB r ∧ CB k ∧ AB a := hY
  have g0 := reg_lt a.co k.n r.p
  have hl : lv_has ls 2 [(0, .ref (q 15)), (1, .int (nI b))] := hl
  refine lv_aload_n hx hb dX0_act_0 rfl (lv_at hl 0 rfl) ?_
  refine va_get (D := (dC, dI)) (ci := 0) (v := .int (nI (AS.st a))) (C := RX0) (T := TX0) (N := 9) hx hb hts inX0 hown hK hP 15 rfl rfl 0 (by decide) (hts _ tw_101) (fun _ h9 => h9) rfl dX0_act_1 ?_
  by_cases k_1 : (AS.st a) = 3
  · refine lv_tableIn (tgt := 72) hx hb dX0_act_4 (by rw [k_1]; decide) (by rw [k_1]; decide) (by rw [k_1]; rfl) (by decide) ?_
    refine lv_aload_n hx hb dX0_act_72 rfl (lv_at hl 0 rfl) ?_
    refine xc_Vv (As := []) (wr := []) ⟨hx, hb, hml, hown, hts⟩ (c_Access_captureData l dC dI q cI cZ H.size r k a hY0) (cwV 0 hts (gV tw_473 tw_475 sw_16 tw_4 tw_476) rfl rfl rfl (by decide +kernel) ⟨Nat.le_of_ble_eq_true rfl, Nat.le_of_ble_eq_true rfl⟩) rfl hl.1 rfl (Nat.le_of_ble_eq_true rfl) dX0_act_73 ⟨Nat.zero_le _, Nat.zero_le _⟩ hP hD hK hS hA [0, 1, 2, 3, 4, 5, 6, 7, 8, 9, 10, 11, 12, 13, 14, 15, 16] [] rfl rfl (by decide) (by decide) (by decide) [0, 1] rfl (q0 := 15) rfl rfl rfl eT_M (trivial) (fun u_3 H locs w_4 hP hD hS => ?_)
    obtain rfl := w_4
    have hP : va_P (dC, dI) vwCl (wY q cI cZ ((capD r k a).1) ((capD r k a).2.1) ((capD r k a).2.2)) H := hP
    have hD : va_D A (wY q cI cZ ((capD r k a).1) ((capD r k a).2.1) ((capD r k a).2.2)) := hD
    refine lv_iconst (v := zI (-1)) hx hb dX0_act_76 (by decide) ?_
    exact xr_i hx hb hr hlk (u := ((capD r k a).1, (capD r k a).2.1, (capD r k a).2.2)) (⟨by unfold actF; simp [k_1], by unfold actF; simp [k_1]⟩) hP hK hD hS dX0_act_77
  · by_cases k_5 : (AS.st a) = 4
    · refine lv_tableIn (tgt := 78) hx hb dX0_act_4 (by rw [k_5]; decide) (by rw [k_5]; decide) (by rw [k_5]; rfl) (by decide) ?_
      refine lv_aload_n hx hb dX0_act_78 rfl (lv_at hl 0 rfl) ?_
      refine lv_iload_n hx hb dX0_act_79 rfl (lv_at hl 1 rfl) ?_
      refine xc_Vi (As := [.int (nI b)]) (wr := []) ⟨hx, hb, hml, hown, hts⟩ (c_Access_shiftData l dC dI q cI cZ H.size r k a b hY0) (cwV 1 hts (gV tw_485 tw_487 sw_18 tw_4 tw_488) rfl rfl rfl (by decide +kernel) ⟨Nat.le_of_ble_eq_true rfl, Nat.le_of_ble_eq_true rfl⟩) rfl hl.1 rfl (Nat.le_of_ble_eq_true rfl) dX0_act_80 ⟨Nat.zero_le _, Nat.zero_le _⟩ hP hD hK hS hA [0, 1, 2, 3, 4, 5, 6, 7, 8, 9, 10, 11, 12, 13, 14, 15, 16] [] rfl rfl (by decide) (by decide) (by decide) [0, 1] rfl (q0 := 15) rfl rfl rfl eT_M (trivial) (fun r_6 u_7 H locs w_8 hP hD hS => ?_)
      obtain ⟨rfl, rfl⟩ := w_8
      have hP : va_P (dC, dI) vwCl (wY q cI cZ (((shfD r k a b).2).1) (((shfD r k a b).2).2.1) (((shfD r k a b).2).2.2)) H := hP
      have hD : va_D A (wY q cI cZ (((shfD r k a b).2).1) (((shfD r k a b).2).2.1) (((shfD r k a b).2).2.2)) := hD
      refine xt_i (show nI ((shfD r k a b).1) = zI (((shfD r k a b).1 : Nat) : Int) from (zI_nI _).symm) ?_
      exact xr_i hx hb hr hlk (u := (((shfD r k a b).2).1, ((shfD r k a b).2).2.1, ((shfD r k a b).2).2.2)) (⟨by unfold actF; simp [k_5], by unfold actF; simp [k_5]⟩) hP hK hD hS dX0_act_83
    · by_cases k_9 : (AS.st a) = 5
      · refine lv_tableIn (tgt := 113) hx hb dX0_act_4 (by rw [k_9]; decide) (by rw [k_9]; decide) (by rw [k_9]; rfl) (by decide) ?_
        refine lv_iconst (v := zI (-1)) hx hb dX0_act_113 (by decide) ?_
        exact xr_i hx hb hr hlk (u := (r, k, a)) (⟨by unfold actF; simp [k_9], by unfold actF; simp [k_9]⟩) hP hK hD hS dX0_act_114
      · by_cases k_10 : (AS.st a) = 6
        · refine lv_tableIn (tgt := 113) hx hb dX0_act_4 (by rw [k_10]; decide) (by rw [k_10]; decide) (by rw [k_10]; rfl) (by decide) ?_
          refine lv_iconst (v := zI (-1)) hx hb dX0_act_113 (by decide) ?_
          exact xr_i hx hb hr hlk (u := (r, k, a)) (⟨by unfold actF; simp [k_10], by unfold actF; simp [k_10]⟩) hP hK hD hS dX0_act_114
        · by_cases k_11 : (AS.st a) = 7
          · refine lv_tableIn (tgt := 113) hx hb dX0_act_4 (by rw [k_11]; decide) (by rw [k_11]; decide) (by rw [k_11]; rfl) (by decide) ?_
            refine lv_iconst (v := zI (-1)) hx hb dX0_act_113 (by decide) ?_
            exact xr_i hx hb hr hlk (u := (r, k, a)) (⟨by unfold actF; simp [k_11], by unfold actF; simp [k_11]⟩) hP hK hD hS dX0_act_114
          · by_cases k_12 : (AS.st a) = 8
            · refine lv_tableIn (tgt := 84) hx hb dX0_act_4 (by rw [k_12]; decide) (by rw [k_12]; decide) (by rw [k_12]; rfl) (by decide) ?_
              refine lv_aload_n hx hb dX0_act_84 rfl (lv_at hl 0 rfl) ?_
              refine xc_Vv (As := []) (wr := []) ⟨hx, hb, hml, hown, hts⟩ (c_Access_updateData l dC dI q cI cZ H.size r k a hY0) (cwV 0 hts (gV tw_505 tw_507 sw_21 tw_4 tw_508) rfl rfl rfl (by decide +kernel) ⟨Nat.le_of_ble_eq_true rfl, Nat.le_of_ble_eq_true rfl⟩) rfl hl.1 rfl (Nat.le_of_ble_eq_true rfl) dX0_act_85 ⟨Nat.zero_le _, Nat.zero_le _⟩ hP hD hK hS hA [0, 1, 2, 3, 4, 5, 6, 7, 8, 9, 10, 11, 12, 13, 14, 15, 16] [] rfl rfl (by decide) (by decide) (by decide) [0, 1] rfl (q0 := 15) rfl rfl rfl eT_M (trivial) (fun u_14 H locs w_15 hP hD hS => ?_)
              obtain rfl := w_15
              have hP : va_P (dC, dI) vwCl (wY q cI cZ ((updD r k a).1) ((updD r k a).2.1) ((updD r k a).2.2)) H := hP
              have hD : va_D A (wY q cI cZ ((updD r k a).1) ((updD r k a).2.1) ((updD r k a).2.2)) := hD
              refine lv_iconst (v := zI (-1)) hx hb dX0_act_88 (by decide) ?_
              exact xr_i hx hb hr hlk (u := ((updD r k a).1, (updD r k a).2.1, (updD r k a).2.2)) (⟨by unfold actF; simp [k_12], by unfold actF; simp [k_12]⟩) hP hK hD hS dX0_act_89
            · by_cases k_16 : (AS.st a) = 9
              · refine lv_tableIn (tgt := 113) hx hb dX0_act_4 (by rw [k_16]; decide) (by rw [k_16]; decide) (by rw [k_16]; rfl) (by decide) ?_
                refine lv_iconst (v := zI (-1)) hx hb dX0_act_113 (by decide) ?_
                exact xr_i hx hb hr hlk (u := (r, k, a)) (⟨by unfold actF; simp [k_16], by unfold actF; simp [k_16]⟩) hP hK hD hS dX0_act_114
              · by_cases k_17 : (AS.st a) = 10
                · refine lv_tableIn (tgt := 90) hx hb dX0_act_4 (by rw [k_17]; decide) (by rw [k_17]; decide) (by rw [k_17]; rfl) (by decide) ?_
                  refine lv_aload_n hx hb dX0_act_90 rfl (lv_at hl 0 rfl) ?_
                  refine lv_iconst (v := nI 1) hx hb dX0_act_91 (by decide) ?_
                  refine va_put (D := (dC, dI)) (ci := 0) (v := .int (nI 1)) (ty := .int) (C := RX0) (T := TX0) (N := 9) hx hb hts inX0 tyX0 tyX0_ok nmX0 hown hK hP hD hS 15 rfl rfl 5 (by decide) (hts _ tw_108) (fun _ h9 => h9) rfl (by decide +kernel) rfl rfl (Nat.le_of_ble_eq_true rfl) dX0_act_92 (fun H locs hP hD hS => ?_)
                  have hP : va_P (dC, dI) vwCl (wY q cI cZ r k (AS.s_cr a 1)) H := hP
                  have hD : va_D A (wY q cI cZ r k (AS.s_cr a 1)) := hD
                  refine lv_iconst (v := zI (-1)) hx hb dX0_act_95 (by decide) ?_
                  exact xr_i hx hb hr hlk (u := (r, k, AS.s_cr a 1)) (⟨by unfold actF; simp [k_17], by unfold actF; simp [k_17]⟩) hP hK hD hS dX0_act_96
                · by_cases k_18 : (AS.st a) = 11
                  · refine lv_tableIn (tgt := 97) hx hb dX0_act_4 (by rw [k_18]; decide) (by rw [k_18]; decide) (by rw [k_18]; rfl) (by decide) ?_
                    refine lv_aload_n hx hb dX0_act_97 rfl (lv_at hl 0 rfl) ?_
                    refine lv_iload_n hx hb dX0_act_98 rfl (lv_at hl 1 rfl) ?_
                    refine xc_Vi (As := [.int (nI b)]) (wr := []) ⟨hx, hb, hml, hown, hts⟩ (c_Access_shiftCode l dC dI q cI cZ H.size r k a b a_cr hb2) (cwV 1 hts (gV tw_513 tw_515 sw_22 tw_4 tw_516) rfl rfl rfl (by decide +kernel) ⟨Nat.le_of_ble_eq_true rfl, Nat.le_of_ble_eq_true rfl⟩) rfl hl.1 rfl (Nat.le_of_ble_eq_true rfl) dX0_act_99 ⟨Nat.zero_le _, Nat.zero_le _⟩ hP hD hK hS hA [0, 1, 2, 3, 4, 5, 6, 7, 8, 9, 10, 11, 12, 13, 14, 15, 16] [] rfl rfl (by decide) (by decide) (by decide) [0, 1] rfl (q0 := 15) rfl rfl rfl eT_M (trivial) (fun r_19 u_20 H locs w_21 hP hD hS => ?_)
                    obtain ⟨rfl, rfl⟩ := w_21
                    have hP : va_P (dC, dI) vwCl (wY q cI cZ r k (AS.s_cr a (a.cr / 2 + b * 8))) H := hP
                    have hD : va_D A (wY q cI cZ r k (AS.s_cr a (a.cr / 2 + b * 8))) := hD
                    refine xt_i (show nI (a.cr % 2) = zI ((a.cr % 2 : Nat) : Int) from (zI_nI _).symm) ?_
                    exact xr_i hx hb hr hlk (u := (r, k, AS.s_cr a (a.cr / 2 + b * 8))) (⟨by unfold actF; simp [k_18], by unfold actF; simp [k_18]⟩) hP hK hD hS dX0_act_102
                  · by_cases k_22 : (AS.st a) = 12
                    · refine lv_tableIn (tgt := 113) hx hb dX0_act_4 (by rw [k_22]; decide) (by rw [k_22]; decide) (by rw [k_22]; rfl) (by decide) ?_
                      refine lv_iconst (v := zI (-1)) hx hb dX0_act_113 (by decide) ?_
                      exact xr_i hx hb hr hlk (u := (r, k, a)) (⟨by unfold actF; simp [k_22], by unfold actF; simp [k_22]⟩) hP hK hD hS dX0_act_114
                    · by_cases k_23 : (AS.st a) = 13
                      · refine lv_tableIn (tgt := 113) hx hb dX0_act_4 (by rw [k_23]; decide) (by rw [k_23]; decide) (by rw [k_23]; rfl) (by decide) ?_
                        refine lv_iconst (v := zI (-1)) hx hb dX0_act_113 (by decide) ?_
                        exact xr_i hx hb hr hlk (u := (r, k, a)) (⟨by unfold actF; simp [k_23], by unfold actF; simp [k_23]⟩) hP hK hD hS dX0_act_114
                      · by_cases k_24 : (AS.st a) = 14
                        · refine lv_tableIn (tgt := 113) hx hb dX0_act_4 (by rw [k_24]; decide) (by rw [k_24]; decide) (by rw [k_24]; rfl) (by decide) ?_
                          refine lv_iconst (v := zI (-1)) hx hb dX0_act_113 (by decide) ?_
                          exact xr_i hx hb hr hlk (u := (r, k, a)) (⟨by unfold actF; simp [k_24], by unfold actF; simp [k_24]⟩) hP hK hD hS dX0_act_114
                        · by_cases k_25 : (AS.st a) = 15
                          · refine lv_tableIn (tgt := 103) hx hb dX0_act_4 (by rw [k_25]; decide) (by rw [k_25]; decide) (by rw [k_25]; rfl) (by decide) ?_
                            refine lv_aload_n hx hb dX0_act_103 rfl (lv_at hl 0 rfl) ?_
                            refine lv_aload_n hx hb dX0_act_104 rfl (lv_at hl 0 rfl) ?_
                            refine va_get (D := (dC, dI)) (ci := 0) (v := .int (nI (AS.cr a))) (C := RX0) (T := TX0) (N := 9) hx hb hts inX0 hown hK hP 15 rfl rfl 5 (by decide) (hts _ tw_108) (fun _ h9 => h9) rfl dX0_act_105 ?_
                            refine va_put (D := (dC, dI)) (ci := 0) (v := .int (nI (AS.cr a))) (ty := .int) (C := RX0) (T := TX0) (N := 9) hx hb hts inX0 tyX0 tyX0_ok nmX0 hown hK hP hD hS 15 rfl rfl 1 (by decide) (hts _ tw_103) (fun _ h9 => h9) rfl (by decide +kernel) rfl rfl (Nat.le_of_ble_eq_true rfl) dX0_act_108 (fun H locs hP hD hS => ?_)
                            have hP : va_P (dC, dI) vwCl (wY q cI cZ r k (AS.s_co a (AS.cr a))) H := hP
                            have hD : va_D A (wY q cI cZ r k (AS.s_co a (AS.cr a))) := hD
                            refine lv_iconst (v := zI (-1)) hx hb dX0_act_111 (by decide) ?_
                            exact xr_i hx hb hr hlk (u := (r, k, AS.s_co a (AS.cr a))) (⟨by unfold actF; simp [k_25], by unfold actF; simp [k_25]⟩) hP hK hD hS dX0_act_112
                          · refine lv_tableOut (tgt := 113) hx hb dX0_act_4 (by rw [nI_toInt (by omega)]; omega) (by decide) ?_
                            refine lv_iconst (v := zI (-1)) hx hb dX0_act_113 (by decide) ?_
                            exact xr_i hx hb hr hlk (u := (r, k, a)) (⟨by unfold actF; simp [k_1, k_5, k_9, k_10, k_11, k_12, k_16, k_17, k_18, k_22, k_23, k_24, k_25], by unfold actF; simp [k_1, k_5, k_9, k_10, k_11, k_12, k_16, k_17, k_18, k_22, k_23, k_24, k_25]⟩) hP hK hD hS dX0_act_114
set_option maxHeartbeats 4000000 in
set_option maxRecDepth 100000 in
theorem c_Access_step (l : Launch) (dC : Nat → ClassId) (dI : Nat → Nat → Nat) (q : Nat → Nat) (cI cZ : ClassId) (sz : Nat) (r : RS) (k : CS) (a : AS) (tN m0 b : Nat) (hY : YB (r, k, a)) (hm2 : m0 < 2) (hb2 : b < 2) : Met l yX0_step (.code yX0_step cX0_step 4 (some .int) :: ALLG) ({ frames := 4, cells := 0, slots := 0, locals := 90 }) (va_Pc [.ref (q 15), .int (nI m0), .int (nI b)] (cP (dC, dI) vwCl [(cI, .int), (cZ, .boolean)] (wY q cI cZ r k a) (eN tN (va_A (wY q cI cZ r k a) sz)) sz)) (va_Qi (fun (x : Int32) (u : RS × CS × AS) => x = zI (stepF r k a m0 b).1 ∧ u = (stepF r k a m0 b).2) (fun (u : RS × CS × AS) => cB (dC, dI) vwCl [(cI, .int), (cZ, .boolean)] (wY q cI cZ u.1 u.2.1 u.2.2) (va_A (wY q cI cZ r k a) sz)) (va_A (wY q cI cZ r k a) sz)) 0 0 (va_A (wY q cI cZ r k a) sz) := by
  refine xm_of (cc := cX0_step) (maxL := 4) (ret := some .int) (by decide) rfl (Nat.le_of_ble_eq_true rfl) ?_
  intro p e s m below meth c A hAe hx hb hr hml hts0 hown hlk hin hsz H locs hP hK hD hA hS hE ls hl
  have hts : ∀ w ∈ ALLG, w.before _ s = true := fun w h => hts0 w (List.mem_cons_of_mem _ h)
  rw [← hAe]
  rw [← hAe] at hE
  have hY0 := hY
  have hR0 : RB r := hY.1
  have hA0 : AB a := hY.2.2
  obtain ⟨⟨b_n, b_c, b_p, b_vb, b_ck, b_xx, b_yy, b_fl, b_po, b_rw, b_ch, b_st⟩, ⟨k_n, k_pin, k_ki, k_he, k_ir⟩, a_st, a_co, a_cr, a_by, a_tk⟩ : RB r ∧ CB k ∧ AB a := hY
  have g0 := reg_lt a.co k.n r.p
  have g1 : (actF r k a b).2.2.2.st < 16 := by rw [actF_st]; exact a_st
  have g2 := NX_lt (2 * (actF r k a b).2.2.2.st + m0)
  have hl : lv_has ls 4 [(0, .ref (q 15)), (1, .int (nI m0)), (2, .int (nI b))] := hl
  refine lv_aload_n hx hb dX0_step_0 rfl (lv_at hl 0 rfl) ?_
  refine lv_iload_n hx hb dX0_step_1 rfl (lv_at hl 2 rfl) ?_
  refine xc_Vi (As := [.int (nI b)]) (wr := []) ⟨hx, hb, hml, hown, hts⟩ (c_Access_act l dC dI q cI cZ H.size r k a b hY0 hb2) (cwV 1 hts (gV tw_469 tw_471 sw_15 tw_4 tw_472) rfl rfl rfl (by decide +kernel) ⟨Nat.le_of_ble_eq_true rfl, Nat.le_of_ble_eq_true rfl⟩) rfl hl.1 rfl (Nat.le_of_ble_eq_true rfl) dX0_step_2 ⟨Nat.zero_le _, Nat.zero_le _⟩ hP hD hK hS hA [0, 1, 2, 3, 4, 5, 6, 7, 8, 9, 10, 11, 12, 13, 14, 15, 16] [] rfl rfl (by decide) (by decide) (by decide) [0, 1] rfl (q0 := 15) rfl rfl rfl eT_M (trivial) (fun r_1 u_2 H locs w_3 hP hD hS => ?_)
  obtain ⟨rfl, rfl⟩ := w_3
  have hP : va_P (dC, dI) vwCl (wY q cI cZ (((actF r k a b).2).1) (((actF r k a b).2).2.1) (((actF r k a b).2).2.2)) H := hP
  have hD : va_D A (wY q cI cZ (((actF r k a b).2).1) (((actF r k a b).2).2.1) (((actF r k a b).2).2.2)) := hD
  refine lv_istore_n (lv' := [(3, .int (zI ((actF r k a b).1))), (0, .ref (q 15)), (1, .int (nI m0)), (2, .int (nI b))]) hx hb dX0_step_5 rfl hl (by decide) rfl (fun ls hl => ?_)
  refine lv_aload_n hx hb dX0_step_6 rfl (lv_at hl 1 rfl) ?_
  refine va_gets hx hb hE.1 hS hown (hts _ tw_517) (fun _ h9 => h9) dX0_step_7 ?_
  refine lv_iconst (v := nI 2) hx hb dX0_step_10 (by decide) ?_
  refine lv_aload_n hx hb dX0_step_11 rfl (lv_at hl 1 rfl) ?_
  refine va_get (D := (dC, dI)) (ci := 0) (v := .int (nI (AS.st (((actF r k a b).2).2.2)))) (C := RX0) (T := TX0) (N := 9) hx hb hts inX0 hown hK hP 15 rfl rfl 0 (by decide) (hts _ tw_101) (fun _ h9 => h9) rfl dX0_step_12 ?_
  refine xn_mul hx hb dX0_step_15 ?_
  refine lv_iload_n hx hb dX0_step_16 rfl (lv_at hl 2 rfl) ?_
  refine xn_add hx hb dX0_step_17 ?_
  refine va_ti hx hb hE.2 hS (vp_in_nI (show ((2 * (AS.st (((actF r k a b).2).2.2))) + m0) < 32 by omega) (by decide)) (v := .int (nI (NX ((2 * (AS.st (((actF r k a b).2).2.2))) + m0)))) (by show Value.int (nI (NX (nI ((2 * (AS.st (((actF r k a b).2).2.2))) + m0)).toNatClampNeg)) = _; rw [nI_clamp (by omega)]) dX0_step_18 ?_
  refine va_put (D := (dC, dI)) (ci := 0) (v := .int (nI (NX ((2 * (AS.st (((actF r k a b).2).2.2))) + m0)))) (ty := .int) (C := RX0) (T := TX0) (N := 9) hx hb hts inX0 tyX0 tyX0_ok nmX0 hown hK hP hD hS 15 rfl rfl 0 (by decide) (hts _ tw_101) (fun _ h9 => h9) rfl (by decide +kernel) rfl rfl (Nat.le_of_ble_eq_true rfl) dX0_step_19 (fun H locs hP hD hS => ?_)
  have hP : va_P (dC, dI) vwCl (wY q cI cZ (((actF r k a b).2).1) (((actF r k a b).2).2.1) (AS.s_st (((actF r k a b).2).2.2) (NX ((2 * (AS.st (((actF r k a b).2).2.2))) + m0)))) H := hP
  have hD : va_D A (wY q cI cZ (((actF r k a b).2).1) (((actF r k a b).2).2.1) (AS.s_st (((actF r k a b).2).2.2) (NX ((2 * (AS.st (((actF r k a b).2).2.2))) + m0)))) := hD
  refine lv_aload_n hx hb dX0_step_22 rfl (lv_at hl 1 rfl) ?_
  refine va_get (D := (dC, dI)) (ci := 0) (v := .int (nI (NX ((2 * (AS.st (((actF r k a b).2).2.2))) + m0)))) (C := RX0) (T := TX0) (N := 9) hx hb hts inX0 hown hK hP 15 rfl rfl 0 (by decide) (hts _ tw_101) (fun _ h9 => h9) rfl dX0_step_23 ?_
  refine xn_zne (tgt := 34) hx hb (by omega) dX0_step_26 (by decide) (fun c_4 => ?_) (fun c_4 => ?_)
  · refine lv_iload_n hx hb dX0_step_34 rfl (lv_at hl 0 rfl) ?_
    exact xr_i hx hb hr hlk (u := (((actF r k a b).2).1, ((actF r k a b).2).2.1, AS.s_st (((actF r k a b).2).2.2) (NX ((2 * (AS.st (((actF r k a b).2).2.2))) + m0)))) (⟨rfl, by unfold stepF stepA; rw [if_neg (show ¬ NX (2 * (actF r k a b).2.2.2.st + m0) = 0 by omega)]⟩) hP hK hD hS dX0_step_35
  · refine lv_aload_n hx hb dX0_step_29 rfl (lv_at hl 1 rfl) ?_
    refine lv_iconst (v := nI 2) hx hb dX0_step_30 (by decide) ?_
    refine va_put (D := (dC, dI)) (ci := 0) (v := .int (nI 2)) (ty := .int) (C := RX0) (T := TX0) (N := 9) hx hb hts inX0 tyX0 tyX0_ok nmX0 hown hK hP hD hS 15 rfl rfl 1 (by decide) (hts _ tw_103) (fun _ h9 => h9) rfl (by decide +kernel) rfl rfl (Nat.le_of_ble_eq_true rfl) dX0_step_31 (fun H locs hP hD hS => ?_)
    have hP : va_P (dC, dI) vwCl (wY q cI cZ (((actF r k a b).2).1) (((actF r k a b).2).2.1) (AS.s_co (AS.s_st (((actF r k a b).2).2.2) (NX ((2 * (AS.st (((actF r k a b).2).2.2))) + m0))) 2)) H := hP
    have hD : va_D A (wY q cI cZ (((actF r k a b).2).1) (((actF r k a b).2).2.1) (AS.s_co (AS.s_st (((actF r k a b).2).2.2) (NX ((2 * (AS.st (((actF r k a b).2).2.2))) + m0))) 2)) := hD
    refine lv_iload_n hx hb dX0_step_34 rfl (lv_at hl 0 rfl) ?_
    exact xr_i hx hb hr hlk (u := (((actF r k a b).2).1, ((actF r k a b).2).2.1, AS.s_co (AS.s_st (((actF r k a b).2).2.2) (NX ((2 * (AS.st (((actF r k a b).2).2.2))) + m0))) 2)) (⟨rfl, by unfold stepF stepA; rw [if_pos (show NX (2 * (actF r k a b).2.2.2.st + m0) = 0 by omega)]⟩) hP hK hD hS dX0_step_35
