/-! at first -/
abbrev r0 : RS := (0, 0, 0, (fun _ => 0), (fun _ => 0), (fun _ => 0), (fun _ => 0), (fun _ => 0), (fun _ => 0), (fun _ => 0), (fun _ => 0), (fun _ => 0))
abbrev k0 : CS := (0, (fun _ => 0), (fun _ => 0), (fun _ => 0), (fun _ => 0))
abbrev a00 (nu : Int32) : AS := (0, 2, nu, 0, nI 0, 0, (fun _ => 0))
theorem arr_st (r : RS) {c0 i : Nat} (hi : i ≤ c0) : (cutF (srtF r) c0).st i = bg r.n c0 i := by
  show cpN (bg r.n c0) r.st (c0 + 1) i = _
  unfold cpN; rw [if_pos (by omega)]
theorem arr_le (r : RS) {c0 : Nat} (h : 0 < c0) : (cutF (srtF r) c0).st 0 ≤ (cutF (srtF r) c0).st (0 + 1) := by
  rw [arr_st r (by omega), arr_st r (by omega)]; exact bg_mono _ _ _
theorem arr_len (r : RS) {c0 : Nat} (h : 0 < c0) : RS.st (cutF (srtF r) c0) (0 + 1) - RS.st (cutF (srtF r) c0) 0 = bg r.n c0 1 := by
  rw [arr_st r (by omega), arr_st r (by omega)]; rfl
theorem sw_4 : Cond.selects "ScanRows$Rows" (⟨"ScanRows$Rows", "sortRow", "()V"⟩ : MethodName) (⟨"ScanRows$Rows", "sortRow", "()V"⟩ : MethodName) ∈ ALLG := al_s (i := 4) (by decide +kernel) (by decide +kernel)
theorem sw_6 : Cond.selects "ScanRows$Rows" (⟨"ScanRows$Rows", "cutRow", "(I)V"⟩ : MethodName) (⟨"ScanRows$Rows", "cutRow", "(I)V"⟩ : MethodName) ∈ ALLG := al_s (i := 6) (by decide +kernel) (by decide +kernel)
theorem tw_18 : (Cond.methodLink "ScanRows" (1 : Nat) ({ cls := "java/lang/Object", name := "<init>", desc := "()V" } : Jvm.MethodName)) ∈ ALLG := al_t (i := 18) (by decide +kernel) (by decide +kernel)
theorem tw_19 : (Cond.instanceMethod ({ cls := "java/lang/Object", name := "<init>", desc := "()V" } : Jvm.MethodName)) ∈ ALLG := al_t (i := 19) (by decide +kernel) (by decide +kernel)
theorem tw_20 : (Cond.code ({ cls := "java/lang/Object", name := "<init>", desc := "()V" } : Jvm.MethodName) object_method_1_code (1 : Nat) (Option.none : Option Jvm.ClassFile.FieldType)) ∈ ALLG := al_t (i := 20) (by decide +kernel) (by decide +kernel)
theorem tw_21 : (Cond.classLink "ScanRows" (7 : Nat) "ScanRows$Rows") ∈ ALLG := al_t (i := 21) (by decide +kernel) (by decide +kernel)
theorem tw_22 : (Cond.instantiable "ScanRows$Rows" (12 : Nat)) ∈ ALLG := al_t (i := 22) (by decide +kernel) (by decide +kernel)
theorem tw_23 : (Cond.methodLink "ScanRows" (9 : Nat) ({ cls := "ScanRows$Rows", name := "<init>", desc := "()V" } : Jvm.MethodName)) ∈ ALLG := al_t (i := 23) (by decide +kernel) (by decide +kernel)
theorem tw_24 : (Cond.instanceMethod ({ cls := "ScanRows$Rows", name := "<init>", desc := "()V" } : Jvm.MethodName)) ∈ ALLG := al_t (i := 24) (by decide +kernel) (by decide +kernel)
theorem tw_25 : (Cond.code ({ cls := "ScanRows$Rows", name := "<init>", desc := "()V" } : Jvm.MethodName) prog_4_method_1_code (1 : Nat) (Option.none : Option Jvm.ClassFile.FieldType)) ∈ ALLG := al_t (i := 25) (by decide +kernel) (by decide +kernel)
theorem tw_26 : (Cond.methodLink "ScanRows$Rows" (3 : Nat) ({ cls := "java/lang/Object", name := "<init>", desc := "()V" } : Jvm.MethodName)) ∈ ALLG := al_t (i := 26) (by decide +kernel) (by decide +kernel)
theorem tw_68 : (Cond.arrayClass FieldType.int) ∈ ALLG := al_t (i := 68) (by decide +kernel) (by decide +kernel)
theorem tw_69 : (Cond.arrayClass FieldType.boolean) ∈ ALLG := al_t (i := 69) (by decide +kernel) (by decide +kernel)
theorem tw_70 : (Cond.classLink "ScanRows" (16 : Nat) "ScanRows$Cells") ∈ ALLG := al_t (i := 70) (by decide +kernel) (by decide +kernel)
theorem tw_71 : (Cond.instantiable "ScanRows$Cells" (5 : Nat)) ∈ ALLG := al_t (i := 71) (by decide +kernel) (by decide +kernel)
theorem tw_72 : (Cond.methodLink "ScanRows" (18 : Nat) ({ cls := "ScanRows$Cells", name := "<init>", desc := "()V" } : Jvm.MethodName)) ∈ ALLG := al_t (i := 72) (by decide +kernel) (by decide +kernel)
theorem tw_73 : (Cond.instanceMethod ({ cls := "ScanRows$Cells", name := "<init>", desc := "()V" } : Jvm.MethodName)) ∈ ALLG := al_t (i := 73) (by decide +kernel) (by decide +kernel)
theorem tw_74 : (Cond.code ({ cls := "ScanRows$Cells", name := "<init>", desc := "()V" } : Jvm.MethodName) prog_3_method_1_code (1 : Nat) (Option.none : Option Jvm.ClassFile.FieldType)) ∈ ALLG := al_t (i := 74) (by decide +kernel) (by decide +kernel)
theorem tw_75 : (Cond.methodLink "ScanRows$Cells" (3 : Nat) ({ cls := "java/lang/Object", name := "<init>", desc := "()V" } : Jvm.MethodName)) ∈ ALLG := al_t (i := 75) (by decide +kernel) (by decide +kernel)
theorem tw_95 : (Cond.classLink "ScanRows" (23 : Nat) "ScanRows$Access") ∈ ALLG := al_t (i := 95) (by decide +kernel) (by decide +kernel)
theorem tw_96 : (Cond.instantiable "ScanRows$Access" (9 : Nat)) ∈ ALLG := al_t (i := 96) (by decide +kernel) (by decide +kernel)
theorem tw_97 : (Cond.methodLink "ScanRows" (25 : Nat) ({ cls := "ScanRows$Access", name := "<init>", desc := "(ILScanRows$Rows;LScanRows$Cells;)V" } : Jvm.MethodName)) ∈ ALLG := al_t (i := 97) (by decide +kernel) (by decide +kernel)
theorem tw_98 : (Cond.instanceMethod ({ cls := "ScanRows$Access", name := "<init>", desc := "(ILScanRows$Rows;LScanRows$Cells;)V" } : Jvm.MethodName)) ∈ ALLG := al_t (i := 98) (by decide +kernel) (by decide +kernel)
theorem tw_99 : (Cond.code ({ cls := "ScanRows$Access", name := "<init>", desc := "(ILScanRows$Rows;LScanRows$Cells;)V" } : Jvm.MethodName) prog_2_method_1_code (4 : Nat) (Option.none : Option Jvm.ClassFile.FieldType)) ∈ ALLG := al_t (i := 99) (by decide +kernel) (by decide +kernel)
theorem tw_100 : (Cond.methodLink "ScanRows$Access" (3 : Nat) ({ cls := "java/lang/Object", name := "<init>", desc := "()V" } : Jvm.MethodName)) ∈ ALLG := al_t (i := 100) (by decide +kernel) (by decide +kernel)
theorem tw_131 : (Cond.fieldLink "ScanRows" (10 : Nat) "ScanRows" "rows" "LScanRows$Rows;") ∈ ALLG := al_t (i := 131) (by decide +kernel) (by decide +kernel)
theorem tw_132 : (Cond.fieldLink "ScanRows" (19 : Nat) "ScanRows" "cells" "LScanRows$Cells;") ∈ ALLG := al_t (i := 132) (by decide +kernel) (by decide +kernel)
theorem tw_133 : (Cond.fieldLink "ScanRows" (28 : Nat) "ScanRows" "access" "LScanRows$Access;") ∈ ALLG := al_t (i := 133) (by decide +kernel) (by decide +kernel)
theorem tw_291 : (Cond.methodLink "ScanRows$Rows" (44 : Nat) ({ cls := "ScanRows$Rows", name := "sortRow", desc := "()V" } : Jvm.MethodName)) ∈ ALLG := al_t (i := 291) (by decide +kernel) (by decide +kernel)
theorem tw_293 : (Cond.instanceMethod ({ cls := "ScanRows$Rows", name := "sortRow", desc := "()V" } : Jvm.MethodName)) ∈ ALLG := al_t (i := 293) (by decide +kernel) (by decide +kernel)
theorem tw_294 : (Cond.code ({ cls := "ScanRows$Rows", name := "sortRow", desc := "()V" } : Jvm.MethodName) prog_4_method_4_code (3 : Nat) (Option.none : Option Jvm.ClassFile.FieldType)) ∈ ALLG := al_t (i := 294) (by decide +kernel) (by decide +kernel)
theorem tw_299 : (Cond.methodLink "ScanRows$Rows" (47 : Nat) ({ cls := "ScanRows$Rows", name := "cutRow", desc := "(I)V" } : Jvm.MethodName)) ∈ ALLG := al_t (i := 299) (by decide +kernel) (by decide +kernel)
theorem tw_301 : (Cond.instanceMethod ({ cls := "ScanRows$Rows", name := "cutRow", desc := "(I)V" } : Jvm.MethodName)) ∈ ALLG := al_t (i := 301) (by decide +kernel) (by decide +kernel)
theorem tw_302 : (Cond.code ({ cls := "ScanRows$Rows", name := "cutRow", desc := "(I)V" } : Jvm.MethodName) prog_4_method_6_code (7 : Nat) (Option.none : Option Jvm.ClassFile.FieldType)) ∈ ALLG := al_t (i := 302) (by decide +kernel) (by decide +kernel)
theorem tw_303 : (Cond.methodLink "ScanRows$Rows" (51 : Nat) ({ cls := "ScanRows$Rows", name := "lengthOf", desc := "(I)I" } : Jvm.MethodName)) ∈ ALLG := al_t (i := 303) (by decide +kernel) (by decide +kernel)
theorem tw_304 : (Cond.instanceMethod ({ cls := "ScanRows$Rows", name := "lengthOf", desc := "(I)I" } : Jvm.MethodName)) ∈ ALLG := al_t (i := 304) (by decide +kernel) (by decide +kernel)
theorem tw_305 : (Cond.selects "ScanRows$Rows" ({ cls := "ScanRows$Rows", name := "lengthOf", desc := "(I)I" } : Jvm.MethodName) ({ cls := "ScanRows$Rows", name := "lengthOf", desc := "(I)I" } : Jvm.MethodName)) ∈ ALLG := al_t (i := 305) (by decide +kernel) (by decide +kernel)
theorem tw_306 : (Cond.code ({ cls := "ScanRows$Rows", name := "lengthOf", desc := "(I)I" } : Jvm.MethodName) prog_4_method_8_code (2 : Nat) (Option.some FieldType.int)) ∈ ALLG := al_t (i := 306) (by decide +kernel) (by decide +kernel)
theorem dX2_arrange_0 : decode cX2_arrange 0 = .ok (.aload_n 0, 1) := by decide +kernel
theorem dX2_arrange_1 : decode cX2_arrange 1 = .ok (.invokevirtual 44, 3) := by decide +kernel
theorem dX2_arrange_4 : decode cX2_arrange 4 = .ok (.aload_n 0, 1) := by decide +kernel
theorem dX2_arrange_5 : decode cX2_arrange 5 = .ok (.iload_n 1, 1) := by decide +kernel
theorem dX2_arrange_6 : decode cX2_arrange 6 = .ok (.invokevirtual 47, 3) := by decide +kernel
theorem dX2_arrange_9 : decode cX2_arrange 9 = .ok (.aload_n 0, 1) := by decide +kernel
theorem dX2_arrange_10 : decode cX2_arrange 10 = .ok (.iconst 0, 1) := by decide +kernel
theorem dX2_arrange_11 : decode cX2_arrange 11 = .ok (.invokevirtual 51, 3) := by decide +kernel
theorem dX2_arrange_14 : decode cX2_arrange 14 = .ok (.ireturn, 1) := by decide +kernel
theorem dX2_init_0 : decode cX2_init 0 = .ok (.aload_n 0, 1) := by decide +kernel
theorem dX2_init_1 : decode cX2_init 1 = .ok (.invokespecial 3, 3) := by decide +kernel
theorem dX2_init_4 : decode cX2_init 4 = .ok (.aload_n 0, 1) := by decide +kernel
theorem dX2_init_5 : decode cX2_init 5 = .ok (.bipush 32, 2) := by decide +kernel
theorem dX2_init_7 : decode cX2_init 7 = .ok (.newarray .int, 2) := by decide +kernel
theorem dX2_init_9 : decode cX2_init 9 = .ok (.putfield 9, 3) := by decide +kernel
theorem dX2_init_12 : decode cX2_init 12 = .ok (.aload_n 0, 1) := by decide +kernel
theorem dX2_init_13 : decode cX2_init 13 = .ok (.bipush 32, 2) := by decide +kernel
theorem dX2_init_15 : decode cX2_init 15 = .ok (.newarray .int, 2) := by decide +kernel
theorem dX2_init_17 : decode cX2_init 17 = .ok (.putfield 15, 3) := by decide +kernel
theorem dX2_init_20 : decode cX2_init 20 = .ok (.aload_n 0, 1) := by decide +kernel
theorem dX2_init_21 : decode cX2_init 21 = .ok (.bipush 32, 2) := by decide +kernel
theorem dX2_init_23 : decode cX2_init 23 = .ok (.newarray .int, 2) := by decide +kernel
theorem dX2_init_25 : decode cX2_init 25 = .ok (.putfield 18, 3) := by decide +kernel
theorem dX2_init_28 : decode cX2_init 28 = .ok (.aload_n 0, 1) := by decide +kernel
theorem dX2_init_29 : decode cX2_init 29 = .ok (.bipush 32, 2) := by decide +kernel
theorem dX2_init_31 : decode cX2_init 31 = .ok (.newarray .int, 2) := by decide +kernel
theorem dX2_init_33 : decode cX2_init 33 = .ok (.putfield 21, 3) := by decide +kernel
theorem dX2_init_36 : decode cX2_init 36 = .ok (.aload_n 0, 1) := by decide +kernel
theorem dX2_init_37 : decode cX2_init 37 = .ok (.bipush 32, 2) := by decide +kernel
theorem dX2_init_39 : decode cX2_init 39 = .ok (.newarray .boolean, 2) := by decide +kernel
theorem dX2_init_41 : decode cX2_init 41 = .ok (.putfield 24, 3) := by decide +kernel
theorem dX2_init_44 : decode cX2_init 44 = .ok (.aload_n 0, 1) := by decide +kernel
theorem dX2_init_45 : decode cX2_init 45 = .ok (.bipush 32, 2) := by decide +kernel
theorem dX2_init_47 : decode cX2_init 47 = .ok (.newarray .int, 2) := by decide +kernel
theorem dX2_init_49 : decode cX2_init 49 = .ok (.putfield 28, 3) := by decide +kernel
theorem dX2_init_52 : decode cX2_init 52 = .ok (.aload_n 0, 1) := by decide +kernel
theorem dX2_init_53 : decode cX2_init 53 = .ok (.bipush 32, 2) := by decide +kernel
theorem dX2_init_55 : decode cX2_init 55 = .ok (.newarray .int, 2) := by decide +kernel
theorem dX2_init_57 : decode cX2_init 57 = .ok (.putfield 31, 3) := by decide +kernel
theorem dX2_init_60 : decode cX2_init 60 = .ok (.aload_n 0, 1) := by decide +kernel
theorem dX2_init_61 : decode cX2_init 61 = .ok (.bipush 32, 2) := by decide +kernel
theorem dX2_init_63 : decode cX2_init 63 = .ok (.newarray .int, 2) := by decide +kernel
theorem dX2_init_65 : decode cX2_init 65 = .ok (.putfield 34, 3) := by decide +kernel
theorem dX2_init_68 : decode cX2_init 68 = .ok (.aload_n 0, 1) := by decide +kernel
theorem dX2_init_69 : decode cX2_init 69 = .ok (.bipush 9, 2) := by decide +kernel
theorem dX2_init_71 : decode cX2_init 71 = .ok (.newarray .int, 2) := by decide +kernel
theorem dX2_init_73 : decode cX2_init 73 = .ok (.putfield 37, 3) := by decide +kernel
theorem dX2_init_76 : decode cX2_init 76 = .ok (.return_, 1) := by decide +kernel
theorem dX1_init_0 : decode cX1_init 0 = .ok (.aload_n 0, 1) := by decide +kernel
theorem dX1_init_1 : decode cX1_init 1 = .ok (.invokespecial 3, 3) := by decide +kernel
theorem dX1_init_4 : decode cX1_init 4 = .ok (.aload_n 0, 1) := by decide +kernel
theorem dX1_init_5 : decode cX1_init 5 = .ok (.bipush 20, 2) := by decide +kernel
theorem dX1_init_7 : decode cX1_init 7 = .ok (.newarray .int, 2) := by decide +kernel
theorem dX1_init_9 : decode cX1_init 9 = .ok (.putfield 9, 3) := by decide +kernel
theorem dX1_init_12 : decode cX1_init 12 = .ok (.aload_n 0, 1) := by decide +kernel
theorem dX1_init_13 : decode cX1_init 13 = .ok (.bipush 20, 2) := by decide +kernel
theorem dX1_init_15 : decode cX1_init 15 = .ok (.newarray .int, 2) := by decide +kernel
theorem dX1_init_17 : decode cX1_init 17 = .ok (.putfield 15, 3) := by decide +kernel
theorem dX1_init_20 : decode cX1_init 20 = .ok (.aload_n 0, 1) := by decide +kernel
theorem dX1_init_21 : decode cX1_init 21 = .ok (.bipush 20, 2) := by decide +kernel
theorem dX1_init_23 : decode cX1_init 23 = .ok (.newarray .int, 2) := by decide +kernel
theorem dX1_init_25 : decode cX1_init 25 = .ok (.putfield 18, 3) := by decide +kernel
theorem dX1_init_28 : decode cX1_init 28 = .ok (.aload_n 0, 1) := by decide +kernel
theorem dX1_init_29 : decode cX1_init 29 = .ok (.bipush 20, 2) := by decide +kernel
theorem dX1_init_31 : decode cX1_init 31 = .ok (.newarray .int, 2) := by decide +kernel
theorem dX1_init_33 : decode cX1_init 33 = .ok (.putfield 21, 3) := by decide +kernel
theorem dX1_init_36 : decode cX1_init 36 = .ok (.return_, 1) := by decide +kernel
theorem dX0_init_0 : decode cX0_init 0 = .ok (.aload_n 0, 1) := by decide +kernel
theorem dX0_init_1 : decode cX0_init 1 = .ok (.invokespecial 3, 3) := by decide +kernel
theorem dX0_init_4 : decode cX0_init 4 = .ok (.aload_n 0, 1) := by decide +kernel
theorem dX0_init_5 : decode cX0_init 5 = .ok (.iload_n 1, 1) := by decide +kernel
theorem dX0_init_6 : decode cX0_init 6 = .ok (.putfield 9, 3) := by decide +kernel
theorem dX0_init_9 : decode cX0_init 9 = .ok (.aload_n 0, 1) := by decide +kernel
theorem dX0_init_10 : decode cX0_init 10 = .ok (.aload_n 2, 1) := by decide +kernel
theorem dX0_init_11 : decode cX0_init 11 = .ok (.putfield 15, 3) := by decide +kernel
theorem dX0_init_14 : decode cX0_init 14 = .ok (.aload_n 0, 1) := by decide +kernel
theorem dX0_init_15 : decode cX0_init 15 = .ok (.aload_n 3, 1) := by decide +kernel
theorem dX0_init_16 : decode cX0_init 16 = .ok (.putfield 19, 3) := by decide +kernel
theorem dX0_init_19 : decode cX0_init 19 = .ok (.aload_n 0, 1) := by decide +kernel
theorem dX0_init_20 : decode cX0_init 20 = .ok (.iconst 0, 1) := by decide +kernel
theorem dX0_init_21 : decode cX0_init 21 = .ok (.putfield 23, 3) := by decide +kernel
theorem dX0_init_24 : decode cX0_init 24 = .ok (.aload_n 0, 1) := by decide +kernel
theorem dX0_init_25 : decode cX0_init 25 = .ok (.iconst 2, 1) := by decide +kernel
theorem dX0_init_26 : decode cX0_init 26 = .ok (.putfield 26, 3) := by decide +kernel
theorem dX0_init_29 : decode cX0_init 29 = .ok (.aload_n 0, 1) := by decide +kernel
theorem dX0_init_30 : decode cX0_init 30 = .ok (.bipush 16, 2) := by decide +kernel
theorem dX0_init_32 : decode cX0_init 32 = .ok (.newarray .int, 2) := by decide +kernel
theorem dX0_init_34 : decode cX0_init 34 = .ok (.putfield 29, 3) := by decide +kernel
theorem dX0_init_37 : decode cX0_init 37 = .ok (.return_, 1) := by decide +kernel
theorem dX3_init_0 : decode cX3_init 0 = .ok (.aload_n 0, 1) := by decide +kernel
theorem dX3_init_1 : decode cX3_init 1 = .ok (.invokespecial 1, 3) := by decide +kernel
theorem dX3_init_4 : decode cX3_init 4 = .ok (.aload_n 0, 1) := by decide +kernel
theorem dX3_init_5 : decode cX3_init 5 = .ok (.new 7, 3) := by decide +kernel
theorem dX3_init_8 : decode cX3_init 8 = .ok (.dup, 1) := by decide +kernel
theorem dX3_init_9 : decode cX3_init 9 = .ok (.invokespecial 9, 3) := by decide +kernel
theorem dX3_init_12 : decode cX3_init 12 = .ok (.putfield 10, 3) := by decide +kernel
theorem dX3_init_15 : decode cX3_init 15 = .ok (.aload_n 0, 1) := by decide +kernel
theorem dX3_init_16 : decode cX3_init 16 = .ok (.new 16, 3) := by decide +kernel
theorem dX3_init_19 : decode cX3_init 19 = .ok (.dup, 1) := by decide +kernel
theorem dX3_init_20 : decode cX3_init 20 = .ok (.invokespecial 18, 3) := by decide +kernel
theorem dX3_init_23 : decode cX3_init 23 = .ok (.putfield 19, 3) := by decide +kernel
theorem dX3_init_26 : decode cX3_init 26 = .ok (.aload_n 0, 1) := by decide +kernel
theorem dX3_init_27 : decode cX3_init 27 = .ok (.new 23, 3) := by decide +kernel
theorem dX3_init_30 : decode cX3_init 30 = .ok (.dup, 1) := by decide +kernel
theorem dX3_init_31 : decode cX3_init 31 = .ok (.iload_n 1, 1) := by decide +kernel
theorem dX3_init_32 : decode cX3_init 32 = .ok (.aload_n 0, 1) := by decide +kernel
theorem dX3_init_33 : decode cX3_init 33 = .ok (.getfield 10, 3) := by decide +kernel
theorem dX3_init_36 : decode cX3_init 36 = .ok (.aload_n 0, 1) := by decide +kernel
theorem dX3_init_37 : decode cX3_init 37 = .ok (.getfield 19, 3) := by decide +kernel
theorem dX3_init_40 : decode cX3_init 40 = .ok (.invokespecial 25, 3) := by decide +kernel
theorem dX3_init_43 : decode cX3_init 43 = .ok (.putfield 28, 3) := by decide +kernel
theorem dX3_init_46 : decode cX3_init 46 = .ok (.return_, 1) := by decide +kernel
set_option maxHeartbeats 4000000 in
set_option maxRecDepth 100000 in
theorem c_Rows_arrange (l : Launch) (dC : Nat → ClassId) (dI : Nat → Nat → Nat) (q : Nat → Nat) (cI cZ : ClassId) (sz : Nat) (r : RS) (c0 : Nat) (hB : RB r) (h1 : 0 < c0) (h2 : c0 ≤ 8) : Met l yX2_arrange (.code yX2_arrange cX2_arrange 2 (some .int) :: ALLG) ({ frames := 2, cells := 0, slots := 0, locals := 44 }) (va_Pc [.ref (q 0), .int (nI c0)] (cP (dC, dI) vwCl [(cI, .int), (cZ, .boolean)] (wR q cI cZ r) eT sz)) (va_Qi (fun (x : Int32) (u : RS) => x = nI (bg r.n c0 1) ∧ u = arrF r c0) (fun (u : RS) => cB (dC, dI) vwCl [(cI, .int), (cZ, .boolean)] (wR q cI cZ u) (va_A (wR q cI cZ r) sz)) (va_A (wR q cI cZ r) sz)) 0 0 (va_A (wR q cI cZ r) sz) := by
  refine xm_of (cc := cX2_arrange) (maxL := 2) (ret := some .int) (by decide) rfl (Nat.le_of_ble_eq_true rfl) ?_
  intro p e s m below meth c A hAe hx hb hr hml hts0 hown hlk hin hsz H locs hP hK hD hA hS hE ls hl
  have hts : ∀ w ∈ ALLG, w.before _ s = true := fun w h => hts0 w (List.mem_cons_of_mem _ h)
  rw [← hAe]
  have hl : lv_has ls 2 [(0, .ref (q 0)), (1, .int (nI c0))] := hl
  refine lv_aload_n hx hb dX2_arrange_0 rfl (lv_at hl 0 rfl) ?_
  refine xc_Vv (As := []) (wr := []) ⟨hx, hb, hml, hown, hts⟩ (c_Rows_sortRow l dC dI q cI cZ H.size r hB) (cwV 0 hts (gV tw_291 tw_293 sw_4 tw_2 tw_294) rfl rfl rfl (by decide +kernel) ⟨Nat.le_of_ble_eq_true rfl, Nat.le_of_ble_eq_true rfl⟩) rfl hl.1 rfl (Nat.le_of_ble_eq_true rfl) dX2_arrange_1 ⟨Nat.zero_le _, Nat.zero_le _⟩ hP hD hK hS hA [0, 1, 2, 3, 4, 5, 6, 7, 8, 9] [] rfl rfl (by decide) (by decide) (by decide) [0, 1] rfl (q0 := 0) rfl rfl rfl eT_M (trivial) (fun u_2 H locs w_3 hP hD hS => ?_)
  obtain rfl := w_3
  have hP : va_P (dC, dI) vwCl (wR q cI cZ (srtF r)) H := hP
  have hD : va_D A (wR q cI cZ (srtF r)) := hD
  refine lv_aload_n hx hb dX2_arrange_4 rfl (lv_at hl 0 rfl) ?_
  refine lv_iload_n hx hb dX2_arrange_5 rfl (lv_at hl 1 rfl) ?_
  refine xc_Vv (As := [.int (nI c0)]) (wr := []) ⟨hx, hb, hml, hown, hts⟩ (c_Rows_cutRow l dC dI q cI cZ H.size (srtF r) c0 (RB_srtF hB) h1 h2) (cwV 1 hts (gV tw_299 tw_301 sw_6 tw_2 tw_302) rfl rfl rfl (by decide +kernel) ⟨Nat.le_of_ble_eq_true rfl, Nat.le_of_ble_eq_true rfl⟩) rfl hl.1 rfl (Nat.le_of_ble_eq_true rfl) dX2_arrange_6 ⟨Nat.zero_le _, Nat.zero_le _⟩ hP hD hK hS hA [0, 1, 2, 3, 4, 5, 6, 7, 8, 9] [] rfl rfl (by decide) (by decide) (by decide) [0, 1] rfl (q0 := 0) rfl rfl rfl eT_M (trivial) (fun u_5 H locs w_6 hP hD hS => ?_)
  obtain rfl := w_6
  have hP : va_P (dC, dI) vwCl (wR q cI cZ (cutF (srtF r) c0)) H := hP
  have hD : va_D A (wR q cI cZ (cutF (srtF r) c0)) := hD
  refine lv_aload_n hx hb dX2_arrange_9 rfl (lv_at hl 0 rfl) ?_
  refine lv_iconst (v := nI 0) hx hb dX2_arrange_10 (by decide) ?_
  refine xc_Vi (As := [.int (nI 0)]) (wr := []) ⟨hx, hb, hml, hown, hts⟩ (c_Rows_lengthOf l dC dI q cI cZ H.size (cutF (srtF r) c0) 0 (by decide) (arr_le r h1)) (cwV 1 hts (gV tw_303 tw_304 tw_305 tw_2 tw_306) rfl rfl rfl (by decide +kernel) ⟨Nat.le_of_ble_eq_true rfl, Nat.le_of_ble_eq_true rfl⟩) rfl hl.1 rfl (Nat.le_of_ble_eq_true rfl) dX2_arrange_11 ⟨Nat.zero_le _, Nat.zero_le _⟩ hP hD hK hS hA [0, 1, 2, 3, 4, 5, 6, 7, 8, 9] [] rfl rfl (by decide) (by decide) (by decide) [0, 1] rfl (q0 := 0) rfl rfl rfl eT_M (trivial) (fun r_7 u_8 H locs w_9 hP hD hS => ?_)
  obtain rfl := w_9
  have hP : va_P (dC, dI) vwCl (wR q cI cZ (cutF (srtF r) c0)) H := hP
  have hD : va_D A (wR q cI cZ (cutF (srtF r) c0)) := hD
  exact xr_i hx hb hr hlk (u := cutF (srtF r) c0) (⟨by rw [arr_len r h1], rfl⟩) hP hK hD hS dX2_arrange_14
set_option maxHeartbeats 4000000 in
set_option maxRecDepth 100000 in
theorem c_Rows_init (l : Launch) (dC : Nat → ClassId) (dI : Nat → Nat → Nat) (cI cZ : ClassId) (sz : Nat) (h0 : Nat) : Met l yX2_init (.code yX2_init cX2_init 1 none :: ALLG) ({ frames := 1, cells := 9, slots := 265, locals := 20 }) (va_Pc [.ref h0] (cP (dC, dI) vwCl [(cI, .int), (cZ, .boolean)] ([(h0, .inr (2, [.int (nI 0), .int (nI 0), .int (nI 0), .null, .null, .null, .null, .null, .null, .null, .null, .null]))]) eT sz)) (va_Qv (fun (u : Nat → Nat) => u 0 = h0) (fun (u : Nat → Nat) => cB (dC, dI) vwCl [(cI, .int), (cZ, .boolean)] (wR u cI cZ r0) (va_A ([(h0, .inr (2, [.int (nI 0), .int (nI 0), .int (nI 0), .null, .null, .null, .null, .null, .null, .null, .null, .null]))]) sz)) (va_A ([(h0, .inr (2, [.int (nI 0), .int (nI 0), .int (nI 0), .null, .null, .null, .null, .null, .null, .null, .null, .null]))]) sz)) 9 265 (va_A ([(h0, .inr (2, [.int (nI 0), .int (nI 0), .int (nI 0), .null, .null, .null, .null, .null, .null, .null, .null, .null]))]) sz) := by
  refine xm_of (cc := cX2_init) (maxL := 1) (ret := none) (by decide) rfl (Nat.le_of_ble_eq_true rfl) ?_
  intro p e s m below meth c A hAe hx hb hr hml hts0 hown hlk hin hsz H locs hP hK hD hA hS hE ls hl
  have hts : ∀ w ∈ ALLG, w.before _ s = true := fun w h => hts0 w (List.mem_cons_of_mem _ h)
  rw [← hAe]
  have hl : lv_has ls 1 [(0, .ref h0)] := hl
  refine lv_aload_n hx hb dX2_init_0 rfl (lv_at hl 0 rfl) ?_
  refine W.objInit hx hb hown (hts _ tw_26) (hts _ tw_19) (hts _ tw_20) rfl (by rw [hml]; exact hl.1) rfl dX2_init_1 (Nat.le_of_ble_eq_true rfl) (Nat.le_of_ble_eq_true rfl) ?_
  refine W.eq (g2 := F0 m 4 ls []) rfl ?_
  refine lv_aload_n hx hb dX2_init_4 rfl (lv_at hl 0 rfl) ?_
  refine lv_bipush (v := nI 32) hx hb dX2_init_5 (by decide) ?_
  refine va_newa (atype := .int) (ty := .int) (a0 := (32, .inl (aN (fun _ => 0)))) hx hb (hts _ tw_68) rfl hK hP hD hS hA (fun _ => rfl) (by decide) (N' := 32) (by decide) (by decide) (Nat.le_of_ble_eq_true rfl) (Nat.le_of_ble_eq_true rfl) dX2_init_7 (fun a1 cN H hK hP hD hS => ?_)
  obtain rfl := xk_one 0 2 hK rfl rfl (fun _ z => by cases z)
  have hK : va_K (dC, dI) vwCl [(cI, .int), (cZ, .boolean)] s := hK.sub [0, 1] rfl
  have hP : va_P (dC, dI) vwCl [(h0, .inr (2, [.int (nI 0), .int (nI 0), .int (nI 0), .null, .null, .null, .null, .null, .null, .null, .null, .null])), (a1, .inl (cI, 32, .inl (aN (fun _ => 0))))] H := hP
  have hD : va_D A [(h0, .inr (2, [.int (nI 0), .int (nI 0), .int (nI 0), .null, .null, .null, .null, .null, .null, .null, .null, .null])), (a1, .inl (cI, 32, .inl (aN (fun _ => 0))))] := hD
  refine W.widen (k := 1) (n := 32) (by omega) (by omega) ?_
  refine va_putF (D := (dC, dI)) (ci := 2) (v := .ref a1) (ty := .array .int) (C := RX2) (T := TX2) (N := 12) hx hb hts inX2 tyX2 tyX2_ok nmX2 hown hK hP hD hS 0 rfl rfl 3 (by decide) (hts _ tw_33) (fun _ h9 => h9) rfl hin rfl (by decide +kernel) rfl rfl (Nat.le_of_ble_eq_true rfl) dX2_init_9 (fun H locs hP hD hS => ?_)
  have hP : va_P (dC, dI) vwCl [(h0, .inr (2, [.int (nI 0), .int (nI 0), .int (nI 0), .ref a1, .null, .null, .null, .null, .null, .null, .null, .null])), (a1, .inl (cI, 32, .inl (aN (fun _ => 0))))] H := hP
  have hD : va_D A [(h0, .inr (2, [.int (nI 0), .int (nI 0), .int (nI 0), .ref a1, .null, .null, .null, .null, .null, .null, .null, .null])), (a1, .inl (cI, 32, .inl (aN (fun _ => 0))))] := hD
  refine lv_aload_n hx hb dX2_init_12 rfl (lv_at hl 0 rfl) ?_
  refine lv_bipush (v := nI 32) hx hb dX2_init_13 (by decide) ?_
  refine va_newa (atype := .int) (ty := .int) (a0 := (32, .inl (aN (fun _ => 0)))) hx hb (hts _ tw_68) rfl hK hP hD hS hA (fun _ => rfl) (by decide) (N' := 32) (by decide) (by decide) (Nat.le_of_ble_eq_true rfl) (Nat.le_of_ble_eq_true rfl) dX2_init_15 (fun a2 cN H hK hP hD hS => ?_)
  obtain rfl := xk_one 0 2 hK rfl rfl (fun _ z => by cases z)
  have hK : va_K (dC, dI) vwCl [(cI, .int), (cZ, .boolean)] s := hK.sub [0, 1] rfl
  have hP : va_P (dC, dI) vwCl [(h0, .inr (2, [.int (nI 0), .int (nI 0), .int (nI 0), .ref a1, .null, .null, .null, .null, .null, .null, .null, .null])), (a1, .inl (cI, 32, .inl (aN (fun _ => 0)))), (a2, .inl (cI, 32, .inl (aN (fun _ => 0))))] H := hP
  have hD : va_D A [(h0, .inr (2, [.int (nI 0), .int (nI 0), .int (nI 0), .ref a1, .null, .null, .null, .null, .null, .null, .null, .null])), (a1, .inl (cI, 32, .inl (aN (fun _ => 0)))), (a2, .inl (cI, 32, .inl (aN (fun _ => 0))))] := hD
  refine W.widen (k := 2) (n := 64) (by omega) (by omega) ?_
  refine va_putF (D := (dC, dI)) (ci := 2) (v := .ref a2) (ty := .array .int) (C := RX2) (T := TX2) (N := 12) hx hb hts inX2 tyX2 tyX2_ok nmX2 hown hK hP hD hS 0 rfl rfl 4 (by decide) (hts _ tw_35) (fun _ h9 => h9) rfl hin rfl (by decide +kernel) rfl rfl (Nat.le_of_ble_eq_true rfl) dX2_init_17 (fun H locs hP hD hS => ?_)
  have hP : va_P (dC, dI) vwCl [(h0, .inr (2, [.int (nI 0), .int (nI 0), .int (nI 0), .ref a1, .ref a2, .null, .null, .null, .null, .null, .null, .null])), (a1, .inl (cI, 32, .inl (aN (fun _ => 0)))), (a2, .inl (cI, 32, .inl (aN (fun _ => 0))))] H := hP
  have hD : va_D A [(h0, .inr (2, [.int (nI 0), .int (nI 0), .int (nI 0), .ref a1, .ref a2, .null, .null, .null, .null, .null, .null, .null])), (a1, .inl (cI, 32, .inl (aN (fun _ => 0)))), (a2, .inl (cI, 32, .inl (aN (fun _ => 0))))] := hD
  refine lv_aload_n hx hb dX2_init_20 rfl (lv_at hl 0 rfl) ?_
  refine lv_bipush (v := nI 32) hx hb dX2_init_21 (by decide) ?_
  refine va_newa (atype := .int) (ty := .int) (a0 := (32, .inl (aN (fun _ => 0)))) hx hb (hts _ tw_68) rfl hK hP hD hS hA (fun _ => rfl) (by decide) (N' := 32) (by decide) (by decide) (Nat.le_of_ble_eq_true rfl) (Nat.le_of_ble_eq_true rfl) dX2_init_23 (fun a3 cN H hK hP hD hS => ?_)
  obtain rfl := xk_one 0 2 hK rfl rfl (fun _ z => by cases z)
  have hK : va_K (dC, dI) vwCl [(cI, .int), (cZ, .boolean)] s := hK.sub [0, 1] rfl
  have hP : va_P (dC, dI) vwCl [(h0, .inr (2, [.int (nI 0), .int (nI 0), .int (nI 0), .ref a1, .ref a2, .null, .null, .null, .null, .null, .null, .null])), (a1, .inl (cI, 32, .inl (aN (fun _ => 0)))), (a2, .inl (cI, 32, .inl (aN (fun _ => 0)))), (a3, .inl (cI, 32, .inl (aN (fun _ => 0))))] H := hP
  have hD : va_D A [(h0, .inr (2, [.int (nI 0), .int (nI 0), .int (nI 0), .ref a1, .ref a2, .null, .null, .null, .null, .null, .null, .null])), (a1, .inl (cI, 32, .inl (aN (fun _ => 0)))), (a2, .inl (cI, 32, .inl (aN (fun _ => 0)))), (a3, .inl (cI, 32, .inl (aN (fun _ => 0))))] := hD
  refine W.widen (k := 3) (n := 96) (by omega) (by omega) ?_
  refine va_putF (D := (dC, dI)) (ci := 2) (v := .ref a3) (ty := .array .int) (C := RX2) (T := TX2) (N := 12) hx hb hts inX2 tyX2 tyX2_ok nmX2 hown hK hP hD hS 0 rfl rfl 5 (by decide) (hts _ tw_36) (fun _ h9 => h9) rfl hin rfl (by decide +kernel) rfl rfl (Nat.le_of_ble_eq_true rfl) dX2_init_25 (fun H locs hP hD hS => ?_)
  have hP : va_P (dC, dI) vwCl [(h0, .inr (2, [.int (nI 0), .int (nI 0), .int (nI 0), .ref a1, .ref a2, .ref a3, .null, .null, .null, .null, .null, .null])), (a1, .inl (cI, 32, .inl (aN (fun _ => 0)))), (a2, .inl (cI, 32, .inl (aN (fun _ => 0)))), (a3, .inl (cI, 32, .inl (aN (fun _ => 0))))] H := hP
  have hD : va_D A [(h0, .inr (2, [.int (nI 0), .int (nI 0), .int (nI 0), .ref a1, .ref a2, .ref a3, .null, .null, .null, .null, .null, .null])), (a1, .inl (cI, 32, .inl (aN (fun _ => 0)))), (a2, .inl (cI, 32, .inl (aN (fun _ => 0)))), (a3, .inl (cI, 32, .inl (aN (fun _ => 0))))] := hD
  refine lv_aload_n hx hb dX2_init_28 rfl (lv_at hl 0 rfl) ?_
  refine lv_bipush (v := nI 32) hx hb dX2_init_29 (by decide) ?_
  refine va_newa (atype := .int) (ty := .int) (a0 := (32, .inl (aN (fun _ => 0)))) hx hb (hts _ tw_68) rfl hK hP hD hS hA (fun _ => rfl) (by decide) (N' := 32) (by decide) (by decide) (Nat.le_of_ble_eq_true rfl) (Nat.le_of_ble_eq_true rfl) dX2_init_31 (fun a4 cN H hK hP hD hS => ?_)
  obtain rfl := xk_one 0 2 hK rfl rfl (fun _ z => by cases z)
  have hK : va_K (dC, dI) vwCl [(cI, .int), (cZ, .boolean)] s := hK.sub [0, 1] rfl
  have hP : va_P (dC, dI) vwCl [(h0, .inr (2, [.int (nI 0), .int (nI 0), .int (nI 0), .ref a1, .ref a2, .ref a3, .null, .null, .null, .null, .null, .null])), (a1, .inl (cI, 32, .inl (aN (fun _ => 0)))), (a2, .inl (cI, 32, .inl (aN (fun _ => 0)))), (a3, .inl (cI, 32, .inl (aN (fun _ => 0)))), (a4, .inl (cI, 32, .inl (aN (fun _ => 0))))] H := hP
  have hD : va_D A [(h0, .inr (2, [.int (nI 0), .int (nI 0), .int (nI 0), .ref a1, .ref a2, .ref a3, .null, .null, .null, .null, .null, .null])), (a1, .inl (cI, 32, .inl (aN (fun _ => 0)))), (a2, .inl (cI, 32, .inl (aN (fun _ => 0)))), (a3, .inl (cI, 32, .inl (aN (fun _ => 0)))), (a4, .inl (cI, 32, .inl (aN (fun _ => 0))))] := hD
  refine W.widen (k := 4) (n := 128) (by omega) (by omega) ?_
  refine va_putF (D := (dC, dI)) (ci := 2) (v := .ref a4) (ty := .array .int) (C := RX2) (T := TX2) (N := 12) hx hb hts inX2 tyX2 tyX2_ok nmX2 hown hK hP hD hS 0 rfl rfl 6 (by decide) (hts _ tw_37) (fun _ h9 => h9) rfl hin rfl (by decide +kernel) rfl rfl (Nat.le_of_ble_eq_true rfl) dX2_init_33 (fun H locs hP hD hS => ?_)
  have hP : va_P (dC, dI) vwCl [(h0, .inr (2, [.int (nI 0), .int (nI 0), .int (nI 0), .ref a1, .ref a2, .ref a3, .ref a4, .null, .null, .null, .null, .null])), (a1, .inl (cI, 32, .inl (aN (fun _ => 0)))), (a2, .inl (cI, 32, .inl (aN (fun _ => 0)))), (a3, .inl (cI, 32, .inl (aN (fun _ => 0)))), (a4, .inl (cI, 32, .inl (aN (fun _ => 0))))] H := hP
  have hD : va_D A [(h0, .inr (2, [.int (nI 0), .int (nI 0), .int (nI 0), .ref a1, .ref a2, .ref a3, .ref a4, .null, .null, .null, .null, .null])), (a1, .inl (cI, 32, .inl (aN (fun _ => 0)))), (a2, .inl (cI, 32, .inl (aN (fun _ => 0)))), (a3, .inl (cI, 32, .inl (aN (fun _ => 0)))), (a4, .inl (cI, 32, .inl (aN (fun _ => 0))))] := hD
  refine lv_aload_n hx hb dX2_init_36 rfl (lv_at hl 0 rfl) ?_
  refine lv_bipush (v := nI 32) hx hb dX2_init_37 (by decide) ?_
  refine va_newa (atype := .boolean) (ty := .boolean) (a0 := (32, .inl (aN (fun _ => 0)))) hx hb (hts _ tw_69) rfl hK hP hD hS hA (fun _ => rfl) (by decide) (N' := 32) (by decide) (by decide) (Nat.le_of_ble_eq_true rfl) (Nat.le_of_ble_eq_true rfl) dX2_init_39 (fun a5 cN H hK hP hD hS => ?_)
  obtain rfl := xk_one 1 2 hK rfl rfl (fun _ z => by cases z)
  have hK : va_K (dC, dI) vwCl [(cI, .int), (cZ, .boolean)] s := hK.sub [0, 1] rfl
  have hP : va_P (dC, dI) vwCl [(h0, .inr (2, [.int (nI 0), .int (nI 0), .int (nI 0), .ref a1, .ref a2, .ref a3, .ref a4, .null, .null, .null, .null, .null])), (a1, .inl (cI, 32, .inl (aN (fun _ => 0)))), (a2, .inl (cI, 32, .inl (aN (fun _ => 0)))), (a3, .inl (cI, 32, .inl (aN (fun _ => 0)))), (a4, .inl (cI, 32, .inl (aN (fun _ => 0)))), (a5, .inl (cZ, 32, .inl (aN (fun _ => 0))))] H := hP
  have hD : va_D A [(h0, .inr (2, [.int (nI 0), .int (nI 0), .int (nI 0), .ref a1, .ref a2, .ref a3, .ref a4, .null, .null, .null, .null, .null])), (a1, .inl (cI, 32, .inl (aN (fun _ => 0)))), (a2, .inl (cI, 32, .inl (aN (fun _ => 0)))), (a3, .inl (cI, 32, .inl (aN (fun _ => 0)))), (a4, .inl (cI, 32, .inl (aN (fun _ => 0)))), (a5, .inl (cZ, 32, .inl (aN (fun _ => 0))))] := hD
  refine W.widen (k := 5) (n := 160) (by omega) (by omega) ?_
  refine va_putF (D := (dC, dI)) (ci := 2) (v := .ref a5) (ty := .array .boolean) (C := RX2) (T := TX2) (N := 12) hx hb hts inX2 tyX2 tyX2_ok nmX2 hown hK hP hD hS 0 rfl rfl 7 (by decide) (hts _ tw_38) (fun _ h9 => h9) rfl hin rfl (by decide +kernel) rfl rfl (Nat.le_of_ble_eq_true rfl) dX2_init_41 (fun H locs hP hD hS => ?_)
  have hP : va_P (dC, dI) vwCl [(h0, .inr (2, [.int (nI 0), .int (nI 0), .int (nI 0), .ref a1, .ref a2, .ref a3, .ref a4, .ref a5, .null, .null, .null, .null])), (a1, .inl (cI, 32, .inl (aN (fun _ => 0)))), (a2, .inl (cI, 32, .inl (aN (fun _ => 0)))), (a3, .inl (cI, 32, .inl (aN (fun _ => 0)))), (a4, .inl (cI, 32, .inl (aN (fun _ => 0)))), (a5, .inl (cZ, 32, .inl (aN (fun _ => 0))))] H := hP
  have hD : va_D A [(h0, .inr (2, [.int (nI 0), .int (nI 0), .int (nI 0), .ref a1, .ref a2, .ref a3, .ref a4, .ref a5, .null, .null, .null, .null])), (a1, .inl (cI, 32, .inl (aN (fun _ => 0)))), (a2, .inl (cI, 32, .inl (aN (fun _ => 0)))), (a3, .inl (cI, 32, .inl (aN (fun _ => 0)))), (a4, .inl (cI, 32, .inl (aN (fun _ => 0)))), (a5, .inl (cZ, 32, .inl (aN (fun _ => 0))))] := hD
  refine lv_aload_n hx hb dX2_init_44 rfl (lv_at hl 0 rfl) ?_
  refine lv_bipush (v := nI 32) hx hb dX2_init_45 (by decide) ?_
  refine va_newa (atype := .int) (ty := .int) (a0 := (32, .inl (aN (fun _ => 0)))) hx hb (hts _ tw_68) rfl hK hP hD hS hA (fun _ => rfl) (by decide) (N' := 32) (by decide) (by decide) (Nat.le_of_ble_eq_true rfl) (Nat.le_of_ble_eq_true rfl) dX2_init_47 (fun a6 cN H hK hP hD hS => ?_)
  obtain rfl := xk_one 0 2 hK rfl rfl (fun _ z => by cases z)
  have hK : va_K (dC, dI) vwCl [(cI, .int), (cZ, .boolean)] s := hK.sub [0, 1] rfl
  have hP : va_P (dC, dI) vwCl [(h0, .inr (2, [.int (nI 0), .int (nI 0), .int (nI 0), .ref a1, .ref a2, .ref a3, .ref a4, .ref a5, .null, .null, .null, .null])), (a1, .inl (cI, 32, .inl (aN (fun _ => 0)))), (a2, .inl (cI, 32, .inl (aN (fun _ => 0)))), (a3, .inl (cI, 32, .inl (aN (fun _ => 0)))), (a4, .inl (cI, 32, .inl (aN (fun _ => 0)))), (a5, .inl (cZ, 32, .inl (aN (fun _ => 0)))), (a6, .inl (cI, 32, .inl (aN (fun _ => 0))))] H := hP
  have hD : va_D A [(h0, .inr (2, [.int (nI 0), .int (nI 0), .int (nI 0), .ref a1, .ref a2, .ref a3, .ref a4, .ref a5, .null, .null, .null, .null])), (a1, .inl (cI, 32, .inl (aN (fun _ => 0)))), (a2, .inl (cI, 32, .inl (aN (fun _ => 0)))), (a3, .inl (cI, 32, .inl (aN (fun _ => 0)))), (a4, .inl (cI, 32, .inl (aN (fun _ => 0)))), (a5, .inl (cZ, 32, .inl (aN (fun _ => 0)))), (a6, .inl (cI, 32, .inl (aN (fun _ => 0))))] := hD
  refine W.widen (k := 6) (n := 192) (by omega) (by omega) ?_
  refine va_putF (D := (dC, dI)) (ci := 2) (v := .ref a6) (ty := .array .int) (C := RX2) (T := TX2) (N := 12) hx hb hts inX2 tyX2 tyX2_ok nmX2 hown hK hP hD hS 0 rfl rfl 8 (by decide) (hts _ tw_39) (fun _ h9 => h9) rfl hin rfl (by decide +kernel) rfl rfl (Nat.le_of_ble_eq_true rfl) dX2_init_49 (fun H locs hP hD hS => ?_)
  have hP : va_P (dC, dI) vwCl [(h0, .inr (2, [.int (nI 0), .int (nI 0), .int (nI 0), .ref a1, .ref a2, .ref a3, .ref a4, .ref a5, .ref a6, .null, .null, .null])), (a1, .inl (cI, 32, .inl (aN (fun _ => 0)))), (a2, .inl (cI, 32, .inl (aN (fun _ => 0)))), (a3, .inl (cI, 32, .inl (aN (fun _ => 0)))), (a4, .inl (cI, 32, .inl (aN (fun _ => 0)))), (a5, .inl (cZ, 32, .inl (aN (fun _ => 0)))), (a6, .inl (cI, 32, .inl (aN (fun _ => 0))))] H := hP
  have hD : va_D A [(h0, .inr (2, [.int (nI 0), .int (nI 0), .int (nI 0), .ref a1, .ref a2, .ref a3, .ref a4, .ref a5, .ref a6, .null, .null, .null])), (a1, .inl (cI, 32, .inl (aN (fun _ => 0)))), (a2, .inl (cI, 32, .inl (aN (fun _ => 0)))), (a3, .inl (cI, 32, .inl (aN (fun _ => 0)))), (a4, .inl (cI, 32, .inl (aN (fun _ => 0)))), (a5, .inl (cZ, 32, .inl (aN (fun _ => 0)))), (a6, .inl (cI, 32, .inl (aN (fun _ => 0))))] := hD
  refine lv_aload_n hx hb dX2_init_52 rfl (lv_at hl 0 rfl) ?_
  refine lv_bipush (v := nI 32) hx hb dX2_init_53 (by decide) ?_
  refine va_newa (atype := .int) (ty := .int) (a0 := (32, .inl (aN (fun _ => 0)))) hx hb (hts _ tw_68) rfl hK hP hD hS hA (fun _ => rfl) (by decide) (N' := 32) (by decide) (by decide) (Nat.le_of_ble_eq_true rfl) (Nat.le_of_ble_eq_true rfl) dX2_init_55 (fun a7 cN H hK hP hD hS => ?_)
  obtain rfl := xk_one 0 2 hK rfl rfl (fun _ z => by cases z)
  have hK : va_K (dC, dI) vwCl [(cI, .int), (cZ, .boolean)] s := hK.sub [0, 1] rfl
  have hP : va_P (dC, dI) vwCl [(h0, .inr (2, [.int (nI 0), .int (nI 0), .int (nI 0), .ref a1, .ref a2, .ref a3, .ref a4, .ref a5, .ref a6, .null, .null, .null])), (a1, .inl (cI, 32, .inl (aN (fun _ => 0)))), (a2, .inl (cI, 32, .inl (aN (fun _ => 0)))), (a3, .inl (cI, 32, .inl (aN (fun _ => 0)))), (a4, .inl (cI, 32, .inl (aN (fun _ => 0)))), (a5, .inl (cZ, 32, .inl (aN (fun _ => 0)))), (a6, .inl (cI, 32, .inl (aN (fun _ => 0)))), (a7, .inl (cI, 32, .inl (aN (fun _ => 0))))] H := hP
  have hD : va_D A [(h0, .inr (2, [.int (nI 0), .int (nI 0), .int (nI 0), .ref a1, .ref a2, .ref a3, .ref a4, .ref a5, .ref a6, .null, .null, .null])), (a1, .inl (cI, 32, .inl (aN (fun _ => 0)))), (a2, .inl (cI, 32, .inl (aN (fun _ => 0)))), (a3, .inl (cI, 32, .inl (aN (fun _ => 0)))), (a4, .inl (cI, 32, .inl (aN (fun _ => 0)))), (a5, .inl (cZ, 32, .inl (aN (fun _ => 0)))), (a6, .inl (cI, 32, .inl (aN (fun _ => 0)))), (a7, .inl (cI, 32, .inl (aN (fun _ => 0))))] := hD
  refine W.widen (k := 7) (n := 224) (by omega) (by omega) ?_
  refine va_putF (D := (dC, dI)) (ci := 2) (v := .ref a7) (ty := .array .int) (C := RX2) (T := TX2) (N := 12) hx hb hts inX2 tyX2 tyX2_ok nmX2 hown hK hP hD hS 0 rfl rfl 9 (by decide) (hts _ tw_40) (fun _ h9 => h9) rfl hin rfl (by decide +kernel) rfl rfl (Nat.le_of_ble_eq_true rfl) dX2_init_57 (fun H locs hP hD hS => ?_)
  have hP : va_P (dC, dI) vwCl [(h0, .inr (2, [.int (nI 0), .int (nI 0), .int (nI 0), .ref a1, .ref a2, .ref a3, .ref a4, .ref a5, .ref a6, .ref a7, .null, .null])), (a1, .inl (cI, 32, .inl (aN (fun _ => 0)))), (a2, .inl (cI, 32, .inl (aN (fun _ => 0)))), (a3, .inl (cI, 32, .inl (aN (fun _ => 0)))), (a4, .inl (cI, 32, .inl (aN (fun _ => 0)))), (a5, .inl (cZ, 32, .inl (aN (fun _ => 0)))), (a6, .inl (cI, 32, .inl (aN (fun _ => 0)))), (a7, .inl (cI, 32, .inl (aN (fun _ => 0))))] H := hP
  have hD : va_D A [(h0, .inr (2, [.int (nI 0), .int (nI 0), .int (nI 0), .ref a1, .ref a2, .ref a3, .ref a4, .ref a5, .ref a6, .ref a7, .null, .null])), (a1, .inl (cI, 32, .inl (aN (fun _ => 0)))), (a2, .inl (cI, 32, .inl (aN (fun _ => 0)))), (a3, .inl (cI, 32, .inl (aN (fun _ => 0)))), (a4, .inl (cI, 32, .inl (aN (fun _ => 0)))), (a5, .inl (cZ, 32, .inl (aN (fun _ => 0)))), (a6, .inl (cI, 32, .inl (aN (fun _ => 0)))), (a7, .inl (cI, 32, .inl (aN (fun _ => 0))))] := hD
  refine lv_aload_n hx hb dX2_init_60 rfl (lv_at hl 0 rfl) ?_
  refine lv_bipush (v := nI 32) hx hb dX2_init_61 (by decide) ?_
  refine va_newa (atype := .int) (ty := .int) (a0 := (32, .inl (aN (fun _ => 0)))) hx hb (hts _ tw_68) rfl hK hP hD hS hA (fun _ => rfl) (by decide) (N' := 32) (by decide) (by decide) (Nat.le_of_ble_eq_true rfl) (Nat.le_of_ble_eq_true rfl) dX2_init_63 (fun a8 cN H hK hP hD hS => ?_)
  obtain rfl := xk_one 0 2 hK rfl rfl (fun _ z => by cases z)
  have hK : va_K (dC, dI) vwCl [(cI, .int), (cZ, .boolean)] s := hK.sub [0, 1] rfl
  have hP : va_P (dC, dI) vwCl [(h0, .inr (2, [.int (nI 0), .int (nI 0), .int (nI 0), .ref a1, .ref a2, .ref a3, .ref a4, .ref a5, .ref a6, .ref a7, .null, .null])), (a1, .inl (cI, 32, .inl (aN (fun _ => 0)))), (a2, .inl (cI, 32, .inl (aN (fun _ => 0)))), (a3, .inl (cI, 32, .inl (aN (fun _ => 0)))), (a4, .inl (cI, 32, .inl (aN (fun _ => 0)))), (a5, .inl (cZ, 32, .inl (aN (fun _ => 0)))), (a6, .inl (cI, 32, .inl (aN (fun _ => 0)))), (a7, .inl (cI, 32, .inl (aN (fun _ => 0)))), (a8, .inl (cI, 32, .inl (aN (fun _ => 0))))] H := hP
  have hD : va_D A [(h0, .inr (2, [.int (nI 0), .int (nI 0), .int (nI 0), .ref a1, .ref a2, .ref a3, .ref a4, .ref a5, .ref a6, .ref a7, .null, .null])), (a1, .inl (cI, 32, .inl (aN (fun _ => 0)))), (a2, .inl (cI, 32, .inl (aN (fun _ => 0)))), (a3, .inl (cI, 32, .inl (aN (fun _ => 0)))), (a4, .inl (cI, 32, .inl (aN (fun _ => 0)))), (a5, .inl (cZ, 32, .inl (aN (fun _ => 0)))), (a6, .inl (cI, 32, .inl (aN (fun _ => 0)))), (a7, .inl (cI, 32, .inl (aN (fun _ => 0)))), (a8, .inl (cI, 32, .inl (aN (fun _ => 0))))] := hD
  refine W.widen (k := 8) (n := 256) (by omega) (by omega) ?_
  refine va_putF (D := (dC, dI)) (ci := 2) (v := .ref a8) (ty := .array .int) (C := RX2) (T := TX2) (N := 12) hx hb hts inX2 tyX2 tyX2_ok nmX2 hown hK hP hD hS 0 rfl rfl 10 (by decide) (hts _ tw_41) (fun _ h9 => h9) rfl hin rfl (by decide +kernel) rfl rfl (Nat.le_of_ble_eq_true rfl) dX2_init_65 (fun H locs hP hD hS => ?_)
  have hP : va_P (dC, dI) vwCl [(h0, .inr (2, [.int (nI 0), .int (nI 0), .int (nI 0), .ref a1, .ref a2, .ref a3, .ref a4, .ref a5, .ref a6, .ref a7, .ref a8, .null])), (a1, .inl (cI, 32, .inl (aN (fun _ => 0)))), (a2, .inl (cI, 32, .inl (aN (fun _ => 0)))), (a3, .inl (cI, 32, .inl (aN (fun _ => 0)))), (a4, .inl (cI, 32, .inl (aN (fun _ => 0)))), (a5, .inl (cZ, 32, .inl (aN (fun _ => 0)))), (a6, .inl (cI, 32, .inl (aN (fun _ => 0)))), (a7, .inl (cI, 32, .inl (aN (fun _ => 0)))), (a8, .inl (cI, 32, .inl (aN (fun _ => 0))))] H := hP
  have hD : va_D A [(h0, .inr (2, [.int (nI 0), .int (nI 0), .int (nI 0), .ref a1, .ref a2, .ref a3, .ref a4, .ref a5, .ref a6, .ref a7, .ref a8, .null])), (a1, .inl (cI, 32, .inl (aN (fun _ => 0)))), (a2, .inl (cI, 32, .inl (aN (fun _ => 0)))), (a3, .inl (cI, 32, .inl (aN (fun _ => 0)))), (a4, .inl (cI, 32, .inl (aN (fun _ => 0)))), (a5, .inl (cZ, 32, .inl (aN (fun _ => 0)))), (a6, .inl (cI, 32, .inl (aN (fun _ => 0)))), (a7, .inl (cI, 32, .inl (aN (fun _ => 0)))), (a8, .inl (cI, 32, .inl (aN (fun _ => 0))))] := hD
  refine lv_aload_n hx hb dX2_init_68 rfl (lv_at hl 0 rfl) ?_
  refine lv_bipush (v := nI 9) hx hb dX2_init_69 (by decide) ?_
  refine va_newa (atype := .int) (ty := .int) (a0 := (9, .inl (aN (fun _ => 0)))) hx hb (hts _ tw_68) rfl hK hP hD hS hA (fun _ => rfl) (by decide) (N' := 9) (by decide) (by decide) (Nat.le_of_ble_eq_true rfl) (Nat.le_of_ble_eq_true rfl) dX2_init_71 (fun a9 cN H hK hP hD hS => ?_)
  obtain rfl := xk_one 0 2 hK rfl rfl (fun _ z => by cases z)
  have hK : va_K (dC, dI) vwCl [(cI, .int), (cZ, .boolean)] s := hK.sub [0, 1] rfl
  have hP : va_P (dC, dI) vwCl [(h0, .inr (2, [.int (nI 0), .int (nI 0), .int (nI 0), .ref a1, .ref a2, .ref a3, .ref a4, .ref a5, .ref a6, .ref a7, .ref a8, .null])), (a1, .inl (cI, 32, .inl (aN (fun _ => 0)))), (a2, .inl (cI, 32, .inl (aN (fun _ => 0)))), (a3, .inl (cI, 32, .inl (aN (fun _ => 0)))), (a4, .inl (cI, 32, .inl (aN (fun _ => 0)))), (a5, .inl (cZ, 32, .inl (aN (fun _ => 0)))), (a6, .inl (cI, 32, .inl (aN (fun _ => 0)))), (a7, .inl (cI, 32, .inl (aN (fun _ => 0)))), (a8, .inl (cI, 32, .inl (aN (fun _ => 0)))), (a9, .inl (cI, 9, .inl (aN (fun _ => 0))))] H := hP
  have hD : va_D A [(h0, .inr (2, [.int (nI 0), .int (nI 0), .int (nI 0), .ref a1, .ref a2, .ref a3, .ref a4, .ref a5, .ref a6, .ref a7, .ref a8, .null])), (a1, .inl (cI, 32, .inl (aN (fun _ => 0)))), (a2, .inl (cI, 32, .inl (aN (fun _ => 0)))), (a3, .inl (cI, 32, .inl (aN (fun _ => 0)))), (a4, .inl (cI, 32, .inl (aN (fun _ => 0)))), (a5, .inl (cZ, 32, .inl (aN (fun _ => 0)))), (a6, .inl (cI, 32, .inl (aN (fun _ => 0)))), (a7, .inl (cI, 32, .inl (aN (fun _ => 0)))), (a8, .inl (cI, 32, .inl (aN (fun _ => 0)))), (a9, .inl (cI, 9, .inl (aN (fun _ => 0))))] := hD
  refine W.widen (k := 9) (n := 265) (by omega) (by omega) ?_
  refine va_putF (D := (dC, dI)) (ci := 2) (v := .ref a9) (ty := .array .int) (C := RX2) (T := TX2) (N := 12) hx hb hts inX2 tyX2 tyX2_ok nmX2 hown hK hP hD hS 0 rfl rfl 11 (by decide) (hts _ tw_42) (fun _ h9 => h9) rfl hin rfl (by decide +kernel) rfl rfl (Nat.le_of_ble_eq_true rfl) dX2_init_73 (fun H locs hP hD hS => ?_)
  have hP : va_P (dC, dI) vwCl [(h0, .inr (2, [.int (nI 0), .int (nI 0), .int (nI 0), .ref a1, .ref a2, .ref a3, .ref a4, .ref a5, .ref a6, .ref a7, .ref a8, .ref a9])), (a1, .inl (cI, 32, .inl (aN (fun _ => 0)))), (a2, .inl (cI, 32, .inl (aN (fun _ => 0)))), (a3, .inl (cI, 32, .inl (aN (fun _ => 0)))), (a4, .inl (cI, 32, .inl (aN (fun _ => 0)))), (a5, .inl (cZ, 32, .inl (aN (fun _ => 0)))), (a6, .inl (cI, 32, .inl (aN (fun _ => 0)))), (a7, .inl (cI, 32, .inl (aN (fun _ => 0)))), (a8, .inl (cI, 32, .inl (aN (fun _ => 0)))), (a9, .inl (cI, 9, .inl (aN (fun _ => 0))))] H := hP
  have hD : va_D A [(h0, .inr (2, [.int (nI 0), .int (nI 0), .int (nI 0), .ref a1, .ref a2, .ref a3, .ref a4, .ref a5, .ref a6, .ref a7, .ref a8, .ref a9])), (a1, .inl (cI, 32, .inl (aN (fun _ => 0)))), (a2, .inl (cI, 32, .inl (aN (fun _ => 0)))), (a3, .inl (cI, 32, .inl (aN (fun _ => 0)))), (a4, .inl (cI, 32, .inl (aN (fun _ => 0)))), (a5, .inl (cZ, 32, .inl (aN (fun _ => 0)))), (a6, .inl (cI, 32, .inl (aN (fun _ => 0)))), (a7, .inl (cI, 32, .inl (aN (fun _ => 0)))), (a8, .inl (cI, 32, .inl (aN (fun _ => 0)))), (a9, .inl (cI, 9, .inl (aN (fun _ => 0))))] := hD
  exact xr_v (w1 := fun (u : Nat → Nat) => wR u cI cZ r0) hx hb hr hlk (u := fun k => [h0, a1, a2, a3, a4, a5, a6, a7, a8, a9].getD k 0) (rfl) hP hK hD hS dX2_init_76
set_option maxHeartbeats 4000000 in
set_option maxRecDepth 100000 in
theorem c_Cells_init (l : Launch) (dC : Nat → ClassId) (dI : Nat → Nat → Nat) (cI cZ : ClassId) (sz : Nat) (h0 : Nat) : Met l yX1_init (.code yX1_init cX1_init 1 none :: ALLG) ({ frames := 1, cells := 4, slots := 80, locals := 20 }) (va_Pc [.ref h0] (cP (dC, dI) vwCl [(cI, .int), (cZ, .boolean)] ([(h0, .inr (1, [.int (nI 0), .null, .null, .null, .null]))]) eT sz)) (va_Qv (fun (u : Nat → Nat) => u 10 = h0) (fun (u : Nat → Nat) => cB (dC, dI) vwCl [(cI, .int), (cZ, .boolean)] (wC u cI k0) (va_A ([(h0, .inr (1, [.int (nI 0), .null, .null, .null, .null]))]) sz)) (va_A ([(h0, .inr (1, [.int (nI 0), .null, .null, .null, .null]))]) sz)) 4 80 (va_A ([(h0, .inr (1, [.int (nI 0), .null, .null, .null, .null]))]) sz) := by
  refine xm_of (cc := cX1_init) (maxL := 1) (ret := none) (by decide) rfl (Nat.le_of_ble_eq_true rfl) ?_
  intro p e s m below meth c A hAe hx hb hr hml hts0 hown hlk hin hsz H locs hP hK hD hA hS hE ls hl
  have hts : ∀ w ∈ ALLG, w.before _ s = true := fun w h => hts0 w (List.mem_cons_of_mem _ h)
  rw [← hAe]
  have hl : lv_has ls 1 [(0, .ref h0)] := hl
  refine lv_aload_n hx hb dX1_init_0 rfl (lv_at hl 0 rfl) ?_
  refine W.objInit hx hb hown (hts _ tw_75) (hts _ tw_19) (hts _ tw_20) rfl (by rw [hml]; exact hl.1) rfl dX1_init_1 (Nat.le_of_ble_eq_true rfl) (Nat.le_of_ble_eq_true rfl) ?_
  refine W.eq (g2 := F0 m 4 ls []) rfl ?_
  refine lv_aload_n hx hb dX1_init_4 rfl (lv_at hl 0 rfl) ?_
  refine lv_bipush (v := nI 20) hx hb dX1_init_5 (by decide) ?_
  refine va_newa (atype := .int) (ty := .int) (a0 := (20, .inl (aN (fun _ => 0)))) hx hb (hts _ tw_68) rfl hK hP hD hS hA (fun _ => rfl) (by decide) (N' := 20) (by decide) (by decide) (Nat.le_of_ble_eq_true rfl) (Nat.le_of_ble_eq_true rfl) dX1_init_7 (fun a1 cN H hK hP hD hS => ?_)
  obtain rfl := xk_one 0 2 hK rfl rfl (fun _ z => by cases z)
  have hK : va_K (dC, dI) vwCl [(cI, .int), (cZ, .boolean)] s := hK.sub [0, 1] rfl
  have hP : va_P (dC, dI) vwCl [(h0, .inr (1, [.int (nI 0), .null, .null, .null, .null])), (a1, .inl (cI, 20, .inl (aN (fun _ => 0))))] H := hP
  have hD : va_D A [(h0, .inr (1, [.int (nI 0), .null, .null, .null, .null])), (a1, .inl (cI, 20, .inl (aN (fun _ => 0))))] := hD
  refine W.widen (k := 1) (n := 20) (by omega) (by omega) ?_
  refine va_putF (D := (dC, dI)) (ci := 1) (v := .ref a1) (ty := .array .int) (C := RX1) (T := TX1) (N := 5) hx hb hts inX1 tyX1 tyX1_ok nmX1 hown hK hP hD hS 0 rfl rfl 1 (by decide) (hts _ tw_79) (fun _ h9 => h9) rfl hin rfl (by decide +kernel) rfl rfl (Nat.le_of_ble_eq_true rfl) dX1_init_9 (fun H locs hP hD hS => ?_)
  have hP : va_P (dC, dI) vwCl [(h0, .inr (1, [.int (nI 0), .ref a1, .null, .null, .null])), (a1, .inl (cI, 20, .inl (aN (fun _ => 0))))] H := hP
  have hD : va_D A [(h0, .inr (1, [.int (nI 0), .ref a1, .null, .null, .null])), (a1, .inl (cI, 20, .inl (aN (fun _ => 0))))] := hD
  refine lv_aload_n hx hb dX1_init_12 rfl (lv_at hl 0 rfl) ?_
  refine lv_bipush (v := nI 20) hx hb dX1_init_13 (by decide) ?_
  refine va_newa (atype := .int) (ty := .int) (a0 := (20, .inl (aN (fun _ => 0)))) hx hb (hts _ tw_68) rfl hK hP hD hS hA (fun _ => rfl) (by decide) (N' := 20) (by decide) (by decide) (Nat.le_of_ble_eq_true rfl) (Nat.le_of_ble_eq_true rfl) dX1_init_15 (fun a2 cN H hK hP hD hS => ?_)
  obtain rfl := xk_one 0 2 hK rfl rfl (fun _ z => by cases z)
  have hK : va_K (dC, dI) vwCl [(cI, .int), (cZ, .boolean)] s := hK.sub [0, 1] rfl
  have hP : va_P (dC, dI) vwCl [(h0, .inr (1, [.int (nI 0), .ref a1, .null, .null, .null])), (a1, .inl (cI, 20, .inl (aN (fun _ => 0)))), (a2, .inl (cI, 20, .inl (aN (fun _ => 0))))] H := hP
  have hD : va_D A [(h0, .inr (1, [.int (nI 0), .ref a1, .null, .null, .null])), (a1, .inl (cI, 20, .inl (aN (fun _ => 0)))), (a2, .inl (cI, 20, .inl (aN (fun _ => 0))))] := hD
  refine W.widen (k := 2) (n := 40) (by omega) (by omega) ?_
  refine va_putF (D := (dC, dI)) (ci := 1) (v := .ref a2) (ty := .array .int) (C := RX1) (T := TX1) (N := 5) hx hb hts inX1 tyX1 tyX1_ok nmX1 hown hK hP hD hS 0 rfl rfl 2 (by decide) (hts _ tw_81) (fun _ h9 => h9) rfl hin rfl (by decide +kernel) rfl rfl (Nat.le_of_ble_eq_true rfl) dX1_init_17 (fun H locs hP hD hS => ?_)
  have hP : va_P (dC, dI) vwCl [(h0, .inr (1, [.int (nI 0), .ref a1, .ref a2, .null, .null])), (a1, .inl (cI, 20, .inl (aN (fun _ => 0)))), (a2, .inl (cI, 20, .inl (aN (fun _ => 0))))] H := hP
  have hD : va_D A [(h0, .inr (1, [.int (nI 0), .ref a1, .ref a2, .null, .null])), (a1, .inl (cI, 20, .inl (aN (fun _ => 0)))), (a2, .inl (cI, 20, .inl (aN (fun _ => 0))))] := hD
  refine lv_aload_n hx hb dX1_init_20 rfl (lv_at hl 0 rfl) ?_
  refine lv_bipush (v := nI 20) hx hb dX1_init_21 (by decide) ?_
  refine va_newa (atype := .int) (ty := .int) (a0 := (20, .inl (aN (fun _ => 0)))) hx hb (hts _ tw_68) rfl hK hP hD hS hA (fun _ => rfl) (by decide) (N' := 20) (by decide) (by decide) (Nat.le_of_ble_eq_true rfl) (Nat.le_of_ble_eq_true rfl) dX1_init_23 (fun a3 cN H hK hP hD hS => ?_)
  obtain rfl := xk_one 0 2 hK rfl rfl (fun _ z => by cases z)
  have hK : va_K (dC, dI) vwCl [(cI, .int), (cZ, .boolean)] s := hK.sub [0, 1] rfl
  have hP : va_P (dC, dI) vwCl [(h0, .inr (1, [.int (nI 0), .ref a1, .ref a2, .null, .null])), (a1, .inl (cI, 20, .inl (aN (fun _ => 0)))), (a2, .inl (cI, 20, .inl (aN (fun _ => 0)))), (a3, .inl (cI, 20, .inl (aN (fun _ => 0))))] H := hP
  have hD : va_D A [(h0, .inr (1, [.int (nI 0), .ref a1, .ref a2, .null, .null])), (a1, .inl (cI, 20, .inl (aN (fun _ => 0)))), (a2, .inl (cI, 20, .inl (aN (fun _ => 0)))), (a3, .inl (cI, 20, .inl (aN (fun _ => 0))))] := hD
  refine W.widen (k := 3) (n := 60) (by omega) (by omega) ?_
  refine va_putF (D := (dC, dI)) (ci := 1) (v := .ref a3) (ty := .array .int) (C := RX1) (T := TX1) (N := 5) hx hb hts inX1 tyX1 tyX1_ok nmX1 hown hK hP hD hS 0 rfl rfl 3 (by decide) (hts _ tw_82) (fun _ h9 => h9) rfl hin rfl (by decide +kernel) rfl rfl (Nat.le_of_ble_eq_true rfl) dX1_init_25 (fun H locs hP hD hS => ?_)
  have hP : va_P (dC, dI) vwCl [(h0, .inr (1, [.int (nI 0), .ref a1, .ref a2, .ref a3, .null])), (a1, .inl (cI, 20, .inl (aN (fun _ => 0)))), (a2, .inl (cI, 20, .inl (aN (fun _ => 0)))), (a3, .inl (cI, 20, .inl (aN (fun _ => 0))))] H := hP
  have hD : va_D A [(h0, .inr (1, [.int (nI 0), .ref a1, .ref a2, .ref a3, .null])), (a1, .inl (cI, 20, .inl (aN (fun _ => 0)))), (a2, .inl (cI, 20, .inl (aN (fun _ => 0)))), (a3, .inl (cI, 20, .inl (aN (fun _ => 0))))] := hD
  refine lv_aload_n hx hb dX1_init_28 rfl (lv_at hl 0 rfl) ?_
  refine lv_bipush (v := nI 20) hx hb dX1_init_29 (by decide) ?_
  refine va_newa (atype := .int) (ty := .int) (a0 := (20, .inl (aN (fun _ => 0)))) hx hb (hts _ tw_68) rfl hK hP hD hS hA (fun _ => rfl) (by decide) (N' := 20) (by decide) (by decide) (Nat.le_of_ble_eq_true rfl) (Nat.le_of_ble_eq_true rfl) dX1_init_31 (fun a4 cN H hK hP hD hS => ?_)
  obtain rfl := xk_one 0 2 hK rfl rfl (fun _ z => by cases z)
  have hK : va_K (dC, dI) vwCl [(cI, .int), (cZ, .boolean)] s := hK.sub [0, 1] rfl
  have hP : va_P (dC, dI) vwCl [(h0, .inr (1, [.int (nI 0), .ref a1, .ref a2, .ref a3, .null])), (a1, .inl (cI, 20, .inl (aN (fun _ => 0)))), (a2, .inl (cI, 20, .inl (aN (fun _ => 0)))), (a3, .inl (cI, 20, .inl (aN (fun _ => 0)))), (a4, .inl (cI, 20, .inl (aN (fun _ => 0))))] H := hP
  have hD : va_D A [(h0, .inr (1, [.int (nI 0), .ref a1, .ref a2, .ref a3, .null])), (a1, .inl (cI, 20, .inl (aN (fun _ => 0)))), (a2, .inl (cI, 20, .inl (aN (fun _ => 0)))), (a3, .inl (cI, 20, .inl (aN (fun _ => 0)))), (a4, .inl (cI, 20, .inl (aN (fun _ => 0))))] := hD
  refine W.widen (k := 4) (n := 80) (by omega) (by omega) ?_
  refine va_putF (D := (dC, dI)) (ci := 1) (v := .ref a4) (ty := .array .int) (C := RX1) (T := TX1) (N := 5) hx hb hts inX1 tyX1 tyX1_ok nmX1 hown hK hP hD hS 0 rfl rfl 4 (by decide) (hts _ tw_83) (fun _ h9 => h9) rfl hin rfl (by decide +kernel) rfl rfl (Nat.le_of_ble_eq_true rfl) dX1_init_33 (fun H locs hP hD hS => ?_)
  have hP : va_P (dC, dI) vwCl [(h0, .inr (1, [.int (nI 0), .ref a1, .ref a2, .ref a3, .ref a4])), (a1, .inl (cI, 20, .inl (aN (fun _ => 0)))), (a2, .inl (cI, 20, .inl (aN (fun _ => 0)))), (a3, .inl (cI, 20, .inl (aN (fun _ => 0)))), (a4, .inl (cI, 20, .inl (aN (fun _ => 0))))] H := hP
  have hD : va_D A [(h0, .inr (1, [.int (nI 0), .ref a1, .ref a2, .ref a3, .ref a4])), (a1, .inl (cI, 20, .inl (aN (fun _ => 0)))), (a2, .inl (cI, 20, .inl (aN (fun _ => 0)))), (a3, .inl (cI, 20, .inl (aN (fun _ => 0)))), (a4, .inl (cI, 20, .inl (aN (fun _ => 0))))] := hD
  exact xr_v (w1 := fun (u : Nat → Nat) => wC u cI k0) hx hb hr hlk (u := fun k => [h0, a1, a2, a3, a4].getD (k - 10) 0) (rfl) hP hK hD hS dX1_init_36
set_option maxHeartbeats 4000000 in
set_option maxRecDepth 100000 in
theorem c_Access_init (l : Launch) (dC : Nat → ClassId) (dI : Nat → Nat → Nat) (cI cZ : ClassId) (sz : Nat) (h0 : Nat) (nu : Int32) (qr qc : Nat) : Met l yX0_init (.code yX0_init cX0_init 4 none :: ALLG) ({ frames := 1, cells := 1, slots := 16, locals := 20 }) (va_Pc [.ref h0, .int nu, .ref qr, .ref qc] (cP (dC, dI) vwCl [(cI, .int), (cZ, .boolean)] ([(h0, .inr (0, [.int (nI 0), .int (nI 0), .int (nI 0), .null, .null, .int (nI 0), .int (nI 0), .int (nI 0), .null]))]) eT sz)) (va_Qv (fun (_ : Nat) => True) (fun (u : Nat) => cB (dC, dI) vwCl [(cI, .int), (cZ, .boolean)] ([(h0, .inr (0, [.int (nI 0), .int (nI 2), .int nu, .ref qr, .ref qc, .int (nI 0), .int (nI 0), .int (nI 0), .ref u])), (u, .inl (cI, 16, .inl (aN (fun _ => 0))))]) (va_A ([(h0, .inr (0, [.int (nI 0), .int (nI 0), .int (nI 0), .null, .null, .int (nI 0), .int (nI 0), .int (nI 0), .null]))]) sz)) (va_A ([(h0, .inr (0, [.int (nI 0), .int (nI 0), .int (nI 0), .null, .null, .int (nI 0), .int (nI 0), .int (nI 0), .null]))]) sz)) 1 16 (va_A ([(h0, .inr (0, [.int (nI 0), .int (nI 0), .int (nI 0), .null, .null, .int (nI 0), .int (nI 0), .int (nI 0), .null]))]) sz) := by
  refine xm_of (cc := cX0_init) (maxL := 4) (ret := none) (by decide) rfl (Nat.le_of_ble_eq_true rfl) ?_
  intro p e s m below meth c A hAe hx hb hr hml hts0 hown hlk hin hsz H locs hP hK hD hA hS hE ls hl
  have hts : ∀ w ∈ ALLG, w.before _ s = true := fun w h => hts0 w (List.mem_cons_of_mem _ h)
  rw [← hAe]
  have hl : lv_has ls 4 [(0, .ref h0), (1, .int nu), (2, .ref qr), (3, .ref qc)] := hl
  refine lv_aload_n hx hb dX0_init_0 rfl (lv_at hl 0 rfl) ?_
  refine W.objInit hx hb hown (hts _ tw_100) (hts _ tw_19) (hts _ tw_20) rfl (by rw [hml]; exact hl.1) rfl dX0_init_1 (Nat.le_of_ble_eq_true rfl) (Nat.le_of_ble_eq_true rfl) ?_
  refine W.eq (g2 := F0 m 4 ls []) rfl ?_
  refine lv_aload_n hx hb dX0_init_4 rfl (lv_at hl 0 rfl) ?_
  refine lv_iload_n hx hb dX0_init_5 rfl (lv_at hl 1 rfl) ?_
  refine va_putF (D := (dC, dI)) (ci := 0) (v := .int nu) (ty := .int) (C := RX0) (T := TX0) (N := 9) hx hb hts inX0 tyX0 tyX0_ok nmX0 hown hK hP hD hS 0 rfl rfl 2 (by decide) (hts _ tw_105) (fun _ h9 => h9) rfl hin rfl (by decide +kernel) rfl rfl (Nat.le_of_ble_eq_true rfl) dX0_init_6 (fun H locs hP hD hS => ?_)
  have hP : va_P (dC, dI) vwCl [(h0, .inr (0, [.int (nI 0), .int (nI 0), .int nu, .null, .null, .int (nI 0), .int (nI 0), .int (nI 0), .null]))] H := hP
  have hD : va_D A [(h0, .inr (0, [.int (nI 0), .int (nI 0), .int nu, .null, .null, .int (nI 0), .int (nI 0), .int (nI 0), .null]))] := hD
  refine lv_aload_n hx hb dX0_init_9 rfl (lv_at hl 0 rfl) ?_
  refine lv_aload_n hx hb dX0_init_10 rfl (lv_at hl 2 rfl) ?_
  refine va_putF (D := (dC, dI)) (ci := 0) (v := .ref qr) (ty := .object "ScanRows$Rows") (C := RX0) (T := TX0) (N := 9) hx hb hts inX0 tyX0 tyX0_ok nmX0 hown hK hP hD hS 0 rfl rfl 3 (by decide) (hts _ tw_106) (fun _ h9 => h9) rfl hin rfl (by decide +kernel) rfl rfl (Nat.le_of_ble_eq_true rfl) dX0_init_11 (fun H locs hP hD hS => ?_)
  have hP : va_P (dC, dI) vwCl [(h0, .inr (0, [.int (nI 0), .int (nI 0), .int nu, .ref qr, .null, .int (nI 0), .int (nI 0), .int (nI 0), .null]))] H := hP
  have hD : va_D A [(h0, .inr (0, [.int (nI 0), .int (nI 0), .int nu, .ref qr, .null, .int (nI 0), .int (nI 0), .int (nI 0), .null]))] := hD
  refine lv_aload_n hx hb dX0_init_14 rfl (lv_at hl 0 rfl) ?_
  refine lv_aload_n hx hb dX0_init_15 rfl (lv_at hl 3 rfl) ?_
  refine va_putF (D := (dC, dI)) (ci := 0) (v := .ref qc) (ty := .object "ScanRows$Cells") (C := RX0) (T := TX0) (N := 9) hx hb hts inX0 tyX0 tyX0_ok nmX0 hown hK hP hD hS 0 rfl rfl 4 (by decide) (hts _ tw_107) (fun _ h9 => h9) rfl hin rfl (by decide +kernel) rfl rfl (Nat.le_of_ble_eq_true rfl) dX0_init_16 (fun H locs hP hD hS => ?_)
  have hP : va_P (dC, dI) vwCl [(h0, .inr (0, [.int (nI 0), .int (nI 0), .int nu, .ref qr, .ref qc, .int (nI 0), .int (nI 0), .int (nI 0), .null]))] H := hP
  have hD : va_D A [(h0, .inr (0, [.int (nI 0), .int (nI 0), .int nu, .ref qr, .ref qc, .int (nI 0), .int (nI 0), .int (nI 0), .null]))] := hD
  refine lv_aload_n hx hb dX0_init_19 rfl (lv_at hl 0 rfl) ?_
  refine lv_iconst (v := nI 0) hx hb dX0_init_20 (by decide) ?_
  refine va_put (D := (dC, dI)) (ci := 0) (v := .int (nI 0)) (ty := .int) (C := RX0) (T := TX0) (N := 9) hx hb hts inX0 tyX0 tyX0_ok nmX0 hown hK hP hD hS 0 rfl rfl 0 (by decide) (hts _ tw_101) (fun _ h9 => h9) rfl (by decide +kernel) rfl rfl (Nat.le_of_ble_eq_true rfl) dX0_init_21 (fun H locs hP hD hS => ?_)
  have hP : va_P (dC, dI) vwCl [(h0, .inr (0, [.int (nI 0), .int (nI 0), .int nu, .ref qr, .ref qc, .int (nI 0), .int (nI 0), .int (nI 0), .null]))] H := hP
  have hD : va_D A [(h0, .inr (0, [.int (nI 0), .int (nI 0), .int nu, .ref qr, .ref qc, .int (nI 0), .int (nI 0), .int (nI 0), .null]))] := hD
  refine lv_aload_n hx hb dX0_init_24 rfl (lv_at hl 0 rfl) ?_
  refine lv_iconst (v := nI 2) hx hb dX0_init_25 (by decide) ?_
  refine va_put (D := (dC, dI)) (ci := 0) (v := .int (nI 2)) (ty := .int) (C := RX0) (T := TX0) (N := 9) hx hb hts inX0 tyX0 tyX0_ok nmX0 hown hK hP hD hS 0 rfl rfl 1 (by decide) (hts _ tw_103) (fun _ h9 => h9) rfl (by decide +kernel) rfl rfl (Nat.le_of_ble_eq_true rfl) dX0_init_26 (fun H locs hP hD hS => ?_)
  have hP : va_P (dC, dI) vwCl [(h0, .inr (0, [.int (nI 0), .int (nI 2), .int nu, .ref qr, .ref qc, .int (nI 0), .int (nI 0), .int (nI 0), .null]))] H := hP
  have hD : va_D A [(h0, .inr (0, [.int (nI 0), .int (nI 2), .int nu, .ref qr, .ref qc, .int (nI 0), .int (nI 0), .int (nI 0), .null]))] := hD
  refine lv_aload_n hx hb dX0_init_29 rfl (lv_at hl 0 rfl) ?_
  refine lv_bipush (v := nI 16) hx hb dX0_init_30 (by decide) ?_
  refine va_newa (atype := .int) (ty := .int) (a0 := (16, .inl (aN (fun _ => 0)))) hx hb (hts _ tw_68) rfl hK hP hD hS hA (fun _ => rfl) (by decide) (N' := 16) (by decide) (by decide) (Nat.le_of_ble_eq_true rfl) (Nat.le_of_ble_eq_true rfl) dX0_init_32 (fun a1 cN H hK hP hD hS => ?_)
  obtain rfl := xk_one 0 2 hK rfl rfl (fun _ z => by cases z)
  have hK : va_K (dC, dI) vwCl [(cI, .int), (cZ, .boolean)] s := hK.sub [0, 1] rfl
  have hP : va_P (dC, dI) vwCl [(h0, .inr (0, [.int (nI 0), .int (nI 2), .int nu, .ref qr, .ref qc, .int (nI 0), .int (nI 0), .int (nI 0), .null])), (a1, .inl (cI, 16, .inl (aN (fun _ => 0))))] H := hP
  have hD : va_D A [(h0, .inr (0, [.int (nI 0), .int (nI 2), .int nu, .ref qr, .ref qc, .int (nI 0), .int (nI 0), .int (nI 0), .null])), (a1, .inl (cI, 16, .inl (aN (fun _ => 0))))] := hD
  refine W.widen (k := 1) (n := 16) (by omega) (by omega) ?_
  refine va_putF (D := (dC, dI)) (ci := 0) (v := .ref a1) (ty := .array .int) (C := RX0) (T := TX0) (N := 9) hx hb hts inX0 tyX0 tyX0_ok nmX0 hown hK hP hD hS 0 rfl rfl 8 (by decide) (hts _ tw_111) (fun _ h9 => h9) rfl hin rfl (by decide +kernel) rfl rfl (Nat.le_of_ble_eq_true rfl) dX0_init_34 (fun H locs hP hD hS => ?_)
  have hP : va_P (dC, dI) vwCl [(h0, .inr (0, [.int (nI 0), .int (nI 2), .int nu, .ref qr, .ref qc, .int (nI 0), .int (nI 0), .int (nI 0), .ref a1])), (a1, .inl (cI, 16, .inl (aN (fun _ => 0))))] H := hP
  have hD : va_D A [(h0, .inr (0, [.int (nI 0), .int (nI 2), .int nu, .ref qr, .ref qc, .int (nI 0), .int (nI 0), .int (nI 0), .ref a1])), (a1, .inl (cI, 16, .inl (aN (fun _ => 0))))] := hD
  exact xr_v (w1 := fun (u : Nat) => [(h0, .inr (0, [.int (nI 0), .int (nI 2), .int nu, .ref qr, .ref qc, .int (nI 0), .int (nI 0), .int (nI 0), .ref u])), (u, .inl (cI, 16, .inl (aN (fun _ => 0))))]) hx hb hr hlk (u := a1) (trivial) hP hK hD hS dX0_init_37
set_option maxHeartbeats 4000000 in
set_option maxRecDepth 100000 in
theorem c_Self_init (l : Launch) (dC : Nat → ClassId) (dI : Nat → Nat → Nat) (cI cZ : ClassId) (sz : Nat) (h0 : Nat) (nu : Int32) : Met l yX3_init (.code yX3_init cX3_init 2 none :: ALLG) ({ frames := 2, cells := 17, slots := 387, locals := 60 }) (va_Pc [.ref h0, .int nu] (cP (dC, dI) vwCl [(cI, .int), (cZ, .boolean)] ([(h0, .inr (3, [.null, .null, .null]))]) eT sz)) (va_Qv (fun (u : Nat → Nat) => u 17 = h0) (fun (u : Nat → Nat) => cB (dC, dI) vwCl [(cI, .int), (cZ, .boolean)] (wX u cI cZ r0 k0 (a00 nu)) (va_A ([(h0, .inr (3, [.null, .null, .null]))]) sz)) (va_A ([(h0, .inr (3, [.null, .null, .null]))]) sz)) 17 387 (va_A ([(h0, .inr (3, [.null, .null, .null]))]) sz) := by
  refine xm_of (cc := cX3_init) (maxL := 2) (ret := none) (by decide) rfl (Nat.le_of_ble_eq_true rfl) ?_
  intro p e s m below meth c A hAe hx hb hr hml hts0 hown hlk hin hsz H locs hP hK hD hA hS hE ls hl
  have hts : ∀ w ∈ ALLG, w.before _ s = true := fun w h => hts0 w (List.mem_cons_of_mem _ h)
  rw [← hAe]
  have hl : lv_has ls 2 [(0, .ref h0), (1, .int nu)] := hl
  refine lv_aload_n hx hb dX3_init_0 rfl (lv_at hl 0 rfl) ?_
  refine W.objInit hx hb hown (hts _ tw_18) (hts _ tw_19) (hts _ tw_20) rfl (by rw [hml]; exact hl.1) rfl dX3_init_1 (Nat.le_of_ble_eq_true rfl) (Nat.le_of_ble_eq_true rfl) ?_
  refine W.eq (g2 := F0 m 4 ls []) rfl ?_
  refine lv_aload_n hx hb dX3_init_4 rfl (lv_at hl 0 rfl) ?_
  refine va_new (ci := 2) (fs := [.int (nI 0), .int (nI 0), .int (nI 0), .null, .null, .null, .null, .null, .null, .null, .null, .null]) (C := RX2) (T := TX2) (N := 12) hx hb hts inX2 tyX2 tyX2_ok hown (hts _ tw_21) (hts _ tw_22) (hts _ tw_2) hK hP hD hS hA rfl (fun j hj => by match j, hj with | 0, _ => rfl | 1, _ => rfl | 2, _ => rfl | 3, _ => rfl | 4, _ => rfl | 5, _ => rfl | 6, _ => rfl | 7, _ => rfl | 8, _ => rfl | 9, _ => rfl | 10, _ => rfl | 11, _ => rfl | k + 12, h => exact absurd h (by omega)) (Nat.le_of_ble_eq_true rfl) (Nat.le_of_ble_eq_true rfl) dX3_init_5 (fun a1 H hP hD hS => ?_)
  have hP : va_P (dC, dI) vwCl [(h0, .inr (3, [.null, .null, .null])), (a1, .inr (2, [.int (nI 0), .int (nI 0), .int (nI 0), .null, .null, .null, .null, .null, .null, .null, .null, .null]))] H := hP
  have hD : va_D A [(h0, .inr (3, [.null, .null, .null])), (a1, .inr (2, [.int (nI 0), .int (nI 0), .int (nI 0), .null, .null, .null, .null, .null, .null, .null, .null, .null]))] := hD
  refine W.widen (k := 1) (n := 12) (by omega) (by omega) ?_
  refine lv_dup hx hb dX3_init_8 rfl ?_
  refine xc_Iv (As := []) (wr := [(h0, .inr (3, [.null, .null, .null]))]) ⟨hx, hb, hml, hown, hts⟩ (c_Rows_init l dC dI cI cZ H.size a1 ) (cwI 0 hts (gA tw_25) rfl rfl rfl (hts _ tw_2) (hts _ tw_23) (hts _ tw_24) rfl (by decide +kernel) ⟨Nat.le_of_ble_eq_true rfl, Nat.le_of_ble_eq_true rfl⟩) rfl hl.1 rfl (Nat.le_of_ble_eq_true rfl) dX3_init_9 ⟨Nat.le_of_ble_eq_true rfl, Nat.le_of_ble_eq_true rfl⟩ hP hD hK hS hA [1] [0] rfl rfl (by decide) (by decide) (by decide) [0, 1] rfl eT_M trivial (fun uR H locs hw9 hPn hDn hSn => ?_)
  obtain rfl := hw9
  have hP : va_P (dC, dI) vwCl [(h0, .inr (3, [.null, .null, .null])), (uR 0, .inr (2, [.int (nI 0), .int (nI 0), .int (nI 0), .ref (uR 1), .ref (uR 2), .ref (uR 3), .ref (uR 4), .ref (uR 5), .ref (uR 6), .ref (uR 7), .ref (uR 8), .ref (uR 9)])), (uR 1, .inl (cI, 32, .inl (aN (fun _ => 0)))), (uR 2, .inl (cI, 32, .inl (aN (fun _ => 0)))), (uR 3, .inl (cI, 32, .inl (aZ (fun _ => 0)))), (uR 4, .inl (cI, 32, .inl (aZ (fun _ => 0)))), (uR 5, .inl (cZ, 32, .inl (aN (fun _ => 0)))), (uR 6, .inl (cI, 32, .inl (aZ (fun _ => 0)))), (uR 7, .inl (cI, 32, .inl (aN (fun _ => 0)))), (uR 8, .inl (cI, 32, .inl (aN (fun _ => 0)))), (uR 9, .inl (cI, 9, .inl (aN (fun _ => 0))))] H := hPn
  have hD : va_D A [(h0, .inr (3, [.null, .null, .null])), (uR 0, .inr (2, [.int (nI 0), .int (nI 0), .int (nI 0), .ref (uR 1), .ref (uR 2), .ref (uR 3), .ref (uR 4), .ref (uR 5), .ref (uR 6), .ref (uR 7), .ref (uR 8), .ref (uR 9)])), (uR 1, .inl (cI, 32, .inl (aN (fun _ => 0)))), (uR 2, .inl (cI, 32, .inl (aN (fun _ => 0)))), (uR 3, .inl (cI, 32, .inl (aZ (fun _ => 0)))), (uR 4, .inl (cI, 32, .inl (aZ (fun _ => 0)))), (uR 5, .inl (cZ, 32, .inl (aN (fun _ => 0)))), (uR 6, .inl (cI, 32, .inl (aZ (fun _ => 0)))), (uR 7, .inl (cI, 32, .inl (aN (fun _ => 0)))), (uR 8, .inl (cI, 32, .inl (aN (fun _ => 0)))), (uR 9, .inl (cI, 9, .inl (aN (fun _ => 0))))] := hDn
  have hS := hSn
  refine W.widen (k := 10) (n := 277) (by omega) (by omega) ?_
  refine va_putF (D := (dC, dI)) (ci := 3) (v := .ref (uR 0)) (ty := .object "ScanRows$Rows") (C := RX3) (T := TX3) (N := 3) hx hb hts inX3 tyX3 tyX3_ok nmX3 hown hK hP hD hS 0 rfl rfl 0 (by decide) (hts _ tw_131) (fun _ h9 => h9) rfl hin rfl (by decide +kernel) rfl rfl (Nat.le_of_ble_eq_true rfl) dX3_init_12 (fun H locs hP hD hS => ?_)
  have hP : va_P (dC, dI) vwCl [(h0, .inr (3, [.ref (uR 0), .null, .null])), (uR 0, .inr (2, [.int (nI 0), .int (nI 0), .int (nI 0), .ref (uR 1), .ref (uR 2), .ref (uR 3), .ref (uR 4), .ref (uR 5), .ref (uR 6), .ref (uR 7), .ref (uR 8), .ref (uR 9)])), (uR 1, .inl (cI, 32, .inl (aN (fun _ => 0)))), (uR 2, .inl (cI, 32, .inl (aN (fun _ => 0)))), (uR 3, .inl (cI, 32, .inl (aZ (fun _ => 0)))), (uR 4, .inl (cI, 32, .inl (aZ (fun _ => 0)))), (uR 5, .inl (cZ, 32, .inl (aN (fun _ => 0)))), (uR 6, .inl (cI, 32, .inl (aZ (fun _ => 0)))), (uR 7, .inl (cI, 32, .inl (aN (fun _ => 0)))), (uR 8, .inl (cI, 32, .inl (aN (fun _ => 0)))), (uR 9, .inl (cI, 9, .inl (aN (fun _ => 0))))] H := hP
  have hD : va_D A [(h0, .inr (3, [.ref (uR 0), .null, .null])), (uR 0, .inr (2, [.int (nI 0), .int (nI 0), .int (nI 0), .ref (uR 1), .ref (uR 2), .ref (uR 3), .ref (uR 4), .ref (uR 5), .ref (uR 6), .ref (uR 7), .ref (uR 8), .ref (uR 9)])), (uR 1, .inl (cI, 32, .inl (aN (fun _ => 0)))), (uR 2, .inl (cI, 32, .inl (aN (fun _ => 0)))), (uR 3, .inl (cI, 32, .inl (aZ (fun _ => 0)))), (uR 4, .inl (cI, 32, .inl (aZ (fun _ => 0)))), (uR 5, .inl (cZ, 32, .inl (aN (fun _ => 0)))), (uR 6, .inl (cI, 32, .inl (aZ (fun _ => 0)))), (uR 7, .inl (cI, 32, .inl (aN (fun _ => 0)))), (uR 8, .inl (cI, 32, .inl (aN (fun _ => 0)))), (uR 9, .inl (cI, 9, .inl (aN (fun _ => 0))))] := hD
  refine lv_aload_n hx hb dX3_init_15 rfl (lv_at hl 0 rfl) ?_
  refine va_new (ci := 1) (fs := [.int (nI 0), .null, .null, .null, .null]) (C := RX1) (T := TX1) (N := 5) hx hb hts inX1 tyX1 tyX1_ok hown (hts _ tw_70) (hts _ tw_71) (hts _ tw_3) hK hP hD hS hA rfl (fun j hj => by match j, hj with | 0, _ => rfl | 1, _ => rfl | 2, _ => rfl | 3, _ => rfl | 4, _ => rfl | k + 5, h => exact absurd h (by omega)) (Nat.le_of_ble_eq_true rfl) (Nat.le_of_ble_eq_true rfl) dX3_init_16 (fun a11 H hP hD hS => ?_)
  have hP : va_P (dC, dI) vwCl [(h0, .inr (3, [.ref (uR 0), .null, .null])), (uR 0, .inr (2, [.int (nI 0), .int (nI 0), .int (nI 0), .ref (uR 1), .ref (uR 2), .ref (uR 3), .ref (uR 4), .ref (uR 5), .ref (uR 6), .ref (uR 7), .ref (uR 8), .ref (uR 9)])), (uR 1, .inl (cI, 32, .inl (aN (fun _ => 0)))), (uR 2, .inl (cI, 32, .inl (aN (fun _ => 0)))), (uR 3, .inl (cI, 32, .inl (aZ (fun _ => 0)))), (uR 4, .inl (cI, 32, .inl (aZ (fun _ => 0)))), (uR 5, .inl (cZ, 32, .inl (aN (fun _ => 0)))), (uR 6, .inl (cI, 32, .inl (aZ (fun _ => 0)))), (uR 7, .inl (cI, 32, .inl (aN (fun _ => 0)))), (uR 8, .inl (cI, 32, .inl (aN (fun _ => 0)))), (uR 9, .inl (cI, 9, .inl (aN (fun _ => 0)))), (a11, .inr (1, [.int (nI 0), .null, .null, .null, .null]))] H := hP
  have hD : va_D A [(h0, .inr (3, [.ref (uR 0), .null, .null])), (uR 0, .inr (2, [.int (nI 0), .int (nI 0), .int (nI 0), .ref (uR 1), .ref (uR 2), .ref (uR 3), .ref (uR 4), .ref (uR 5), .ref (uR 6), .ref (uR 7), .ref (uR 8), .ref (uR 9)])), (uR 1, .inl (cI, 32, .inl (aN (fun _ => 0)))), (uR 2, .inl (cI, 32, .inl (aN (fun _ => 0)))), (uR 3, .inl (cI, 32, .inl (aZ (fun _ => 0)))), (uR 4, .inl (cI, 32, .inl (aZ (fun _ => 0)))), (uR 5, .inl (cZ, 32, .inl (aN (fun _ => 0)))), (uR 6, .inl (cI, 32, .inl (aZ (fun _ => 0)))), (uR 7, .inl (cI, 32, .inl (aN (fun _ => 0)))), (uR 8, .inl (cI, 32, .inl (aN (fun _ => 0)))), (uR 9, .inl (cI, 9, .inl (aN (fun _ => 0)))), (a11, .inr (1, [.int (nI 0), .null, .null, .null, .null]))] := hD
  refine W.widen (k := 11) (n := 282) (by omega) (by omega) ?_
  refine lv_dup hx hb dX3_init_19 rfl ?_
  refine xc_Iv (As := []) (wr := [(h0, .inr (3, [.ref (uR 0), .null, .null])), (uR 0, .inr (2, [.int (nI 0), .int (nI 0), .int (nI 0), .ref (uR 1), .ref (uR 2), .ref (uR 3), .ref (uR 4), .ref (uR 5), .ref (uR 6), .ref (uR 7), .ref (uR 8), .ref (uR 9)])), (uR 1, .inl (cI, 32, .inl (aN (fun _ => 0)))), (uR 2, .inl (cI, 32, .inl (aN (fun _ => 0)))), (uR 3, .inl (cI, 32, .inl (aZ (fun _ => 0)))), (uR 4, .inl (cI, 32, .inl (aZ (fun _ => 0)))), (uR 5, .inl (cZ, 32, .inl (aN (fun _ => 0)))), (uR 6, .inl (cI, 32, .inl (aZ (fun _ => 0)))), (uR 7, .inl (cI, 32, .inl (aN (fun _ => 0)))), (uR 8, .inl (cI, 32, .inl (aN (fun _ => 0)))), (uR 9, .inl (cI, 9, .inl (aN (fun _ => 0))))]) ⟨hx, hb, hml, hown, hts⟩ (c_Cells_init l dC dI cI cZ H.size a11 ) (cwI 0 hts (gA tw_74) rfl rfl rfl (hts _ tw_3) (hts _ tw_72) (hts _ tw_73) rfl (by decide +kernel) ⟨Nat.le_of_ble_eq_true rfl, Nat.le_of_ble_eq_true rfl⟩) rfl hl.1 rfl (Nat.le_of_ble_eq_true rfl) dX3_init_20 ⟨Nat.le_of_ble_eq_true rfl, Nat.le_of_ble_eq_true rfl⟩ hP hD hK hS hA [11] [0, 1, 2, 3, 4, 5, 6, 7, 8, 9, 10] rfl rfl (by decide) (by decide) (by decide) [0, 1] rfl eT_M trivial (fun uC H locs hw20 hPn hDn hSn => ?_)
  obtain rfl := hw20
  have hP : va_P (dC, dI) vwCl [(h0, .inr (3, [.ref (uR 0), .null, .null])), (uR 0, .inr (2, [.int (nI 0), .int (nI 0), .int (nI 0), .ref (uR 1), .ref (uR 2), .ref (uR 3), .ref (uR 4), .ref (uR 5), .ref (uR 6), .ref (uR 7), .ref (uR 8), .ref (uR 9)])), (uR 1, .inl (cI, 32, .inl (aN (fun _ => 0)))), (uR 2, .inl (cI, 32, .inl (aN (fun _ => 0)))), (uR 3, .inl (cI, 32, .inl (aZ (fun _ => 0)))), (uR 4, .inl (cI, 32, .inl (aZ (fun _ => 0)))), (uR 5, .inl (cZ, 32, .inl (aN (fun _ => 0)))), (uR 6, .inl (cI, 32, .inl (aZ (fun _ => 0)))), (uR 7, .inl (cI, 32, .inl (aN (fun _ => 0)))), (uR 8, .inl (cI, 32, .inl (aN (fun _ => 0)))), (uR 9, .inl (cI, 9, .inl (aN (fun _ => 0)))), (uC 10, .inr (1, [.int (nI 0), .ref (uC 11), .ref (uC 12), .ref (uC 13), .ref (uC 14)])), (uC 11, .inl (cI, 20, .inl (aN (fun _ => 0)))), (uC 12, .inl (cI, 20, .inl (aN (fun _ => 0)))), (uC 13, .inl (cI, 20, .inl (aN (fun _ => 0)))), (uC 14, .inl (cI, 20, .inl (aN (fun _ => 0))))] H := hPn
  have hD : va_D A [(h0, .inr (3, [.ref (uR 0), .null, .null])), (uR 0, .inr (2, [.int (nI 0), .int (nI 0), .int (nI 0), .ref (uR 1), .ref (uR 2), .ref (uR 3), .ref (uR 4), .ref (uR 5), .ref (uR 6), .ref (uR 7), .ref (uR 8), .ref (uR 9)])), (uR 1, .inl (cI, 32, .inl (aN (fun _ => 0)))), (uR 2, .inl (cI, 32, .inl (aN (fun _ => 0)))), (uR 3, .inl (cI, 32, .inl (aZ (fun _ => 0)))), (uR 4, .inl (cI, 32, .inl (aZ (fun _ => 0)))), (uR 5, .inl (cZ, 32, .inl (aN (fun _ => 0)))), (uR 6, .inl (cI, 32, .inl (aZ (fun _ => 0)))), (uR 7, .inl (cI, 32, .inl (aN (fun _ => 0)))), (uR 8, .inl (cI, 32, .inl (aN (fun _ => 0)))), (uR 9, .inl (cI, 9, .inl (aN (fun _ => 0)))), (uC 10, .inr (1, [.int (nI 0), .ref (uC 11), .ref (uC 12), .ref (uC 13), .ref (uC 14)])), (uC 11, .inl (cI, 20, .inl (aN (fun _ => 0)))), (uC 12, .inl (cI, 20, .inl (aN (fun _ => 0)))), (uC 13, .inl (cI, 20, .inl (aN (fun _ => 0)))), (uC 14, .inl (cI, 20, .inl (aN (fun _ => 0))))] := hDn
  have hS := hSn
  refine W.widen (k := 15) (n := 362) (by omega) (by omega) ?_
  refine va_putF (D := (dC, dI)) (ci := 3) (v := .ref (uC 10)) (ty := .object "ScanRows$Cells") (C := RX3) (T := TX3) (N := 3) hx hb hts inX3 tyX3 tyX3_ok nmX3 hown hK hP hD hS 0 rfl rfl 1 (by decide) (hts _ tw_132) (fun _ h9 => h9) rfl hin rfl (by decide +kernel) rfl rfl (Nat.le_of_ble_eq_true rfl) dX3_init_23 (fun H locs hP hD hS => ?_)
  have hP : va_P (dC, dI) vwCl [(h0, .inr (3, [.ref (uR 0), .ref (uC 10), .null])), (uR 0, .inr (2, [.int (nI 0), .int (nI 0), .int (nI 0), .ref (uR 1), .ref (uR 2), .ref (uR 3), .ref (uR 4), .ref (uR 5), .ref (uR 6), .ref (uR 7), .ref (uR 8), .ref (uR 9)])), (uR 1, .inl (cI, 32, .inl (aN (fun _ => 0)))), (uR 2, .inl (cI, 32, .inl (aN (fun _ => 0)))), (uR 3, .inl (cI, 32, .inl (aZ (fun _ => 0)))), (uR 4, .inl (cI, 32, .inl (aZ (fun _ => 0)))), (uR 5, .inl (cZ, 32, .inl (aN (fun _ => 0)))), (uR 6, .inl (cI, 32, .inl (aZ (fun _ => 0)))), (uR 7, .inl (cI, 32, .inl (aN (fun _ => 0)))), (uR 8, .inl (cI, 32, .inl (aN (fun _ => 0)))), (uR 9, .inl (cI, 9, .inl (aN (fun _ => 0)))), (uC 10, .inr (1, [.int (nI 0), .ref (uC 11), .ref (uC 12), .ref (uC 13), .ref (uC 14)])), (uC 11, .inl (cI, 20, .inl (aN (fun _ => 0)))), (uC 12, .inl (cI, 20, .inl (aN (fun _ => 0)))), (uC 13, .inl (cI, 20, .inl (aN (fun _ => 0)))), (uC 14, .inl (cI, 20, .inl (aN (fun _ => 0))))] H := hP
  have hD : va_D A [(h0, .inr (3, [.ref (uR 0), .ref (uC 10), .null])), (uR 0, .inr (2, [.int (nI 0), .int (nI 0), .int (nI 0), .ref (uR 1), .ref (uR 2), .ref (uR 3), .ref (uR 4), .ref (uR 5), .ref (uR 6), .ref (uR 7), .ref (uR 8), .ref (uR 9)])), (uR 1, .inl (cI, 32, .inl (aN (fun _ => 0)))), (uR 2, .inl (cI, 32, .inl (aN (fun _ => 0)))), (uR 3, .inl (cI, 32, .inl (aZ (fun _ => 0)))), (uR 4, .inl (cI, 32, .inl (aZ (fun _ => 0)))), (uR 5, .inl (cZ, 32, .inl (aN (fun _ => 0)))), (uR 6, .inl (cI, 32, .inl (aZ (fun _ => 0)))), (uR 7, .inl (cI, 32, .inl (aN (fun _ => 0)))), (uR 8, .inl (cI, 32, .inl (aN (fun _ => 0)))), (uR 9, .inl (cI, 9, .inl (aN (fun _ => 0)))), (uC 10, .inr (1, [.int (nI 0), .ref (uC 11), .ref (uC 12), .ref (uC 13), .ref (uC 14)])), (uC 11, .inl (cI, 20, .inl (aN (fun _ => 0)))), (uC 12, .inl (cI, 20, .inl (aN (fun _ => 0)))), (uC 13, .inl (cI, 20, .inl (aN (fun _ => 0)))), (uC 14, .inl (cI, 20, .inl (aN (fun _ => 0))))] := hD
  refine lv_aload_n hx hb dX3_init_26 rfl (lv_at hl 0 rfl) ?_
  refine va_new (ci := 0) (fs := [.int (nI 0), .int (nI 0), .int (nI 0), .null, .null, .int (nI 0), .int (nI 0), .int (nI 0), .null]) (C := RX0) (T := TX0) (N := 9) hx hb hts inX0 tyX0 tyX0_ok hown (hts _ tw_95) (hts _ tw_96) (hts _ tw_4) hK hP hD hS hA rfl (fun j hj => by match j, hj with | 0, _ => rfl | 1, _ => rfl | 2, _ => rfl | 3, _ => rfl | 4, _ => rfl | 5, _ => rfl | 6, _ => rfl | 7, _ => rfl | 8, _ => rfl | k + 9, h => exact absurd h (by omega)) (Nat.le_of_ble_eq_true rfl) (Nat.le_of_ble_eq_true rfl) dX3_init_27 (fun a16 H hP hD hS => ?_)
  have hP : va_P (dC, dI) vwCl [(h0, .inr (3, [.ref (uR 0), .ref (uC 10), .null])), (uR 0, .inr (2, [.int (nI 0), .int (nI 0), .int (nI 0), .ref (uR 1), .ref (uR 2), .ref (uR 3), .ref (uR 4), .ref (uR 5), .ref (uR 6), .ref (uR 7), .ref (uR 8), .ref (uR 9)])), (uR 1, .inl (cI, 32, .inl (aN (fun _ => 0)))), (uR 2, .inl (cI, 32, .inl (aN (fun _ => 0)))), (uR 3, .inl (cI, 32, .inl (aZ (fun _ => 0)))), (uR 4, .inl (cI, 32, .inl (aZ (fun _ => 0)))), (uR 5, .inl (cZ, 32, .inl (aN (fun _ => 0)))), (uR 6, .inl (cI, 32, .inl (aZ (fun _ => 0)))), (uR 7, .inl (cI, 32, .inl (aN (fun _ => 0)))), (uR 8, .inl (cI, 32, .inl (aN (fun _ => 0)))), (uR 9, .inl (cI, 9, .inl (aN (fun _ => 0)))), (uC 10, .inr (1, [.int (nI 0), .ref (uC 11), .ref (uC 12), .ref (uC 13), .ref (uC 14)])), (uC 11, .inl (cI, 20, .inl (aN (fun _ => 0)))), (uC 12, .inl (cI, 20, .inl (aN (fun _ => 0)))), (uC 13, .inl (cI, 20, .inl (aN (fun _ => 0)))), (uC 14, .inl (cI, 20, .inl (aN (fun _ => 0)))), (a16, .inr (0, [.int (nI 0), .int (nI 0), .int (nI 0), .null, .null, .int (nI 0), .int (nI 0), .int (nI 0), .null]))] H := hP
  have hD : va_D A [(h0, .inr (3, [.ref (uR 0), .ref (uC 10), .null])), (uR 0, .inr (2, [.int (nI 0), .int (nI 0), .int (nI 0), .ref (uR 1), .ref (uR 2), .ref (uR 3), .ref (uR 4), .ref (uR 5), .ref (uR 6), .ref (uR 7), .ref (uR 8), .ref (uR 9)])), (uR 1, .inl (cI, 32, .inl (aN (fun _ => 0)))), (uR 2, .inl (cI, 32, .inl (aN (fun _ => 0)))), (uR 3, .inl (cI, 32, .inl (aZ (fun _ => 0)))), (uR 4, .inl (cI, 32, .inl (aZ (fun _ => 0)))), (uR 5, .inl (cZ, 32, .inl (aN (fun _ => 0)))), (uR 6, .inl (cI, 32, .inl (aZ (fun _ => 0)))), (uR 7, .inl (cI, 32, .inl (aN (fun _ => 0)))), (uR 8, .inl (cI, 32, .inl (aN (fun _ => 0)))), (uR 9, .inl (cI, 9, .inl (aN (fun _ => 0)))), (uC 10, .inr (1, [.int (nI 0), .ref (uC 11), .ref (uC 12), .ref (uC 13), .ref (uC 14)])), (uC 11, .inl (cI, 20, .inl (aN (fun _ => 0)))), (uC 12, .inl (cI, 20, .inl (aN (fun _ => 0)))), (uC 13, .inl (cI, 20, .inl (aN (fun _ => 0)))), (uC 14, .inl (cI, 20, .inl (aN (fun _ => 0)))), (a16, .inr (0, [.int (nI 0), .int (nI 0), .int (nI 0), .null, .null, .int (nI 0), .int (nI 0), .int (nI 0), .null]))] := hD
  refine W.widen (k := 16) (n := 371) (by omega) (by omega) ?_
  refine lv_dup hx hb dX3_init_30 rfl ?_
  refine lv_iload_n hx hb dX3_init_31 rfl (lv_at hl 1 rfl) ?_
  refine lv_aload_n hx hb dX3_init_32 rfl (lv_at hl 0 rfl) ?_
  refine va_get (D := (dC, dI)) (ci := 3) (v := .ref (uR 0)) (C := RX3) (T := TX3) (N := 3) hx hb hts inX3 hown hK hP 0 rfl rfl 0 (by decide) (hts _ tw_131) (fun _ h9 => h9) rfl dX3_init_33 ?_
  refine lv_aload_n hx hb dX3_init_36 rfl (lv_at hl 0 rfl) ?_
  refine va_get (D := (dC, dI)) (ci := 3) (v := .ref (uC 10)) (C := RX3) (T := TX3) (N := 3) hx hb hts inX3 hown hK hP 0 rfl rfl 1 (by decide) (hts _ tw_132) (fun _ h9 => h9) rfl dX3_init_37 ?_
  refine xc_Iv (As := [.int nu, .ref (uR 0), .ref (uC 10)]) (wr := [(h0, .inr (3, [.ref (uR 0), .ref (uC 10), .null])), (uR 0, .inr (2, [.int (nI 0), .int (nI 0), .int (nI 0), .ref (uR 1), .ref (uR 2), .ref (uR 3), .ref (uR 4), .ref (uR 5), .ref (uR 6), .ref (uR 7), .ref (uR 8), .ref (uR 9)])), (uR 1, .inl (cI, 32, .inl (aN (fun _ => 0)))), (uR 2, .inl (cI, 32, .inl (aN (fun _ => 0)))), (uR 3, .inl (cI, 32, .inl (aZ (fun _ => 0)))), (uR 4, .inl (cI, 32, .inl (aZ (fun _ => 0)))), (uR 5, .inl (cZ, 32, .inl (aN (fun _ => 0)))), (uR 6, .inl (cI, 32, .inl (aZ (fun _ => 0)))), (uR 7, .inl (cI, 32, .inl (aN (fun _ => 0)))), (uR 8, .inl (cI, 32, .inl (aN (fun _ => 0)))), (uR 9, .inl (cI, 9, .inl (aN (fun _ => 0)))), (uC 10, .inr (1, [.int (nI 0), .ref (uC 11), .ref (uC 12), .ref (uC 13), .ref (uC 14)])), (uC 11, .inl (cI, 20, .inl (aN (fun _ => 0)))), (uC 12, .inl (cI, 20, .inl (aN (fun _ => 0)))), (uC 13, .inl (cI, 20, .inl (aN (fun _ => 0)))), (uC 14, .inl (cI, 20, .inl (aN (fun _ => 0))))]) ⟨hx, hb, hml, hown, hts⟩ (c_Access_init l dC dI cI cZ H.size a16 nu (uR 0) (uC 10)) (cwI 3 hts (gA tw_99) rfl rfl rfl (hts _ tw_4) (hts _ tw_97) (hts _ tw_98) rfl (by decide +kernel) ⟨Nat.le_of_ble_eq_true rfl, Nat.le_of_ble_eq_true rfl⟩) rfl hl.1 rfl (Nat.le_of_ble_eq_true rfl) dX3_init_40 ⟨Nat.le_of_ble_eq_true rfl, Nat.le_of_ble_eq_true rfl⟩ hP hD hK hS hA [16] [0, 1, 2, 3, 4, 5, 6, 7, 8, 9, 10, 11, 12, 13, 14, 15] rfl rfl (by decide) (by decide) (by decide) [0, 1] rfl eT_M trivial (fun uT H locs hw40 hPn hDn hSn => ?_)
  have hP : va_P (dC, dI) vwCl [(h0, .inr (3, [.ref (uR 0), .ref (uC 10), .null])), (uR 0, .inr (2, [.int (nI 0), .int (nI 0), .int (nI 0), .ref (uR 1), .ref (uR 2), .ref (uR 3), .ref (uR 4), .ref (uR 5), .ref (uR 6), .ref (uR 7), .ref (uR 8), .ref (uR 9)])), (uR 1, .inl (cI, 32, .inl (aN (fun _ => 0)))), (uR 2, .inl (cI, 32, .inl (aN (fun _ => 0)))), (uR 3, .inl (cI, 32, .inl (aZ (fun _ => 0)))), (uR 4, .inl (cI, 32, .inl (aZ (fun _ => 0)))), (uR 5, .inl (cZ, 32, .inl (aN (fun _ => 0)))), (uR 6, .inl (cI, 32, .inl (aZ (fun _ => 0)))), (uR 7, .inl (cI, 32, .inl (aN (fun _ => 0)))), (uR 8, .inl (cI, 32, .inl (aN (fun _ => 0)))), (uR 9, .inl (cI, 9, .inl (aN (fun _ => 0)))), (uC 10, .inr (1, [.int (nI 0), .ref (uC 11), .ref (uC 12), .ref (uC 13), .ref (uC 14)])), (uC 11, .inl (cI, 20, .inl (aN (fun _ => 0)))), (uC 12, .inl (cI, 20, .inl (aN (fun _ => 0)))), (uC 13, .inl (cI, 20, .inl (aN (fun _ => 0)))), (uC 14, .inl (cI, 20, .inl (aN (fun _ => 0)))), (a16, .inr (0, [.int (nI 0), .int (nI 2), .int nu, .ref (uR 0), .ref (uC 10), .int (nI 0), .int (nI 0), .int (nI 0), .ref uT])), (uT, .inl (cI, 16, .inl (aN (fun _ => 0))))] H := hPn
  have hD : va_D A [(h0, .inr (3, [.ref (uR 0), .ref (uC 10), .null])), (uR 0, .inr (2, [.int (nI 0), .int (nI 0), .int (nI 0), .ref (uR 1), .ref (uR 2), .ref (uR 3), .ref (uR 4), .ref (uR 5), .ref (uR 6), .ref (uR 7), .ref (uR 8), .ref (uR 9)])), (uR 1, .inl (cI, 32, .inl (aN (fun _ => 0)))), (uR 2, .inl (cI, 32, .inl (aN (fun _ => 0)))), (uR 3, .inl (cI, 32, .inl (aZ (fun _ => 0)))), (uR 4, .inl (cI, 32, .inl (aZ (fun _ => 0)))), (uR 5, .inl (cZ, 32, .inl (aN (fun _ => 0)))), (uR 6, .inl (cI, 32, .inl (aZ (fun _ => 0)))), (uR 7, .inl (cI, 32, .inl (aN (fun _ => 0)))), (uR 8, .inl (cI, 32, .inl (aN (fun _ => 0)))), (uR 9, .inl (cI, 9, .inl (aN (fun _ => 0)))), (uC 10, .inr (1, [.int (nI 0), .ref (uC 11), .ref (uC 12), .ref (uC 13), .ref (uC 14)])), (uC 11, .inl (cI, 20, .inl (aN (fun _ => 0)))), (uC 12, .inl (cI, 20, .inl (aN (fun _ => 0)))), (uC 13, .inl (cI, 20, .inl (aN (fun _ => 0)))), (uC 14, .inl (cI, 20, .inl (aN (fun _ => 0)))), (a16, .inr (0, [.int (nI 0), .int (nI 2), .int nu, .ref (uR 0), .ref (uC 10), .int (nI 0), .int (nI 0), .int (nI 0), .ref uT])), (uT, .inl (cI, 16, .inl (aN (fun _ => 0))))] := hDn
  have hS := hSn
  refine W.widen (k := 17) (n := 387) (by omega) (by omega) ?_
  refine va_putF (D := (dC, dI)) (ci := 3) (v := .ref a16) (ty := .object "ScanRows$Access") (C := RX3) (T := TX3) (N := 3) hx hb hts inX3 tyX3 tyX3_ok nmX3 hown hK hP hD hS 0 rfl rfl 2 (by decide) (hts _ tw_133) (fun _ h9 => h9) rfl hin rfl (by decide +kernel) rfl rfl (Nat.le_of_ble_eq_true rfl) dX3_init_43 (fun H locs hP hD hS => ?_)
  have hP : va_P (dC, dI) vwCl [(h0, .inr (3, [.ref (uR 0), .ref (uC 10), .ref a16])), (uR 0, .inr (2, [.int (nI 0), .int (nI 0), .int (nI 0), .ref (uR 1), .ref (uR 2), .ref (uR 3), .ref (uR 4), .ref (uR 5), .ref (uR 6), .ref (uR 7), .ref (uR 8), .ref (uR 9)])), (uR 1, .inl (cI, 32, .inl (aN (fun _ => 0)))), (uR 2, .inl (cI, 32, .inl (aN (fun _ => 0)))), (uR 3, .inl (cI, 32, .inl (aZ (fun _ => 0)))), (uR 4, .inl (cI, 32, .inl (aZ (fun _ => 0)))), (uR 5, .inl (cZ, 32, .inl (aN (fun _ => 0)))), (uR 6, .inl (cI, 32, .inl (aZ (fun _ => 0)))), (uR 7, .inl (cI, 32, .inl (aN (fun _ => 0)))), (uR 8, .inl (cI, 32, .inl (aN (fun _ => 0)))), (uR 9, .inl (cI, 9, .inl (aN (fun _ => 0)))), (uC 10, .inr (1, [.int (nI 0), .ref (uC 11), .ref (uC 12), .ref (uC 13), .ref (uC 14)])), (uC 11, .inl (cI, 20, .inl (aN (fun _ => 0)))), (uC 12, .inl (cI, 20, .inl (aN (fun _ => 0)))), (uC 13, .inl (cI, 20, .inl (aN (fun _ => 0)))), (uC 14, .inl (cI, 20, .inl (aN (fun _ => 0)))), (a16, .inr (0, [.int (nI 0), .int (nI 2), .int nu, .ref (uR 0), .ref (uC 10), .int (nI 0), .int (nI 0), .int (nI 0), .ref uT])), (uT, .inl (cI, 16, .inl (aN (fun _ => 0))))] H := hP
  have hD : va_D A [(h0, .inr (3, [.ref (uR 0), .ref (uC 10), .ref a16])), (uR 0, .inr (2, [.int (nI 0), .int (nI 0), .int (nI 0), .ref (uR 1), .ref (uR 2), .ref (uR 3), .ref (uR 4), .ref (uR 5), .ref (uR 6), .ref (uR 7), .ref (uR 8), .ref (uR 9)])), (uR 1, .inl (cI, 32, .inl (aN (fun _ => 0)))), (uR 2, .inl (cI, 32, .inl (aN (fun _ => 0)))), (uR 3, .inl (cI, 32, .inl (aZ (fun _ => 0)))), (uR 4, .inl (cI, 32, .inl (aZ (fun _ => 0)))), (uR 5, .inl (cZ, 32, .inl (aN (fun _ => 0)))), (uR 6, .inl (cI, 32, .inl (aZ (fun _ => 0)))), (uR 7, .inl (cI, 32, .inl (aN (fun _ => 0)))), (uR 8, .inl (cI, 32, .inl (aN (fun _ => 0)))), (uR 9, .inl (cI, 9, .inl (aN (fun _ => 0)))), (uC 10, .inr (1, [.int (nI 0), .ref (uC 11), .ref (uC 12), .ref (uC 13), .ref (uC 14)])), (uC 11, .inl (cI, 20, .inl (aN (fun _ => 0)))), (uC 12, .inl (cI, 20, .inl (aN (fun _ => 0)))), (uC 13, .inl (cI, 20, .inl (aN (fun _ => 0)))), (uC 14, .inl (cI, 20, .inl (aN (fun _ => 0)))), (a16, .inr (0, [.int (nI 0), .int (nI 2), .int nu, .ref (uR 0), .ref (uC 10), .int (nI 0), .int (nI 0), .int (nI 0), .ref uT])), (uT, .inl (cI, 16, .inl (aN (fun _ => 0))))] := hD
  have hP : va_P (dC, dI) vwCl (wX (fun k => [uR 0, uR 1, uR 2, uR 3, uR 4, uR 5, uR 6, uR 7, uR 8, uR 9, uC 10, uC 11, uC 12, uC 13, uC 14, a16, uT, h0].getD k 0) cI cZ r0 k0 (a00 nu)) H := hP.sub [1, 2, 3, 4, 5, 6, 7, 8, 9, 10, 11, 12, 13, 14, 15, 16, 17, 0] rfl
  have hD : va_D A (wX (fun k => [uR 0, uR 1, uR 2, uR 3, uR 4, uR 5, uR 6, uR 7, uR 8, uR 9, uC 10, uC 11, uC 12, uC 13, uC 14, a16, uT, h0].getD k 0) cI cZ r0 k0 (a00 nu)) := hD.sub [1, 2, 3, 4, 5, 6, 7, 8, 9, 10, 11, 12, 13, 14, 15, 16, 17, 0] (by decide) rfl
  exact xr_v (w1 := fun (u : Nat → Nat) => wX u cI cZ r0 k0 (a00 nu)) hx hb hr hlk (u := fun k => [uR 0, uR 1, uR 2, uR 3, uR 4, uR 5, uR 6, uR 7, uR 8, uR 9, uC 10, uC 11, uC 12, uC 13, uC 14, a16, uT, h0].getD k 0) (rfl) hP hK hD hS dX3_init_46
