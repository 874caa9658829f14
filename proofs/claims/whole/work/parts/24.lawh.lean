abbrev OS : Type := (Nat → Int64)
abbrev OS.o (r : OS) : Nat → Int64 := r
abbrev OS.s_o (r : OS) (v : Nat → Int64) : OS := (v)
abbrev wO (cJ : ClassId) (ao : Nat) (o : OS) : va_W := [(ao, .inl (cJ, 1, .inr (.inl o)))]
abbrev wH (q : Nat → Nat) (cI cZ cJ : ClassId) (ao : Nat) (r : RS) (k : CS) (a : AS) (o : OS) : va_W := [(q 0, .inr (2, [.int (nI (RS.n r)), .int (nI (RS.c r)), .int (nI (RS.p r)), .ref (q 1), .ref (q 2), .ref (q 3), .ref (q 4), .ref (q 5), .ref (q 6), .ref (q 7), .ref (q 8), .ref (q 9)])), (q 1, .inl (cI, 32, .inl (aN (RS.vb r)))), (q 2, .inl (cI, 32, .inl (aN (RS.ck r)))), (q 3, .inl (cI, 32, .inl (aZ (RS.xx r)))), (q 4, .inl (cI, 32, .inl (aZ (RS.yy r)))), (q 5, .inl (cZ, 32, .inl (aN (RS.fl r)))), (q 6, .inl (cI, 32, .inl (aZ (RS.po r)))), (q 7, .inl (cI, 32, .inl (aN (RS.rw r)))), (q 8, .inl (cI, 32, .inl (aN (RS.ch r)))), (q 9, .inl (cI, 9, .inl (aN (RS.st r)))), (q 10, .inr (1, [.int (nI (CS.n k)), .ref (q 11), .ref (q 12), .ref (q 13), .ref (q 14)])), (q 11, .inl (cI, 20, .inl (aN (CS.pin k)))), (q 12, .inl (cI, 20, .inl (aN (CS.ki k)))), (q 13, .inl (cI, 20, .inl (aN (CS.he k)))), (q 14, .inl (cI, 20, .inl (aN (CS.ir k)))), (q 15, .inr (0, [.int (nI (AS.st a)), .int (nI (AS.co a)), .int (AS.nu a), .ref (q 0), .ref (q 10), .int (nI (AS.cr a)), .int (AS.nr a), .int (nI (AS.by_ a)), .ref (q 16)])), (q 16, .inl (cI, 16, .inl (aN (AS.tk a)))), (q 17, .inr (3, [.ref (q 0), .ref (q 10), .ref (q 15)])), (ao, .inl (cJ, 1, .inr (.inl o)))]
theorem upL0 (o : Nat → Int64) (x : Int64) : vp_updL o (nI 0).toNatClampNeg x 0 = x := if_pos (by decide)
theorem gSW {own : String} {idx : Nat} {y : MethodName} {w0 : Cond} (h1 : Cond.methodLink own idx y ∈ ALLG) (h2 : Cond.static y ∈ ALLG) (h4 : Cond.initialized y.cls ∈ ALLG) (h5 : w0 ∈ ALLG) : GoodIn ALLG (va_wsS own idx y (w0 :: ALLG)) := by
  refine al_good fun w hw => ?_
  rcases List.mem_append.mp hw with h | h
  · simp only [List.mem_cons, List.not_mem_nil, or_false] at h
    rcases h with rfl | rfl | rfl <;> assumption
  · exact al_c h5 w h
theorem tw_182 : (Cond.classLink "ScanRowsLaw" (13 : Nat) "java/lang/UnsupportedOperationException") ∈ ALLG := al_t (i := 182) (by decide +kernel) (by decide +kernel)
theorem tw_183 : (Cond.classLink "ScanRowsLaw" (15 : Nat) "java/lang/IllegalArgumentException") ∈ ALLG := al_t (i := 183) (by decide +kernel) (by decide +kernel)
theorem tw_184 : (Cond.methodLink "ScanRowsLaw" (7 : Nat) ({ cls := "ScanRows", name := "latch", desc := "(IJJ)I" } : Jvm.MethodName)) ∈ ALLG := al_t (i := 184) (by decide +kernel) (by decide +kernel)
theorem tw_185 : (Cond.instanceMethod ({ cls := "ScanRows", name := "latch", desc := "(IJJ)I" } : Jvm.MethodName)) ∈ ALLG := al_t (i := 185) (by decide +kernel) (by decide +kernel)
theorem tw_186 : (Cond.selects "ScanRows" ({ cls := "ScanRows", name := "latch", desc := "(IJJ)I" } : Jvm.MethodName) ({ cls := "ScanRows", name := "latch", desc := "(IJJ)I" } : Jvm.MethodName)) ∈ ALLG := al_t (i := 186) (by decide +kernel) (by decide +kernel)
theorem tw_187 : (Cond.code ({ cls := "ScanRows", name := "latch", desc := "(IJJ)I" } : Jvm.MethodName) prog_1_method_2_code (6 : Nat) (Option.some FieldType.int)) ∈ ALLG := al_t (i := 187) (by decide +kernel) (by decide +kernel)
theorem tw_282 : (Cond.methodLink "ScanRowsLaw" (17 : Nat) ({ cls := "ScanRows", name := "make", desc := "(I)I" } : Jvm.MethodName)) ∈ ALLG := al_t (i := 282) (by decide +kernel) (by decide +kernel)
theorem tw_283 : (Cond.instanceMethod ({ cls := "ScanRows", name := "make", desc := "(I)I" } : Jvm.MethodName)) ∈ ALLG := al_t (i := 283) (by decide +kernel) (by decide +kernel)
theorem tw_284 : (Cond.selects "ScanRows" ({ cls := "ScanRows", name := "make", desc := "(I)I" } : Jvm.MethodName) ({ cls := "ScanRows", name := "make", desc := "(I)I" } : Jvm.MethodName)) ∈ ALLG := al_t (i := 284) (by decide +kernel) (by decide +kernel)
theorem tw_285 : (Cond.code ({ cls := "ScanRows", name := "make", desc := "(I)I" } : Jvm.MethodName) prog_1_method_3_code (2 : Nat) (Option.some FieldType.int)) ∈ ALLG := al_t (i := 285) (by decide +kernel) (by decide +kernel)
theorem tw_310 : (Cond.classLink "ScanRowsLaw" (25 : Nat) "java/lang/IndexOutOfBoundsException") ∈ ALLG := al_t (i := 310) (by decide +kernel) (by decide +kernel)
theorem tw_311 : (Cond.methodLink "ScanRowsLaw" (21 : Nat) ({ cls := "ScanRows", name := "at", desc := "(II)I" } : Jvm.MethodName)) ∈ ALLG := al_t (i := 311) (by decide +kernel) (by decide +kernel)
theorem tw_312 : (Cond.instanceMethod ({ cls := "ScanRows", name := "at", desc := "(II)I" } : Jvm.MethodName)) ∈ ALLG := al_t (i := 312) (by decide +kernel) (by decide +kernel)
theorem tw_313 : (Cond.selects "ScanRows" ({ cls := "ScanRows", name := "at", desc := "(II)I" } : Jvm.MethodName) ({ cls := "ScanRows", name := "at", desc := "(II)I" } : Jvm.MethodName)) ∈ ALLG := al_t (i := 313) (by decide +kernel) (by decide +kernel)
theorem tw_314 : (Cond.code ({ cls := "ScanRows", name := "at", desc := "(II)I" } : Jvm.MethodName) prog_1_method_4_code (3 : Nat) (Option.some FieldType.int)) ∈ ALLG := al_t (i := 314) (by decide +kernel) (by decide +kernel)
theorem tw_343 : (Cond.methodLink "ScanRowsLaw" (27 : Nat) ({ cls := "ScanRows", name := "lockUp", desc := "(II)Z" } : Jvm.MethodName)) ∈ ALLG := al_t (i := 343) (by decide +kernel) (by decide +kernel)
theorem tw_344 : (Cond.instanceMethod ({ cls := "ScanRows", name := "lockUp", desc := "(II)Z" } : Jvm.MethodName)) ∈ ALLG := al_t (i := 344) (by decide +kernel) (by decide +kernel)
theorem tw_345 : (Cond.selects "ScanRows" ({ cls := "ScanRows", name := "lockUp", desc := "(II)Z" } : Jvm.MethodName) ({ cls := "ScanRows", name := "lockUp", desc := "(II)Z" } : Jvm.MethodName)) ∈ ALLG := al_t (i := 345) (by decide +kernel) (by decide +kernel)
theorem tw_346 : (Cond.code ({ cls := "ScanRows", name := "lockUp", desc := "(II)Z" } : Jvm.MethodName) prog_1_method_5_code (3 : Nat) (Option.some FieldType.boolean)) ∈ ALLG := al_t (i := 346) (by decide +kernel) (by decide +kernel)
theorem tw_354 : (Cond.methodLink "ScanRowsLaw" (31 : Nat) ({ cls := "ScanRows", name := "improve", desc := "(I)I" } : Jvm.MethodName)) ∈ ALLG := al_t (i := 354) (by decide +kernel) (by decide +kernel)
theorem tw_355 : (Cond.instanceMethod ({ cls := "ScanRows", name := "improve", desc := "(I)I" } : Jvm.MethodName)) ∈ ALLG := al_t (i := 355) (by decide +kernel) (by decide +kernel)
theorem tw_356 : (Cond.selects "ScanRows" ({ cls := "ScanRows", name := "improve", desc := "(I)I" } : Jvm.MethodName) ({ cls := "ScanRows", name := "improve", desc := "(I)I" } : Jvm.MethodName)) ∈ ALLG := al_t (i := 356) (by decide +kernel) (by decide +kernel)
theorem tw_357 : (Cond.code ({ cls := "ScanRows", name := "improve", desc := "(I)I" } : Jvm.MethodName) prog_1_method_7_code (2 : Nat) (Option.some FieldType.int)) ∈ ALLG := al_t (i := 357) (by decide +kernel) (by decide +kernel)
theorem tw_386 : (Cond.methodLink "ScanRowsLaw" (34 : Nat) ({ cls := "ScanRows", name := "rule", desc := "(II)I" } : Jvm.MethodName)) ∈ ALLG := al_t (i := 386) (by decide +kernel) (by decide +kernel)
theorem tw_387 : (Cond.instanceMethod ({ cls := "ScanRows", name := "rule", desc := "(II)I" } : Jvm.MethodName)) ∈ ALLG := al_t (i := 387) (by decide +kernel) (by decide +kernel)
theorem tw_388 : (Cond.selects "ScanRows" ({ cls := "ScanRows", name := "rule", desc := "(II)I" } : Jvm.MethodName) ({ cls := "ScanRows", name := "rule", desc := "(II)I" } : Jvm.MethodName)) ∈ ALLG := al_t (i := 388) (by decide +kernel) (by decide +kernel)
theorem tw_389 : (Cond.code ({ cls := "ScanRows", name := "rule", desc := "(II)I" } : Jvm.MethodName) prog_1_method_8_code (3 : Nat) (Option.some FieldType.int)) ∈ ALLG := al_t (i := 389) (by decide +kernel) (by decide +kernel)
theorem tw_402 : (Cond.methodLink "ScanRowsLaw" (37 : Nat) ({ cls := "ScanRows", name := "set", desc := "(IZ)Z" } : Jvm.MethodName)) ∈ ALLG := al_t (i := 402) (by decide +kernel) (by decide +kernel)
theorem tw_403 : (Cond.instanceMethod ({ cls := "ScanRows", name := "set", desc := "(IZ)Z" } : Jvm.MethodName)) ∈ ALLG := al_t (i := 403) (by decide +kernel) (by decide +kernel)
theorem tw_404 : (Cond.selects "ScanRows" ({ cls := "ScanRows", name := "set", desc := "(IZ)Z" } : Jvm.MethodName) ({ cls := "ScanRows", name := "set", desc := "(IZ)Z" } : Jvm.MethodName)) ∈ ALLG := al_t (i := 404) (by decide +kernel) (by decide +kernel)
theorem tw_405 : (Cond.code ({ cls := "ScanRows", name := "set", desc := "(IZ)Z" } : Jvm.MethodName) prog_1_method_9_code (3 : Nat) (Option.some FieldType.boolean)) ∈ ALLG := al_t (i := 405) (by decide +kernel) (by decide +kernel)
theorem tw_418 : (Cond.methodLink "ScanRowsLaw" (41 : Nat) ({ cls := "ScanRows", name := "load", desc := "(II)V" } : Jvm.MethodName)) ∈ ALLG := al_t (i := 418) (by decide +kernel) (by decide +kernel)
theorem tw_419 : (Cond.instanceMethod ({ cls := "ScanRows", name := "load", desc := "(II)V" } : Jvm.MethodName)) ∈ ALLG := al_t (i := 419) (by decide +kernel) (by decide +kernel)
theorem tw_420 : (Cond.selects "ScanRows" ({ cls := "ScanRows", name := "load", desc := "(II)V" } : Jvm.MethodName) ({ cls := "ScanRows", name := "load", desc := "(II)V" } : Jvm.MethodName)) ∈ ALLG := al_t (i := 420) (by decide +kernel) (by decide +kernel)
theorem tw_421 : (Cond.code ({ cls := "ScanRows", name := "load", desc := "(II)V" } : Jvm.MethodName) prog_1_method_10_code (3 : Nat) (Option.none : Option Jvm.ClassFile.FieldType)) ∈ ALLG := al_t (i := 421) (by decide +kernel) (by decide +kernel)
theorem tw_428 : (Cond.methodLink "ScanRowsLaw" (45 : Nat) ({ cls := "ScanRows", name := "value", desc := "(I)I" } : Jvm.MethodName)) ∈ ALLG := al_t (i := 428) (by decide +kernel) (by decide +kernel)
theorem tw_429 : (Cond.instanceMethod ({ cls := "ScanRows", name := "value", desc := "(I)I" } : Jvm.MethodName)) ∈ ALLG := al_t (i := 429) (by decide +kernel) (by decide +kernel)
theorem tw_430 : (Cond.selects "ScanRows" ({ cls := "ScanRows", name := "value", desc := "(I)I" } : Jvm.MethodName) ({ cls := "ScanRows", name := "value", desc := "(I)I" } : Jvm.MethodName)) ∈ ALLG := al_t (i := 430) (by decide +kernel) (by decide +kernel)
theorem tw_431 : (Cond.code ({ cls := "ScanRows", name := "value", desc := "(I)I" } : Jvm.MethodName) prog_1_method_11_code (2 : Nat) (Option.some FieldType.int)) ∈ ALLG := al_t (i := 431) (by decide +kernel) (by decide +kernel)
theorem tw_435 : (Cond.methodLink "ScanRowsLaw" (48 : Nat) ({ cls := "ScanRows", name := "port", desc := "(I)I" } : Jvm.MethodName)) ∈ ALLG := al_t (i := 435) (by decide +kernel) (by decide +kernel)
theorem tw_436 : (Cond.instanceMethod ({ cls := "ScanRows", name := "port", desc := "(I)I" } : Jvm.MethodName)) ∈ ALLG := al_t (i := 436) (by decide +kernel) (by decide +kernel)
theorem tw_437 : (Cond.selects "ScanRows" ({ cls := "ScanRows", name := "port", desc := "(I)I" } : Jvm.MethodName) ({ cls := "ScanRows", name := "port", desc := "(I)I" } : Jvm.MethodName)) ∈ ALLG := al_t (i := 437) (by decide +kernel) (by decide +kernel)
theorem tw_438 : (Cond.code ({ cls := "ScanRows", name := "port", desc := "(I)I" } : Jvm.MethodName) prog_1_method_13_code (2 : Nat) (Option.some FieldType.int)) ∈ ALLG := al_t (i := 438) (by decide +kernel) (by decide +kernel)
theorem tw_448 : (Cond.methodLink "ScanRowsLaw" (51 : Nat) ({ cls := "ScanRows", name := "pin", desc := "(II)V" } : Jvm.MethodName)) ∈ ALLG := al_t (i := 448) (by decide +kernel) (by decide +kernel)
theorem tw_449 : (Cond.instanceMethod ({ cls := "ScanRows", name := "pin", desc := "(II)V" } : Jvm.MethodName)) ∈ ALLG := al_t (i := 449) (by decide +kernel) (by decide +kernel)
theorem tw_450 : (Cond.selects "ScanRows" ({ cls := "ScanRows", name := "pin", desc := "(II)V" } : Jvm.MethodName) ({ cls := "ScanRows", name := "pin", desc := "(II)V" } : Jvm.MethodName)) ∈ ALLG := al_t (i := 450) (by decide +kernel) (by decide +kernel)
theorem tw_451 : (Cond.code ({ cls := "ScanRows", name := "pin", desc := "(II)V" } : Jvm.MethodName) prog_1_method_14_code (3 : Nat) (Option.none : Option Jvm.ClassFile.FieldType)) ∈ ALLG := al_t (i := 451) (by decide +kernel) (by decide +kernel)
theorem tw_460 : (Cond.methodLink "ScanRowsLaw" (54 : Nat) ({ cls := "ScanRows", name := "tick", desc := "(II)I" } : Jvm.MethodName)) ∈ ALLG := al_t (i := 460) (by decide +kernel) (by decide +kernel)
theorem tw_461 : (Cond.instanceMethod ({ cls := "ScanRows", name := "tick", desc := "(II)I" } : Jvm.MethodName)) ∈ ALLG := al_t (i := 461) (by decide +kernel) (by decide +kernel)
theorem tw_462 : (Cond.selects "ScanRows" ({ cls := "ScanRows", name := "tick", desc := "(II)I" } : Jvm.MethodName) ({ cls := "ScanRows", name := "tick", desc := "(II)I" } : Jvm.MethodName)) ∈ ALLG := al_t (i := 462) (by decide +kernel) (by decide +kernel)
theorem tw_463 : (Cond.code ({ cls := "ScanRows", name := "tick", desc := "(II)I" } : Jvm.MethodName) prog_1_method_15_code (3 : Nat) (Option.some FieldType.int)) ∈ ALLG := al_t (i := 463) (by decide +kernel) (by decide +kernel)
theorem tw_522 : (Cond.methodLink "ScanRowsLaw" (57 : Nat) ({ cls := "ScanRows", name := "go", desc := "(I)I" } : Jvm.MethodName)) ∈ ALLG := al_t (i := 522) (by decide +kernel) (by decide +kernel)
theorem tw_523 : (Cond.instanceMethod ({ cls := "ScanRows", name := "go", desc := "(I)I" } : Jvm.MethodName)) ∈ ALLG := al_t (i := 523) (by decide +kernel) (by decide +kernel)
theorem tw_524 : (Cond.selects "ScanRows" ({ cls := "ScanRows", name := "go", desc := "(I)I" } : Jvm.MethodName) ({ cls := "ScanRows", name := "go", desc := "(I)I" } : Jvm.MethodName)) ∈ ALLG := al_t (i := 524) (by decide +kernel) (by decide +kernel)
theorem tw_525 : (Cond.code ({ cls := "ScanRows", name := "go", desc := "(I)I" } : Jvm.MethodName) prog_1_method_17_code (2 : Nat) (Option.some FieldType.int)) ∈ ALLG := al_t (i := 525) (by decide +kernel) (by decide +kernel)
theorem tw_546 : (Cond.methodLink "ScanRowsLaw" (60 : Nat) ({ cls := "ScanRows", name := "boundary", desc := "(I)I" } : Jvm.MethodName)) ∈ ALLG := al_t (i := 546) (by decide +kernel) (by decide +kernel)
theorem tw_547 : (Cond.instanceMethod ({ cls := "ScanRows", name := "boundary", desc := "(I)I" } : Jvm.MethodName)) ∈ ALLG := al_t (i := 547) (by decide +kernel) (by decide +kernel)
theorem tw_548 : (Cond.selects "ScanRows" ({ cls := "ScanRows", name := "boundary", desc := "(I)I" } : Jvm.MethodName) ({ cls := "ScanRows", name := "boundary", desc := "(I)I" } : Jvm.MethodName)) ∈ ALLG := al_t (i := 548) (by decide +kernel) (by decide +kernel)
theorem tw_549 : (Cond.code ({ cls := "ScanRows", name := "boundary", desc := "(I)I" } : Jvm.MethodName) prog_1_method_18_code (2 : Nat) (Option.some FieldType.int)) ∈ ALLG := al_t (i := 549) (by decide +kernel) (by decide +kernel)
theorem tw_557 : (Cond.methodLink "ScanRowsLaw" (63 : Nat) ({ cls := "ScanRows", name := "count", desc := "(I)I" } : Jvm.MethodName)) ∈ ALLG := al_t (i := 557) (by decide +kernel) (by decide +kernel)
theorem tw_558 : (Cond.instanceMethod ({ cls := "ScanRows", name := "count", desc := "(I)I" } : Jvm.MethodName)) ∈ ALLG := al_t (i := 558) (by decide +kernel) (by decide +kernel)
theorem tw_559 : (Cond.selects "ScanRows" ({ cls := "ScanRows", name := "count", desc := "(I)I" } : Jvm.MethodName) ({ cls := "ScanRows", name := "count", desc := "(I)I" } : Jvm.MethodName)) ∈ ALLG := al_t (i := 559) (by decide +kernel) (by decide +kernel)
theorem tw_560 : (Cond.code ({ cls := "ScanRows", name := "count", desc := "(I)I" } : Jvm.MethodName) prog_1_method_19_code (2 : Nat) (Option.some FieldType.int)) ∈ ALLG := al_t (i := 560) (by decide +kernel) (by decide +kernel)
theorem dL_latch_0 : decode cL_latch 0 = .ok (.aload 6, 2) := by decide +kernel
theorem dL_latch_2 : decode cL_latch 2 = .ok (.iconst 0, 1) := by decide +kernel
theorem dL_latch_3 : decode cL_latch 3 = .ok (.aload_n 0, 1) := by decide +kernel
theorem dL_latch_4 : decode cL_latch 4 = .ok (.iload_n 1, 1) := by decide +kernel
theorem dL_latch_5 : decode cL_latch 5 = .ok (.lload_n 2, 1) := by decide +kernel
theorem dL_latch_6 : decode cL_latch 6 = .ok (.lload 4, 2) := by decide +kernel
theorem dL_latch_8 : decode cL_latch 8 = .ok (.invokevirtual 7, 3) := by decide +kernel
theorem dL_latch_11 : decode cL_latch 11 = .ok (.i2l, 1) := by decide +kernel
theorem dL_latch_12 : decode cL_latch 12 = .ok (.lastore, 1) := by decide +kernel
theorem dL_latch_13 : decode cL_latch 13 = .ok (.goto 11, 3) := by decide +kernel
theorem dL_latch_16 : decode cL_latch 16 = .ok (.astore 7, 2) := by decide +kernel
theorem dL_latch_18 : decode cL_latch 18 = .ok (.iconst 1, 1) := by decide +kernel
theorem dL_latch_19 : decode cL_latch 19 = .ok (.ireturn, 1) := by decide +kernel
theorem dL_latch_20 : decode cL_latch 20 = .ok (.astore 7, 2) := by decide +kernel
theorem dL_latch_22 : decode cL_latch 22 = .ok (.iconst 2, 1) := by decide +kernel
theorem dL_latch_23 : decode cL_latch 23 = .ok (.ireturn, 1) := by decide +kernel
theorem dL_latch_24 : decode cL_latch 24 = .ok (.iconst 0, 1) := by decide +kernel
theorem dL_latch_25 : decode cL_latch 25 = .ok (.ireturn, 1) := by decide +kernel
theorem dL_make_0 : decode cL_make 0 = .ok (.aload_n 2, 1) := by decide +kernel
theorem dL_make_1 : decode cL_make 1 = .ok (.iconst 0, 1) := by decide +kernel
theorem dL_make_2 : decode cL_make 2 = .ok (.aload_n 0, 1) := by decide +kernel
theorem dL_make_3 : decode cL_make 3 = .ok (.iload_n 1, 1) := by decide +kernel
theorem dL_make_4 : decode cL_make 4 = .ok (.invokevirtual 17, 3) := by decide +kernel
theorem dL_make_7 : decode cL_make 7 = .ok (.i2l, 1) := by decide +kernel
theorem dL_make_8 : decode cL_make 8 = .ok (.lastore, 1) := by decide +kernel
theorem dL_make_9 : decode cL_make 9 = .ok (.goto 6, 3) := by decide +kernel
theorem dL_make_12 : decode cL_make 12 = .ok (.astore_n 3, 1) := by decide +kernel
theorem dL_make_13 : decode cL_make 13 = .ok (.iconst 1, 1) := by decide +kernel
theorem dL_make_14 : decode cL_make 14 = .ok (.ireturn, 1) := by decide +kernel
theorem dL_make_15 : decode cL_make 15 = .ok (.iconst 0, 1) := by decide +kernel
theorem dL_make_16 : decode cL_make 16 = .ok (.ireturn, 1) := by decide +kernel
theorem dL_at_0 : decode cL_at 0 = .ok (.aload_n 3, 1) := by decide +kernel
theorem dL_at_1 : decode cL_at 1 = .ok (.iconst 0, 1) := by decide +kernel
theorem dL_at_2 : decode cL_at 2 = .ok (.aload_n 0, 1) := by decide +kernel
theorem dL_at_3 : decode cL_at 3 = .ok (.iload_n 1, 1) := by decide +kernel
theorem dL_at_4 : decode cL_at 4 = .ok (.iload_n 2, 1) := by decide +kernel
theorem dL_at_5 : decode cL_at 5 = .ok (.invokevirtual 21, 3) := by decide +kernel
theorem dL_at_8 : decode cL_at 8 = .ok (.i2l, 1) := by decide +kernel
theorem dL_at_9 : decode cL_at 9 = .ok (.lastore, 1) := by decide +kernel
theorem dL_at_10 : decode cL_at 10 = .ok (.goto 7, 3) := by decide +kernel
theorem dL_at_13 : decode cL_at 13 = .ok (.astore 4, 2) := by decide +kernel
theorem dL_at_15 : decode cL_at 15 = .ok (.iconst 1, 1) := by decide +kernel
theorem dL_at_16 : decode cL_at 16 = .ok (.ireturn, 1) := by decide +kernel
theorem dL_at_17 : decode cL_at 17 = .ok (.iconst 0, 1) := by decide +kernel
theorem dL_at_18 : decode cL_at 18 = .ok (.ireturn, 1) := by decide +kernel
theorem dL_lockUp_0 : decode cL_lockUp 0 = .ok (.aload_n 3, 1) := by decide +kernel
theorem dL_lockUp_1 : decode cL_lockUp 1 = .ok (.iconst 0, 1) := by decide +kernel
theorem dL_lockUp_2 : decode cL_lockUp 2 = .ok (.aload_n 0, 1) := by decide +kernel
theorem dL_lockUp_3 : decode cL_lockUp 3 = .ok (.iload_n 1, 1) := by decide +kernel
theorem dL_lockUp_4 : decode cL_lockUp 4 = .ok (.iload_n 2, 1) := by decide +kernel
theorem dL_lockUp_5 : decode cL_lockUp 5 = .ok (.invokevirtual 27, 3) := by decide +kernel
theorem dL_lockUp_8 : decode cL_lockUp 8 = .ok (.ifCond .eq 7, 3) := by decide +kernel
theorem dL_lockUp_11 : decode cL_lockUp 11 = .ok (.lconst 1, 1) := by decide +kernel
theorem dL_lockUp_12 : decode cL_lockUp 12 = .ok (.goto 4, 3) := by decide +kernel
theorem dL_lockUp_15 : decode cL_lockUp 15 = .ok (.lconst 0, 1) := by decide +kernel
theorem dL_lockUp_16 : decode cL_lockUp 16 = .ok (.lastore, 1) := by decide +kernel
theorem dL_lockUp_17 : decode cL_lockUp 17 = .ok (.goto 7, 3) := by decide +kernel
theorem dL_lockUp_20 : decode cL_lockUp 20 = .ok (.astore 4, 2) := by decide +kernel
theorem dL_lockUp_22 : decode cL_lockUp 22 = .ok (.iconst 1, 1) := by decide +kernel
theorem dL_lockUp_23 : decode cL_lockUp 23 = .ok (.ireturn, 1) := by decide +kernel
theorem dL_lockUp_24 : decode cL_lockUp 24 = .ok (.iconst 0, 1) := by decide +kernel
theorem dL_lockUp_25 : decode cL_lockUp 25 = .ok (.ireturn, 1) := by decide +kernel
theorem dL_improve_0 : decode cL_improve 0 = .ok (.aload_n 2, 1) := by decide +kernel
theorem dL_improve_1 : decode cL_improve 1 = .ok (.iconst 0, 1) := by decide +kernel
theorem dL_improve_2 : decode cL_improve 2 = .ok (.aload_n 0, 1) := by decide +kernel
theorem dL_improve_3 : decode cL_improve 3 = .ok (.iload_n 1, 1) := by decide +kernel
theorem dL_improve_4 : decode cL_improve 4 = .ok (.invokevirtual 31, 3) := by decide +kernel
theorem dL_improve_7 : decode cL_improve 7 = .ok (.i2l, 1) := by decide +kernel
theorem dL_improve_8 : decode cL_improve 8 = .ok (.lastore, 1) := by decide +kernel
theorem dL_improve_9 : decode cL_improve 9 = .ok (.goto 6, 3) := by decide +kernel
theorem dL_improve_12 : decode cL_improve 12 = .ok (.astore_n 3, 1) := by decide +kernel
theorem dL_improve_13 : decode cL_improve 13 = .ok (.iconst 1, 1) := by decide +kernel
theorem dL_improve_14 : decode cL_improve 14 = .ok (.ireturn, 1) := by decide +kernel
theorem dL_improve_15 : decode cL_improve 15 = .ok (.iconst 0, 1) := by decide +kernel
theorem dL_improve_16 : decode cL_improve 16 = .ok (.ireturn, 1) := by decide +kernel
theorem dL_rule_0 : decode cL_rule 0 = .ok (.aload_n 3, 1) := by decide +kernel
theorem dL_rule_1 : decode cL_rule 1 = .ok (.iconst 0, 1) := by decide +kernel
theorem dL_rule_2 : decode cL_rule 2 = .ok (.aload_n 0, 1) := by decide +kernel
theorem dL_rule_3 : decode cL_rule 3 = .ok (.iload_n 1, 1) := by decide +kernel
theorem dL_rule_4 : decode cL_rule 4 = .ok (.iload_n 2, 1) := by decide +kernel
theorem dL_rule_5 : decode cL_rule 5 = .ok (.invokevirtual 34, 3) := by decide +kernel
theorem dL_rule_8 : decode cL_rule 8 = .ok (.i2l, 1) := by decide +kernel
theorem dL_rule_9 : decode cL_rule 9 = .ok (.lastore, 1) := by decide +kernel
theorem dL_rule_10 : decode cL_rule 10 = .ok (.goto 7, 3) := by decide +kernel
theorem dL_rule_13 : decode cL_rule 13 = .ok (.astore 4, 2) := by decide +kernel
theorem dL_rule_15 : decode cL_rule 15 = .ok (.iconst 1, 1) := by decide +kernel
theorem dL_rule_16 : decode cL_rule 16 = .ok (.ireturn, 1) := by decide +kernel
theorem dL_rule_17 : decode cL_rule 17 = .ok (.iconst 0, 1) := by decide +kernel
theorem dL_rule_18 : decode cL_rule 18 = .ok (.ireturn, 1) := by decide +kernel
theorem dL_set_0 : decode cL_set 0 = .ok (.aload_n 3, 1) := by decide +kernel
theorem dL_set_1 : decode cL_set 1 = .ok (.iconst 0, 1) := by decide +kernel
theorem dL_set_2 : decode cL_set 2 = .ok (.aload_n 0, 1) := by decide +kernel
theorem dL_set_3 : decode cL_set 3 = .ok (.iload_n 1, 1) := by decide +kernel
theorem dL_set_4 : decode cL_set 4 = .ok (.iload_n 2, 1) := by decide +kernel
theorem dL_set_5 : decode cL_set 5 = .ok (.invokevirtual 37, 3) := by decide +kernel
theorem dL_set_8 : decode cL_set 8 = .ok (.ifCond .eq 7, 3) := by decide +kernel
theorem dL_set_11 : decode cL_set 11 = .ok (.lconst 1, 1) := by decide +kernel
theorem dL_set_12 : decode cL_set 12 = .ok (.goto 4, 3) := by decide +kernel
theorem dL_set_15 : decode cL_set 15 = .ok (.lconst 0, 1) := by decide +kernel
theorem dL_set_16 : decode cL_set 16 = .ok (.lastore, 1) := by decide +kernel
theorem dL_set_17 : decode cL_set 17 = .ok (.goto 7, 3) := by decide +kernel
theorem dL_set_20 : decode cL_set 20 = .ok (.astore 4, 2) := by decide +kernel
theorem dL_set_22 : decode cL_set 22 = .ok (.iconst 1, 1) := by decide +kernel
theorem dL_set_23 : decode cL_set 23 = .ok (.ireturn, 1) := by decide +kernel
theorem dL_set_24 : decode cL_set 24 = .ok (.iconst 0, 1) := by decide +kernel
theorem dL_set_25 : decode cL_set 25 = .ok (.ireturn, 1) := by decide +kernel
theorem dL_value_0 : decode cL_value 0 = .ok (.aload_n 2, 1) := by decide +kernel
theorem dL_value_1 : decode cL_value 1 = .ok (.iconst 0, 1) := by decide +kernel
theorem dL_value_2 : decode cL_value 2 = .ok (.aload_n 0, 1) := by decide +kernel
theorem dL_value_3 : decode cL_value 3 = .ok (.iload_n 1, 1) := by decide +kernel
theorem dL_value_4 : decode cL_value 4 = .ok (.invokevirtual 45, 3) := by decide +kernel
theorem dL_value_7 : decode cL_value 7 = .ok (.i2l, 1) := by decide +kernel
theorem dL_value_8 : decode cL_value 8 = .ok (.lastore, 1) := by decide +kernel
theorem dL_value_9 : decode cL_value 9 = .ok (.goto 6, 3) := by decide +kernel
theorem dL_value_12 : decode cL_value 12 = .ok (.astore_n 3, 1) := by decide +kernel
theorem dL_value_13 : decode cL_value 13 = .ok (.iconst 1, 1) := by decide +kernel
theorem dL_value_14 : decode cL_value 14 = .ok (.ireturn, 1) := by decide +kernel
theorem dL_value_15 : decode cL_value 15 = .ok (.iconst 0, 1) := by decide +kernel
theorem dL_value_16 : decode cL_value 16 = .ok (.ireturn, 1) := by decide +kernel
theorem dL_port_0 : decode cL_port 0 = .ok (.aload_n 2, 1) := by decide +kernel
theorem dL_port_1 : decode cL_port 1 = .ok (.iconst 0, 1) := by decide +kernel
theorem dL_port_2 : decode cL_port 2 = .ok (.aload_n 0, 1) := by decide +kernel
theorem dL_port_3 : decode cL_port 3 = .ok (.iload_n 1, 1) := by decide +kernel
theorem dL_port_4 : decode cL_port 4 = .ok (.invokevirtual 48, 3) := by decide +kernel
theorem dL_port_7 : decode cL_port 7 = .ok (.i2l, 1) := by decide +kernel
theorem dL_port_8 : decode cL_port 8 = .ok (.lastore, 1) := by decide +kernel
theorem dL_port_9 : decode cL_port 9 = .ok (.goto 9, 3) := by decide +kernel
theorem dL_port_12 : decode cL_port 12 = .ok (.astore_n 3, 1) := by decide +kernel
theorem dL_port_13 : decode cL_port 13 = .ok (.iconst 1, 1) := by decide +kernel
theorem dL_port_14 : decode cL_port 14 = .ok (.ireturn, 1) := by decide +kernel
theorem dL_port_15 : decode cL_port 15 = .ok (.astore_n 3, 1) := by decide +kernel
theorem dL_port_16 : decode cL_port 16 = .ok (.iconst 2, 1) := by decide +kernel
theorem dL_port_17 : decode cL_port 17 = .ok (.ireturn, 1) := by decide +kernel
theorem dL_port_18 : decode cL_port 18 = .ok (.iconst 0, 1) := by decide +kernel
theorem dL_port_19 : decode cL_port 19 = .ok (.ireturn, 1) := by decide +kernel
theorem dL_tick_0 : decode cL_tick 0 = .ok (.aload_n 3, 1) := by decide +kernel
theorem dL_tick_1 : decode cL_tick 1 = .ok (.iconst 0, 1) := by decide +kernel
theorem dL_tick_2 : decode cL_tick 2 = .ok (.aload_n 0, 1) := by decide +kernel
theorem dL_tick_3 : decode cL_tick 3 = .ok (.iload_n 1, 1) := by decide +kernel
theorem dL_tick_4 : decode cL_tick 4 = .ok (.iload_n 2, 1) := by decide +kernel
theorem dL_tick_5 : decode cL_tick 5 = .ok (.invokevirtual 54, 3) := by decide +kernel
theorem dL_tick_8 : decode cL_tick 8 = .ok (.i2l, 1) := by decide +kernel
theorem dL_tick_9 : decode cL_tick 9 = .ok (.lastore, 1) := by decide +kernel
theorem dL_tick_10 : decode cL_tick 10 = .ok (.goto 7, 3) := by decide +kernel
theorem dL_tick_13 : decode cL_tick 13 = .ok (.astore 4, 2) := by decide +kernel
theorem dL_tick_15 : decode cL_tick 15 = .ok (.iconst 1, 1) := by decide +kernel
theorem dL_tick_16 : decode cL_tick 16 = .ok (.ireturn, 1) := by decide +kernel
theorem dL_tick_17 : decode cL_tick 17 = .ok (.iconst 0, 1) := by decide +kernel
theorem dL_tick_18 : decode cL_tick 18 = .ok (.ireturn, 1) := by decide +kernel
theorem dL_go_0 : decode cL_go 0 = .ok (.aload_n 2, 1) := by decide +kernel
theorem dL_go_1 : decode cL_go 1 = .ok (.iconst 0, 1) := by decide +kernel
theorem dL_go_2 : decode cL_go 2 = .ok (.aload_n 0, 1) := by decide +kernel
theorem dL_go_3 : decode cL_go 3 = .ok (.iload_n 1, 1) := by decide +kernel
theorem dL_go_4 : decode cL_go 4 = .ok (.invokevirtual 57, 3) := by decide +kernel
theorem dL_go_7 : decode cL_go 7 = .ok (.i2l, 1) := by decide +kernel
theorem dL_go_8 : decode cL_go 8 = .ok (.lastore, 1) := by decide +kernel
theorem dL_go_9 : decode cL_go 9 = .ok (.goto 6, 3) := by decide +kernel
theorem dL_go_12 : decode cL_go 12 = .ok (.astore_n 3, 1) := by decide +kernel
theorem dL_go_13 : decode cL_go 13 = .ok (.iconst 1, 1) := by decide +kernel
theorem dL_go_14 : decode cL_go 14 = .ok (.ireturn, 1) := by decide +kernel
theorem dL_go_15 : decode cL_go 15 = .ok (.iconst 0, 1) := by decide +kernel
theorem dL_go_16 : decode cL_go 16 = .ok (.ireturn, 1) := by decide +kernel
theorem dL_boundary_0 : decode cL_boundary 0 = .ok (.aload_n 2, 1) := by decide +kernel
theorem dL_boundary_1 : decode cL_boundary 1 = .ok (.iconst 0, 1) := by decide +kernel
theorem dL_boundary_2 : decode cL_boundary 2 = .ok (.aload_n 0, 1) := by decide +kernel
theorem dL_boundary_3 : decode cL_boundary 3 = .ok (.iload_n 1, 1) := by decide +kernel
theorem dL_boundary_4 : decode cL_boundary 4 = .ok (.invokevirtual 60, 3) := by decide +kernel
theorem dL_boundary_7 : decode cL_boundary 7 = .ok (.i2l, 1) := by decide +kernel
theorem dL_boundary_8 : decode cL_boundary 8 = .ok (.lastore, 1) := by decide +kernel
theorem dL_boundary_9 : decode cL_boundary 9 = .ok (.goto 6, 3) := by decide +kernel
theorem dL_boundary_12 : decode cL_boundary 12 = .ok (.astore_n 3, 1) := by decide +kernel
theorem dL_boundary_13 : decode cL_boundary 13 = .ok (.iconst 1, 1) := by decide +kernel
theorem dL_boundary_14 : decode cL_boundary 14 = .ok (.ireturn, 1) := by decide +kernel
theorem dL_boundary_15 : decode cL_boundary 15 = .ok (.iconst 0, 1) := by decide +kernel
theorem dL_boundary_16 : decode cL_boundary 16 = .ok (.ireturn, 1) := by decide +kernel
theorem dL_count_0 : decode cL_count 0 = .ok (.aload_n 2, 1) := by decide +kernel
theorem dL_count_1 : decode cL_count 1 = .ok (.iconst 0, 1) := by decide +kernel
theorem dL_count_2 : decode cL_count 2 = .ok (.aload_n 0, 1) := by decide +kernel
theorem dL_count_3 : decode cL_count 3 = .ok (.iload_n 1, 1) := by decide +kernel
theorem dL_count_4 : decode cL_count 4 = .ok (.invokevirtual 63, 3) := by decide +kernel
theorem dL_count_7 : decode cL_count 7 = .ok (.i2l, 1) := by decide +kernel
theorem dL_count_8 : decode cL_count 8 = .ok (.lastore, 1) := by decide +kernel
theorem dL_count_9 : decode cL_count 9 = .ok (.goto 6, 3) := by decide +kernel
theorem dL_count_12 : decode cL_count 12 = .ok (.astore_n 3, 1) := by decide +kernel
theorem dL_count_13 : decode cL_count 13 = .ok (.iconst 1, 1) := by decide +kernel
theorem dL_count_14 : decode cL_count 14 = .ok (.ireturn, 1) := by decide +kernel
theorem dL_count_15 : decode cL_count 15 = .ok (.iconst 0, 1) := by decide +kernel
theorem dL_count_16 : decode cL_count 16 = .ok (.ireturn, 1) := by decide +kernel
theorem dL_load_0 : decode cL_load 0 = .ok (.aload_n 0, 1) := by decide +kernel
theorem dL_load_1 : decode cL_load 1 = .ok (.iload_n 1, 1) := by decide +kernel
theorem dL_load_2 : decode cL_load 2 = .ok (.iload_n 2, 1) := by decide +kernel
theorem dL_load_3 : decode cL_load 3 = .ok (.invokevirtual 41, 3) := by decide +kernel
theorem dL_load_6 : decode cL_load 6 = .ok (.goto 6, 3) := by decide +kernel
theorem dL_load_9 : decode cL_load 9 = .ok (.astore_n 3, 1) := by decide +kernel
theorem dL_load_10 : decode cL_load 10 = .ok (.iconst 1, 1) := by decide +kernel
theorem dL_load_11 : decode cL_load 11 = .ok (.ireturn, 1) := by decide +kernel
theorem dL_load_12 : decode cL_load 12 = .ok (.iconst 0, 1) := by decide +kernel
theorem dL_load_13 : decode cL_load 13 = .ok (.ireturn, 1) := by decide +kernel
theorem dL_pin_0 : decode cL_pin 0 = .ok (.aload_n 0, 1) := by decide +kernel
theorem dL_pin_1 : decode cL_pin 1 = .ok (.iload_n 1, 1) := by decide +kernel
theorem dL_pin_2 : decode cL_pin 2 = .ok (.iload_n 2, 1) := by decide +kernel
theorem dL_pin_3 : decode cL_pin 3 = .ok (.invokevirtual 51, 3) := by decide +kernel
theorem dL_pin_6 : decode cL_pin 6 = .ok (.goto 6, 3) := by decide +kernel
theorem dL_pin_9 : decode cL_pin 9 = .ok (.astore_n 3, 1) := by decide +kernel
theorem dL_pin_10 : decode cL_pin 10 = .ok (.iconst 1, 1) := by decide +kernel
theorem dL_pin_11 : decode cL_pin 11 = .ok (.ireturn, 1) := by decide +kernel
theorem dL_pin_12 : decode cL_pin 12 = .ok (.iconst 0, 1) := by decide +kernel
theorem dL_pin_13 : decode cL_pin 13 = .ok (.ireturn, 1) := by decide +kernel
set_option maxHeartbeats 4000000 in
set_option maxRecDepth 100000 in
theorem h_latch (l : Launch) (dC : Nat → ClassId) (dI : Nat → Nat → Nat) (q : Nat → Nat) (cI cZ : ClassId) (cJ : ClassId) (ao : Nat) (sz : Nat) (r : RS) (k : CS) (a : AS) (o : OS) (ck : Nat) (xx yy : Int) (h1 : r.n < 32) (h2 : ck < 4) (h3 : -1000 ≤ xx ∧ xx ≤ 1000) (h4 : -1000 ≤ yy ∧ yy ≤ 1000) : Met l yL_latch (.codeWith yL_latch cL_latch 8 (some .int) [(0, 13, 16, 13), (0, 13, 20, 15)] :: ALLG) ({ frames := 2, cells := 0, slots := 0, locals := 49 }) (va_Pc [.ref (q 17), .int (nI ck), .long (zL xx), .long (zL yy), .ref ao] (cP (dC, dI) vwCl [(cI, .int), (cZ, .boolean), (cJ, .long)] (wH q cI cZ cJ ao r k a o) eT sz)) (va_Qi (fun (x : Int32) (u : (RS × CS × AS) × (Nat → Int64)) => x = nI 0 ∧ u.1 = (addL r ck xx yy, k, a) ∧ u.2 0 = (nI r.n).toInt64) (fun (u : (RS × CS × AS) × (Nat → Int64)) => cB (dC, dI) vwCl [(cI, .int), (cZ, .boolean), (cJ, .long)] (wH q cI cZ cJ ao u.1.1 u.1.2.1 u.1.2.2 u.2) (va_A (wH q cI cZ cJ ao r k a o) sz)) (va_A (wH q cI cZ cJ ao r k a o) sz)) 0 0 (va_A (wH q cI cZ cJ ao r k a o) sz) := by
  refine xm_h (cc := cL_latch) (maxL := 8) (ret := some .int) (hh := [(0, 13, 16, 13), (0, 13, 20, 15)]) (by decide) rfl (Nat.le_of_ble_eq_true rfl) ?_
  intro p e s m below meth c A hAe hx hb hr hml hts0 hown hlk htab hsz H locs hP hK hD hA hS hE ls hl
  have hts : ∀ w ∈ ALLG, w.before _ s = true := fun w h => hts0 w (List.mem_cons_of_mem _ h)
  rw [← hAe]
  have hl : lv_has ls 8 [(0, .ref (q 17)), (1, .int (nI ck)), (2, .long (zL xx)), (4, .long (zL yy)), (6, .ref ao)] := hl
  refine lv_aload hx hb dL_latch_0 (lv_at hl 4 rfl) ?_
  refine lv_iconst (v := nI 0) hx hb dL_latch_2 (by decide) ?_
  refine lv_aload_n hx hb dL_latch_3 rfl (lv_at hl 0 rfl) ?_
  refine lv_iload_n hx hb dL_latch_4 rfl (lv_at hl 1 rfl) ?_
  refine lv_lload_n hx hb dL_latch_5 rfl (lv_at hl 2 rfl) ?_
  refine lv_lload hx hb dL_latch_6 (lv_at hl 3 rfl) ?_
  refine xc_Vi (As := [.int (nI ck), .long (zL xx), .long (zL yy)]) (wr := wO cJ ao o) ⟨hx, hb, hml, hown, hts⟩ (c_ScanRows_latch l dC dI q cI cZ H.size r k a ck xx yy h1 h2 h3 h4) (cwV 3 hts (gV tw_184 tw_185 tw_186 tw_1 tw_187) rfl rfl rfl (by decide +kernel) ⟨Nat.le_of_ble_eq_true rfl, Nat.le_of_ble_eq_true rfl⟩) rfl hl.1 rfl (Nat.le_of_ble_eq_true rfl) dL_latch_8 ⟨Nat.zero_le _, Nat.zero_le _⟩ hP hD hK hS hA [0, 1, 2, 3, 4, 5, 6, 7, 8, 9, 10, 11, 12, 13, 14, 15, 16, 17] [18] rfl rfl (by decide) (by decide) (by decide) [0, 1] rfl (q0 := 17) rfl rfl rfl eT_M (trivial) (fun r_1 u_2 H locs w_3 hP hD hS => ?_)
  obtain ⟨rfl, rfl⟩ := w_3
  have hP : va_P (dC, dI) vwCl (wH q cI cZ cJ ao (addL r ck xx yy) k a o) H := hP.sub [1, 2, 3, 4, 5, 6, 7, 8, 9, 10, 11, 12, 13, 14, 15, 16, 17, 18, 0] rfl
  have hD : va_D A (wH q cI cZ cJ ao (addL r ck xx yy) k a o) := hD.sub [1, 2, 3, 4, 5, 6, 7, 8, 9, 10, 11, 12, 13, 14, 15, 16, 17, 18, 0] (by decide) rfl
  refine lv_i2l hx hb dL_latch_11 rfl ?_
  refine va_last hx hb hK hP hD hS 18 2 rfl rfl (vp_in_nI (show 0 < 1 by decide) (by decide)) dL_latch_12 (fun H locs hP hD hS => ?_)
  have hP : va_P (dC, dI) vwCl (wH q cI cZ cJ ao (addL r ck xx yy) k a (vp_updL o (nI 0).toNatClampNeg ((nI r.n).toInt64))) H := hP
  have hD : va_D A (wH q cI cZ cJ ao (addL r ck xx yy) k a (vp_updL o (nI 0).toNatClampNeg ((nI r.n).toInt64))) := hD
  refine lv_goto (tgt := 24) hx hb dL_latch_13 (by decide) ?_
  refine lv_iconst (v := nI 0) hx hb dL_latch_24 (by decide) ?_
  exact xr_i hx hb hr hlk (u := ((addL r ck xx yy, k, a), vp_updL o (nI 0).toNatClampNeg ((nI r.n).toInt64))) (⟨rfl, rfl, upL0 o ((nI r.n).toInt64)⟩) hP hK hD hS dL_latch_25
set_option maxHeartbeats 4000000 in
set_option maxRecDepth 100000 in
theorem h_make (l : Launch) (dC : Nat → ClassId) (dI : Nat → Nat → Nat) (q : Nat → Nat) (cI cZ : ClassId) (cJ : ClassId) (ao : Nat) (sz : Nat) (r : RS) (k : CS) (a : AS) (o : OS) (c0 : Nat) (hB : RB r) (h1 : 0 < c0) (h2 : c0 ≤ 8) : Met l yL_make (.codeWith yL_make cL_make 4 (some .int) [(0, 9, 12, 15)] :: ALLG) ({ frames := 4, cells := 0, slots := 0, locals := 86 }) (va_Pc [.ref (q 17), .int (nI c0), .ref ao] (cP (dC, dI) vwCl [(cI, .int), (cZ, .boolean), (cJ, .long)] (wH q cI cZ cJ ao r k a o) eT sz)) (va_Qi (fun (x : Int32) (u : (RS × CS × AS) × (Nat → Int64)) => x = nI 0 ∧ u.1 = (arrF r c0, k, a) ∧ u.2 0 = (nI (bg r.n c0 1)).toInt64) (fun (u : (RS × CS × AS) × (Nat → Int64)) => cB (dC, dI) vwCl [(cI, .int), (cZ, .boolean), (cJ, .long)] (wH q cI cZ cJ ao u.1.1 u.1.2.1 u.1.2.2 u.2) (va_A (wH q cI cZ cJ ao r k a o) sz)) (va_A (wH q cI cZ cJ ao r k a o) sz)) 0 0 (va_A (wH q cI cZ cJ ao r k a o) sz) := by
  refine xm_h (cc := cL_make) (maxL := 4) (ret := some .int) (hh := [(0, 9, 12, 15)]) (by decide) rfl (Nat.le_of_ble_eq_true rfl) ?_
  intro p e s m below meth c A hAe hx hb hr hml hts0 hown hlk htab hsz H locs hP hK hD hA hS hE ls hl
  have hts : ∀ w ∈ ALLG, w.before _ s = true := fun w h => hts0 w (List.mem_cons_of_mem _ h)
  rw [← hAe]
  have hl : lv_has ls 4 [(0, .ref (q 17)), (1, .int (nI c0)), (2, .ref ao)] := hl
  refine lv_aload_n hx hb dL_make_0 rfl (lv_at hl 2 rfl) ?_
  refine lv_iconst (v := nI 0) hx hb dL_make_1 (by decide) ?_
  refine lv_aload_n hx hb dL_make_2 rfl (lv_at hl 0 rfl) ?_
  refine lv_iload_n hx hb dL_make_3 rfl (lv_at hl 1 rfl) ?_
  refine xc_Vi (As := [.int (nI c0)]) (wr := wO cJ ao o) ⟨hx, hb, hml, hown, hts⟩ (c_ScanRows_make l dC dI q cI cZ H.size r k a c0 hB h1 h2) (cwV 1 hts (gV tw_282 tw_283 tw_284 tw_1 tw_285) rfl rfl rfl (by decide +kernel) ⟨Nat.le_of_ble_eq_true rfl, Nat.le_of_ble_eq_true rfl⟩) rfl hl.1 rfl (Nat.le_of_ble_eq_true rfl) dL_make_4 ⟨Nat.zero_le _, Nat.zero_le _⟩ hP hD hK hS hA [0, 1, 2, 3, 4, 5, 6, 7, 8, 9, 10, 11, 12, 13, 14, 15, 16, 17] [18] rfl rfl (by decide) (by decide) (by decide) [0, 1] rfl (q0 := 17) rfl rfl rfl eT_M (trivial) (fun r_1 u_2 H locs w_3 hP hD hS => ?_)
  obtain ⟨rfl, rfl⟩ := w_3
  have hP : va_P (dC, dI) vwCl (wH q cI cZ cJ ao (arrF r c0) k a o) H := hP.sub [1, 2, 3, 4, 5, 6, 7, 8, 9, 10, 11, 12, 13, 14, 15, 16, 17, 18, 0] rfl
  have hD : va_D A (wH q cI cZ cJ ao (arrF r c0) k a o) := hD.sub [1, 2, 3, 4, 5, 6, 7, 8, 9, 10, 11, 12, 13, 14, 15, 16, 17, 18, 0] (by decide) rfl
  refine lv_i2l hx hb dL_make_7 rfl ?_
  refine va_last hx hb hK hP hD hS 18 2 rfl rfl (vp_in_nI (show 0 < 1 by decide) (by decide)) dL_make_8 (fun H locs hP hD hS => ?_)
  have hP : va_P (dC, dI) vwCl (wH q cI cZ cJ ao (arrF r c0) k a (vp_updL o (nI 0).toNatClampNeg ((nI (bg r.n c0 1)).toInt64))) H := hP
  have hD : va_D A (wH q cI cZ cJ ao (arrF r c0) k a (vp_updL o (nI 0).toNatClampNeg ((nI (bg r.n c0 1)).toInt64))) := hD
  refine lv_goto (tgt := 15) hx hb dL_make_9 (by decide) ?_
  refine lv_iconst (v := nI 0) hx hb dL_make_15 (by decide) ?_
  exact xr_i hx hb hr hlk (u := ((arrF r c0, k, a), vp_updL o (nI 0).toNatClampNeg ((nI (bg r.n c0 1)).toInt64))) (⟨rfl, rfl, upL0 o ((nI (bg r.n c0 1)).toInt64)⟩) hP hK hD hS dL_make_16
set_option maxHeartbeats 4000000 in
set_option maxRecDepth 100000 in
theorem h_at (l : Launch) (dC : Nat → ClassId) (dI : Nat → Nat → Nat) (q : Nat → Nat) (cI cZ : ClassId) (cJ : ClassId) (ao : Nat) (sz : Nat) (r : RS) (k : CS) (a : AS) (o : OS) (ch kk : Nat) (h0 : r.c ≤ 8) (h1 : ch < r.c) (h2 : r.st ch ≤ r.st (ch + 1)) (h3 : r.st (ch + 1) ≤ 32) (h4 : kk < 2 ^ 31) : Met l yL_at (.codeWith yL_at cL_at 5 (some .int) [(0, 10, 13, 25)] :: ALLG) ({ frames := 2, cells := 0, slots := 0, locals := 44 }) (va_Pc [.ref (q 17), .int (nI ch), .int (nI kk), .ref ao] (cP (dC, dI) vwCl [(cI, .int), (cZ, .boolean), (cJ, .long)] (wH q cI cZ cJ ao r k a o) eT sz)) (va_Qi (fun (x : Int32) (u : (RS × CS × AS) × (Nat → Int64)) => x = nI 0 ∧ u.1 = (r, k, a) ∧ u.2 0 = (zI (atZ r ch kk)).toInt64) (fun (u : (RS × CS × AS) × (Nat → Int64)) => cB (dC, dI) vwCl [(cI, .int), (cZ, .boolean), (cJ, .long)] (wH q cI cZ cJ ao u.1.1 u.1.2.1 u.1.2.2 u.2) (va_A (wH q cI cZ cJ ao r k a o) sz)) (va_A (wH q cI cZ cJ ao r k a o) sz)) 0 0 (va_A (wH q cI cZ cJ ao r k a o) sz) := by
  refine xm_h (cc := cL_at) (maxL := 5) (ret := some .int) (hh := [(0, 10, 13, 25)]) (by decide) rfl (Nat.le_of_ble_eq_true rfl) ?_
  intro p e s m below meth c A hAe hx hb hr hml hts0 hown hlk htab hsz H locs hP hK hD hA hS hE ls hl
  have hts : ∀ w ∈ ALLG, w.before _ s = true := fun w h => hts0 w (List.mem_cons_of_mem _ h)
  rw [← hAe]
  have hl : lv_has ls 5 [(0, .ref (q 17)), (1, .int (nI ch)), (2, .int (nI kk)), (3, .ref ao)] := hl
  refine lv_aload_n hx hb dL_at_0 rfl (lv_at hl 3 rfl) ?_
  refine lv_iconst (v := nI 0) hx hb dL_at_1 (by decide) ?_
  refine lv_aload_n hx hb dL_at_2 rfl (lv_at hl 0 rfl) ?_
  refine lv_iload_n hx hb dL_at_3 rfl (lv_at hl 1 rfl) ?_
  refine lv_iload_n hx hb dL_at_4 rfl (lv_at hl 2 rfl) ?_
  refine xc_Vi (As := [.int (nI ch), .int (nI kk)]) (wr := wO cJ ao o) ⟨hx, hb, hml, hown, hts⟩ (c_ScanRows_at l dC dI q cI cZ H.size r k a ch kk h0 h1 h2 h3 h4) (cwV 2 hts (gV tw_311 tw_312 tw_313 tw_1 tw_314) rfl rfl rfl (by decide +kernel) ⟨Nat.le_of_ble_eq_true rfl, Nat.le_of_ble_eq_true rfl⟩) rfl hl.1 rfl (Nat.le_of_ble_eq_true rfl) dL_at_5 ⟨Nat.zero_le _, Nat.zero_le _⟩ hP hD hK hS hA [0, 1, 2, 3, 4, 5, 6, 7, 8, 9, 10, 11, 12, 13, 14, 15, 16, 17] [18] rfl rfl (by decide) (by decide) (by decide) [0, 1] rfl (q0 := 17) rfl rfl rfl eT_M (trivial) (fun r_1 u_2 H locs w_3 hP hD hS => ?_)
  obtain rfl := w_3
  have hP : va_P (dC, dI) vwCl (wH q cI cZ cJ ao r k a o) H := hP.sub [1, 2, 3, 4, 5, 6, 7, 8, 9, 10, 11, 12, 13, 14, 15, 16, 17, 18, 0] rfl
  have hD : va_D A (wH q cI cZ cJ ao r k a o) := hD.sub [1, 2, 3, 4, 5, 6, 7, 8, 9, 10, 11, 12, 13, 14, 15, 16, 17, 18, 0] (by decide) rfl
  refine lv_i2l hx hb dL_at_8 rfl ?_
  refine va_last hx hb hK hP hD hS 18 2 rfl rfl (vp_in_nI (show 0 < 1 by decide) (by decide)) dL_at_9 (fun H locs hP hD hS => ?_)
  have hP : va_P (dC, dI) vwCl (wH q cI cZ cJ ao r k a (vp_updL o (nI 0).toNatClampNeg ((zI (atZ r ch kk)).toInt64))) H := hP
  have hD : va_D A (wH q cI cZ cJ ao r k a (vp_updL o (nI 0).toNatClampNeg ((zI (atZ r ch kk)).toInt64))) := hD
  refine lv_goto (tgt := 17) hx hb dL_at_10 (by decide) ?_
  refine lv_iconst (v := nI 0) hx hb dL_at_17 (by decide) ?_
  exact xr_i hx hb hr hlk (u := ((r, k, a), vp_updL o (nI 0).toNatClampNeg ((zI (atZ r ch kk)).toInt64))) (⟨rfl, rfl, upL0 o ((zI (atZ r ch kk)).toInt64)⟩) hP hK hD hS dL_at_18
set_option maxHeartbeats 4000000 in
set_option maxRecDepth 100000 in
theorem h_lockUp (l : Launch) (dC : Nat → ClassId) (dI : Nat → Nat → Nat) (q : Nat → Nat) (cI cZ : ClassId) (cJ : ClassId) (ao : Nat) (sz : Nat) (r : RS) (k : CS) (a : AS) (o : OS) (ch kk : Nat) (hB : RB r) (h0 : r.c ≤ 8) (h1 : ch < r.c) (h2 : r.st ch ≤ r.st (ch + 1)) (h3 : r.st (ch + 1) ≤ 32) (h4 : kk < r.st (ch + 1) - r.st ch) : Met l yL_lockUp (.codeWith yL_lockUp cL_lockUp 5 (some .int) [(0, 17, 20, 25)] :: ALLG) ({ frames := 3, cells := 0, slots := 0, locals := 66 }) (va_Pc [.ref (q 17), .int (nI ch), .int (nI kk), .ref ao] (cP (dC, dI) vwCl [(cI, .int), (cZ, .boolean), (cJ, .long)] (wH q cI cZ cJ ao r k a o) eT sz)) (va_Qi (fun (x : Int32) (u : (RS × CS × AS) × (Nat → Int64)) => x = nI 0 ∧ u.1 = (r, k, a) ∧ u.2 0 = lN (ccb r (r.st ch + kk))) (fun (u : (RS × CS × AS) × (Nat → Int64)) => cB (dC, dI) vwCl [(cI, .int), (cZ, .boolean), (cJ, .long)] (wH q cI cZ cJ ao u.1.1 u.1.2.1 u.1.2.2 u.2) (va_A (wH q cI cZ cJ ao r k a o) sz)) (va_A (wH q cI cZ cJ ao r k a o) sz)) 0 0 (va_A (wH q cI cZ cJ ao r k a o) sz) := by
  refine xm_h (cc := cL_lockUp) (maxL := 5) (ret := some .int) (hh := [(0, 17, 20, 25)]) (by decide) rfl (Nat.le_of_ble_eq_true rfl) ?_
  intro p e s m below meth c A hAe hx hb hr hml hts0 hown hlk htab hsz H locs hP hK hD hA hS hE ls hl
  have hts : ∀ w ∈ ALLG, w.before _ s = true := fun w h => hts0 w (List.mem_cons_of_mem _ h)
  rw [← hAe]
  have g1 := ccb_le r (r.st ch + kk)
  have hl : lv_has ls 5 [(0, .ref (q 17)), (1, .int (nI ch)), (2, .int (nI kk)), (3, .ref ao)] := hl
  refine lv_aload_n hx hb dL_lockUp_0 rfl (lv_at hl 3 rfl) ?_
  refine lv_iconst (v := nI 0) hx hb dL_lockUp_1 (by decide) ?_
  refine lv_aload_n hx hb dL_lockUp_2 rfl (lv_at hl 0 rfl) ?_
  refine lv_iload_n hx hb dL_lockUp_3 rfl (lv_at hl 1 rfl) ?_
  refine lv_iload_n hx hb dL_lockUp_4 rfl (lv_at hl 2 rfl) ?_
  refine xc_Vi (As := [.int (nI ch), .int (nI kk)]) (wr := wO cJ ao o) ⟨hx, hb, hml, hown, hts⟩ (c_ScanRows_lockUp l dC dI q cI cZ H.size r k a ch kk hB h0 h1 h2 h3 h4) (cwV 2 hts (gV tw_343 tw_344 tw_345 tw_1 tw_346) rfl rfl rfl (by decide +kernel) ⟨Nat.le_of_ble_eq_true rfl, Nat.le_of_ble_eq_true rfl⟩) rfl hl.1 rfl (Nat.le_of_ble_eq_true rfl) dL_lockUp_5 ⟨Nat.zero_le _, Nat.zero_le _⟩ hP hD hK hS hA [0, 1, 2, 3, 4, 5, 6, 7, 8, 9, 10, 11, 12, 13, 14, 15, 16, 17] [18] rfl rfl (by decide) (by decide) (by decide) [0, 1] rfl (q0 := 17) rfl rfl rfl eT_M (trivial) (fun r_1 u_2 H locs w_3 hP hD hS => ?_)
  obtain rfl := w_3
  have hP : va_P (dC, dI) vwCl (wH q cI cZ cJ ao r k a o) H := hP.sub [1, 2, 3, 4, 5, 6, 7, 8, 9, 10, 11, 12, 13, 14, 15, 16, 17, 18, 0] rfl
  have hD : va_D A (wH q cI cZ cJ ao r k a o) := hD.sub [1, 2, 3, 4, 5, 6, 7, 8, 9, 10, 11, 12, 13, 14, 15, 16, 17, 18, 0] (by decide) rfl
  refine xn_zeq (tgt := 15) hx hb (by omega) dL_lockUp_8 (by decide) (fun c_4 => ?_) (fun c_4 => ?_)
  · refine lv_lconst (v := 0) hx hb dL_lockUp_15 (by decide) ?_
    refine va_last hx hb hK hP hD hS 18 2 rfl rfl (vp_in_nI (show 0 < 1 by decide) (by decide)) dL_lockUp_16 (fun H locs hP hD hS => ?_)
    have hP : va_P (dC, dI) vwCl (wH q cI cZ cJ ao r k a (vp_updL o (nI 0).toNatClampNeg 0)) H := hP
    have hD : va_D A (wH q cI cZ cJ ao r k a (vp_updL o (nI 0).toNatClampNeg 0)) := hD
    refine lv_goto (tgt := 24) hx hb dL_lockUp_17 (by decide) ?_
    refine lv_iconst (v := nI 0) hx hb dL_lockUp_24 (by decide) ?_
    exact xr_i hx hb hr hlk (u := ((r, k, a), vp_updL o (nI 0).toNatClampNeg 0)) (⟨rfl, rfl, (upL0 o 0).trans (by rw [show ccb r (r.st ch + kk) = 0 by omega]; rfl)⟩) hP hK hD hS dL_lockUp_25
  · refine lv_lconst (v := 1) hx hb dL_lockUp_11 (by decide) ?_
    refine lv_goto (tgt := 16) hx hb dL_lockUp_12 (by decide) ?_
    refine va_last hx hb hK hP hD hS 18 2 rfl rfl (vp_in_nI (show 0 < 1 by decide) (by decide)) dL_lockUp_16 (fun H locs hP hD hS => ?_)
    have hP : va_P (dC, dI) vwCl (wH q cI cZ cJ ao r k a (vp_updL o (nI 0).toNatClampNeg 1)) H := hP
    have hD : va_D A (wH q cI cZ cJ ao r k a (vp_updL o (nI 0).toNatClampNeg 1)) := hD
    refine lv_goto (tgt := 24) hx hb dL_lockUp_17 (by decide) ?_
    refine lv_iconst (v := nI 0) hx hb dL_lockUp_24 (by decide) ?_
    exact xr_i hx hb hr hlk (u := ((r, k, a), vp_updL o (nI 0).toNatClampNeg 1)) (⟨rfl, rfl, (upL0 o 1).trans (by rw [show ccb r (r.st ch + kk) = 1 by omega]; rfl)⟩) hP hK hD hS dL_lockUp_25
set_option maxHeartbeats 4000000 in
set_option maxRecDepth 100000 in
theorem h_improve (l : Launch) (dC : Nat → ClassId) (dI : Nat → Nat → Nat) (q : Nat → Nat) (cI cZ : ClassId) (cJ : ClassId) (ao : Nat) (sz : Nat) (r : RS) (k : CS) (a : AS) (o : OS) (n0 : Nat) (hB : RB r) (hC : RC r) (h1 : n0 < 2 ^ 31) : Met l yL_improve (.codeWith yL_improve cL_improve 4 (some .int) [(0, 9, 12, 15)] :: ALLG) ({ frames := 7, cells := 0, slots := 0, locals := 156 }) (va_Pc [.ref (q 17), .int (nI n0), .ref ao] (cP (dC, dI) vwCl [(cI, .int), (cZ, .boolean), (cJ, .long)] (wH q cI cZ cJ ao r k a o) eT sz)) (va_Qi (fun (x : Int32) (u : (RS × CS × AS) × (Nat → Int64)) => ∃ kq, kq ≤ n0 ∧ impR n0 r kq u.1.1 ∧ x = nI 0 ∧ u.1.2 = (k, a) ∧ u.2 0 = (nI kq).toInt64) (fun (u : (RS × CS × AS) × (Nat → Int64)) => cB (dC, dI) vwCl [(cI, .int), (cZ, .boolean), (cJ, .long)] (wH q cI cZ cJ ao u.1.1 u.1.2.1 u.1.2.2 u.2) (va_A (wH q cI cZ cJ ao r k a o) sz)) (va_A (wH q cI cZ cJ ao r k a o) sz)) 0 0 (va_A (wH q cI cZ cJ ao r k a o) sz) := by
  refine xm_h (cc := cL_improve) (maxL := 4) (ret := some .int) (hh := [(0, 9, 12, 15)]) (by decide) rfl (Nat.le_of_ble_eq_true rfl) ?_
  intro p e s m below meth c A hAe hx hb hr hml hts0 hown hlk htab hsz H locs hP hK hD hA hS hE ls hl
  have hts : ∀ w ∈ ALLG, w.before _ s = true := fun w h => hts0 w (List.mem_cons_of_mem _ h)
  rw [← hAe]
  have hl : lv_has ls 4 [(0, .ref (q 17)), (1, .int (nI n0)), (2, .ref ao)] := hl
  refine lv_aload_n hx hb dL_improve_0 rfl (lv_at hl 2 rfl) ?_
  refine lv_iconst (v := nI 0) hx hb dL_improve_1 (by decide) ?_
  refine lv_aload_n hx hb dL_improve_2 rfl (lv_at hl 0 rfl) ?_
  refine lv_iload_n hx hb dL_improve_3 rfl (lv_at hl 1 rfl) ?_
  refine xc_Vi (As := [.int (nI n0)]) (wr := wO cJ ao o) ⟨hx, hb, hml, hown, hts⟩ (c_ScanRows_improve l dC dI q cI cZ H.size r k a n0 hB hC h1) (cwV 1 hts (gV tw_354 tw_355 tw_356 tw_1 tw_357) rfl rfl rfl (by decide +kernel) ⟨Nat.le_of_ble_eq_true rfl, Nat.le_of_ble_eq_true rfl⟩) rfl hl.1 rfl (Nat.le_of_ble_eq_true rfl) dL_improve_4 ⟨Nat.zero_le _, Nat.zero_le _⟩ hP hD hK hS hA [0, 1, 2, 3, 4, 5, 6, 7, 8, 9, 10, 11, 12, 13, 14, 15, 16, 17] [18] rfl rfl (by decide) (by decide) (by decide) [0, 1] rfl (q0 := 17) rfl rfl rfl eT_M (trivial) (fun r_1 u_2 H locs w_3 hP hD hS => ?_)
  obtain ⟨kq, kq1, rfl, kq2⟩ := w_3
  have hP : va_P (dC, dI) vwCl (wH q cI cZ cJ ao u_2 k a o) H := hP.sub [1, 2, 3, 4, 5, 6, 7, 8, 9, 10, 11, 12, 13, 14, 15, 16, 17, 18, 0] rfl
  have hD : va_D A (wH q cI cZ cJ ao u_2 k a o) := hD.sub [1, 2, 3, 4, 5, 6, 7, 8, 9, 10, 11, 12, 13, 14, 15, 16, 17, 18, 0] (by decide) rfl
  refine lv_i2l hx hb dL_improve_7 rfl ?_
  refine va_last hx hb hK hP hD hS 18 2 rfl rfl (vp_in_nI (show 0 < 1 by decide) (by decide)) dL_improve_8 (fun H locs hP hD hS => ?_)
  have hP : va_P (dC, dI) vwCl (wH q cI cZ cJ ao u_2 k a (vp_updL o (nI 0).toNatClampNeg ((nI kq).toInt64))) H := hP
  have hD : va_D A (wH q cI cZ cJ ao u_2 k a (vp_updL o (nI 0).toNatClampNeg ((nI kq).toInt64))) := hD
  refine lv_goto (tgt := 15) hx hb dL_improve_9 (by decide) ?_
  refine lv_iconst (v := nI 0) hx hb dL_improve_15 (by decide) ?_
  exact xr_i hx hb hr hlk (u := ((u_2, k, a), vp_updL o (nI 0).toNatClampNeg ((nI kq).toInt64))) (⟨kq, kq1, kq2, rfl, rfl, upL0 o ((nI kq).toInt64)⟩) hP hK hD hS dL_improve_16
set_option maxHeartbeats 4000000 in
set_option maxRecDepth 100000 in
theorem h_rule (l : Launch) (dC : Nat → ClassId) (dI : Nat → Nat → Nat) (q : Nat → Nat) (cI cZ : ClassId) (cJ : ClassId) (ao : Nat) (sz : Nat) (r : RS) (k : CS) (a : AS) (o : OS) (kq w0 : Nat) (hB : RB r) (h1 : kq < 2 ^ 31) (h2 : w0 < 2) : Met l yL_rule (.codeWith yL_rule cL_rule 5 (some .int) [(0, 10, 13, 25)] :: ALLG) ({ frames := 3, cells := 0, slots := 0, locals := 69 }) (va_Pc [.ref (q 17), .int (nI kq), .int (nI w0), .ref ao] (cP (dC, dI) vwCl [(cI, .int), (cZ, .boolean), (cJ, .long)] (wH q cI cZ cJ ao r k a o) eT sz)) (va_Qi (fun (x : Int32) (u : (RS × CS × AS) × (Nat → Int64)) => ∃ z, rulR (brT r) (2 * r.n) kq w0 z ∧ x = nI 0 ∧ u.1 = (r, k, a) ∧ u.2 0 = z.toInt64) (fun (u : (RS × CS × AS) × (Nat → Int64)) => cB (dC, dI) vwCl [(cI, .int), (cZ, .boolean), (cJ, .long)] (wH q cI cZ cJ ao u.1.1 u.1.2.1 u.1.2.2 u.2) (va_A (wH q cI cZ cJ ao r k a o) sz)) (va_A (wH q cI cZ cJ ao r k a o) sz)) 0 0 (va_A (wH q cI cZ cJ ao r k a o) sz) := by
  refine xm_h (cc := cL_rule) (maxL := 5) (ret := some .int) (hh := [(0, 10, 13, 25)]) (by decide) rfl (Nat.le_of_ble_eq_true rfl) ?_
  intro p e s m below meth c A hAe hx hb hr hml hts0 hown hlk htab hsz H locs hP hK hD hA hS hE ls hl
  have hts : ∀ w ∈ ALLG, w.before _ s = true := fun w h => hts0 w (List.mem_cons_of_mem _ h)
  rw [← hAe]
  have hl : lv_has ls 5 [(0, .ref (q 17)), (1, .int (nI kq)), (2, .int (nI w0)), (3, .ref ao)] := hl
  refine lv_aload_n hx hb dL_rule_0 rfl (lv_at hl 3 rfl) ?_
  refine lv_iconst (v := nI 0) hx hb dL_rule_1 (by decide) ?_
  refine lv_aload_n hx hb dL_rule_2 rfl (lv_at hl 0 rfl) ?_
  refine lv_iload_n hx hb dL_rule_3 rfl (lv_at hl 1 rfl) ?_
  refine lv_iload_n hx hb dL_rule_4 rfl (lv_at hl 2 rfl) ?_
  refine xc_Vi (As := [.int (nI kq), .int (nI w0)]) (wr := wO cJ ao o) ⟨hx, hb, hml, hown, hts⟩ (c_ScanRows_rule l dC dI q cI cZ H.size r k a kq w0 hB h1 h2) (cwV 2 hts (gV tw_386 tw_387 tw_388 tw_1 tw_389) rfl rfl rfl (by decide +kernel) ⟨Nat.le_of_ble_eq_true rfl, Nat.le_of_ble_eq_true rfl⟩) rfl hl.1 rfl (Nat.le_of_ble_eq_true rfl) dL_rule_5 ⟨Nat.zero_le _, Nat.zero_le _⟩ hP hD hK hS hA [0, 1, 2, 3, 4, 5, 6, 7, 8, 9, 10, 11, 12, 13, 14, 15, 16, 17] [18] rfl rfl (by decide) (by decide) (by decide) [0, 1] rfl (q0 := 17) rfl rfl rfl eT_M (trivial) (fun r_1 u_2 H locs w_3 hP hD hS => ?_)
  have hq := w_3
  have hP : va_P (dC, dI) vwCl (wH q cI cZ cJ ao r k a o) H := hP.sub [1, 2, 3, 4, 5, 6, 7, 8, 9, 10, 11, 12, 13, 14, 15, 16, 17, 18, 0] rfl
  have hD : va_D A (wH q cI cZ cJ ao r k a o) := hD.sub [1, 2, 3, 4, 5, 6, 7, 8, 9, 10, 11, 12, 13, 14, 15, 16, 17, 18, 0] (by decide) rfl
  refine lv_i2l hx hb dL_rule_8 rfl ?_
  refine va_last hx hb hK hP hD hS 18 2 rfl rfl (vp_in_nI (show 0 < 1 by decide) (by decide)) dL_rule_9 (fun H locs hP hD hS => ?_)
  have hP : va_P (dC, dI) vwCl (wH q cI cZ cJ ao r k a (vp_updL o (nI 0).toNatClampNeg r_1.toInt64)) H := hP
  have hD : va_D A (wH q cI cZ cJ ao r k a (vp_updL o (nI 0).toNatClampNeg r_1.toInt64)) := hD
  refine lv_goto (tgt := 17) hx hb dL_rule_10 (by decide) ?_
  refine lv_iconst (v := nI 0) hx hb dL_rule_17 (by decide) ?_
  exact xr_i hx hb hr hlk (u := ((r, k, a), vp_updL o (nI 0).toNatClampNeg r_1.toInt64)) (⟨_, hq, rfl, rfl, upL0 o r_1.toInt64⟩) hP hK hD hS dL_rule_18
set_option maxHeartbeats 4000000 in
set_option maxRecDepth 100000 in
theorem h_set (l : Launch) (dC : Nat → ClassId) (dI : Nat → Nat → Nat) (q : Nat → Nat) (cI cZ : ClassId) (cJ : ClassId) (ao : Nat) (sz : Nat) (r : RS) (k : CS) (a : AS) (o : OS) (i f : Nat) (hB : RB r) (h1 : i < r.n) (h2 : f < 2) : Met l yL_set (.codeWith yL_set cL_set 5 (some .int) [(0, 17, 20, 25)] :: ALLG) ({ frames := 2, cells := 0, slots := 0, locals := 45 }) (va_Pc [.ref (q 17), .int (nI i), .int (nI f), .ref ao] (cP (dC, dI) vwCl [(cI, .int), (cZ, .boolean), (cJ, .long)] (wH q cI cZ cJ ao r k a o) eT sz)) (va_Qi (fun (x : Int32) (u : (RS × CS × AS) × (Nat → Int64)) => x = nI 0 ∧ u.1 = (r.s_fl (va_up r.fl i f), k, a) ∧ u.2 0 = lN (if r.fl i = f then 0 else 1)) (fun (u : (RS × CS × AS) × (Nat → Int64)) => cB (dC, dI) vwCl [(cI, .int), (cZ, .boolean), (cJ, .long)] (wH q cI cZ cJ ao u.1.1 u.1.2.1 u.1.2.2 u.2) (va_A (wH q cI cZ cJ ao r k a o) sz)) (va_A (wH q cI cZ cJ ao r k a o) sz)) 0 0 (va_A (wH q cI cZ cJ ao r k a o) sz) := by
  refine xm_h (cc := cL_set) (maxL := 5) (ret := some .int) (hh := [(0, 17, 20, 25)]) (by decide) rfl (Nat.le_of_ble_eq_true rfl) ?_
  intro p e s m below meth c A hAe hx hb hr hml hts0 hown hlk htab hsz H locs hP hK hD hA hS hE ls hl
  have hts : ∀ w ∈ ALLG, w.before _ s = true := fun w h => hts0 w (List.mem_cons_of_mem _ h)
  rw [← hAe]
  have g9 : (if r.fl i = f then 0 else 1) < 2 := by split <;> decide
  have hl : lv_has ls 5 [(0, .ref (q 17)), (1, .int (nI i)), (2, .int (nI f)), (3, .ref ao)] := hl
  refine lv_aload_n hx hb dL_set_0 rfl (lv_at hl 3 rfl) ?_
  refine lv_iconst (v := nI 0) hx hb dL_set_1 (by decide) ?_
  refine lv_aload_n hx hb dL_set_2 rfl (lv_at hl 0 rfl) ?_
  refine lv_iload_n hx hb dL_set_3 rfl (lv_at hl 1 rfl) ?_
  refine lv_iload_n hx hb dL_set_4 rfl (lv_at hl 2 rfl) ?_
  refine xc_Vi (As := [.int (nI i), .int (nI f)]) (wr := wO cJ ao o) ⟨hx, hb, hml, hown, hts⟩ (c_ScanRows_set l dC dI q cI cZ H.size r k a i f hB h1 h2) (cwV 2 hts (gV tw_402 tw_403 tw_404 tw_1 tw_405) rfl rfl rfl (by decide +kernel) ⟨Nat.le_of_ble_eq_true rfl, Nat.le_of_ble_eq_true rfl⟩) rfl hl.1 rfl (Nat.le_of_ble_eq_true rfl) dL_set_5 ⟨Nat.zero_le _, Nat.zero_le _⟩ hP hD hK hS hA [0, 1, 2, 3, 4, 5, 6, 7, 8, 9, 10, 11, 12, 13, 14, 15, 16, 17] [18] rfl rfl (by decide) (by decide) (by decide) [0, 1] rfl (q0 := 17) rfl rfl rfl eT_M (trivial) (fun r_1 u_2 H locs w_3 hP hD hS => ?_)
  obtain ⟨rfl, rfl⟩ := w_3
  have hP : va_P (dC, dI) vwCl (wH q cI cZ cJ ao (RS.s_fl r (va_up (RS.fl r) i f)) k a o) H := hP.sub [1, 2, 3, 4, 5, 6, 7, 8, 9, 10, 11, 12, 13, 14, 15, 16, 17, 18, 0] rfl
  have hD : va_D A (wH q cI cZ cJ ao (RS.s_fl r (va_up (RS.fl r) i f)) k a o) := hD.sub [1, 2, 3, 4, 5, 6, 7, 8, 9, 10, 11, 12, 13, 14, 15, 16, 17, 18, 0] (by decide) rfl
  refine xn_zeq (tgt := 15) hx hb (by omega) dL_set_8 (by decide) (fun c_4 => ?_) (fun c_4 => ?_)
  · refine lv_lconst (v := 0) hx hb dL_set_15 (by decide) ?_
    refine va_last hx hb hK hP hD hS 18 2 rfl rfl (vp_in_nI (show 0 < 1 by decide) (by decide)) dL_set_16 (fun H locs hP hD hS => ?_)
    have hP : va_P (dC, dI) vwCl (wH q cI cZ cJ ao (RS.s_fl r (va_up (RS.fl r) i f)) k a (vp_updL o (nI 0).toNatClampNeg 0)) H := hP
    have hD : va_D A (wH q cI cZ cJ ao (RS.s_fl r (va_up (RS.fl r) i f)) k a (vp_updL o (nI 0).toNatClampNeg 0)) := hD
    refine lv_goto (tgt := 24) hx hb dL_set_17 (by decide) ?_
    refine lv_iconst (v := nI 0) hx hb dL_set_24 (by decide) ?_
    exact xr_i hx hb hr hlk (u := ((RS.s_fl r (va_up (RS.fl r) i f), k, a), vp_updL o (nI 0).toNatClampNeg 0)) (⟨rfl, rfl, (upL0 o 0).trans (by rw [show (if r.fl i = f then 0 else 1) = 0 by omega]; rfl)⟩) hP hK hD hS dL_set_25
  · refine lv_lconst (v := 1) hx hb dL_set_11 (by decide) ?_
    refine lv_goto (tgt := 16) hx hb dL_set_12 (by decide) ?_
    refine va_last hx hb hK hP hD hS 18 2 rfl rfl (vp_in_nI (show 0 < 1 by decide) (by decide)) dL_set_16 (fun H locs hP hD hS => ?_)
    have hP : va_P (dC, dI) vwCl (wH q cI cZ cJ ao (RS.s_fl r (va_up (RS.fl r) i f)) k a (vp_updL o (nI 0).toNatClampNeg 1)) H := hP
    have hD : va_D A (wH q cI cZ cJ ao (RS.s_fl r (va_up (RS.fl r) i f)) k a (vp_updL o (nI 0).toNatClampNeg 1)) := hD
    refine lv_goto (tgt := 24) hx hb dL_set_17 (by decide) ?_
    refine lv_iconst (v := nI 0) hx hb dL_set_24 (by decide) ?_
    exact xr_i hx hb hr hlk (u := ((RS.s_fl r (va_up (RS.fl r) i f), k, a), vp_updL o (nI 0).toNatClampNeg 1)) (⟨rfl, rfl, (upL0 o 1).trans (by rw [show (if r.fl i = f then 0 else 1) = 1 by omega]; rfl)⟩) hP hK hD hS dL_set_25
set_option maxHeartbeats 4000000 in
set_option maxRecDepth 100000 in
theorem h_value (l : Launch) (dC : Nat → ClassId) (dI : Nat → Nat → Nat) (q : Nat → Nat) (cI cZ : ClassId) (cJ : ClassId) (ao : Nat) (sz : Nat) (r : RS) (k : CS) (a : AS) (o : OS) (i : Nat) (hB : RB r) (h1 : i < r.n) : Met l yL_value (.codeWith yL_value cL_value 4 (some .int) [(0, 9, 12, 25)] :: ALLG) ({ frames := 2, cells := 0, slots := 0, locals := 42 }) (va_Pc [.ref (q 17), .int (nI i), .ref ao] (cP (dC, dI) vwCl [(cI, .int), (cZ, .boolean), (cJ, .long)] (wH q cI cZ cJ ao r k a o) eT sz)) (va_Qi (fun (x : Int32) (u : (RS × CS × AS) × (Nat → Int64)) => x = nI 0 ∧ u.1 = (r, k, a) ∧ u.2 0 = (nI (r.vb i)).toInt64) (fun (u : (RS × CS × AS) × (Nat → Int64)) => cB (dC, dI) vwCl [(cI, .int), (cZ, .boolean), (cJ, .long)] (wH q cI cZ cJ ao u.1.1 u.1.2.1 u.1.2.2 u.2) (va_A (wH q cI cZ cJ ao r k a o) sz)) (va_A (wH q cI cZ cJ ao r k a o) sz)) 0 0 (va_A (wH q cI cZ cJ ao r k a o) sz) := by
  refine xm_h (cc := cL_value) (maxL := 4) (ret := some .int) (hh := [(0, 9, 12, 25)]) (by decide) rfl (Nat.le_of_ble_eq_true rfl) ?_
  intro p e s m below meth c A hAe hx hb hr hml hts0 hown hlk htab hsz H locs hP hK hD hA hS hE ls hl
  have hts : ∀ w ∈ ALLG, w.before _ s = true := fun w h => hts0 w (List.mem_cons_of_mem _ h)
  rw [← hAe]
  have hl : lv_has ls 4 [(0, .ref (q 17)), (1, .int (nI i)), (2, .ref ao)] := hl
  refine lv_aload_n hx hb dL_value_0 rfl (lv_at hl 2 rfl) ?_
  refine lv_iconst (v := nI 0) hx hb dL_value_1 (by decide) ?_
  refine lv_aload_n hx hb dL_value_2 rfl (lv_at hl 0 rfl) ?_
  refine lv_iload_n hx hb dL_value_3 rfl (lv_at hl 1 rfl) ?_
  refine xc_Vi (As := [.int (nI i)]) (wr := wO cJ ao o) ⟨hx, hb, hml, hown, hts⟩ (c_ScanRows_value l dC dI q cI cZ H.size r k a i hB h1) (cwV 1 hts (gV tw_428 tw_429 tw_430 tw_1 tw_431) rfl rfl rfl (by decide +kernel) ⟨Nat.le_of_ble_eq_true rfl, Nat.le_of_ble_eq_true rfl⟩) rfl hl.1 rfl (Nat.le_of_ble_eq_true rfl) dL_value_4 ⟨Nat.zero_le _, Nat.zero_le _⟩ hP hD hK hS hA [0, 1, 2, 3, 4, 5, 6, 7, 8, 9, 10, 11, 12, 13, 14, 15, 16, 17] [18] rfl rfl (by decide) (by decide) (by decide) [0, 1] rfl (q0 := 17) rfl rfl rfl eT_M (trivial) (fun r_1 u_2 H locs w_3 hP hD hS => ?_)
  obtain rfl := w_3
  have hP : va_P (dC, dI) vwCl (wH q cI cZ cJ ao r k a o) H := hP.sub [1, 2, 3, 4, 5, 6, 7, 8, 9, 10, 11, 12, 13, 14, 15, 16, 17, 18, 0] rfl
  have hD : va_D A (wH q cI cZ cJ ao r k a o) := hD.sub [1, 2, 3, 4, 5, 6, 7, 8, 9, 10, 11, 12, 13, 14, 15, 16, 17, 18, 0] (by decide) rfl
  refine lv_i2l hx hb dL_value_7 rfl ?_
  refine va_last hx hb hK hP hD hS 18 2 rfl rfl (vp_in_nI (show 0 < 1 by decide) (by decide)) dL_value_8 (fun H locs hP hD hS => ?_)
  have hP : va_P (dC, dI) vwCl (wH q cI cZ cJ ao r k a (vp_updL o (nI 0).toNatClampNeg ((nI (r.vb i)).toInt64))) H := hP
  have hD : va_D A (wH q cI cZ cJ ao r k a (vp_updL o (nI 0).toNatClampNeg ((nI (r.vb i)).toInt64))) := hD
  refine lv_goto (tgt := 15) hx hb dL_value_9 (by decide) ?_
  refine lv_iconst (v := nI 0) hx hb dL_value_15 (by decide) ?_
  exact xr_i hx hb hr hlk (u := ((r, k, a), vp_updL o (nI 0).toNatClampNeg ((nI (r.vb i)).toInt64))) (⟨rfl, rfl, upL0 o ((nI (r.vb i)).toInt64)⟩) hP hK hD hS dL_value_16
set_option maxHeartbeats 4000000 in
set_option maxRecDepth 100000 in
theorem h_port (l : Launch) (dC : Nat → ClassId) (dI : Nat → Nat → Nat) (q : Nat → Nat) (cI cZ : ClassId) (cJ : ClassId) (ao : Nat) (sz : Nat) (r : RS) (k : CS) (a : AS) (o : OS) (kd : Nat) (h1 : k.n < 20) (h2 : kd < 2) : Met l yL_port (.codeWith yL_port cL_port 4 (some .int) [(0, 9, 12, 13), (0, 9, 15, 15)] :: ALLG) ({ frames := 2, cells := 0, slots := 0, locals := 43 }) (va_Pc [.ref (q 17), .int (nI kd), .ref ao] (cP (dC, dI) vwCl [(cI, .int), (cZ, .boolean), (cJ, .long)] (wH q cI cZ cJ ao r k a o) eT sz)) (va_Qi (fun (x : Int32) (u : (RS × CS × AS) × (Nat → Int64)) => x = nI 0 ∧ u.1 = (r, (k.s_ki (va_up k.ki k.n kd)).s_n (k.n + 1), a) ∧ u.2 0 = (nI k.n).toInt64) (fun (u : (RS × CS × AS) × (Nat → Int64)) => cB (dC, dI) vwCl [(cI, .int), (cZ, .boolean), (cJ, .long)] (wH q cI cZ cJ ao u.1.1 u.1.2.1 u.1.2.2 u.2) (va_A (wH q cI cZ cJ ao r k a o) sz)) (va_A (wH q cI cZ cJ ao r k a o) sz)) 0 0 (va_A (wH q cI cZ cJ ao r k a o) sz) := by
  refine xm_h (cc := cL_port) (maxL := 4) (ret := some .int) (hh := [(0, 9, 12, 13), (0, 9, 15, 15)]) (by decide) rfl (Nat.le_of_ble_eq_true rfl) ?_
  intro p e s m below meth c A hAe hx hb hr hml hts0 hown hlk htab hsz H locs hP hK hD hA hS hE ls hl
  have hts : ∀ w ∈ ALLG, w.before _ s = true := fun w h => hts0 w (List.mem_cons_of_mem _ h)
  rw [← hAe]
  have hl : lv_has ls 4 [(0, .ref (q 17)), (1, .int (nI kd)), (2, .ref ao)] := hl
  refine lv_aload_n hx hb dL_port_0 rfl (lv_at hl 2 rfl) ?_
  refine lv_iconst (v := nI 0) hx hb dL_port_1 (by decide) ?_
  refine lv_aload_n hx hb dL_port_2 rfl (lv_at hl 0 rfl) ?_
  refine lv_iload_n hx hb dL_port_3 rfl (lv_at hl 1 rfl) ?_
  refine xc_Vi (As := [.int (nI kd)]) (wr := wO cJ ao o) ⟨hx, hb, hml, hown, hts⟩ (c_ScanRows_port l dC dI q cI cZ H.size r k a kd h1 h2) (cwV 1 hts (gV tw_435 tw_436 tw_437 tw_1 tw_438) rfl rfl rfl (by decide +kernel) ⟨Nat.le_of_ble_eq_true rfl, Nat.le_of_ble_eq_true rfl⟩) rfl hl.1 rfl (Nat.le_of_ble_eq_true rfl) dL_port_4 ⟨Nat.zero_le _, Nat.zero_le _⟩ hP hD hK hS hA [0, 1, 2, 3, 4, 5, 6, 7, 8, 9, 10, 11, 12, 13, 14, 15, 16, 17] [18] rfl rfl (by decide) (by decide) (by decide) [0, 1] rfl (q0 := 17) rfl rfl rfl eT_M (trivial) (fun r_1 u_2 H locs w_3 hP hD hS => ?_)
  obtain ⟨rfl, rfl⟩ := w_3
  have hP : va_P (dC, dI) vwCl (wH q cI cZ cJ ao r (CS.s_n (CS.s_ki k (va_up (CS.ki k) (CS.n k) kd)) (CS.n k + 1)) a o) H := hP.sub [1, 2, 3, 4, 5, 6, 7, 8, 9, 10, 11, 12, 13, 14, 15, 16, 17, 18, 0] rfl
  have hD : va_D A (wH q cI cZ cJ ao r (CS.s_n (CS.s_ki k (va_up (CS.ki k) (CS.n k) kd)) (CS.n k + 1)) a o) := hD.sub [1, 2, 3, 4, 5, 6, 7, 8, 9, 10, 11, 12, 13, 14, 15, 16, 17, 18, 0] (by decide) rfl
  refine lv_i2l hx hb dL_port_7 rfl ?_
  refine va_last hx hb hK hP hD hS 18 2 rfl rfl (vp_in_nI (show 0 < 1 by decide) (by decide)) dL_port_8 (fun H locs hP hD hS => ?_)
  have hP : va_P (dC, dI) vwCl (wH q cI cZ cJ ao r (CS.s_n (CS.s_ki k (va_up (CS.ki k) (CS.n k) kd)) (CS.n k + 1)) a (vp_updL o (nI 0).toNatClampNeg ((nI k.n).toInt64))) H := hP
  have hD : va_D A (wH q cI cZ cJ ao r (CS.s_n (CS.s_ki k (va_up (CS.ki k) (CS.n k) kd)) (CS.n k + 1)) a (vp_updL o (nI 0).toNatClampNeg ((nI k.n).toInt64))) := hD
  refine lv_goto (tgt := 18) hx hb dL_port_9 (by decide) ?_
  refine lv_iconst (v := nI 0) hx hb dL_port_18 (by decide) ?_
  exact xr_i hx hb hr hlk (u := ((r, CS.s_n (CS.s_ki k (va_up (CS.ki k) (CS.n k) kd)) (CS.n k + 1), a), vp_updL o (nI 0).toNatClampNeg ((nI k.n).toInt64))) (⟨rfl, rfl, upL0 o ((nI k.n).toInt64)⟩) hP hK hD hS dL_port_19
set_option maxHeartbeats 4000000 in
set_option maxRecDepth 100000 in
theorem h_tick (l : Launch) (dC : Nat → ClassId) (dI : Nat → Nat → Nat) (q : Nat → Nat) (cI cZ : ClassId) (cJ : ClassId) (ao : Nat) (sz : Nat) (r : RS) (k : CS) (a : AS) (o : OS) (tN : Nat) (m0 b : Nat) (hY : YB (r, k, a)) (hm2 : m0 < 2) (hb2 : b < 2) : Met l yL_tick (.codeWith yL_tick cL_tick 5 (some .int) [(0, 10, 13, 15)] :: ALLG) ({ frames := 6, cells := 0, slots := 0, locals := 135 }) (va_Pc [.ref (q 17), .int (nI m0), .int (nI b), .ref ao] (cP (dC, dI) vwCl [(cI, .int), (cZ, .boolean), (cJ, .long)] (wH q cI cZ cJ ao r k a o) (eN tN (va_A (wH q cI cZ cJ ao r k a o) sz)) sz)) (va_Qi (fun (x : Int32) (u : (RS × CS × AS) × (Nat → Int64)) => x = nI 0 ∧ u.1 = (stepF r k a m0 b).2 ∧ u.2 0 = (zI (stepF r k a m0 b).1).toInt64) (fun (u : (RS × CS × AS) × (Nat → Int64)) => cB (dC, dI) vwCl [(cI, .int), (cZ, .boolean), (cJ, .long)] (wH q cI cZ cJ ao u.1.1 u.1.2.1 u.1.2.2 u.2) (va_A (wH q cI cZ cJ ao r k a o) sz)) (va_A (wH q cI cZ cJ ao r k a o) sz)) 0 0 (va_A (wH q cI cZ cJ ao r k a o) sz) := by
  refine xm_h (cc := cL_tick) (maxL := 5) (ret := some .int) (hh := [(0, 10, 13, 15)]) (by decide) rfl (Nat.le_of_ble_eq_true rfl) ?_
  intro p e s m below meth c A hAe hx hb hr hml hts0 hown hlk htab hsz H locs hP hK hD hA hS hE ls hl
  have hts : ∀ w ∈ ALLG, w.before _ s = true := fun w h => hts0 w (List.mem_cons_of_mem _ h)
  rw [← hAe]
  rw [← hAe] at hE
  have hl : lv_has ls 5 [(0, .ref (q 17)), (1, .int (nI m0)), (2, .int (nI b)), (3, .ref ao)] := hl
  refine lv_aload_n hx hb dL_tick_0 rfl (lv_at hl 3 rfl) ?_
  refine lv_iconst (v := nI 0) hx hb dL_tick_1 (by decide) ?_
  refine lv_aload_n hx hb dL_tick_2 rfl (lv_at hl 0 rfl) ?_
  refine lv_iload_n hx hb dL_tick_3 rfl (lv_at hl 1 rfl) ?_
  refine lv_iload_n hx hb dL_tick_4 rfl (lv_at hl 2 rfl) ?_
  refine xc_Vi (As := [.int (nI m0), .int (nI b)]) (wr := wO cJ ao o) ⟨hx, hb, hml, hown, hts⟩ (c_ScanRows_tick l dC dI q cI cZ H.size r k a tN m0 b hY hm2 hb2) (cwV 2 hts (gV tw_460 tw_461 tw_462 tw_1 tw_463) rfl rfl rfl (by decide +kernel) ⟨Nat.le_of_ble_eq_true rfl, Nat.le_of_ble_eq_true rfl⟩) rfl hl.1 rfl (Nat.le_of_ble_eq_true rfl) dL_tick_5 ⟨Nat.zero_le _, Nat.zero_le _⟩ hP hD hK hS hA [0, 1, 2, 3, 4, 5, 6, 7, 8, 9, 10, 11, 12, 13, 14, 15, 16, 17] [18] rfl rfl (by decide) (by decide) (by decide) [0, 1] rfl (q0 := 17) rfl rfl rfl (eN_M _ _) (eN_kn hE hS (va_free (wc := wX q cI cZ r k a) hD hS hA [0, 1, 2, 3, 4, 5, 6, 7, 8, 9, 10, 11, 12, 13, 14, 15, 16, 17] rfl)) (fun r_1 u_2 H locs w_3 hP hD hS => ?_)
  obtain ⟨rfl, rfl⟩ := w_3
  have hP : va_P (dC, dI) vwCl (wH q cI cZ cJ ao (((stepF r k a m0 b).2).1) (((stepF r k a m0 b).2).2.1) (((stepF r k a m0 b).2).2.2) o) H := hP.sub [1, 2, 3, 4, 5, 6, 7, 8, 9, 10, 11, 12, 13, 14, 15, 16, 17, 18, 0] rfl
  have hD : va_D A (wH q cI cZ cJ ao (((stepF r k a m0 b).2).1) (((stepF r k a m0 b).2).2.1) (((stepF r k a m0 b).2).2.2) o) := hD.sub [1, 2, 3, 4, 5, 6, 7, 8, 9, 10, 11, 12, 13, 14, 15, 16, 17, 18, 0] (by decide) rfl
  refine lv_i2l hx hb dL_tick_8 rfl ?_
  refine va_last hx hb hK hP hD hS 18 2 rfl rfl (vp_in_nI (show 0 < 1 by decide) (by decide)) dL_tick_9 (fun H locs hP hD hS => ?_)
  have hP : va_P (dC, dI) vwCl (wH q cI cZ cJ ao (((stepF r k a m0 b).2).1) (((stepF r k a m0 b).2).2.1) (((stepF r k a m0 b).2).2.2) (vp_updL o (nI 0).toNatClampNeg ((zI ((stepF r k a m0 b).1)).toInt64))) H := hP
  have hD : va_D A (wH q cI cZ cJ ao (((stepF r k a m0 b).2).1) (((stepF r k a m0 b).2).2.1) (((stepF r k a m0 b).2).2.2) (vp_updL o (nI 0).toNatClampNeg ((zI ((stepF r k a m0 b).1)).toInt64))) := hD
  refine lv_goto (tgt := 17) hx hb dL_tick_10 (by decide) ?_
  refine lv_iconst (v := nI 0) hx hb dL_tick_17 (by decide) ?_
  exact xr_i hx hb hr hlk (u := ((((stepF r k a m0 b).2).1, ((stepF r k a m0 b).2).2.1, ((stepF r k a m0 b).2).2.2), vp_updL o (nI 0).toNatClampNeg ((zI ((stepF r k a m0 b).1)).toInt64))) (⟨rfl, rfl, upL0 o ((zI ((stepF r k a m0 b).1)).toInt64)⟩) hP hK hD hS dL_tick_18
set_option maxHeartbeats 4000000 in
set_option maxRecDepth 100000 in
theorem h_go (l : Launch) (dC : Nat → ClassId) (dI : Nat → Nat → Nat) (q : Nat → Nat) (cI cZ : ClassId) (cJ : ClassId) (ao : Nat) (sz : Nat) (r : RS) (k : CS) (a : AS) (o : OS) (tN : Nat) (goal : Nat) (hY : YB (r, k, a)) (hg : goal < 16) : Met l yL_go (.codeWith yL_go cL_go 4 (some .int) [(0, 9, 12, 15)] :: ALLG) ({ frames := 7, cells := 0, slots := 0, locals := 157 }) (va_Pc [.ref (q 17), .int (nI goal), .ref ao] (cP (dC, dI) vwCl [(cI, .int), (cZ, .boolean), (cJ, .long)] (wH q cI cZ cJ ao r k a o) (eN tN (va_A (wH q cI cZ cJ ao r k a o) sz)) sz)) (va_Qi (fun (x : Int32) (u : (RS × CS × AS) × (Nat → Int64)) => x = nI 0 ∧ u.1 = goIt (r, k, a.s_tk (mtF goal a.tk)) (mtF goal a.tk a.st) ∧ u.2 0 = (nI (mtF goal a.tk a.st)).toInt64) (fun (u : (RS × CS × AS) × (Nat → Int64)) => cB (dC, dI) vwCl [(cI, .int), (cZ, .boolean), (cJ, .long)] (wH q cI cZ cJ ao u.1.1 u.1.2.1 u.1.2.2 u.2) (va_A (wH q cI cZ cJ ao r k a o) sz)) (va_A (wH q cI cZ cJ ao r k a o) sz)) 0 0 (va_A (wH q cI cZ cJ ao r k a o) sz) := by
  refine xm_h (cc := cL_go) (maxL := 4) (ret := some .int) (hh := [(0, 9, 12, 15)]) (by decide) rfl (Nat.le_of_ble_eq_true rfl) ?_
  intro p e s m below meth c A hAe hx hb hr hml hts0 hown hlk htab hsz H locs hP hK hD hA hS hE ls hl
  have hts : ∀ w ∈ ALLG, w.before _ s = true := fun w h => hts0 w (List.mem_cons_of_mem _ h)
  rw [← hAe]
  rw [← hAe] at hE
  have hl : lv_has ls 4 [(0, .ref (q 17)), (1, .int (nI goal)), (2, .ref ao)] := hl
  refine lv_aload_n hx hb dL_go_0 rfl (lv_at hl 2 rfl) ?_
  refine lv_iconst (v := nI 0) hx hb dL_go_1 (by decide) ?_
  refine lv_aload_n hx hb dL_go_2 rfl (lv_at hl 0 rfl) ?_
  refine lv_iload_n hx hb dL_go_3 rfl (lv_at hl 1 rfl) ?_
  refine xc_Vi (As := [.int (nI goal)]) (wr := wO cJ ao o) ⟨hx, hb, hml, hown, hts⟩ (c_ScanRows_go l dC dI q cI cZ H.size r k a tN goal hY hg) (cwV 1 hts (gV tw_522 tw_523 tw_524 tw_1 tw_525) rfl rfl rfl (by decide +kernel) ⟨Nat.le_of_ble_eq_true rfl, Nat.le_of_ble_eq_true rfl⟩) rfl hl.1 rfl (Nat.le_of_ble_eq_true rfl) dL_go_4 ⟨Nat.zero_le _, Nat.zero_le _⟩ hP hD hK hS hA [0, 1, 2, 3, 4, 5, 6, 7, 8, 9, 10, 11, 12, 13, 14, 15, 16, 17] [18] rfl rfl (by decide) (by decide) (by decide) [0, 1] rfl (q0 := 17) rfl rfl rfl (eN_M _ _) (eN_kn hE hS (va_free (wc := wX q cI cZ r k a) hD hS hA [0, 1, 2, 3, 4, 5, 6, 7, 8, 9, 10, 11, 12, 13, 14, 15, 16, 17] rfl)) (fun r_1 u_2 H locs w_3 hP hD hS => ?_)
  obtain ⟨rfl, rfl⟩ := w_3
  have hP : va_P (dC, dI) vwCl (wH q cI cZ cJ ao ((goIt (r, k, a.s_tk (mtF goal a.tk)) (mtF goal a.tk a.st)).1) ((goIt (r, k, a.s_tk (mtF goal a.tk)) (mtF goal a.tk a.st)).2.1) ((goIt (r, k, a.s_tk (mtF goal a.tk)) (mtF goal a.tk a.st)).2.2) o) H := hP.sub [1, 2, 3, 4, 5, 6, 7, 8, 9, 10, 11, 12, 13, 14, 15, 16, 17, 18, 0] rfl
  have hD : va_D A (wH q cI cZ cJ ao ((goIt (r, k, a.s_tk (mtF goal a.tk)) (mtF goal a.tk a.st)).1) ((goIt (r, k, a.s_tk (mtF goal a.tk)) (mtF goal a.tk a.st)).2.1) ((goIt (r, k, a.s_tk (mtF goal a.tk)) (mtF goal a.tk a.st)).2.2) o) := hD.sub [1, 2, 3, 4, 5, 6, 7, 8, 9, 10, 11, 12, 13, 14, 15, 16, 17, 18, 0] (by decide) rfl
  refine lv_i2l hx hb dL_go_7 rfl ?_
  refine va_last hx hb hK hP hD hS 18 2 rfl rfl (vp_in_nI (show 0 < 1 by decide) (by decide)) dL_go_8 (fun H locs hP hD hS => ?_)
  have hP : va_P (dC, dI) vwCl (wH q cI cZ cJ ao ((goIt (r, k, a.s_tk (mtF goal a.tk)) (mtF goal a.tk a.st)).1) ((goIt (r, k, a.s_tk (mtF goal a.tk)) (mtF goal a.tk a.st)).2.1) ((goIt (r, k, a.s_tk (mtF goal a.tk)) (mtF goal a.tk a.st)).2.2) (vp_updL o (nI 0).toNatClampNeg ((nI (mtF goal a.tk a.st)).toInt64))) H := hP
  have hD : va_D A (wH q cI cZ cJ ao ((goIt (r, k, a.s_tk (mtF goal a.tk)) (mtF goal a.tk a.st)).1) ((goIt (r, k, a.s_tk (mtF goal a.tk)) (mtF goal a.tk a.st)).2.1) ((goIt (r, k, a.s_tk (mtF goal a.tk)) (mtF goal a.tk a.st)).2.2) (vp_updL o (nI 0).toNatClampNeg ((nI (mtF goal a.tk a.st)).toInt64))) := hD
  refine lv_goto (tgt := 15) hx hb dL_go_9 (by decide) ?_
  refine lv_iconst (v := nI 0) hx hb dL_go_15 (by decide) ?_
  exact xr_i hx hb hr hlk (u := (((goIt (r, k, a.s_tk (mtF goal a.tk)) (mtF goal a.tk a.st)).1, (goIt (r, k, a.s_tk (mtF goal a.tk)) (mtF goal a.tk a.st)).2.1, (goIt (r, k, a.s_tk (mtF goal a.tk)) (mtF goal a.tk a.st)).2.2), vp_updL o (nI 0).toNatClampNeg ((nI (mtF goal a.tk a.st)).toInt64))) (⟨rfl, rfl, upL0 o ((nI (mtF goal a.tk a.st)).toInt64)⟩) hP hK hD hS dL_go_16
set_option maxHeartbeats 4000000 in
set_option maxRecDepth 100000 in
theorem h_boundary (l : Launch) (dC : Nat → ClassId) (dI : Nat → Nat → Nat) (q : Nat → Nat) (cI cZ : ClassId) (cJ : ClassId) (ao : Nat) (sz : Nat) (r : RS) (k : CS) (a : AS) (o : OS) (i : Nat) (h1 : i < k.n) (h2 : k.n ≤ 20) (h3 : k.ki i < 2) (h4 : a.co < 16) : Met l yL_boundary (.codeWith yL_boundary cL_boundary 4 (some .int) [(0, 9, 12, 25)] :: ALLG) ({ frames := 2, cells := 0, slots := 0, locals := 43 }) (va_Pc [.ref (q 17), .int (nI i), .ref ao] (cP (dC, dI) vwCl [(cI, .int), (cZ, .boolean), (cJ, .long)] (wH q cI cZ cJ ao r k a o) eT sz)) (va_Qi (fun (x : Int32) (u : (RS × CS × AS) × (Nat → Int64)) => x = nI 0 ∧ u.1 = (r, k, a) ∧ u.2 0 = (nI (drv k i (if a.co = 0 then 1 else 0))).toInt64) (fun (u : (RS × CS × AS) × (Nat → Int64)) => cB (dC, dI) vwCl [(cI, .int), (cZ, .boolean), (cJ, .long)] (wH q cI cZ cJ ao u.1.1 u.1.2.1 u.1.2.2 u.2) (va_A (wH q cI cZ cJ ao r k a o) sz)) (va_A (wH q cI cZ cJ ao r k a o) sz)) 0 0 (va_A (wH q cI cZ cJ ao r k a o) sz) := by
  refine xm_h (cc := cL_boundary) (maxL := 4) (ret := some .int) (hh := [(0, 9, 12, 25)]) (by decide) rfl (Nat.le_of_ble_eq_true rfl) ?_
  intro p e s m below meth c A hAe hx hb hr hml hts0 hown hlk htab hsz H locs hP hK hD hA hS hE ls hl
  have hts : ∀ w ∈ ALLG, w.before _ s = true := fun w h => hts0 w (List.mem_cons_of_mem _ h)
  rw [← hAe]
  have hl : lv_has ls 4 [(0, .ref (q 17)), (1, .int (nI i)), (2, .ref ao)] := hl
  refine lv_aload_n hx hb dL_boundary_0 rfl (lv_at hl 2 rfl) ?_
  refine lv_iconst (v := nI 0) hx hb dL_boundary_1 (by decide) ?_
  refine lv_aload_n hx hb dL_boundary_2 rfl (lv_at hl 0 rfl) ?_
  refine lv_iload_n hx hb dL_boundary_3 rfl (lv_at hl 1 rfl) ?_
  refine xc_Vi (As := [.int (nI i)]) (wr := wO cJ ao o) ⟨hx, hb, hml, hown, hts⟩ (c_ScanRows_boundary l dC dI q cI cZ H.size r k a i h1 h2 h3 h4) (cwV 1 hts (gV tw_546 tw_547 tw_548 tw_1 tw_549) rfl rfl rfl (by decide +kernel) ⟨Nat.le_of_ble_eq_true rfl, Nat.le_of_ble_eq_true rfl⟩) rfl hl.1 rfl (Nat.le_of_ble_eq_true rfl) dL_boundary_4 ⟨Nat.zero_le _, Nat.zero_le _⟩ hP hD hK hS hA [0, 1, 2, 3, 4, 5, 6, 7, 8, 9, 10, 11, 12, 13, 14, 15, 16, 17] [18] rfl rfl (by decide) (by decide) (by decide) [0, 1] rfl (q0 := 17) rfl rfl rfl eT_M (trivial) (fun r_1 u_2 H locs w_3 hP hD hS => ?_)
  obtain rfl := w_3
  have hP : va_P (dC, dI) vwCl (wH q cI cZ cJ ao r k a o) H := hP.sub [1, 2, 3, 4, 5, 6, 7, 8, 9, 10, 11, 12, 13, 14, 15, 16, 17, 18, 0] rfl
  have hD : va_D A (wH q cI cZ cJ ao r k a o) := hD.sub [1, 2, 3, 4, 5, 6, 7, 8, 9, 10, 11, 12, 13, 14, 15, 16, 17, 18, 0] (by decide) rfl
  refine lv_i2l hx hb dL_boundary_7 rfl ?_
  refine va_last hx hb hK hP hD hS 18 2 rfl rfl (vp_in_nI (show 0 < 1 by decide) (by decide)) dL_boundary_8 (fun H locs hP hD hS => ?_)
  have hP : va_P (dC, dI) vwCl (wH q cI cZ cJ ao r k a (vp_updL o (nI 0).toNatClampNeg ((nI (drv k i (if a.co = 0 then 1 else 0))).toInt64))) H := hP
  have hD : va_D A (wH q cI cZ cJ ao r k a (vp_updL o (nI 0).toNatClampNeg ((nI (drv k i (if a.co = 0 then 1 else 0))).toInt64))) := hD
  refine lv_goto (tgt := 15) hx hb dL_boundary_9 (by decide) ?_
  refine lv_iconst (v := nI 0) hx hb dL_boundary_15 (by decide) ?_
  exact xr_i hx hb hr hlk (u := ((r, k, a), vp_updL o (nI 0).toNatClampNeg ((nI (drv k i (if a.co = 0 then 1 else 0))).toInt64))) (⟨rfl, rfl, upL0 o ((nI (drv k i (if a.co = 0 then 1 else 0))).toInt64)⟩) hP hK hD hS dL_boundary_16
set_option maxHeartbeats 4000000 in
set_option maxRecDepth 100000 in
theorem h_count (l : Launch) (dC : Nat → ClassId) (dI : Nat → Nat → Nat) (q : Nat → Nat) (cI cZ : ClassId) (cJ : ClassId) (ao : Nat) (sz : Nat) (r : RS) (k : CS) (a : AS) (o : OS) (w0 : Nat) (h1 : a.co < 16) (h2 : k.n ≤ 20) (h3 : r.p ≤ 32) (h4 : w0 < 5) : Met l yL_count (.codeWith yL_count cL_count 4 (some .int) [(0, 9, 12, 25)] :: ALLG) ({ frames := 3, cells := 0, slots := 0, locals := 61 }) (va_Pc [.ref (q 17), .int (nI w0), .ref ao] (cP (dC, dI) vwCl [(cI, .int), (cZ, .boolean), (cJ, .long)] (wH q cI cZ cJ ao r k a o) eT sz)) (va_Qi (fun (x : Int32) (u : (RS × CS × AS) × (Nat → Int64)) => x = nI 0 ∧ u.1 = (r, k, a) ∧ u.2 0 = (nI (cntF r k a w0)).toInt64) (fun (u : (RS × CS × AS) × (Nat → Int64)) => cB (dC, dI) vwCl [(cI, .int), (cZ, .boolean), (cJ, .long)] (wH q cI cZ cJ ao u.1.1 u.1.2.1 u.1.2.2 u.2) (va_A (wH q cI cZ cJ ao r k a o) sz)) (va_A (wH q cI cZ cJ ao r k a o) sz)) 0 0 (va_A (wH q cI cZ cJ ao r k a o) sz) := by
  refine xm_h (cc := cL_count) (maxL := 4) (ret := some .int) (hh := [(0, 9, 12, 25)]) (by decide) rfl (Nat.le_of_ble_eq_true rfl) ?_
  intro p e s m below meth c A hAe hx hb hr hml hts0 hown hlk htab hsz H locs hP hK hD hA hS hE ls hl
  have hts : ∀ w ∈ ALLG, w.before _ s = true := fun w h => hts0 w (List.mem_cons_of_mem _ h)
  rw [← hAe]
  have hl : lv_has ls 4 [(0, .ref (q 17)), (1, .int (nI w0)), (2, .ref ao)] := hl
  refine lv_aload_n hx hb dL_count_0 rfl (lv_at hl 2 rfl) ?_
  refine lv_iconst (v := nI 0) hx hb dL_count_1 (by decide) ?_
  refine lv_aload_n hx hb dL_count_2 rfl (lv_at hl 0 rfl) ?_
  refine lv_iload_n hx hb dL_count_3 rfl (lv_at hl 1 rfl) ?_
  refine xc_Vi (As := [.int (nI w0)]) (wr := wO cJ ao o) ⟨hx, hb, hml, hown, hts⟩ (c_ScanRows_count l dC dI q cI cZ H.size r k a w0 h1 h2 h3 h4) (cwV 1 hts (gV tw_557 tw_558 tw_559 tw_1 tw_560) rfl rfl rfl (by decide +kernel) ⟨Nat.le_of_ble_eq_true rfl, Nat.le_of_ble_eq_true rfl⟩) rfl hl.1 rfl (Nat.le_of_ble_eq_true rfl) dL_count_4 ⟨Nat.zero_le _, Nat.zero_le _⟩ hP hD hK hS hA [0, 1, 2, 3, 4, 5, 6, 7, 8, 9, 10, 11, 12, 13, 14, 15, 16, 17] [18] rfl rfl (by decide) (by decide) (by decide) [0, 1] rfl (q0 := 17) rfl rfl rfl eT_M (trivial) (fun r_1 u_2 H locs w_3 hP hD hS => ?_)
  obtain rfl := w_3
  have hP : va_P (dC, dI) vwCl (wH q cI cZ cJ ao r k a o) H := hP.sub [1, 2, 3, 4, 5, 6, 7, 8, 9, 10, 11, 12, 13, 14, 15, 16, 17, 18, 0] rfl
  have hD : va_D A (wH q cI cZ cJ ao r k a o) := hD.sub [1, 2, 3, 4, 5, 6, 7, 8, 9, 10, 11, 12, 13, 14, 15, 16, 17, 18, 0] (by decide) rfl
  refine lv_i2l hx hb dL_count_7 rfl ?_
  refine va_last hx hb hK hP hD hS 18 2 rfl rfl (vp_in_nI (show 0 < 1 by decide) (by decide)) dL_count_8 (fun H locs hP hD hS => ?_)
  have hP : va_P (dC, dI) vwCl (wH q cI cZ cJ ao r k a (vp_updL o (nI 0).toNatClampNeg ((nI (cntF r k a w0)).toInt64))) H := hP
  have hD : va_D A (wH q cI cZ cJ ao r k a (vp_updL o (nI 0).toNatClampNeg ((nI (cntF r k a w0)).toInt64))) := hD
  refine lv_goto (tgt := 15) hx hb dL_count_9 (by decide) ?_
  refine lv_iconst (v := nI 0) hx hb dL_count_15 (by decide) ?_
  exact xr_i hx hb hr hlk (u := ((r, k, a), vp_updL o (nI 0).toNatClampNeg ((nI (cntF r k a w0)).toInt64))) (⟨rfl, rfl, upL0 o ((nI (cntF r k a w0)).toInt64)⟩) hP hK hD hS dL_count_16
set_option maxHeartbeats 4000000 in
set_option maxRecDepth 100000 in
theorem h_load (l : Launch) (dC : Nat → ClassId) (dI : Nat → Nat → Nat) (q : Nat → Nat) (cI cZ : ClassId) (sz : Nat) (r : RS) (k : CS) (a : AS) (i : Nat) (v : Int32) (hB : RB r) (h1 : i < r.n) : Met l yL_load (.codeWith yL_load cL_load 4 (some .int) [(0, 6, 9, 25)] :: ALLG) ({ frames := 2, cells := 0, slots := 0, locals := 43 }) (va_Pc [.ref (q 17), .int (nI i), .int v] (cP (dC, dI) vwCl [(cI, .int), (cZ, .boolean)] (wX q cI cZ r k a) eT sz)) (va_Qi (fun (x : Int32) (u : RS × CS × AS) => x = nI 0 ∧ u = (r.s_vb (va_up r.vb i (bitN v)), k, a)) (fun (u : RS × CS × AS) => cB (dC, dI) vwCl [(cI, .int), (cZ, .boolean)] (wX q cI cZ u.1 u.2.1 u.2.2) (va_A (wX q cI cZ r k a) sz)) (va_A (wX q cI cZ r k a) sz)) 0 0 (va_A (wX q cI cZ r k a) sz) := by
  refine xm_h (cc := cL_load) (maxL := 4) (ret := some .int) (hh := [(0, 6, 9, 25)]) (by decide) rfl (Nat.le_of_ble_eq_true rfl) ?_
  intro p e s m below meth c A hAe hx hb hr hml hts0 hown hlk htab hsz H locs hP hK hD hA hS hE ls hl
  have hts : ∀ w ∈ ALLG, w.before _ s = true := fun w h => hts0 w (List.mem_cons_of_mem _ h)
  rw [← hAe]
  have hl : lv_has ls 4 [(0, .ref (q 17)), (1, .int (nI i)), (2, .int v)] := hl
  refine lv_aload_n hx hb dL_load_0 rfl (lv_at hl 0 rfl) ?_
  refine lv_iload_n hx hb dL_load_1 rfl (lv_at hl 1 rfl) ?_
  refine lv_iload_n hx hb dL_load_2 rfl (lv_at hl 2 rfl) ?_
  refine xc_Vv (As := [.int (nI i), .int v]) (wr := []) ⟨hx, hb, hml, hown, hts⟩ (c_ScanRows_load l dC dI q cI cZ H.size r k a i v hB h1) (cwV 2 hts (gV tw_418 tw_419 tw_420 tw_1 tw_421) rfl rfl rfl (by decide +kernel) ⟨Nat.le_of_ble_eq_true rfl, Nat.le_of_ble_eq_true rfl⟩) rfl hl.1 rfl (Nat.le_of_ble_eq_true rfl) dL_load_3 ⟨Nat.zero_le _, Nat.zero_le _⟩ hP hD hK hS hA [0, 1, 2, 3, 4, 5, 6, 7, 8, 9, 10, 11, 12, 13, 14, 15, 16, 17] [] rfl rfl (by decide) (by decide) (by decide) [0, 1] rfl (q0 := 17) rfl rfl rfl eT_M (trivial) (fun u_2 H locs w_3 hP hD hS => ?_)
  obtain rfl := w_3
  have hP : va_P (dC, dI) vwCl (wX q cI cZ (RS.s_vb r (va_up (RS.vb r) i (bitN v))) k a) H := hP
  have hD : va_D A (wX q cI cZ (RS.s_vb r (va_up (RS.vb r) i (bitN v))) k a) := hD
  refine lv_goto (tgt := 12) hx hb dL_load_6 (by decide) ?_
  refine lv_iconst (v := nI 0) hx hb dL_load_12 (by decide) ?_
  exact xr_i hx hb hr hlk (u := (RS.s_vb r (va_up (RS.vb r) i (bitN v)), k, a)) (⟨rfl, rfl⟩) hP hK hD hS dL_load_13
set_option maxHeartbeats 4000000 in
set_option maxRecDepth 100000 in
theorem h_pin (l : Launch) (dC : Nat → ClassId) (dI : Nat → Nat → Nat) (q : Nat → Nat) (cI cZ : ClassId) (sz : Nat) (r : RS) (k : CS) (a : AS) (i : Nat) (v : Int32) (h1 : i < k.n) (h2 : k.n ≤ 20) : Met l yL_pin (.codeWith yL_pin cL_pin 4 (some .int) [(0, 6, 9, 25)] :: ALLG) ({ frames := 2, cells := 0, slots := 0, locals := 43 }) (va_Pc [.ref (q 17), .int (nI i), .int v] (cP (dC, dI) vwCl [(cI, .int), (cZ, .boolean)] (wX q cI cZ r k a) eT sz)) (va_Qi (fun (x : Int32) (u : RS × CS × AS) => x = nI 0 ∧ u = (r, k.s_pin (va_up k.pin i (bitN v)), a)) (fun (u : RS × CS × AS) => cB (dC, dI) vwCl [(cI, .int), (cZ, .boolean)] (wX q cI cZ u.1 u.2.1 u.2.2) (va_A (wX q cI cZ r k a) sz)) (va_A (wX q cI cZ r k a) sz)) 0 0 (va_A (wX q cI cZ r k a) sz) := by
  refine xm_h (cc := cL_pin) (maxL := 4) (ret := some .int) (hh := [(0, 6, 9, 25)]) (by decide) rfl (Nat.le_of_ble_eq_true rfl) ?_
  intro p e s m below meth c A hAe hx hb hr hml hts0 hown hlk htab hsz H locs hP hK hD hA hS hE ls hl
  have hts : ∀ w ∈ ALLG, w.before _ s = true := fun w h => hts0 w (List.mem_cons_of_mem _ h)
  rw [← hAe]
  have hl : lv_has ls 4 [(0, .ref (q 17)), (1, .int (nI i)), (2, .int v)] := hl
  refine lv_aload_n hx hb dL_pin_0 rfl (lv_at hl 0 rfl) ?_
  refine lv_iload_n hx hb dL_pin_1 rfl (lv_at hl 1 rfl) ?_
  refine lv_iload_n hx hb dL_pin_2 rfl (lv_at hl 2 rfl) ?_
  refine xc_Vv (As := [.int (nI i), .int v]) (wr := []) ⟨hx, hb, hml, hown, hts⟩ (c_ScanRows_pin l dC dI q cI cZ H.size r k a i v h1 h2) (cwV 2 hts (gV tw_448 tw_449 tw_450 tw_1 tw_451) rfl rfl rfl (by decide +kernel) ⟨Nat.le_of_ble_eq_true rfl, Nat.le_of_ble_eq_true rfl⟩) rfl hl.1 rfl (Nat.le_of_ble_eq_true rfl) dL_pin_3 ⟨Nat.zero_le _, Nat.zero_le _⟩ hP hD hK hS hA [0, 1, 2, 3, 4, 5, 6, 7, 8, 9, 10, 11, 12, 13, 14, 15, 16, 17] [] rfl rfl (by decide) (by decide) (by decide) [0, 1] rfl (q0 := 17) rfl rfl rfl eT_M (trivial) (fun u_2 H locs w_3 hP hD hS => ?_)
  obtain rfl := w_3
  have hP : va_P (dC, dI) vwCl (wX q cI cZ r (CS.s_pin k (va_up (CS.pin k) i (bitN v))) a) H := hP
  have hD : va_D A (wX q cI cZ r (CS.s_pin k (va_up (CS.pin k) i (bitN v))) a) := hD
  refine lv_goto (tgt := 12) hx hb dL_pin_6 (by decide) ?_
  refine lv_iconst (v := nI 0) hx hb dL_pin_12 (by decide) ?_
  exact xr_i hx hb hr hlk (u := (r, CS.s_pin k (va_up (CS.pin k) i (bitN v)), a)) (⟨rfl, rfl⟩) hP hK hD hS dL_pin_13
set_option maxHeartbeats 4000000 in
set_option maxRecDepth 100000 in
theorem hx_latch1 (l : Launch) (hl0 : l.stackTraces = false) (dC : Nat → ClassId) (dI : Nat → Nat → Nat) (q : Nat → Nat) (cI cZ : ClassId) (cJ : ClassId) (ao : Nat) (sz : Nat) (r : RS) (k : CS) (a : AS) (o : OS) (tN : Nat) (ck : Int32) (xl yl : Int64) (h1 : r.n = 32) : Met l yL_latch (.codeWith yL_latch cL_latch 8 (some .int) [(0, 13, 16, 13), (0, 13, 20, 15)] :: ALLG) ({ frames := 7, cells := 1, slots := 6, locals := 115 }) (va_Pc [.ref (q 17), .int ck, .long xl, .long yl, .ref ao] (cP (dC, dI) vwCl [(cI, .int), (cZ, .boolean), (cJ, .long)] (wH q cI cZ cJ ao r k a o) (eX tN (va_A (wH q cI cZ cJ ao r k a o) sz)) sz)) (va_Qi (fun (x : Int32) (u : (RS × CS × AS) × (Nat → Int64)) => x = nI 1 ∧ u = ((r, k, a), o)) (fun (u : (RS × CS × AS) × (Nat → Int64)) => cB (dC, dI) vwCl [(cI, .int), (cZ, .boolean), (cJ, .long)] (wH q cI cZ cJ ao u.1.1 u.1.2.1 u.1.2.2 u.2) (va_A (wH q cI cZ cJ ao r k a o) sz)) (va_A (wH q cI cZ cJ ao r k a o) sz)) 1 6 (va_A (wH q cI cZ cJ ao r k a o) sz) := by
  refine xm_h (cc := cL_latch) (maxL := 8) (ret := some .int) (hh := [(0, 13, 16, 13), (0, 13, 20, 15)]) (by decide) rfl (Nat.le_of_ble_eq_true rfl) ?_
  intro p e s m below meth c A hAe hx hb hr hml hts0 hown hlk htab hsz H locs hP hK hD hA hS hE ls hl
  have hts : ∀ w ∈ ALLG, w.before _ s = true := fun w h => hts0 w (List.mem_cons_of_mem _ h)
  rw [← hAe]
  rw [← hAe] at hE
  have hl : lv_has ls 8 [(0, .ref (q 17)), (1, .int ck), (2, .long xl), (4, .long yl), (6, .ref ao)] := hl
  refine lv_aload hx hb dL_latch_0 (lv_at hl 4 rfl) ?_
  refine lv_iconst (v := nI 0) hx hb dL_latch_2 (by decide) ?_
  refine lv_aload_n hx hb dL_latch_3 rfl (lv_at hl 0 rfl) ?_
  refine lv_iload_n hx hb dL_latch_4 rfl (lv_at hl 1 rfl) ?_
  refine lv_lload_n hx hb dL_latch_5 rfl (lv_at hl 2 rfl) ?_
  refine lv_lload hx hb dL_latch_6 (lv_at hl 3 rfl) ?_
  refine xv_Vi (As := [.int ck, .long xl, .long yl]) (wr := wO cJ ao o) ⟨hx, hb, hml, hown, hts⟩ (tx_latch1 l hl0 dC dI q cI cZ H.size r k a tN ck xl yl h1) (cwV 3 hts (gV tw_184 tw_185 tw_186 tw_1 tw_187) rfl rfl rfl (by decide +kernel) ⟨Nat.le_of_ble_eq_true rfl, Nat.le_of_ble_eq_true rfl⟩) rfl hl.1 rfl (Nat.le_of_ble_eq_true rfl) dL_latch_8 ⟨Nat.le_of_ble_eq_true rfl, Nat.le_of_ble_eq_true rfl⟩ hP hD hK hS hA [0, 1, 2, 3, 4, 5, 6, 7, 8, 9, 10, 11, 12, 13, 14, 15, 16, 17] [18] rfl rfl (by decide) (by decide) (by decide) [0, 1] rfl (q0 := 17) rfl rfl rfl (eX_W _ _) (eX_kn hE hS (va_free (wc := wX q cI cZ r k a) hD hS hA [0, 1, 2, 3, 4, 5, 6, 7, 8, 9, 10, 11, 12, 13, 14, 15, 16, 17] rfl)) (fun ce q9 H locs hP hD hS hce hcv hcl => ?_)
  have hP : va_P (dC, dI) vwCl (wH q cI cZ cJ ao r k a o) H := hP.sub [1, 2, 3, 4, 5, 6, 7, 8, 9, 10, 11, 12, 13, 14, 15, 16, 17, 18, 0] rfl
  have hD : va_D A (wH q cI cZ cJ ao r k a o) := hD.sub [1, 2, 3, 4, 5, 6, 7, 8, 9, 10, 11, 12, 13, 14, 15, 16, 17, 18, 0] (by decide) rfl
  refine vx_catch (own := RL) (name := xUOE) hown [] ⟨0, 13, 16, 13⟩ [⟨0, 13, 20, 15⟩] (htab.trans rfl) (fun z hz => by cases hz) (by decide) (by decide) (hts _ tw_182) (va_tabs rfl rfl (hE.2.2.2.1 (.castable xUOE xUOE) (by decide +kernel))) hce hcv hcl ?_
  refine lv_astore (lv' := [(7, .ref q9), (0, .ref (q 17)), (1, .int ck), (2, .long xl), (4, .long yl), (6, .ref ao)]) hx hb dL_latch_16 hl (by decide) rfl (fun ls hl => ?_)
  refine lv_iconst (v := nI 1) hx hb dL_latch_18 (by decide) ?_
  exact xr_i hx hb hr hlk (u := ((r, k, a), o)) (⟨rfl, rfl⟩) hP hK hD hS dL_latch_19
set_option maxHeartbeats 4000000 in
set_option maxRecDepth 100000 in
theorem hx_latch2 (l : Launch) (hl0 : l.stackTraces = false) (dC : Nat → ClassId) (dI : Nat → Nat → Nat) (q : Nat → Nat) (cI cZ : ClassId) (cJ : ClassId) (ao : Nat) (sz : Nat) (r : RS) (k : CS) (a : AS) (o : OS) (tN : Nat) (ck : Int32) (xl yl : Int64) (h1 : r.n < 32) (h2 : mBad ck xl yl) : Met l yL_latch (.codeWith yL_latch cL_latch 8 (some .int) [(0, 13, 16, 13), (0, 13, 20, 15)] :: ALLG) ({ frames := 7, cells := 1, slots := 6, locals := 115 }) (va_Pc [.ref (q 17), .int ck, .long xl, .long yl, .ref ao] (cP (dC, dI) vwCl [(cI, .int), (cZ, .boolean), (cJ, .long)] (wH q cI cZ cJ ao r k a o) (eX tN (va_A (wH q cI cZ cJ ao r k a o) sz)) sz)) (va_Qi (fun (x : Int32) (u : (RS × CS × AS) × (Nat → Int64)) => x = nI 2 ∧ u = ((r, k, a), o)) (fun (u : (RS × CS × AS) × (Nat → Int64)) => cB (dC, dI) vwCl [(cI, .int), (cZ, .boolean), (cJ, .long)] (wH q cI cZ cJ ao u.1.1 u.1.2.1 u.1.2.2 u.2) (va_A (wH q cI cZ cJ ao r k a o) sz)) (va_A (wH q cI cZ cJ ao r k a o) sz)) 1 6 (va_A (wH q cI cZ cJ ao r k a o) sz) := by
  refine xm_h (cc := cL_latch) (maxL := 8) (ret := some .int) (hh := [(0, 13, 16, 13), (0, 13, 20, 15)]) (by decide) rfl (Nat.le_of_ble_eq_true rfl) ?_
  intro p e s m below meth c A hAe hx hb hr hml hts0 hown hlk htab hsz H locs hP hK hD hA hS hE ls hl
  have hts : ∀ w ∈ ALLG, w.before _ s = true := fun w h => hts0 w (List.mem_cons_of_mem _ h)
  rw [← hAe]
  rw [← hAe] at hE
  have hl : lv_has ls 8 [(0, .ref (q 17)), (1, .int ck), (2, .long xl), (4, .long yl), (6, .ref ao)] := hl
  refine lv_aload hx hb dL_latch_0 (lv_at hl 4 rfl) ?_
  refine lv_iconst (v := nI 0) hx hb dL_latch_2 (by decide) ?_
  refine lv_aload_n hx hb dL_latch_3 rfl (lv_at hl 0 rfl) ?_
  refine lv_iload_n hx hb dL_latch_4 rfl (lv_at hl 1 rfl) ?_
  refine lv_lload_n hx hb dL_latch_5 rfl (lv_at hl 2 rfl) ?_
  refine lv_lload hx hb dL_latch_6 (lv_at hl 3 rfl) ?_
  refine xv_Vi (As := [.int ck, .long xl, .long yl]) (wr := wO cJ ao o) ⟨hx, hb, hml, hown, hts⟩ (tx_latch2 l hl0 dC dI q cI cZ H.size r k a tN ck xl yl h1 h2) (cwV 3 hts (gV tw_184 tw_185 tw_186 tw_1 tw_187) rfl rfl rfl (by decide +kernel) ⟨Nat.le_of_ble_eq_true rfl, Nat.le_of_ble_eq_true rfl⟩) rfl hl.1 rfl (Nat.le_of_ble_eq_true rfl) dL_latch_8 ⟨Nat.le_of_ble_eq_true rfl, Nat.le_of_ble_eq_true rfl⟩ hP hD hK hS hA [0, 1, 2, 3, 4, 5, 6, 7, 8, 9, 10, 11, 12, 13, 14, 15, 16, 17] [18] rfl rfl (by decide) (by decide) (by decide) [0, 1] rfl (q0 := 17) rfl rfl rfl (eX_W _ _) (eX_kn hE hS (va_free (wc := wX q cI cZ r k a) hD hS hA [0, 1, 2, 3, 4, 5, 6, 7, 8, 9, 10, 11, 12, 13, 14, 15, 16, 17] rfl)) (fun ce q9 H locs hP hD hS hce hcv hcl => ?_)
  have hP : va_P (dC, dI) vwCl (wH q cI cZ cJ ao r k a o) H := hP.sub [1, 2, 3, 4, 5, 6, 7, 8, 9, 10, 11, 12, 13, 14, 15, 16, 17, 18, 0] rfl
  have hD : va_D A (wH q cI cZ cJ ao r k a o) := hD.sub [1, 2, 3, 4, 5, 6, 7, 8, 9, 10, 11, 12, 13, 14, 15, 16, 17, 18, 0] (by decide) rfl
  refine vx_catch (own := RL) (name := xIAE) hown [⟨0, 13, 16, 13⟩] ⟨0, 13, 20, 15⟩ [] (htab.trans rfl) (fun z hz => by obtain rfl := List.mem_singleton.mp hz; exact Or.inr ⟨by decide, xUOE, hts _ tw_182, hE.2.2.2.2.2⟩) (by decide) (by decide) (hts _ tw_183) (va_tabs rfl rfl (hE.2.2.2.1 (.castable xIAE xIAE) (by decide +kernel))) hce hcv hcl ?_
  refine lv_astore (lv' := [(7, .ref q9), (0, .ref (q 17)), (1, .int ck), (2, .long xl), (4, .long yl), (6, .ref ao)]) hx hb dL_latch_20 hl (by decide) rfl (fun ls hl => ?_)
  refine lv_iconst (v := nI 2) hx hb dL_latch_22 (by decide) ?_
  exact xr_i hx hb hr hlk (u := ((r, k, a), o)) (⟨rfl, rfl⟩) hP hK hD hS dL_latch_23
set_option maxHeartbeats 4000000 in
set_option maxRecDepth 100000 in
theorem hx_make (l : Launch) (hl0 : l.stackTraces = false) (dC : Nat → ClassId) (dI : Nat → Nat → Nat) (q : Nat → Nat) (cI cZ : ClassId) (cJ : ClassId) (ao : Nat) (sz : Nat) (r : RS) (k : CS) (a : AS) (o : OS) (tN : Nat) (v : Int32) (h1 : v < nI 1 ∨ ¬ v ≤ nI 8) : Met l yL_make (.codeWith yL_make cL_make 4 (some .int) [(0, 9, 12, 15)] :: ALLG) ({ frames := 7, cells := 1, slots := 6, locals := 111 }) (va_Pc [.ref (q 17), .int v, .ref ao] (cP (dC, dI) vwCl [(cI, .int), (cZ, .boolean), (cJ, .long)] (wH q cI cZ cJ ao r k a o) (eX tN (va_A (wH q cI cZ cJ ao r k a o) sz)) sz)) (va_Qi (fun (x : Int32) (u : (RS × CS × AS) × (Nat → Int64)) => x = nI 1 ∧ u = ((r, k, a), o)) (fun (u : (RS × CS × AS) × (Nat → Int64)) => cB (dC, dI) vwCl [(cI, .int), (cZ, .boolean), (cJ, .long)] (wH q cI cZ cJ ao u.1.1 u.1.2.1 u.1.2.2 u.2) (va_A (wH q cI cZ cJ ao r k a o) sz)) (va_A (wH q cI cZ cJ ao r k a o) sz)) 1 6 (va_A (wH q cI cZ cJ ao r k a o) sz) := by
  refine xm_h (cc := cL_make) (maxL := 4) (ret := some .int) (hh := [(0, 9, 12, 15)]) (by decide) rfl (Nat.le_of_ble_eq_true rfl) ?_
  intro p e s m below meth c A hAe hx hb hr hml hts0 hown hlk htab hsz H locs hP hK hD hA hS hE ls hl
  have hts : ∀ w ∈ ALLG, w.before _ s = true := fun w h => hts0 w (List.mem_cons_of_mem _ h)
  rw [← hAe]
  rw [← hAe] at hE
  have hl : lv_has ls 4 [(0, .ref (q 17)), (1, .int v), (2, .ref ao)] := hl
  refine lv_aload_n hx hb dL_make_0 rfl (lv_at hl 2 rfl) ?_
  refine lv_iconst (v := nI 0) hx hb dL_make_1 (by decide) ?_
  refine lv_aload_n hx hb dL_make_2 rfl (lv_at hl 0 rfl) ?_
  refine lv_iload_n hx hb dL_make_3 rfl (lv_at hl 1 rfl) ?_
  refine xv_Vi (As := [.int v]) (wr := wO cJ ao o) ⟨hx, hb, hml, hown, hts⟩ (tx_make l hl0 dC dI q cI cZ H.size r k a tN v h1) (cwV 1 hts (gV tw_282 tw_283 tw_284 tw_1 tw_285) rfl rfl rfl (by decide +kernel) ⟨Nat.le_of_ble_eq_true rfl, Nat.le_of_ble_eq_true rfl⟩) rfl hl.1 rfl (Nat.le_of_ble_eq_true rfl) dL_make_4 ⟨Nat.le_of_ble_eq_true rfl, Nat.le_of_ble_eq_true rfl⟩ hP hD hK hS hA [0, 1, 2, 3, 4, 5, 6, 7, 8, 9, 10, 11, 12, 13, 14, 15, 16, 17] [18] rfl rfl (by decide) (by decide) (by decide) [0, 1] rfl (q0 := 17) rfl rfl rfl (eX_W _ _) (eX_kn hE hS (va_free (wc := wX q cI cZ r k a) hD hS hA [0, 1, 2, 3, 4, 5, 6, 7, 8, 9, 10, 11, 12, 13, 14, 15, 16, 17] rfl)) (fun ce q9 H locs hP hD hS hce hcv hcl => ?_)
  have hP : va_P (dC, dI) vwCl (wH q cI cZ cJ ao r k a o) H := hP.sub [1, 2, 3, 4, 5, 6, 7, 8, 9, 10, 11, 12, 13, 14, 15, 16, 17, 18, 0] rfl
  have hD : va_D A (wH q cI cZ cJ ao r k a o) := hD.sub [1, 2, 3, 4, 5, 6, 7, 8, 9, 10, 11, 12, 13, 14, 15, 16, 17, 18, 0] (by decide) rfl
  refine vx_catch (own := RL) (name := xIAE) hown [] ⟨0, 9, 12, 15⟩ [] (htab.trans rfl) (fun z hz => by cases hz) (by decide) (by decide) (hts _ tw_183) (va_tabs rfl rfl (hE.2.2.2.1 (.castable xIAE xIAE) (by decide +kernel))) hce hcv hcl ?_
  refine lv_astore_n (lv' := [(3, .ref q9), (0, .ref (q 17)), (1, .int v), (2, .ref ao)]) hx hb dL_make_12 rfl hl (by decide) rfl (fun ls hl => ?_)
  refine lv_iconst (v := nI 1) hx hb dL_make_13 (by decide) ?_
  exact xr_i hx hb hr hlk (u := ((r, k, a), o)) (⟨rfl, rfl⟩) hP hK hD hS dL_make_14
set_option maxHeartbeats 4000000 in
set_option maxRecDepth 100000 in
theorem hx_at (l : Launch) (hl0 : l.stackTraces = false) (dC : Nat → ClassId) (dI : Nat → Nat → Nat) (q : Nat → Nat) (cI cZ : ClassId) (cJ : ClassId) (ao : Nat) (sz : Nat) (r : RS) (k : CS) (a : AS) (o : OS) (tN : Nat) (v kv : Int32) (h1 : hcN v r.c = 0 ∨ kv < 0) : Met l yL_at (.codeWith yL_at cL_at 5 (some .int) [(0, 10, 13, 25)] :: ALLG) ({ frames := 7, cells := 1, slots := 6, locals := 112 }) (va_Pc [.ref (q 17), .int v, .int kv, .ref ao] (cP (dC, dI) vwCl [(cI, .int), (cZ, .boolean), (cJ, .long)] (wH q cI cZ cJ ao r k a o) (eX tN (va_A (wH q cI cZ cJ ao r k a o) sz)) sz)) (va_Qi (fun (x : Int32) (u : (RS × CS × AS) × (Nat → Int64)) => x = nI 1 ∧ u = ((r, k, a), o)) (fun (u : (RS × CS × AS) × (Nat → Int64)) => cB (dC, dI) vwCl [(cI, .int), (cZ, .boolean), (cJ, .long)] (wH q cI cZ cJ ao u.1.1 u.1.2.1 u.1.2.2 u.2) (va_A (wH q cI cZ cJ ao r k a o) sz)) (va_A (wH q cI cZ cJ ao r k a o) sz)) 1 6 (va_A (wH q cI cZ cJ ao r k a o) sz) := by
  refine xm_h (cc := cL_at) (maxL := 5) (ret := some .int) (hh := [(0, 10, 13, 25)]) (by decide) rfl (Nat.le_of_ble_eq_true rfl) ?_
  intro p e s m below meth c A hAe hx hb hr hml hts0 hown hlk htab hsz H locs hP hK hD hA hS hE ls hl
  have hts : ∀ w ∈ ALLG, w.before _ s = true := fun w h => hts0 w (List.mem_cons_of_mem _ h)
  rw [← hAe]
  rw [← hAe] at hE
  have hl : lv_has ls 5 [(0, .ref (q 17)), (1, .int v), (2, .int kv), (3, .ref ao)] := hl
  refine lv_aload_n hx hb dL_at_0 rfl (lv_at hl 3 rfl) ?_
  refine lv_iconst (v := nI 0) hx hb dL_at_1 (by decide) ?_
  refine lv_aload_n hx hb dL_at_2 rfl (lv_at hl 0 rfl) ?_
  refine lv_iload_n hx hb dL_at_3 rfl (lv_at hl 1 rfl) ?_
  refine lv_iload_n hx hb dL_at_4 rfl (lv_at hl 2 rfl) ?_
  refine xv_Vi (As := [.int v, .int kv]) (wr := wO cJ ao o) ⟨hx, hb, hml, hown, hts⟩ (tx_at l hl0 dC dI q cI cZ H.size r k a tN v kv h1) (cwV 2 hts (gV tw_311 tw_312 tw_313 tw_1 tw_314) rfl rfl rfl (by decide +kernel) ⟨Nat.le_of_ble_eq_true rfl, Nat.le_of_ble_eq_true rfl⟩) rfl hl.1 rfl (Nat.le_of_ble_eq_true rfl) dL_at_5 ⟨Nat.le_of_ble_eq_true rfl, Nat.le_of_ble_eq_true rfl⟩ hP hD hK hS hA [0, 1, 2, 3, 4, 5, 6, 7, 8, 9, 10, 11, 12, 13, 14, 15, 16, 17] [18] rfl rfl (by decide) (by decide) (by decide) [0, 1] rfl (q0 := 17) rfl rfl rfl (eX_W _ _) (eX_kn hE hS (va_free (wc := wX q cI cZ r k a) hD hS hA [0, 1, 2, 3, 4, 5, 6, 7, 8, 9, 10, 11, 12, 13, 14, 15, 16, 17] rfl)) (fun ce q9 H locs hP hD hS hce hcv hcl => ?_)
  have hP : va_P (dC, dI) vwCl (wH q cI cZ cJ ao r k a o) H := hP.sub [1, 2, 3, 4, 5, 6, 7, 8, 9, 10, 11, 12, 13, 14, 15, 16, 17, 18, 0] rfl
  have hD : va_D A (wH q cI cZ cJ ao r k a o) := hD.sub [1, 2, 3, 4, 5, 6, 7, 8, 9, 10, 11, 12, 13, 14, 15, 16, 17, 18, 0] (by decide) rfl
  refine vx_catch (own := RL) (name := xIOB) hown [] ⟨0, 10, 13, 25⟩ [] (htab.trans rfl) (fun z hz => by cases hz) (by decide) (by decide) (hts _ tw_310) (va_tabs rfl rfl (hE.2.2.2.1 (.castable xIOB xIOB) (by decide +kernel))) hce hcv hcl ?_
  refine lv_astore (lv' := [(4, .ref q9), (0, .ref (q 17)), (1, .int v), (2, .int kv), (3, .ref ao)]) hx hb dL_at_13 hl (by decide) rfl (fun ls hl => ?_)
  refine lv_iconst (v := nI 1) hx hb dL_at_15 (by decide) ?_
  exact xr_i hx hb hr hlk (u := ((r, k, a), o)) (⟨rfl, rfl⟩) hP hK hD hS dL_at_16
set_option maxHeartbeats 4000000 in
set_option maxRecDepth 100000 in
theorem hx_lockUp1 (l : Launch) (hl0 : l.stackTraces = false) (dC : Nat → ClassId) (dI : Nat → Nat → Nat) (q : Nat → Nat) (cI cZ : ClassId) (cJ : ClassId) (ao : Nat) (sz : Nat) (r : RS) (k : CS) (a : AS) (o : OS) (tN : Nat) (v kv : Int32) (h1 : hcN v r.c = 0 ∨ kv < 0) : Met l yL_lockUp (.codeWith yL_lockUp cL_lockUp 5 (some .int) [(0, 17, 20, 25)] :: ALLG) ({ frames := 7, cells := 1, slots := 6, locals := 112 }) (va_Pc [.ref (q 17), .int v, .int kv, .ref ao] (cP (dC, dI) vwCl [(cI, .int), (cZ, .boolean), (cJ, .long)] (wH q cI cZ cJ ao r k a o) (eX tN (va_A (wH q cI cZ cJ ao r k a o) sz)) sz)) (va_Qi (fun (x : Int32) (u : (RS × CS × AS) × (Nat → Int64)) => x = nI 1 ∧ u = ((r, k, a), o)) (fun (u : (RS × CS × AS) × (Nat → Int64)) => cB (dC, dI) vwCl [(cI, .int), (cZ, .boolean), (cJ, .long)] (wH q cI cZ cJ ao u.1.1 u.1.2.1 u.1.2.2 u.2) (va_A (wH q cI cZ cJ ao r k a o) sz)) (va_A (wH q cI cZ cJ ao r k a o) sz)) 1 6 (va_A (wH q cI cZ cJ ao r k a o) sz) := by
  refine xm_h (cc := cL_lockUp) (maxL := 5) (ret := some .int) (hh := [(0, 17, 20, 25)]) (by decide) rfl (Nat.le_of_ble_eq_true rfl) ?_
  intro p e s m below meth c A hAe hx hb hr hml hts0 hown hlk htab hsz H locs hP hK hD hA hS hE ls hl
  have hts : ∀ w ∈ ALLG, w.before _ s = true := fun w h => hts0 w (List.mem_cons_of_mem _ h)
  rw [← hAe]
  rw [← hAe] at hE
  have hl : lv_has ls 5 [(0, .ref (q 17)), (1, .int v), (2, .int kv), (3, .ref ao)] := hl
  refine lv_aload_n hx hb dL_lockUp_0 rfl (lv_at hl 3 rfl) ?_
  refine lv_iconst (v := nI 0) hx hb dL_lockUp_1 (by decide) ?_
  refine lv_aload_n hx hb dL_lockUp_2 rfl (lv_at hl 0 rfl) ?_
  refine lv_iload_n hx hb dL_lockUp_3 rfl (lv_at hl 1 rfl) ?_
  refine lv_iload_n hx hb dL_lockUp_4 rfl (lv_at hl 2 rfl) ?_
  refine xv_Vi (As := [.int v, .int kv]) (wr := wO cJ ao o) ⟨hx, hb, hml, hown, hts⟩ (tx_lockUp1 l hl0 dC dI q cI cZ H.size r k a tN v kv h1) (cwV 2 hts (gV tw_343 tw_344 tw_345 tw_1 tw_346) rfl rfl rfl (by decide +kernel) ⟨Nat.le_of_ble_eq_true rfl, Nat.le_of_ble_eq_true rfl⟩) rfl hl.1 rfl (Nat.le_of_ble_eq_true rfl) dL_lockUp_5 ⟨Nat.le_of_ble_eq_true rfl, Nat.le_of_ble_eq_true rfl⟩ hP hD hK hS hA [0, 1, 2, 3, 4, 5, 6, 7, 8, 9, 10, 11, 12, 13, 14, 15, 16, 17] [18] rfl rfl (by decide) (by decide) (by decide) [0, 1] rfl (q0 := 17) rfl rfl rfl (eX_W _ _) (eX_kn hE hS (va_free (wc := wX q cI cZ r k a) hD hS hA [0, 1, 2, 3, 4, 5, 6, 7, 8, 9, 10, 11, 12, 13, 14, 15, 16, 17] rfl)) (fun ce q9 H locs hP hD hS hce hcv hcl => ?_)
  have hP : va_P (dC, dI) vwCl (wH q cI cZ cJ ao r k a o) H := hP.sub [1, 2, 3, 4, 5, 6, 7, 8, 9, 10, 11, 12, 13, 14, 15, 16, 17, 18, 0] rfl
  have hD : va_D A (wH q cI cZ cJ ao r k a o) := hD.sub [1, 2, 3, 4, 5, 6, 7, 8, 9, 10, 11, 12, 13, 14, 15, 16, 17, 18, 0] (by decide) rfl
  refine vx_catch (own := RL) (name := xIOB) hown [] ⟨0, 17, 20, 25⟩ [] (htab.trans rfl) (fun z hz => by cases hz) (by decide) (by decide) (hts _ tw_310) (va_tabs rfl rfl (hE.2.2.2.1 (.castable xIOB xIOB) (by decide +kernel))) hce hcv hcl ?_
  refine lv_astore (lv' := [(4, .ref q9), (0, .ref (q 17)), (1, .int v), (2, .int kv), (3, .ref ao)]) hx hb dL_lockUp_20 hl (by decide) rfl (fun ls hl => ?_)
  refine lv_iconst (v := nI 1) hx hb dL_lockUp_22 (by decide) ?_
  exact xr_i hx hb hr hlk (u := ((r, k, a), o)) (⟨rfl, rfl⟩) hP hK hD hS dL_lockUp_23
set_option maxHeartbeats 4000000 in
set_option maxRecDepth 100000 in
theorem hx_lockUp2 (l : Launch) (hl0 : l.stackTraces = false) (dC : Nat → ClassId) (dI : Nat → Nat → Nat) (q : Nat → Nat) (cI cZ : ClassId) (cJ : ClassId) (ao : Nat) (sz : Nat) (r : RS) (k : CS) (a : AS) (o : OS) (tN : Nat) (ch kk : Nat) (h0 : r.c ≤ 8) (h1 : ch < r.c) (h2 : r.st ch ≤ r.st (ch + 1)) (h3 : r.st (ch + 1) ≤ 32) (h4 : r.st (ch + 1) - r.st ch ≤ kk) (h5 : kk < 2 ^ 31) : Met l yL_lockUp (.codeWith yL_lockUp cL_lockUp 5 (some .int) [(0, 17, 20, 25)] :: ALLG) ({ frames := 7, cells := 1, slots := 6, locals := 112 }) (va_Pc [.ref (q 17), .int (nI ch), .int (nI kk), .ref ao] (cP (dC, dI) vwCl [(cI, .int), (cZ, .boolean), (cJ, .long)] (wH q cI cZ cJ ao r k a o) (eX tN (va_A (wH q cI cZ cJ ao r k a o) sz)) sz)) (va_Qi (fun (x : Int32) (u : (RS × CS × AS) × (Nat → Int64)) => x = nI 1 ∧ u = ((r, k, a), o)) (fun (u : (RS × CS × AS) × (Nat → Int64)) => cB (dC, dI) vwCl [(cI, .int), (cZ, .boolean), (cJ, .long)] (wH q cI cZ cJ ao u.1.1 u.1.2.1 u.1.2.2 u.2) (va_A (wH q cI cZ cJ ao r k a o) sz)) (va_A (wH q cI cZ cJ ao r k a o) sz)) 1 6 (va_A (wH q cI cZ cJ ao r k a o) sz) := by
  refine xm_h (cc := cL_lockUp) (maxL := 5) (ret := some .int) (hh := [(0, 17, 20, 25)]) (by decide) rfl (Nat.le_of_ble_eq_true rfl) ?_
  intro p e s m below meth c A hAe hx hb hr hml hts0 hown hlk htab hsz H locs hP hK hD hA hS hE ls hl
  have hts : ∀ w ∈ ALLG, w.before _ s = true := fun w h => hts0 w (List.mem_cons_of_mem _ h)
  rw [← hAe]
  rw [← hAe] at hE
  have hl : lv_has ls 5 [(0, .ref (q 17)), (1, .int (nI ch)), (2, .int (nI kk)), (3, .ref ao)] := hl
  refine lv_aload_n hx hb dL_lockUp_0 rfl (lv_at hl 3 rfl) ?_
  refine lv_iconst (v := nI 0) hx hb dL_lockUp_1 (by decide) ?_
  refine lv_aload_n hx hb dL_lockUp_2 rfl (lv_at hl 0 rfl) ?_
  refine lv_iload_n hx hb dL_lockUp_3 rfl (lv_at hl 1 rfl) ?_
  refine lv_iload_n hx hb dL_lockUp_4 rfl (lv_at hl 2 rfl) ?_
  refine xv_Vi (As := [.int (nI ch), .int (nI kk)]) (wr := wO cJ ao o) ⟨hx, hb, hml, hown, hts⟩ (tx_lockUp2 l hl0 dC dI q cI cZ H.size r k a tN ch kk h0 h1 h2 h3 h4 h5) (cwV 2 hts (gV tw_343 tw_344 tw_345 tw_1 tw_346) rfl rfl rfl (by decide +kernel) ⟨Nat.le_of_ble_eq_true rfl, Nat.le_of_ble_eq_true rfl⟩) rfl hl.1 rfl (Nat.le_of_ble_eq_true rfl) dL_lockUp_5 ⟨Nat.le_of_ble_eq_true rfl, Nat.le_of_ble_eq_true rfl⟩ hP hD hK hS hA [0, 1, 2, 3, 4, 5, 6, 7, 8, 9, 10, 11, 12, 13, 14, 15, 16, 17] [18] rfl rfl (by decide) (by decide) (by decide) [0, 1] rfl (q0 := 17) rfl rfl rfl (eX_W _ _) (eX_kn hE hS (va_free (wc := wX q cI cZ r k a) hD hS hA [0, 1, 2, 3, 4, 5, 6, 7, 8, 9, 10, 11, 12, 13, 14, 15, 16, 17] rfl)) (fun ce q9 H locs hP hD hS hce hcv hcl => ?_)
  have hP : va_P (dC, dI) vwCl (wH q cI cZ cJ ao r k a o) H := hP.sub [1, 2, 3, 4, 5, 6, 7, 8, 9, 10, 11, 12, 13, 14, 15, 16, 17, 18, 0] rfl
  have hD : va_D A (wH q cI cZ cJ ao r k a o) := hD.sub [1, 2, 3, 4, 5, 6, 7, 8, 9, 10, 11, 12, 13, 14, 15, 16, 17, 18, 0] (by decide) rfl
  refine vx_catch (own := RL) (name := xIOB) hown [] ⟨0, 17, 20, 25⟩ [] (htab.trans rfl) (fun z hz => by cases hz) (by decide) (by decide) (hts _ tw_310) (va_tabs rfl rfl (hE.2.2.2.1 (.castable xIOB xIOB) (by decide +kernel))) hce hcv hcl ?_
  refine lv_astore (lv' := [(4, .ref q9), (0, .ref (q 17)), (1, .int (nI ch)), (2, .int (nI kk)), (3, .ref ao)]) hx hb dL_lockUp_20 hl (by decide) rfl (fun ls hl => ?_)
  refine lv_iconst (v := nI 1) hx hb dL_lockUp_22 (by decide) ?_
  exact xr_i hx hb hr hlk (u := ((r, k, a), o)) (⟨rfl, rfl⟩) hP hK hD hS dL_lockUp_23
set_option maxHeartbeats 4000000 in
set_option maxRecDepth 100000 in
theorem hx_improve (l : Launch) (hl0 : l.stackTraces = false) (dC : Nat → ClassId) (dI : Nat → Nat → Nat) (q : Nat → Nat) (cI cZ : ClassId) (cJ : ClassId) (ao : Nat) (sz : Nat) (r : RS) (k : CS) (a : AS) (o : OS) (tN : Nat) (v : Int32) (h1 : v < 0) : Met l yL_improve (.codeWith yL_improve cL_improve 4 (some .int) [(0, 9, 12, 15)] :: ALLG) ({ frames := 7, cells := 1, slots := 6, locals := 111 }) (va_Pc [.ref (q 17), .int v, .ref ao] (cP (dC, dI) vwCl [(cI, .int), (cZ, .boolean), (cJ, .long)] (wH q cI cZ cJ ao r k a o) (eX tN (va_A (wH q cI cZ cJ ao r k a o) sz)) sz)) (va_Qi (fun (x : Int32) (u : (RS × CS × AS) × (Nat → Int64)) => x = nI 1 ∧ u = ((r, k, a), o)) (fun (u : (RS × CS × AS) × (Nat → Int64)) => cB (dC, dI) vwCl [(cI, .int), (cZ, .boolean), (cJ, .long)] (wH q cI cZ cJ ao u.1.1 u.1.2.1 u.1.2.2 u.2) (va_A (wH q cI cZ cJ ao r k a o) sz)) (va_A (wH q cI cZ cJ ao r k a o) sz)) 1 6 (va_A (wH q cI cZ cJ ao r k a o) sz) := by
  refine xm_h (cc := cL_improve) (maxL := 4) (ret := some .int) (hh := [(0, 9, 12, 15)]) (by decide) rfl (Nat.le_of_ble_eq_true rfl) ?_
  intro p e s m below meth c A hAe hx hb hr hml hts0 hown hlk htab hsz H locs hP hK hD hA hS hE ls hl
  have hts : ∀ w ∈ ALLG, w.before _ s = true := fun w h => hts0 w (List.mem_cons_of_mem _ h)
  rw [← hAe]
  rw [← hAe] at hE
  have hl : lv_has ls 4 [(0, .ref (q 17)), (1, .int v), (2, .ref ao)] := hl
  refine lv_aload_n hx hb dL_improve_0 rfl (lv_at hl 2 rfl) ?_
  refine lv_iconst (v := nI 0) hx hb dL_improve_1 (by decide) ?_
  refine lv_aload_n hx hb dL_improve_2 rfl (lv_at hl 0 rfl) ?_
  refine lv_iload_n hx hb dL_improve_3 rfl (lv_at hl 1 rfl) ?_
  refine xv_Vi (As := [.int v]) (wr := wO cJ ao o) ⟨hx, hb, hml, hown, hts⟩ (tx_improve l hl0 dC dI q cI cZ H.size r k a tN v h1) (cwV 1 hts (gV tw_354 tw_355 tw_356 tw_1 tw_357) rfl rfl rfl (by decide +kernel) ⟨Nat.le_of_ble_eq_true rfl, Nat.le_of_ble_eq_true rfl⟩) rfl hl.1 rfl (Nat.le_of_ble_eq_true rfl) dL_improve_4 ⟨Nat.le_of_ble_eq_true rfl, Nat.le_of_ble_eq_true rfl⟩ hP hD hK hS hA [0, 1, 2, 3, 4, 5, 6, 7, 8, 9, 10, 11, 12, 13, 14, 15, 16, 17] [18] rfl rfl (by decide) (by decide) (by decide) [0, 1] rfl (q0 := 17) rfl rfl rfl (eX_W _ _) (eX_kn hE hS (va_free (wc := wX q cI cZ r k a) hD hS hA [0, 1, 2, 3, 4, 5, 6, 7, 8, 9, 10, 11, 12, 13, 14, 15, 16, 17] rfl)) (fun ce q9 H locs hP hD hS hce hcv hcl => ?_)
  have hP : va_P (dC, dI) vwCl (wH q cI cZ cJ ao r k a o) H := hP.sub [1, 2, 3, 4, 5, 6, 7, 8, 9, 10, 11, 12, 13, 14, 15, 16, 17, 18, 0] rfl
  have hD : va_D A (wH q cI cZ cJ ao r k a o) := hD.sub [1, 2, 3, 4, 5, 6, 7, 8, 9, 10, 11, 12, 13, 14, 15, 16, 17, 18, 0] (by decide) rfl
  refine vx_catch (own := RL) (name := xIAE) hown [] ⟨0, 9, 12, 15⟩ [] (htab.trans rfl) (fun z hz => by cases hz) (by decide) (by decide) (hts _ tw_183) (va_tabs rfl rfl (hE.2.2.2.1 (.castable xIAE xIAE) (by decide +kernel))) hce hcv hcl ?_
  refine lv_astore_n (lv' := [(3, .ref q9), (0, .ref (q 17)), (1, .int v), (2, .ref ao)]) hx hb dL_improve_12 rfl hl (by decide) rfl (fun ls hl => ?_)
  refine lv_iconst (v := nI 1) hx hb dL_improve_13 (by decide) ?_
  exact xr_i hx hb hr hlk (u := ((r, k, a), o)) (⟨rfl, rfl⟩) hP hK hD hS dL_improve_14
set_option maxHeartbeats 4000000 in
set_option maxRecDepth 100000 in
theorem hx_rule (l : Launch) (hl0 : l.stackTraces = false) (dC : Nat → ClassId) (dI : Nat → Nat → Nat) (q : Nat → Nat) (cI cZ : ClassId) (cJ : ClassId) (ao : Nat) (sz : Nat) (r : RS) (k : CS) (a : AS) (o : OS) (tN : Nat) (kv wv : Int32) (h1 : kv < 0 ∨ wv < 0 ∨ ¬ wv ≤ nI 1) : Met l yL_rule (.codeWith yL_rule cL_rule 5 (some .int) [(0, 10, 13, 25)] :: ALLG) ({ frames := 7, cells := 1, slots := 6, locals := 112 }) (va_Pc [.ref (q 17), .int kv, .int wv, .ref ao] (cP (dC, dI) vwCl [(cI, .int), (cZ, .boolean), (cJ, .long)] (wH q cI cZ cJ ao r k a o) (eX tN (va_A (wH q cI cZ cJ ao r k a o) sz)) sz)) (va_Qi (fun (x : Int32) (u : (RS × CS × AS) × (Nat → Int64)) => x = nI 1 ∧ u = ((r, k, a), o)) (fun (u : (RS × CS × AS) × (Nat → Int64)) => cB (dC, dI) vwCl [(cI, .int), (cZ, .boolean), (cJ, .long)] (wH q cI cZ cJ ao u.1.1 u.1.2.1 u.1.2.2 u.2) (va_A (wH q cI cZ cJ ao r k a o) sz)) (va_A (wH q cI cZ cJ ao r k a o) sz)) 1 6 (va_A (wH q cI cZ cJ ao r k a o) sz) := by
  refine xm_h (cc := cL_rule) (maxL := 5) (ret := some .int) (hh := [(0, 10, 13, 25)]) (by decide) rfl (Nat.le_of_ble_eq_true rfl) ?_
  intro p e s m below meth c A hAe hx hb hr hml hts0 hown hlk htab hsz H locs hP hK hD hA hS hE ls hl
  have hts : ∀ w ∈ ALLG, w.before _ s = true := fun w h => hts0 w (List.mem_cons_of_mem _ h)
  rw [← hAe]
  rw [← hAe] at hE
  have hl : lv_has ls 5 [(0, .ref (q 17)), (1, .int kv), (2, .int wv), (3, .ref ao)] := hl
  refine lv_aload_n hx hb dL_rule_0 rfl (lv_at hl 3 rfl) ?_
  refine lv_iconst (v := nI 0) hx hb dL_rule_1 (by decide) ?_
  refine lv_aload_n hx hb dL_rule_2 rfl (lv_at hl 0 rfl) ?_
  refine lv_iload_n hx hb dL_rule_3 rfl (lv_at hl 1 rfl) ?_
  refine lv_iload_n hx hb dL_rule_4 rfl (lv_at hl 2 rfl) ?_
  refine xv_Vi (As := [.int kv, .int wv]) (wr := wO cJ ao o) ⟨hx, hb, hml, hown, hts⟩ (tx_rule l hl0 dC dI q cI cZ H.size r k a tN kv wv h1) (cwV 2 hts (gV tw_386 tw_387 tw_388 tw_1 tw_389) rfl rfl rfl (by decide +kernel) ⟨Nat.le_of_ble_eq_true rfl, Nat.le_of_ble_eq_true rfl⟩) rfl hl.1 rfl (Nat.le_of_ble_eq_true rfl) dL_rule_5 ⟨Nat.le_of_ble_eq_true rfl, Nat.le_of_ble_eq_true rfl⟩ hP hD hK hS hA [0, 1, 2, 3, 4, 5, 6, 7, 8, 9, 10, 11, 12, 13, 14, 15, 16, 17] [18] rfl rfl (by decide) (by decide) (by decide) [0, 1] rfl (q0 := 17) rfl rfl rfl (eX_W _ _) (eX_kn hE hS (va_free (wc := wX q cI cZ r k a) hD hS hA [0, 1, 2, 3, 4, 5, 6, 7, 8, 9, 10, 11, 12, 13, 14, 15, 16, 17] rfl)) (fun ce q9 H locs hP hD hS hce hcv hcl => ?_)
  have hP : va_P (dC, dI) vwCl (wH q cI cZ cJ ao r k a o) H := hP.sub [1, 2, 3, 4, 5, 6, 7, 8, 9, 10, 11, 12, 13, 14, 15, 16, 17, 18, 0] rfl
  have hD : va_D A (wH q cI cZ cJ ao r k a o) := hD.sub [1, 2, 3, 4, 5, 6, 7, 8, 9, 10, 11, 12, 13, 14, 15, 16, 17, 18, 0] (by decide) rfl
  refine vx_catch (own := RL) (name := xIOB) hown [] ⟨0, 10, 13, 25⟩ [] (htab.trans rfl) (fun z hz => by cases hz) (by decide) (by decide) (hts _ tw_310) (va_tabs rfl rfl (hE.2.2.2.1 (.castable xIOB xIOB) (by decide +kernel))) hce hcv hcl ?_
  refine lv_astore (lv' := [(4, .ref q9), (0, .ref (q 17)), (1, .int kv), (2, .int wv), (3, .ref ao)]) hx hb dL_rule_13 hl (by decide) rfl (fun ls hl => ?_)
  refine lv_iconst (v := nI 1) hx hb dL_rule_15 (by decide) ?_
  exact xr_i hx hb hr hlk (u := ((r, k, a), o)) (⟨rfl, rfl⟩) hP hK hD hS dL_rule_16
set_option maxHeartbeats 4000000 in
set_option maxRecDepth 100000 in
theorem hx_set (l : Launch) (hl0 : l.stackTraces = false) (dC : Nat → ClassId) (dI : Nat → Nat → Nat) (q : Nat → Nat) (cI cZ : ClassId) (cJ : ClassId) (ao : Nat) (sz : Nat) (r : RS) (k : CS) (a : AS) (o : OS) (tN : Nat) (v : Int32) (f : Nat) (h1 : hcN v r.n = 0) : Met l yL_set (.codeWith yL_set cL_set 5 (some .int) [(0, 17, 20, 25)] :: ALLG) ({ frames := 8, cells := 1, slots := 6, locals := 147 }) (va_Pc [.ref (q 17), .int v, .int (nI f), .ref ao] (cP (dC, dI) vwCl [(cI, .int), (cZ, .boolean), (cJ, .long)] (wH q cI cZ cJ ao r k a o) (eX tN (va_A (wH q cI cZ cJ ao r k a o) sz)) sz)) (va_Qi (fun (x : Int32) (u : (RS × CS × AS) × (Nat → Int64)) => x = nI 1 ∧ u = ((r, k, a), o)) (fun (u : (RS × CS × AS) × (Nat → Int64)) => cB (dC, dI) vwCl [(cI, .int), (cZ, .boolean), (cJ, .long)] (wH q cI cZ cJ ao u.1.1 u.1.2.1 u.1.2.2 u.2) (va_A (wH q cI cZ cJ ao r k a o) sz)) (va_A (wH q cI cZ cJ ao r k a o) sz)) 1 6 (va_A (wH q cI cZ cJ ao r k a o) sz) := by
  refine xm_h (cc := cL_set) (maxL := 5) (ret := some .int) (hh := [(0, 17, 20, 25)]) (by decide) rfl (Nat.le_of_ble_eq_true rfl) ?_
  intro p e s m below meth c A hAe hx hb hr hml hts0 hown hlk htab hsz H locs hP hK hD hA hS hE ls hl
  have hts : ∀ w ∈ ALLG, w.before _ s = true := fun w h => hts0 w (List.mem_cons_of_mem _ h)
  rw [← hAe]
  rw [← hAe] at hE
  have hl : lv_has ls 5 [(0, .ref (q 17)), (1, .int v), (2, .int (nI f)), (3, .ref ao)] := hl
  refine lv_aload_n hx hb dL_set_0 rfl (lv_at hl 3 rfl) ?_
  refine lv_iconst (v := nI 0) hx hb dL_set_1 (by decide) ?_
  refine lv_aload_n hx hb dL_set_2 rfl (lv_at hl 0 rfl) ?_
  refine lv_iload_n hx hb dL_set_3 rfl (lv_at hl 1 rfl) ?_
  refine lv_iload_n hx hb dL_set_4 rfl (lv_at hl 2 rfl) ?_
  refine xv_Vi (As := [.int v, .int (nI f)]) (wr := wO cJ ao o) ⟨hx, hb, hml, hown, hts⟩ (tx_set l hl0 dC dI q cI cZ H.size r k a tN v f h1) (cwV 2 hts (gV tw_402 tw_403 tw_404 tw_1 tw_405) rfl rfl rfl (by decide +kernel) ⟨Nat.le_of_ble_eq_true rfl, Nat.le_of_ble_eq_true rfl⟩) rfl hl.1 rfl (Nat.le_of_ble_eq_true rfl) dL_set_5 ⟨Nat.le_of_ble_eq_true rfl, Nat.le_of_ble_eq_true rfl⟩ hP hD hK hS hA [0, 1, 2, 3, 4, 5, 6, 7, 8, 9, 10, 11, 12, 13, 14, 15, 16, 17] [18] rfl rfl (by decide) (by decide) (by decide) [0, 1] rfl (q0 := 17) rfl rfl rfl (eX_W _ _) (eX_kn hE hS (va_free (wc := wX q cI cZ r k a) hD hS hA [0, 1, 2, 3, 4, 5, 6, 7, 8, 9, 10, 11, 12, 13, 14, 15, 16, 17] rfl)) (fun ce q9 H locs hP hD hS hce hcv hcl => ?_)
  have hP : va_P (dC, dI) vwCl (wH q cI cZ cJ ao r k a o) H := hP.sub [1, 2, 3, 4, 5, 6, 7, 8, 9, 10, 11, 12, 13, 14, 15, 16, 17, 18, 0] rfl
  have hD : va_D A (wH q cI cZ cJ ao r k a o) := hD.sub [1, 2, 3, 4, 5, 6, 7, 8, 9, 10, 11, 12, 13, 14, 15, 16, 17, 18, 0] (by decide) rfl
  refine vx_catch (own := RL) (name := xIOB) hown [] ⟨0, 17, 20, 25⟩ [] (htab.trans rfl) (fun z hz => by cases hz) (by decide) (by decide) (hts _ tw_310) (va_tabs rfl rfl (hE.2.2.2.1 (.castable xIOB xIOB) (by decide +kernel))) hce hcv hcl ?_
  refine lv_astore (lv' := [(4, .ref q9), (0, .ref (q 17)), (1, .int v), (2, .int (nI f)), (3, .ref ao)]) hx hb dL_set_20 hl (by decide) rfl (fun ls hl => ?_)
  refine lv_iconst (v := nI 1) hx hb dL_set_22 (by decide) ?_
  exact xr_i hx hb hr hlk (u := ((r, k, a), o)) (⟨rfl, rfl⟩) hP hK hD hS dL_set_23
set_option maxHeartbeats 4000000 in
set_option maxRecDepth 100000 in
theorem hx_load (l : Launch) (hl0 : l.stackTraces = false) (dC : Nat → ClassId) (dI : Nat → Nat → Nat) (q : Nat → Nat) (cI cZ : ClassId) (sz : Nat) (r : RS) (k : CS) (a : AS) (tN : Nat) (v lv : Int32) (h1 : hcN v r.n = 0) : Met l yL_load (.codeWith yL_load cL_load 4 (some .int) [(0, 6, 9, 25)] :: ALLG) ({ frames := 8, cells := 1, slots := 6, locals := 147 }) (va_Pc [.ref (q 17), .int v, .int lv] (cP (dC, dI) vwCl [(cI, .int), (cZ, .boolean)] (wX q cI cZ r k a) (eX tN (va_A (wX q cI cZ r k a) sz)) sz)) (va_Qi (fun (x : Int32) (u : RS × CS × AS) => x = nI 1 ∧ u = (r, k, a)) (fun (u : RS × CS × AS) => cB (dC, dI) vwCl [(cI, .int), (cZ, .boolean)] (wX q cI cZ u.1 u.2.1 u.2.2) (va_A (wX q cI cZ r k a) sz)) (va_A (wX q cI cZ r k a) sz)) 1 6 (va_A (wX q cI cZ r k a) sz) := by
  refine xm_h (cc := cL_load) (maxL := 4) (ret := some .int) (hh := [(0, 6, 9, 25)]) (by decide) rfl (Nat.le_of_ble_eq_true rfl) ?_
  intro p e s m below meth c A hAe hx hb hr hml hts0 hown hlk htab hsz H locs hP hK hD hA hS hE ls hl
  have hts : ∀ w ∈ ALLG, w.before _ s = true := fun w h => hts0 w (List.mem_cons_of_mem _ h)
  rw [← hAe]
  rw [← hAe] at hE
  have hl : lv_has ls 4 [(0, .ref (q 17)), (1, .int v), (2, .int lv)] := hl
  refine lv_aload_n hx hb dL_load_0 rfl (lv_at hl 0 rfl) ?_
  refine lv_iload_n hx hb dL_load_1 rfl (lv_at hl 1 rfl) ?_
  refine lv_iload_n hx hb dL_load_2 rfl (lv_at hl 2 rfl) ?_
  refine xv_Vv (As := [.int v, .int lv]) (wr := []) ⟨hx, hb, hml, hown, hts⟩ (tx_load l hl0 dC dI q cI cZ H.size r k a tN v lv h1) (cwV 2 hts (gV tw_418 tw_419 tw_420 tw_1 tw_421) rfl rfl rfl (by decide +kernel) ⟨Nat.le_of_ble_eq_true rfl, Nat.le_of_ble_eq_true rfl⟩) rfl hl.1 rfl (Nat.le_of_ble_eq_true rfl) dL_load_3 ⟨Nat.le_of_ble_eq_true rfl, Nat.le_of_ble_eq_true rfl⟩ hP hD hK hS hA [0, 1, 2, 3, 4, 5, 6, 7, 8, 9, 10, 11, 12, 13, 14, 15, 16, 17] [] rfl rfl (by decide) (by decide) (by decide) [0, 1] rfl (q0 := 17) rfl rfl rfl (eX_W _ _) (eX_kn hE hS (va_free (wc := wX q cI cZ r k a) hD hS hA [0, 1, 2, 3, 4, 5, 6, 7, 8, 9, 10, 11, 12, 13, 14, 15, 16, 17] rfl)) (fun ce q9 H locs hP hD hS hce hcv hcl => ?_)
  have hP : va_P (dC, dI) vwCl (wX q cI cZ r k a) H := hP
  have hD : va_D A (wX q cI cZ r k a) := hD
  refine vx_catch (own := RL) (name := xIOB) hown [] ⟨0, 6, 9, 25⟩ [] (htab.trans rfl) (fun z hz => by cases hz) (by decide) (by decide) (hts _ tw_310) (va_tabs rfl rfl (hE.2.2.2.1 (.castable xIOB xIOB) (by decide +kernel))) hce hcv hcl ?_
  refine lv_astore_n (lv' := [(3, .ref q9), (0, .ref (q 17)), (1, .int v), (2, .int lv)]) hx hb dL_load_9 rfl hl (by decide) rfl (fun ls hl => ?_)
  refine lv_iconst (v := nI 1) hx hb dL_load_10 (by decide) ?_
  exact xr_i hx hb hr hlk (u := (r, k, a)) (⟨rfl, rfl⟩) hP hK hD hS dL_load_11
set_option maxHeartbeats 4000000 in
set_option maxRecDepth 100000 in
theorem hx_value (l : Launch) (hl0 : l.stackTraces = false) (dC : Nat → ClassId) (dI : Nat → Nat → Nat) (q : Nat → Nat) (cI cZ : ClassId) (cJ : ClassId) (ao : Nat) (sz : Nat) (r : RS) (k : CS) (a : AS) (o : OS) (tN : Nat) (v : Int32) (h1 : hcN v r.n = 0) : Met l yL_value (.codeWith yL_value cL_value 4 (some .int) [(0, 9, 12, 25)] :: ALLG) ({ frames := 8, cells := 1, slots := 6, locals := 146 }) (va_Pc [.ref (q 17), .int v, .ref ao] (cP (dC, dI) vwCl [(cI, .int), (cZ, .boolean), (cJ, .long)] (wH q cI cZ cJ ao r k a o) (eX tN (va_A (wH q cI cZ cJ ao r k a o) sz)) sz)) (va_Qi (fun (x : Int32) (u : (RS × CS × AS) × (Nat → Int64)) => x = nI 1 ∧ u = ((r, k, a), o)) (fun (u : (RS × CS × AS) × (Nat → Int64)) => cB (dC, dI) vwCl [(cI, .int), (cZ, .boolean), (cJ, .long)] (wH q cI cZ cJ ao u.1.1 u.1.2.1 u.1.2.2 u.2) (va_A (wH q cI cZ cJ ao r k a o) sz)) (va_A (wH q cI cZ cJ ao r k a o) sz)) 1 6 (va_A (wH q cI cZ cJ ao r k a o) sz) := by
  refine xm_h (cc := cL_value) (maxL := 4) (ret := some .int) (hh := [(0, 9, 12, 25)]) (by decide) rfl (Nat.le_of_ble_eq_true rfl) ?_
  intro p e s m below meth c A hAe hx hb hr hml hts0 hown hlk htab hsz H locs hP hK hD hA hS hE ls hl
  have hts : ∀ w ∈ ALLG, w.before _ s = true := fun w h => hts0 w (List.mem_cons_of_mem _ h)
  rw [← hAe]
  rw [← hAe] at hE
  have hl : lv_has ls 4 [(0, .ref (q 17)), (1, .int v), (2, .ref ao)] := hl
  refine lv_aload_n hx hb dL_value_0 rfl (lv_at hl 2 rfl) ?_
  refine lv_iconst (v := nI 0) hx hb dL_value_1 (by decide) ?_
  refine lv_aload_n hx hb dL_value_2 rfl (lv_at hl 0 rfl) ?_
  refine lv_iload_n hx hb dL_value_3 rfl (lv_at hl 1 rfl) ?_
  refine xv_Vi (As := [.int v]) (wr := wO cJ ao o) ⟨hx, hb, hml, hown, hts⟩ (tx_value l hl0 dC dI q cI cZ H.size r k a tN v h1) (cwV 1 hts (gV tw_428 tw_429 tw_430 tw_1 tw_431) rfl rfl rfl (by decide +kernel) ⟨Nat.le_of_ble_eq_true rfl, Nat.le_of_ble_eq_true rfl⟩) rfl hl.1 rfl (Nat.le_of_ble_eq_true rfl) dL_value_4 ⟨Nat.le_of_ble_eq_true rfl, Nat.le_of_ble_eq_true rfl⟩ hP hD hK hS hA [0, 1, 2, 3, 4, 5, 6, 7, 8, 9, 10, 11, 12, 13, 14, 15, 16, 17] [18] rfl rfl (by decide) (by decide) (by decide) [0, 1] rfl (q0 := 17) rfl rfl rfl (eX_W _ _) (eX_kn hE hS (va_free (wc := wX q cI cZ r k a) hD hS hA [0, 1, 2, 3, 4, 5, 6, 7, 8, 9, 10, 11, 12, 13, 14, 15, 16, 17] rfl)) (fun ce q9 H locs hP hD hS hce hcv hcl => ?_)
  have hP : va_P (dC, dI) vwCl (wH q cI cZ cJ ao r k a o) H := hP.sub [1, 2, 3, 4, 5, 6, 7, 8, 9, 10, 11, 12, 13, 14, 15, 16, 17, 18, 0] rfl
  have hD : va_D A (wH q cI cZ cJ ao r k a o) := hD.sub [1, 2, 3, 4, 5, 6, 7, 8, 9, 10, 11, 12, 13, 14, 15, 16, 17, 18, 0] (by decide) rfl
  refine vx_catch (own := RL) (name := xIOB) hown [] ⟨0, 9, 12, 25⟩ [] (htab.trans rfl) (fun z hz => by cases hz) (by decide) (by decide) (hts _ tw_310) (va_tabs rfl rfl (hE.2.2.2.1 (.castable xIOB xIOB) (by decide +kernel))) hce hcv hcl ?_
  refine lv_astore_n (lv' := [(3, .ref q9), (0, .ref (q 17)), (1, .int v), (2, .ref ao)]) hx hb dL_value_12 rfl hl (by decide) rfl (fun ls hl => ?_)
  refine lv_iconst (v := nI 1) hx hb dL_value_13 (by decide) ?_
  exact xr_i hx hb hr hlk (u := ((r, k, a), o)) (⟨rfl, rfl⟩) hP hK hD hS dL_value_14
set_option maxHeartbeats 4000000 in
set_option maxRecDepth 100000 in
theorem hx_port1 (l : Launch) (hl0 : l.stackTraces = false) (dC : Nat → ClassId) (dI : Nat → Nat → Nat) (q : Nat → Nat) (cI cZ : ClassId) (cJ : ClassId) (ao : Nat) (sz : Nat) (r : RS) (k : CS) (a : AS) (o : OS) (tN : Nat) (v : Int32) (h1 : k.n = 20) : Met l yL_port (.codeWith yL_port cL_port 4 (some .int) [(0, 9, 12, 13), (0, 9, 15, 15)] :: ALLG) ({ frames := 7, cells := 1, slots := 6, locals := 111 }) (va_Pc [.ref (q 17), .int v, .ref ao] (cP (dC, dI) vwCl [(cI, .int), (cZ, .boolean), (cJ, .long)] (wH q cI cZ cJ ao r k a o) (eX tN (va_A (wH q cI cZ cJ ao r k a o) sz)) sz)) (va_Qi (fun (x : Int32) (u : (RS × CS × AS) × (Nat → Int64)) => x = nI 1 ∧ u = ((r, k, a), o)) (fun (u : (RS × CS × AS) × (Nat → Int64)) => cB (dC, dI) vwCl [(cI, .int), (cZ, .boolean), (cJ, .long)] (wH q cI cZ cJ ao u.1.1 u.1.2.1 u.1.2.2 u.2) (va_A (wH q cI cZ cJ ao r k a o) sz)) (va_A (wH q cI cZ cJ ao r k a o) sz)) 1 6 (va_A (wH q cI cZ cJ ao r k a o) sz) := by
  refine xm_h (cc := cL_port) (maxL := 4) (ret := some .int) (hh := [(0, 9, 12, 13), (0, 9, 15, 15)]) (by decide) rfl (Nat.le_of_ble_eq_true rfl) ?_
  intro p e s m below meth c A hAe hx hb hr hml hts0 hown hlk htab hsz H locs hP hK hD hA hS hE ls hl
  have hts : ∀ w ∈ ALLG, w.before _ s = true := fun w h => hts0 w (List.mem_cons_of_mem _ h)
  rw [← hAe]
  rw [← hAe] at hE
  have hl : lv_has ls 4 [(0, .ref (q 17)), (1, .int v), (2, .ref ao)] := hl
  refine lv_aload_n hx hb dL_port_0 rfl (lv_at hl 2 rfl) ?_
  refine lv_iconst (v := nI 0) hx hb dL_port_1 (by decide) ?_
  refine lv_aload_n hx hb dL_port_2 rfl (lv_at hl 0 rfl) ?_
  refine lv_iload_n hx hb dL_port_3 rfl (lv_at hl 1 rfl) ?_
  refine xv_Vi (As := [.int v]) (wr := wO cJ ao o) ⟨hx, hb, hml, hown, hts⟩ (tx_port1 l hl0 dC dI q cI cZ H.size r k a tN v h1) (cwV 1 hts (gV tw_435 tw_436 tw_437 tw_1 tw_438) rfl rfl rfl (by decide +kernel) ⟨Nat.le_of_ble_eq_true rfl, Nat.le_of_ble_eq_true rfl⟩) rfl hl.1 rfl (Nat.le_of_ble_eq_true rfl) dL_port_4 ⟨Nat.le_of_ble_eq_true rfl, Nat.le_of_ble_eq_true rfl⟩ hP hD hK hS hA [0, 1, 2, 3, 4, 5, 6, 7, 8, 9, 10, 11, 12, 13, 14, 15, 16, 17] [18] rfl rfl (by decide) (by decide) (by decide) [0, 1] rfl (q0 := 17) rfl rfl rfl (eX_W _ _) (eX_kn hE hS (va_free (wc := wX q cI cZ r k a) hD hS hA [0, 1, 2, 3, 4, 5, 6, 7, 8, 9, 10, 11, 12, 13, 14, 15, 16, 17] rfl)) (fun ce q9 H locs hP hD hS hce hcv hcl => ?_)
  have hP : va_P (dC, dI) vwCl (wH q cI cZ cJ ao r k a o) H := hP.sub [1, 2, 3, 4, 5, 6, 7, 8, 9, 10, 11, 12, 13, 14, 15, 16, 17, 18, 0] rfl
  have hD : va_D A (wH q cI cZ cJ ao r k a o) := hD.sub [1, 2, 3, 4, 5, 6, 7, 8, 9, 10, 11, 12, 13, 14, 15, 16, 17, 18, 0] (by decide) rfl
  refine vx_catch (own := RL) (name := xUOE) hown [] ⟨0, 9, 12, 13⟩ [⟨0, 9, 15, 15⟩] (htab.trans rfl) (fun z hz => by cases hz) (by decide) (by decide) (hts _ tw_182) (va_tabs rfl rfl (hE.2.2.2.1 (.castable xUOE xUOE) (by decide +kernel))) hce hcv hcl ?_
  refine lv_astore_n (lv' := [(3, .ref q9), (0, .ref (q 17)), (1, .int v), (2, .ref ao)]) hx hb dL_port_12 rfl hl (by decide) rfl (fun ls hl => ?_)
  refine lv_iconst (v := nI 1) hx hb dL_port_13 (by decide) ?_
  exact xr_i hx hb hr hlk (u := ((r, k, a), o)) (⟨rfl, rfl⟩) hP hK hD hS dL_port_14
set_option maxHeartbeats 4000000 in
set_option maxRecDepth 100000 in
theorem hx_port2 (l : Launch) (hl0 : l.stackTraces = false) (dC : Nat → ClassId) (dI : Nat → Nat → Nat) (q : Nat → Nat) (cI cZ : ClassId) (cJ : ClassId) (ao : Nat) (sz : Nat) (r : RS) (k : CS) (a : AS) (o : OS) (tN : Nat) (v : Int32) (h1 : k.n < 20) (h2 : ¬ v = 0 ∧ ¬ v = nI 1) : Met l yL_port (.codeWith yL_port cL_port 4 (some .int) [(0, 9, 12, 13), (0, 9, 15, 15)] :: ALLG) ({ frames := 7, cells := 1, slots := 6, locals := 111 }) (va_Pc [.ref (q 17), .int v, .ref ao] (cP (dC, dI) vwCl [(cI, .int), (cZ, .boolean), (cJ, .long)] (wH q cI cZ cJ ao r k a o) (eX tN (va_A (wH q cI cZ cJ ao r k a o) sz)) sz)) (va_Qi (fun (x : Int32) (u : (RS × CS × AS) × (Nat → Int64)) => x = nI 2 ∧ u = ((r, k, a), o)) (fun (u : (RS × CS × AS) × (Nat → Int64)) => cB (dC, dI) vwCl [(cI, .int), (cZ, .boolean), (cJ, .long)] (wH q cI cZ cJ ao u.1.1 u.1.2.1 u.1.2.2 u.2) (va_A (wH q cI cZ cJ ao r k a o) sz)) (va_A (wH q cI cZ cJ ao r k a o) sz)) 1 6 (va_A (wH q cI cZ cJ ao r k a o) sz) := by
  refine xm_h (cc := cL_port) (maxL := 4) (ret := some .int) (hh := [(0, 9, 12, 13), (0, 9, 15, 15)]) (by decide) rfl (Nat.le_of_ble_eq_true rfl) ?_
  intro p e s m below meth c A hAe hx hb hr hml hts0 hown hlk htab hsz H locs hP hK hD hA hS hE ls hl
  have hts : ∀ w ∈ ALLG, w.before _ s = true := fun w h => hts0 w (List.mem_cons_of_mem _ h)
  rw [← hAe]
  rw [← hAe] at hE
  have hl : lv_has ls 4 [(0, .ref (q 17)), (1, .int v), (2, .ref ao)] := hl
  refine lv_aload_n hx hb dL_port_0 rfl (lv_at hl 2 rfl) ?_
  refine lv_iconst (v := nI 0) hx hb dL_port_1 (by decide) ?_
  refine lv_aload_n hx hb dL_port_2 rfl (lv_at hl 0 rfl) ?_
  refine lv_iload_n hx hb dL_port_3 rfl (lv_at hl 1 rfl) ?_
  refine xv_Vi (As := [.int v]) (wr := wO cJ ao o) ⟨hx, hb, hml, hown, hts⟩ (tx_port2 l hl0 dC dI q cI cZ H.size r k a tN v h1 h2) (cwV 1 hts (gV tw_435 tw_436 tw_437 tw_1 tw_438) rfl rfl rfl (by decide +kernel) ⟨Nat.le_of_ble_eq_true rfl, Nat.le_of_ble_eq_true rfl⟩) rfl hl.1 rfl (Nat.le_of_ble_eq_true rfl) dL_port_4 ⟨Nat.le_of_ble_eq_true rfl, Nat.le_of_ble_eq_true rfl⟩ hP hD hK hS hA [0, 1, 2, 3, 4, 5, 6, 7, 8, 9, 10, 11, 12, 13, 14, 15, 16, 17] [18] rfl rfl (by decide) (by decide) (by decide) [0, 1] rfl (q0 := 17) rfl rfl rfl (eX_W _ _) (eX_kn hE hS (va_free (wc := wX q cI cZ r k a) hD hS hA [0, 1, 2, 3, 4, 5, 6, 7, 8, 9, 10, 11, 12, 13, 14, 15, 16, 17] rfl)) (fun ce q9 H locs hP hD hS hce hcv hcl => ?_)
  have hP : va_P (dC, dI) vwCl (wH q cI cZ cJ ao r k a o) H := hP.sub [1, 2, 3, 4, 5, 6, 7, 8, 9, 10, 11, 12, 13, 14, 15, 16, 17, 18, 0] rfl
  have hD : va_D A (wH q cI cZ cJ ao r k a o) := hD.sub [1, 2, 3, 4, 5, 6, 7, 8, 9, 10, 11, 12, 13, 14, 15, 16, 17, 18, 0] (by decide) rfl
  refine vx_catch (own := RL) (name := xIAE) hown [⟨0, 9, 12, 13⟩] ⟨0, 9, 15, 15⟩ [] (htab.trans rfl) (fun z hz => by obtain rfl := List.mem_singleton.mp hz; exact Or.inr ⟨by decide, xUOE, hts _ tw_182, hE.2.2.2.2.2⟩) (by decide) (by decide) (hts _ tw_183) (va_tabs rfl rfl (hE.2.2.2.1 (.castable xIAE xIAE) (by decide +kernel))) hce hcv hcl ?_
  refine lv_astore_n (lv' := [(3, .ref q9), (0, .ref (q 17)), (1, .int v), (2, .ref ao)]) hx hb dL_port_15 rfl hl (by decide) rfl (fun ls hl => ?_)
  refine lv_iconst (v := nI 2) hx hb dL_port_16 (by decide) ?_
  exact xr_i hx hb hr hlk (u := ((r, k, a), o)) (⟨rfl, rfl⟩) hP hK hD hS dL_port_17
set_option maxHeartbeats 4000000 in
set_option maxRecDepth 100000 in
theorem hx_pin (l : Launch) (hl0 : l.stackTraces = false) (dC : Nat → ClassId) (dI : Nat → Nat → Nat) (q : Nat → Nat) (cI cZ : ClassId) (sz : Nat) (r : RS) (k : CS) (a : AS) (tN : Nat) (v lv : Int32) (h1 : hcN v k.n = 0) : Met l yL_pin (.codeWith yL_pin cL_pin 4 (some .int) [(0, 6, 9, 25)] :: ALLG) ({ frames := 8, cells := 1, slots := 6, locals := 147 }) (va_Pc [.ref (q 17), .int v, .int lv] (cP (dC, dI) vwCl [(cI, .int), (cZ, .boolean)] (wX q cI cZ r k a) (eX tN (va_A (wX q cI cZ r k a) sz)) sz)) (va_Qi (fun (x : Int32) (u : RS × CS × AS) => x = nI 1 ∧ u = (r, k, a)) (fun (u : RS × CS × AS) => cB (dC, dI) vwCl [(cI, .int), (cZ, .boolean)] (wX q cI cZ u.1 u.2.1 u.2.2) (va_A (wX q cI cZ r k a) sz)) (va_A (wX q cI cZ r k a) sz)) 1 6 (va_A (wX q cI cZ r k a) sz) := by
  refine xm_h (cc := cL_pin) (maxL := 4) (ret := some .int) (hh := [(0, 6, 9, 25)]) (by decide) rfl (Nat.le_of_ble_eq_true rfl) ?_
  intro p e s m below meth c A hAe hx hb hr hml hts0 hown hlk htab hsz H locs hP hK hD hA hS hE ls hl
  have hts : ∀ w ∈ ALLG, w.before _ s = true := fun w h => hts0 w (List.mem_cons_of_mem _ h)
  rw [← hAe]
  rw [← hAe] at hE
  have hl : lv_has ls 4 [(0, .ref (q 17)), (1, .int v), (2, .int lv)] := hl
  refine lv_aload_n hx hb dL_pin_0 rfl (lv_at hl 0 rfl) ?_
  refine lv_iload_n hx hb dL_pin_1 rfl (lv_at hl 1 rfl) ?_
  refine lv_iload_n hx hb dL_pin_2 rfl (lv_at hl 2 rfl) ?_
  refine xv_Vv (As := [.int v, .int lv]) (wr := []) ⟨hx, hb, hml, hown, hts⟩ (tx_pin l hl0 dC dI q cI cZ H.size r k a tN v lv h1) (cwV 2 hts (gV tw_448 tw_449 tw_450 tw_1 tw_451) rfl rfl rfl (by decide +kernel) ⟨Nat.le_of_ble_eq_true rfl, Nat.le_of_ble_eq_true rfl⟩) rfl hl.1 rfl (Nat.le_of_ble_eq_true rfl) dL_pin_3 ⟨Nat.le_of_ble_eq_true rfl, Nat.le_of_ble_eq_true rfl⟩ hP hD hK hS hA [0, 1, 2, 3, 4, 5, 6, 7, 8, 9, 10, 11, 12, 13, 14, 15, 16, 17] [] rfl rfl (by decide) (by decide) (by decide) [0, 1] rfl (q0 := 17) rfl rfl rfl (eX_W _ _) (eX_kn hE hS (va_free (wc := wX q cI cZ r k a) hD hS hA [0, 1, 2, 3, 4, 5, 6, 7, 8, 9, 10, 11, 12, 13, 14, 15, 16, 17] rfl)) (fun ce q9 H locs hP hD hS hce hcv hcl => ?_)
  have hP : va_P (dC, dI) vwCl (wX q cI cZ r k a) H := hP
  have hD : va_D A (wX q cI cZ r k a) := hD
  refine vx_catch (own := RL) (name := xIOB) hown [] ⟨0, 6, 9, 25⟩ [] (htab.trans rfl) (fun z hz => by cases hz) (by decide) (by decide) (hts _ tw_310) (va_tabs rfl rfl (hE.2.2.2.1 (.castable xIOB xIOB) (by decide +kernel))) hce hcv hcl ?_
  refine lv_astore_n (lv' := [(3, .ref q9), (0, .ref (q 17)), (1, .int v), (2, .int lv)]) hx hb dL_pin_9 rfl hl (by decide) rfl (fun ls hl => ?_)
  refine lv_iconst (v := nI 1) hx hb dL_pin_10 (by decide) ?_
  exact xr_i hx hb hr hlk (u := (r, k, a)) (⟨rfl, rfl⟩) hP hK hD hS dL_pin_11
set_option maxHeartbeats 4000000 in
set_option maxRecDepth 100000 in
theorem hx_tick (l : Launch) (hl0 : l.stackTraces = false) (dC : Nat → ClassId) (dI : Nat → Nat → Nat) (q : Nat → Nat) (cI cZ : ClassId) (cJ : ClassId) (ao : Nat) (sz : Nat) (r : RS) (k : CS) (a : AS) (o : OS) (tN : Nat) (mv bv : Int32) (h1 : mBadT mv bv) : Met l yL_tick (.codeWith yL_tick cL_tick 5 (some .int) [(0, 10, 13, 15)] :: ALLG) ({ frames := 7, cells := 1, slots := 6, locals := 112 }) (va_Pc [.ref (q 17), .int mv, .int bv, .ref ao] (cP (dC, dI) vwCl [(cI, .int), (cZ, .boolean), (cJ, .long)] (wH q cI cZ cJ ao r k a o) (eX tN (va_A (wH q cI cZ cJ ao r k a o) sz)) sz)) (va_Qi (fun (x : Int32) (u : (RS × CS × AS) × (Nat → Int64)) => x = nI 1 ∧ u = ((r, k, a), o)) (fun (u : (RS × CS × AS) × (Nat → Int64)) => cB (dC, dI) vwCl [(cI, .int), (cZ, .boolean), (cJ, .long)] (wH q cI cZ cJ ao u.1.1 u.1.2.1 u.1.2.2 u.2) (va_A (wH q cI cZ cJ ao r k a o) sz)) (va_A (wH q cI cZ cJ ao r k a o) sz)) 1 6 (va_A (wH q cI cZ cJ ao r k a o) sz) := by
  refine xm_h (cc := cL_tick) (maxL := 5) (ret := some .int) (hh := [(0, 10, 13, 15)]) (by decide) rfl (Nat.le_of_ble_eq_true rfl) ?_
  intro p e s m below meth c A hAe hx hb hr hml hts0 hown hlk htab hsz H locs hP hK hD hA hS hE ls hl
  have hts : ∀ w ∈ ALLG, w.before _ s = true := fun w h => hts0 w (List.mem_cons_of_mem _ h)
  rw [← hAe]
  rw [← hAe] at hE
  have hl : lv_has ls 5 [(0, .ref (q 17)), (1, .int mv), (2, .int bv), (3, .ref ao)] := hl
  refine lv_aload_n hx hb dL_tick_0 rfl (lv_at hl 3 rfl) ?_
  refine lv_iconst (v := nI 0) hx hb dL_tick_1 (by decide) ?_
  refine lv_aload_n hx hb dL_tick_2 rfl (lv_at hl 0 rfl) ?_
  refine lv_iload_n hx hb dL_tick_3 rfl (lv_at hl 1 rfl) ?_
  refine lv_iload_n hx hb dL_tick_4 rfl (lv_at hl 2 rfl) ?_
  refine xv_Vi (As := [.int mv, .int bv]) (wr := wO cJ ao o) ⟨hx, hb, hml, hown, hts⟩ (tx_tick l hl0 dC dI q cI cZ H.size r k a tN mv bv h1) (cwV 2 hts (gV tw_460 tw_461 tw_462 tw_1 tw_463) rfl rfl rfl (by decide +kernel) ⟨Nat.le_of_ble_eq_true rfl, Nat.le_of_ble_eq_true rfl⟩) rfl hl.1 rfl (Nat.le_of_ble_eq_true rfl) dL_tick_5 ⟨Nat.le_of_ble_eq_true rfl, Nat.le_of_ble_eq_true rfl⟩ hP hD hK hS hA [0, 1, 2, 3, 4, 5, 6, 7, 8, 9, 10, 11, 12, 13, 14, 15, 16, 17] [18] rfl rfl (by decide) (by decide) (by decide) [0, 1] rfl (q0 := 17) rfl rfl rfl (eX_W _ _) (eX_kn hE hS (va_free (wc := wX q cI cZ r k a) hD hS hA [0, 1, 2, 3, 4, 5, 6, 7, 8, 9, 10, 11, 12, 13, 14, 15, 16, 17] rfl)) (fun ce q9 H locs hP hD hS hce hcv hcl => ?_)
  have hP : va_P (dC, dI) vwCl (wH q cI cZ cJ ao r k a o) H := hP.sub [1, 2, 3, 4, 5, 6, 7, 8, 9, 10, 11, 12, 13, 14, 15, 16, 17, 18, 0] rfl
  have hD : va_D A (wH q cI cZ cJ ao r k a o) := hD.sub [1, 2, 3, 4, 5, 6, 7, 8, 9, 10, 11, 12, 13, 14, 15, 16, 17, 18, 0] (by decide) rfl
  refine vx_catch (own := RL) (name := xIAE) hown [] ⟨0, 10, 13, 15⟩ [] (htab.trans rfl) (fun z hz => by cases hz) (by decide) (by decide) (hts _ tw_183) (va_tabs rfl rfl (hE.2.2.2.1 (.castable xIAE xIAE) (by decide +kernel))) hce hcv hcl ?_
  refine lv_astore (lv' := [(4, .ref q9), (0, .ref (q 17)), (1, .int mv), (2, .int bv), (3, .ref ao)]) hx hb dL_tick_13 hl (by decide) rfl (fun ls hl => ?_)
  refine lv_iconst (v := nI 1) hx hb dL_tick_15 (by decide) ?_
  exact xr_i hx hb hr hlk (u := ((r, k, a), o)) (⟨rfl, rfl⟩) hP hK hD hS dL_tick_16
set_option maxHeartbeats 4000000 in
set_option maxRecDepth 100000 in
theorem hx_go (l : Launch) (hl0 : l.stackTraces = false) (dC : Nat → ClassId) (dI : Nat → Nat → Nat) (q : Nat → Nat) (cI cZ : ClassId) (cJ : ClassId) (ao : Nat) (sz : Nat) (r : RS) (k : CS) (a : AS) (o : OS) (tN : Nat) (v : Int32) (h1 : v < 0 ∨ ¬ v ≤ nI 15) : Met l yL_go (.codeWith yL_go cL_go 4 (some .int) [(0, 9, 12, 15)] :: ALLG) ({ frames := 7, cells := 1, slots := 6, locals := 111 }) (va_Pc [.ref (q 17), .int v, .ref ao] (cP (dC, dI) vwCl [(cI, .int), (cZ, .boolean), (cJ, .long)] (wH q cI cZ cJ ao r k a o) (eX tN (va_A (wH q cI cZ cJ ao r k a o) sz)) sz)) (va_Qi (fun (x : Int32) (u : (RS × CS × AS) × (Nat → Int64)) => x = nI 1 ∧ u = ((r, k, a), o)) (fun (u : (RS × CS × AS) × (Nat → Int64)) => cB (dC, dI) vwCl [(cI, .int), (cZ, .boolean), (cJ, .long)] (wH q cI cZ cJ ao u.1.1 u.1.2.1 u.1.2.2 u.2) (va_A (wH q cI cZ cJ ao r k a o) sz)) (va_A (wH q cI cZ cJ ao r k a o) sz)) 1 6 (va_A (wH q cI cZ cJ ao r k a o) sz) := by
  refine xm_h (cc := cL_go) (maxL := 4) (ret := some .int) (hh := [(0, 9, 12, 15)]) (by decide) rfl (Nat.le_of_ble_eq_true rfl) ?_
  intro p e s m below meth c A hAe hx hb hr hml hts0 hown hlk htab hsz H locs hP hK hD hA hS hE ls hl
  have hts : ∀ w ∈ ALLG, w.before _ s = true := fun w h => hts0 w (List.mem_cons_of_mem _ h)
  rw [← hAe]
  rw [← hAe] at hE
  have hl : lv_has ls 4 [(0, .ref (q 17)), (1, .int v), (2, .ref ao)] := hl
  refine lv_aload_n hx hb dL_go_0 rfl (lv_at hl 2 rfl) ?_
  refine lv_iconst (v := nI 0) hx hb dL_go_1 (by decide) ?_
  refine lv_aload_n hx hb dL_go_2 rfl (lv_at hl 0 rfl) ?_
  refine lv_iload_n hx hb dL_go_3 rfl (lv_at hl 1 rfl) ?_
  refine xv_Vi (As := [.int v]) (wr := wO cJ ao o) ⟨hx, hb, hml, hown, hts⟩ (tx_go l hl0 dC dI q cI cZ H.size r k a tN v h1) (cwV 1 hts (gV tw_522 tw_523 tw_524 tw_1 tw_525) rfl rfl rfl (by decide +kernel) ⟨Nat.le_of_ble_eq_true rfl, Nat.le_of_ble_eq_true rfl⟩) rfl hl.1 rfl (Nat.le_of_ble_eq_true rfl) dL_go_4 ⟨Nat.le_of_ble_eq_true rfl, Nat.le_of_ble_eq_true rfl⟩ hP hD hK hS hA [0, 1, 2, 3, 4, 5, 6, 7, 8, 9, 10, 11, 12, 13, 14, 15, 16, 17] [18] rfl rfl (by decide) (by decide) (by decide) [0, 1] rfl (q0 := 17) rfl rfl rfl (eX_W _ _) (eX_kn hE hS (va_free (wc := wX q cI cZ r k a) hD hS hA [0, 1, 2, 3, 4, 5, 6, 7, 8, 9, 10, 11, 12, 13, 14, 15, 16, 17] rfl)) (fun ce q9 H locs hP hD hS hce hcv hcl => ?_)
  have hP : va_P (dC, dI) vwCl (wH q cI cZ cJ ao r k a o) H := hP.sub [1, 2, 3, 4, 5, 6, 7, 8, 9, 10, 11, 12, 13, 14, 15, 16, 17, 18, 0] rfl
  have hD : va_D A (wH q cI cZ cJ ao r k a o) := hD.sub [1, 2, 3, 4, 5, 6, 7, 8, 9, 10, 11, 12, 13, 14, 15, 16, 17, 18, 0] (by decide) rfl
  refine vx_catch (own := RL) (name := xIAE) hown [] ⟨0, 9, 12, 15⟩ [] (htab.trans rfl) (fun z hz => by cases hz) (by decide) (by decide) (hts _ tw_183) (va_tabs rfl rfl (hE.2.2.2.1 (.castable xIAE xIAE) (by decide +kernel))) hce hcv hcl ?_
  refine lv_astore_n (lv' := [(3, .ref q9), (0, .ref (q 17)), (1, .int v), (2, .ref ao)]) hx hb dL_go_12 rfl hl (by decide) rfl (fun ls hl => ?_)
  refine lv_iconst (v := nI 1) hx hb dL_go_13 (by decide) ?_
  exact xr_i hx hb hr hlk (u := ((r, k, a), o)) (⟨rfl, rfl⟩) hP hK hD hS dL_go_14
set_option maxHeartbeats 4000000 in
set_option maxRecDepth 100000 in
theorem hx_boundary (l : Launch) (hl0 : l.stackTraces = false) (dC : Nat → ClassId) (dI : Nat → Nat → Nat) (q : Nat → Nat) (cI cZ : ClassId) (cJ : ClassId) (ao : Nat) (sz : Nat) (r : RS) (k : CS) (a : AS) (o : OS) (tN : Nat) (v : Int32) (h1 : hcN v k.n = 0) : Met l yL_boundary (.codeWith yL_boundary cL_boundary 4 (some .int) [(0, 9, 12, 25)] :: ALLG) ({ frames := 8, cells := 1, slots := 6, locals := 146 }) (va_Pc [.ref (q 17), .int v, .ref ao] (cP (dC, dI) vwCl [(cI, .int), (cZ, .boolean), (cJ, .long)] (wH q cI cZ cJ ao r k a o) (eX tN (va_A (wH q cI cZ cJ ao r k a o) sz)) sz)) (va_Qi (fun (x : Int32) (u : (RS × CS × AS) × (Nat → Int64)) => x = nI 1 ∧ u = ((r, k, a), o)) (fun (u : (RS × CS × AS) × (Nat → Int64)) => cB (dC, dI) vwCl [(cI, .int), (cZ, .boolean), (cJ, .long)] (wH q cI cZ cJ ao u.1.1 u.1.2.1 u.1.2.2 u.2) (va_A (wH q cI cZ cJ ao r k a o) sz)) (va_A (wH q cI cZ cJ ao r k a o) sz)) 1 6 (va_A (wH q cI cZ cJ ao r k a o) sz) := by
  refine xm_h (cc := cL_boundary) (maxL := 4) (ret := some .int) (hh := [(0, 9, 12, 25)]) (by decide) rfl (Nat.le_of_ble_eq_true rfl) ?_
  intro p e s m below meth c A hAe hx hb hr hml hts0 hown hlk htab hsz H locs hP hK hD hA hS hE ls hl
  have hts : ∀ w ∈ ALLG, w.before _ s = true := fun w h => hts0 w (List.mem_cons_of_mem _ h)
  rw [← hAe]
  rw [← hAe] at hE
  have hl : lv_has ls 4 [(0, .ref (q 17)), (1, .int v), (2, .ref ao)] := hl
  refine lv_aload_n hx hb dL_boundary_0 rfl (lv_at hl 2 rfl) ?_
  refine lv_iconst (v := nI 0) hx hb dL_boundary_1 (by decide) ?_
  refine lv_aload_n hx hb dL_boundary_2 rfl (lv_at hl 0 rfl) ?_
  refine lv_iload_n hx hb dL_boundary_3 rfl (lv_at hl 1 rfl) ?_
  refine xv_Vi (As := [.int v]) (wr := wO cJ ao o) ⟨hx, hb, hml, hown, hts⟩ (tx_boundary l hl0 dC dI q cI cZ H.size r k a tN v h1) (cwV 1 hts (gV tw_546 tw_547 tw_548 tw_1 tw_549) rfl rfl rfl (by decide +kernel) ⟨Nat.le_of_ble_eq_true rfl, Nat.le_of_ble_eq_true rfl⟩) rfl hl.1 rfl (Nat.le_of_ble_eq_true rfl) dL_boundary_4 ⟨Nat.le_of_ble_eq_true rfl, Nat.le_of_ble_eq_true rfl⟩ hP hD hK hS hA [0, 1, 2, 3, 4, 5, 6, 7, 8, 9, 10, 11, 12, 13, 14, 15, 16, 17] [18] rfl rfl (by decide) (by decide) (by decide) [0, 1] rfl (q0 := 17) rfl rfl rfl (eX_W _ _) (eX_kn hE hS (va_free (wc := wX q cI cZ r k a) hD hS hA [0, 1, 2, 3, 4, 5, 6, 7, 8, 9, 10, 11, 12, 13, 14, 15, 16, 17] rfl)) (fun ce q9 H locs hP hD hS hce hcv hcl => ?_)
  have hP : va_P (dC, dI) vwCl (wH q cI cZ cJ ao r k a o) H := hP.sub [1, 2, 3, 4, 5, 6, 7, 8, 9, 10, 11, 12, 13, 14, 15, 16, 17, 18, 0] rfl
  have hD : va_D A (wH q cI cZ cJ ao r k a o) := hD.sub [1, 2, 3, 4, 5, 6, 7, 8, 9, 10, 11, 12, 13, 14, 15, 16, 17, 18, 0] (by decide) rfl
  refine vx_catch (own := RL) (name := xIOB) hown [] ⟨0, 9, 12, 25⟩ [] (htab.trans rfl) (fun z hz => by cases hz) (by decide) (by decide) (hts _ tw_310) (va_tabs rfl rfl (hE.2.2.2.1 (.castable xIOB xIOB) (by decide +kernel))) hce hcv hcl ?_
  refine lv_astore_n (lv' := [(3, .ref q9), (0, .ref (q 17)), (1, .int v), (2, .ref ao)]) hx hb dL_boundary_12 rfl hl (by decide) rfl (fun ls hl => ?_)
  refine lv_iconst (v := nI 1) hx hb dL_boundary_13 (by decide) ?_
  exact xr_i hx hb hr hlk (u := ((r, k, a), o)) (⟨rfl, rfl⟩) hP hK hD hS dL_boundary_14
set_option maxHeartbeats 4000000 in
set_option maxRecDepth 100000 in
theorem hx_count (l : Launch) (hl0 : l.stackTraces = false) (dC : Nat → ClassId) (dI : Nat → Nat → Nat) (q : Nat → Nat) (cI cZ : ClassId) (cJ : ClassId) (ao : Nat) (sz : Nat) (r : RS) (k : CS) (a : AS) (o : OS) (tN : Nat) (v : Int32) (h1 : v < 0 ∨ ¬ v ≤ nI 4) : Met l yL_count (.codeWith yL_count cL_count 4 (some .int) [(0, 9, 12, 25)] :: ALLG) ({ frames := 7, cells := 1, slots := 6, locals := 111 }) (va_Pc [.ref (q 17), .int v, .ref ao] (cP (dC, dI) vwCl [(cI, .int), (cZ, .boolean), (cJ, .long)] (wH q cI cZ cJ ao r k a o) (eX tN (va_A (wH q cI cZ cJ ao r k a o) sz)) sz)) (va_Qi (fun (x : Int32) (u : (RS × CS × AS) × (Nat → Int64)) => x = nI 1 ∧ u = ((r, k, a), o)) (fun (u : (RS × CS × AS) × (Nat → Int64)) => cB (dC, dI) vwCl [(cI, .int), (cZ, .boolean), (cJ, .long)] (wH q cI cZ cJ ao u.1.1 u.1.2.1 u.1.2.2 u.2) (va_A (wH q cI cZ cJ ao r k a o) sz)) (va_A (wH q cI cZ cJ ao r k a o) sz)) 1 6 (va_A (wH q cI cZ cJ ao r k a o) sz) := by
  refine xm_h (cc := cL_count) (maxL := 4) (ret := some .int) (hh := [(0, 9, 12, 25)]) (by decide) rfl (Nat.le_of_ble_eq_true rfl) ?_
  intro p e s m below meth c A hAe hx hb hr hml hts0 hown hlk htab hsz H locs hP hK hD hA hS hE ls hl
  have hts : ∀ w ∈ ALLG, w.before _ s = true := fun w h => hts0 w (List.mem_cons_of_mem _ h)
  rw [← hAe]
  rw [← hAe] at hE
  have hl : lv_has ls 4 [(0, .ref (q 17)), (1, .int v), (2, .ref ao)] := hl
  refine lv_aload_n hx hb dL_count_0 rfl (lv_at hl 2 rfl) ?_
  refine lv_iconst (v := nI 0) hx hb dL_count_1 (by decide) ?_
  refine lv_aload_n hx hb dL_count_2 rfl (lv_at hl 0 rfl) ?_
  refine lv_iload_n hx hb dL_count_3 rfl (lv_at hl 1 rfl) ?_
  refine xv_Vi (As := [.int v]) (wr := wO cJ ao o) ⟨hx, hb, hml, hown, hts⟩ (tx_count l hl0 dC dI q cI cZ H.size r k a tN v h1) (cwV 1 hts (gV tw_557 tw_558 tw_559 tw_1 tw_560) rfl rfl rfl (by decide +kernel) ⟨Nat.le_of_ble_eq_true rfl, Nat.le_of_ble_eq_true rfl⟩) rfl hl.1 rfl (Nat.le_of_ble_eq_true rfl) dL_count_4 ⟨Nat.le_of_ble_eq_true rfl, Nat.le_of_ble_eq_true rfl⟩ hP hD hK hS hA [0, 1, 2, 3, 4, 5, 6, 7, 8, 9, 10, 11, 12, 13, 14, 15, 16, 17] [18] rfl rfl (by decide) (by decide) (by decide) [0, 1] rfl (q0 := 17) rfl rfl rfl (eX_W _ _) (eX_kn hE hS (va_free (wc := wX q cI cZ r k a) hD hS hA [0, 1, 2, 3, 4, 5, 6, 7, 8, 9, 10, 11, 12, 13, 14, 15, 16, 17] rfl)) (fun ce q9 H locs hP hD hS hce hcv hcl => ?_)
  have hP : va_P (dC, dI) vwCl (wH q cI cZ cJ ao r k a o) H := hP.sub [1, 2, 3, 4, 5, 6, 7, 8, 9, 10, 11, 12, 13, 14, 15, 16, 17, 18, 0] rfl
  have hD : va_D A (wH q cI cZ cJ ao r k a o) := hD.sub [1, 2, 3, 4, 5, 6, 7, 8, 9, 10, 11, 12, 13, 14, 15, 16, 17, 18, 0] (by decide) rfl
  refine vx_catch (own := RL) (name := xIOB) hown [] ⟨0, 9, 12, 25⟩ [] (htab.trans rfl) (fun z hz => by cases hz) (by decide) (by decide) (hts _ tw_310) (va_tabs rfl rfl (hE.2.2.2.1 (.castable xIOB xIOB) (by decide +kernel))) hce hcv hcl ?_
  refine lv_astore_n (lv' := [(3, .ref q9), (0, .ref (q 17)), (1, .int v), (2, .ref ao)]) hx hb dL_count_12 rfl hl (by decide) rfl (fun ls hl => ?_)
  refine lv_iconst (v := nI 1) hx hb dL_count_13 (by decide) ?_
  exact xr_i hx hb hr hlk (u := ((r, k, a), o)) (⟨rfl, rfl⟩) hP hK hD hS dL_count_14
