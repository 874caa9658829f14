/-! the class's own methods, on the roads that return -/
def zL (z : Int) : Int64 := Int64.ofInt z
theorem zL_toInt {z : Int} (h1 : -2147483648 ≤ z) (h2 : z < 2147483648) : (zL z).toInt = z := by
  unfold zL
  rw [Int64.toInt_ofInt]
  show z.bmod 18446744073709551616 = z
  exact Int.bmod_eq_of_le (by omega) (by omega)
theorem zL_i (z : Int) : (zL z).toInt32 = zI z := Int64.toInt32_ofInt
theorem zL_lo {z : Int} (h1 : -1000 ≤ z) (h2 : z ≤ 1000) : ¬ zL z < (-1000) := by
  rw [Int64.lt_iff_toInt_lt, zL_toInt (by omega) (by omega)]
  show ¬ z < -1000
  omega
theorem zL_hi {z : Int} (h1 : -1000 ≤ z) (h2 : z ≤ 1000) : ¬ (1000 : Int64) < zL z := by
  rw [Int64.lt_iff_toInt_lt, zL_toInt (by omega) (by omega)]
  show ¬ 1000 < z
  omega
theorem zL_le {z : Int} (h1 : -1000 ≤ z) (h2 : z ≤ 1000) : zL z ≤ (1000 : Int64) := by
  rw [Int64.le_iff_toInt_le, zL_toInt (by omega) (by omega)]
  show z ≤ 1000
  omega
theorem hcN_1 {ch c : Nat} (h : ch < c) (hc : c ≤ 8) : hcN (nI ch) c = 1 := by
  unfold hcN; rw [if_pos ⟨nI_pos (by omega), nI_lt h (by omega)⟩]
def atZ (r : RS) (ch k : Nat) : Int := if k < r.st (ch + 1) - r.st ch then (r.rw (r.st ch + k) : Int) else -1
def bitN (v : Int32) : Nat := if v = 0 then 0 else 1
theorem bitN_lt (v : Int32) : bitN v < 2 := by unfold bitN; split <;> omega
def cntF (r : RS) (k : CS) (a : AS) (w : Nat) : Nat := if w = 0 then r.n else if w = 1 then r.c else if w = 2 then k.n else if w = 3 then regLen a.co k.n r.p else a.co
theorem eN_kx {tN : Nat} {A B : Nat → Prop} {s : State} {H0 H : Heap} {locs : List Loc} (h : eN tN A s H0) (hS : va_S A H0 H locs) (hAB : ∀ q, B q → A q) : eN tN B s H := eN_kn h hS hAB
theorem ccb_le (r : RS) (k : Nat) : ccb r k ≤ 1 := by unfold ccb; split <;> omega
theorem sw_13 : Cond.selects "ScanRows" (⟨"ScanRows", "requireLatch", "(I)V"⟩ : MethodName) (⟨"ScanRows", "requireLatch", "(I)V"⟩ : MethodName) ∈ ALLG := al_s (i := 13) (by decide +kernel) (by decide +kernel)
theorem sw_14 : Cond.selects "ScanRows" (⟨"ScanRows", "requireCell", "(I)V"⟩ : MethodName) (⟨"ScanRows", "requireCell", "(I)V"⟩ : MethodName) ∈ ALLG := al_s (i := 14) (by decide +kernel) (by decide +kernel)
theorem tw_1 : (Cond.initialized "ScanRows") ∈ ALLG := al_t (i := 1) (by decide +kernel) (by decide +kernel)
theorem tw_28 : (Cond.fieldLink "ScanRows" (32 : Nat) "ScanRows$Rows" "latches" "I") ∈ ALLG := al_t (i := 28) (by decide +kernel) (by decide +kernel)
theorem tw_30 : (Cond.fieldLink "ScanRows" (152 : Nat) "ScanRows$Rows" "chains" "I") ∈ ALLG := al_t (i := 30) (by decide +kernel) (by decide +kernel)
theorem tw_34 : (Cond.fieldLink "ScanRows" (106 : Nat) "ScanRows$Rows" "value" "[I") ∈ ALLG := al_t (i := 34) (by decide +kernel) (by decide +kernel)
theorem tw_78 : (Cond.fieldLink "ScanRows" (116 : Nat) "ScanRows$Cells" "count" "I") ∈ ALLG := al_t (i := 78) (by decide +kernel) (by decide +kernel)
theorem tw_80 : (Cond.fieldLink "ScanRows" (129 : Nat) "ScanRows$Cells" "atPin" "[I") ∈ ALLG := al_t (i := 80) (by decide +kernel) (by decide +kernel)
theorem tw_102 : (Cond.fieldLink "ScanRows" (137 : Nat) "ScanRows$Access" "state" "I") ∈ ALLG := al_t (i := 102) (by decide +kernel) (by decide +kernel)
theorem tw_104 : (Cond.fieldLink "ScanRows" (145 : Nat) "ScanRows$Access" "code" "I") ∈ ALLG := al_t (i := 104) (by decide +kernel) (by decide +kernel)
theorem tw_145 : (Cond.methodLink "ScanRows" (84 : Nat) ({ cls := "ScanRows$Rows", name := "wholeWay", desc := "()J" } : Jvm.MethodName)) ∈ ALLG := al_t (i := 145) (by decide +kernel) (by decide +kernel)
theorem tw_146 : (Cond.instanceMethod ({ cls := "ScanRows$Rows", name := "wholeWay", desc := "()J" } : Jvm.MethodName)) ∈ ALLG := al_t (i := 146) (by decide +kernel) (by decide +kernel)
theorem tw_147 : (Cond.selects "ScanRows$Rows" ({ cls := "ScanRows$Rows", name := "wholeWay", desc := "()J" } : Jvm.MethodName) ({ cls := "ScanRows$Rows", name := "wholeWay", desc := "()J" } : Jvm.MethodName)) ∈ ALLG := al_t (i := 147) (by decide +kernel) (by decide +kernel)
theorem tw_148 : (Cond.code ({ cls := "ScanRows$Rows", name := "wholeWay", desc := "()J" } : Jvm.MethodName) prog_4_method_12_code (4 : Nat) (Option.some FieldType.long)) ∈ ALLG := al_t (i := 148) (by decide +kernel) (by decide +kernel)
theorem tw_164 : (Cond.methodLink "ScanRows" (113 : Nat) ({ cls := "ScanRows$Rows", name := "shiftChains", desc := "(I)I" } : Jvm.MethodName)) ∈ ALLG := al_t (i := 164) (by decide +kernel) (by decide +kernel)
theorem tw_165 : (Cond.instanceMethod ({ cls := "ScanRows$Rows", name := "shiftChains", desc := "(I)I" } : Jvm.MethodName)) ∈ ALLG := al_t (i := 165) (by decide +kernel) (by decide +kernel)
theorem tw_166 : (Cond.selects "ScanRows$Rows" ({ cls := "ScanRows$Rows", name := "shiftChains", desc := "(I)I" } : Jvm.MethodName) ({ cls := "ScanRows$Rows", name := "shiftChains", desc := "(I)I" } : Jvm.MethodName)) ∈ ALLG := al_t (i := 166) (by decide +kernel) (by decide +kernel)
theorem tw_167 : (Cond.code ({ cls := "ScanRows$Rows", name := "shiftChains", desc := "(I)I" } : Jvm.MethodName) prog_4_method_23_code (5 : Nat) (Option.some FieldType.int)) ∈ ALLG := al_t (i := 167) (by decide +kernel) (by decide +kernel)
theorem tw_272 : (Cond.constantLong "ScanRows" (48 : Nat) (-1000 : Int64)) ∈ ALLG := al_t (i := 272) (by decide +kernel) (by decide +kernel)
theorem tw_273 : (Cond.constantLong "ScanRows" (50 : Nat) (1000 : Int64)) ∈ ALLG := al_t (i := 273) (by decide +kernel) (by decide +kernel)
theorem tw_275 : (Cond.methodLink "ScanRows" (54 : Nat) ({ cls := "ScanRows$Rows", name := "addLatch", desc := "(III)I" } : Jvm.MethodName)) ∈ ALLG := al_t (i := 275) (by decide +kernel) (by decide +kernel)
theorem tw_276 : (Cond.instanceMethod ({ cls := "ScanRows$Rows", name := "addLatch", desc := "(III)I" } : Jvm.MethodName)) ∈ ALLG := al_t (i := 276) (by decide +kernel) (by decide +kernel)
theorem tw_277 : (Cond.selects "ScanRows$Rows" ({ cls := "ScanRows$Rows", name := "addLatch", desc := "(III)I" } : Jvm.MethodName) ({ cls := "ScanRows$Rows", name := "addLatch", desc := "(III)I" } : Jvm.MethodName)) ∈ ALLG := al_t (i := 277) (by decide +kernel) (by decide +kernel)
theorem tw_278 : (Cond.code ({ cls := "ScanRows$Rows", name := "addLatch", desc := "(III)I" } : Jvm.MethodName) prog_4_method_2_code (5 : Nat) (Option.some FieldType.int)) ∈ ALLG := al_t (i := 278) (by decide +kernel) (by decide +kernel)
theorem tw_287 : (Cond.methodLink "ScanRows" (60 : Nat) ({ cls := "ScanRows$Rows", name := "arrange", desc := "(I)I" } : Jvm.MethodName)) ∈ ALLG := al_t (i := 287) (by decide +kernel) (by decide +kernel)
theorem tw_288 : (Cond.instanceMethod ({ cls := "ScanRows$Rows", name := "arrange", desc := "(I)I" } : Jvm.MethodName)) ∈ ALLG := al_t (i := 288) (by decide +kernel) (by decide +kernel)
theorem tw_289 : (Cond.selects "ScanRows$Rows" ({ cls := "ScanRows$Rows", name := "arrange", desc := "(I)I" } : Jvm.MethodName) ({ cls := "ScanRows$Rows", name := "arrange", desc := "(I)I" } : Jvm.MethodName)) ∈ ALLG := al_t (i := 289) (by decide +kernel) (by decide +kernel)
theorem tw_290 : (Cond.code ({ cls := "ScanRows$Rows", name := "arrange", desc := "(I)I" } : Jvm.MethodName) prog_4_method_3_code (2 : Nat) (Option.some FieldType.int)) ∈ ALLG := al_t (i := 290) (by decide +kernel) (by decide +kernel)
theorem tw_315 : (Cond.methodLink "ScanRows" (64 : Nat) ({ cls := "ScanRows$Rows", name := "hasChain", desc := "(I)Z" } : Jvm.MethodName)) ∈ ALLG := al_t (i := 315) (by decide +kernel) (by decide +kernel)
theorem tw_316 : (Cond.instanceMethod ({ cls := "ScanRows$Rows", name := "hasChain", desc := "(I)Z" } : Jvm.MethodName)) ∈ ALLG := al_t (i := 316) (by decide +kernel) (by decide +kernel)
theorem tw_317 : (Cond.selects "ScanRows$Rows" ({ cls := "ScanRows$Rows", name := "hasChain", desc := "(I)Z" } : Jvm.MethodName) ({ cls := "ScanRows$Rows", name := "hasChain", desc := "(I)Z" } : Jvm.MethodName)) ∈ ALLG := al_t (i := 317) (by decide +kernel) (by decide +kernel)
theorem tw_318 : (Cond.code ({ cls := "ScanRows$Rows", name := "hasChain", desc := "(I)Z" } : Jvm.MethodName) prog_4_method_7_code (2 : Nat) (Option.some FieldType.boolean)) ∈ ALLG := al_t (i := 318) (by decide +kernel) (by decide +kernel)
theorem tw_335 : (Cond.methodLink "ScanRows" (73 : Nat) ({ cls := "ScanRows$Rows", name := "lengthOf", desc := "(I)I" } : Jvm.MethodName)) ∈ ALLG := al_t (i := 335) (by decide +kernel) (by decide +kernel)
theorem tw_336 : (Cond.methodLink "ScanRows" (76 : Nat) ({ cls := "ScanRows$Rows", name := "latchAt", desc := "(II)I" } : Jvm.MethodName)) ∈ ALLG := al_t (i := 336) (by decide +kernel) (by decide +kernel)
theorem tw_337 : (Cond.instanceMethod ({ cls := "ScanRows$Rows", name := "latchAt", desc := "(II)I" } : Jvm.MethodName)) ∈ ALLG := al_t (i := 337) (by decide +kernel) (by decide +kernel)
theorem tw_338 : (Cond.selects "ScanRows$Rows" ({ cls := "ScanRows$Rows", name := "latchAt", desc := "(II)I" } : Jvm.MethodName) ({ cls := "ScanRows$Rows", name := "latchAt", desc := "(II)I" } : Jvm.MethodName)) ∈ ALLG := al_t (i := 338) (by decide +kernel) (by decide +kernel)
theorem tw_339 : (Cond.code ({ cls := "ScanRows$Rows", name := "latchAt", desc := "(II)I" } : Jvm.MethodName) prog_4_method_9_code (3 : Nat) (Option.some FieldType.int)) ∈ ALLG := al_t (i := 339) (by decide +kernel) (by decide +kernel)
theorem tw_347 : (Cond.methodLink "ScanRows" (80 : Nat) ({ cls := "ScanRows$Rows", name := "clockChangesBehind", desc := "(II)Z" } : Jvm.MethodName)) ∈ ALLG := al_t (i := 347) (by decide +kernel) (by decide +kernel)
theorem tw_348 : (Cond.instanceMethod ({ cls := "ScanRows$Rows", name := "clockChangesBehind", desc := "(II)Z" } : Jvm.MethodName)) ∈ ALLG := al_t (i := 348) (by decide +kernel) (by decide +kernel)
theorem tw_349 : (Cond.selects "ScanRows$Rows" ({ cls := "ScanRows$Rows", name := "clockChangesBehind", desc := "(II)Z" } : Jvm.MethodName) ({ cls := "ScanRows$Rows", name := "clockChangesBehind", desc := "(II)Z" } : Jvm.MethodName)) ∈ ALLG := al_t (i := 349) (by decide +kernel) (by decide +kernel)
theorem tw_350 : (Cond.code ({ cls := "ScanRows$Rows", name := "clockChangesBehind", desc := "(II)Z" } : Jvm.MethodName) prog_4_method_10_code (4 : Nat) (Option.some FieldType.boolean)) ∈ ALLG := al_t (i := 350) (by decide +kernel) (by decide +kernel)
theorem tw_359 : (Cond.methodLink "ScanRows" (90 : Nat) ({ cls := "ScanRows$Rows", name := "exchangeUpTo", desc := "(I)I" } : Jvm.MethodName)) ∈ ALLG := al_t (i := 359) (by decide +kernel) (by decide +kernel)
theorem tw_360 : (Cond.instanceMethod ({ cls := "ScanRows$Rows", name := "exchangeUpTo", desc := "(I)I" } : Jvm.MethodName)) ∈ ALLG := al_t (i := 360) (by decide +kernel) (by decide +kernel)
theorem tw_361 : (Cond.selects "ScanRows$Rows" ({ cls := "ScanRows$Rows", name := "exchangeUpTo", desc := "(I)I" } : Jvm.MethodName) ({ cls := "ScanRows$Rows", name := "exchangeUpTo", desc := "(I)I" } : Jvm.MethodName)) ∈ ALLG := al_t (i := 361) (by decide +kernel) (by decide +kernel)
theorem tw_362 : (Cond.code ({ cls := "ScanRows$Rows", name := "exchangeUpTo", desc := "(I)I" } : Jvm.MethodName) prog_4_method_15_code (3 : Nat) (Option.some FieldType.int)) ∈ ALLG := al_t (i := 362) (by decide +kernel) (by decide +kernel)
theorem tw_391 : (Cond.methodLink "ScanRows" (95 : Nat) ({ cls := "ScanRows$Rows", name := "brokenRule", desc := "(II)I" } : Jvm.MethodName)) ∈ ALLG := al_t (i := 391) (by decide +kernel) (by decide +kernel)
theorem tw_392 : (Cond.instanceMethod ({ cls := "ScanRows$Rows", name := "brokenRule", desc := "(II)I" } : Jvm.MethodName)) ∈ ALLG := al_t (i := 392) (by decide +kernel) (by decide +kernel)
theorem tw_393 : (Cond.selects "ScanRows$Rows" ({ cls := "ScanRows$Rows", name := "brokenRule", desc := "(II)I" } : Jvm.MethodName) ({ cls := "ScanRows$Rows", name := "brokenRule", desc := "(II)I" } : Jvm.MethodName)) ∈ ALLG := al_t (i := 393) (by decide +kernel) (by decide +kernel)
theorem tw_394 : (Cond.code ({ cls := "ScanRows$Rows", name := "brokenRule", desc := "(II)I" } : Jvm.MethodName) prog_4_method_20_code (6 : Nat) (Option.some FieldType.int)) ∈ ALLG := al_t (i := 394) (by decide +kernel) (by decide +kernel)
theorem tw_406 : (Cond.methodLink "ScanRows" (98 : Nat) ({ cls := "ScanRows", name := "requireLatch", desc := "(I)V" } : Jvm.MethodName)) ∈ ALLG := al_t (i := 406) (by decide +kernel) (by decide +kernel)
theorem tw_408 : (Cond.instanceMethod ({ cls := "ScanRows", name := "requireLatch", desc := "(I)V" } : Jvm.MethodName)) ∈ ALLG := al_t (i := 408) (by decide +kernel) (by decide +kernel)
theorem tw_409 : (Cond.code ({ cls := "ScanRows", name := "requireLatch", desc := "(I)V" } : Jvm.MethodName) prog_1_method_20_code (2 : Nat) (Option.none : Option Jvm.ClassFile.FieldType)) ∈ ALLG := al_t (i := 409) (by decide +kernel) (by decide +kernel)
theorem tw_411 : (Cond.methodLink "ScanRows" (102 : Nat) ({ cls := "ScanRows$Rows", name := "changeSet", desc := "(IZ)Z" } : Jvm.MethodName)) ∈ ALLG := al_t (i := 411) (by decide +kernel) (by decide +kernel)
theorem tw_412 : (Cond.instanceMethod ({ cls := "ScanRows$Rows", name := "changeSet", desc := "(IZ)Z" } : Jvm.MethodName)) ∈ ALLG := al_t (i := 412) (by decide +kernel) (by decide +kernel)
theorem tw_413 : (Cond.selects "ScanRows$Rows" ({ cls := "ScanRows$Rows", name := "changeSet", desc := "(IZ)Z" } : Jvm.MethodName) ({ cls := "ScanRows$Rows", name := "changeSet", desc := "(IZ)Z" } : Jvm.MethodName)) ∈ ALLG := al_t (i := 413) (by decide +kernel) (by decide +kernel)
theorem tw_414 : (Cond.code ({ cls := "ScanRows$Rows", name := "changeSet", desc := "(IZ)Z" } : Jvm.MethodName) prog_4_method_22_code (4 : Nat) (Option.some FieldType.boolean)) ∈ ALLG := al_t (i := 414) (by decide +kernel) (by decide +kernel)
theorem tw_422 : (Cond.methodLink "ScanRows" (110 : Nat) ({ cls := "ScanRows", name := "asBit", desc := "(I)I" } : Jvm.MethodName)) ∈ ALLG := al_t (i := 422) (by decide +kernel) (by decide +kernel)
theorem tw_423 : (Cond.static ({ cls := "ScanRows", name := "asBit", desc := "(I)I" } : Jvm.MethodName)) ∈ ALLG := al_t (i := 423) (by decide +kernel) (by decide +kernel)
theorem tw_424 : (Cond.code ({ cls := "ScanRows", name := "asBit", desc := "(I)I" } : Jvm.MethodName) prog_1_method_22_code (1 : Nat) (Option.some FieldType.int)) ∈ ALLG := al_t (i := 424) (by decide +kernel) (by decide +kernel)
theorem tw_441 : (Cond.methodLink "ScanRows" (123 : Nat) ({ cls := "ScanRows$Cells", name := "addCell", desc := "(I)I" } : Jvm.MethodName)) ∈ ALLG := al_t (i := 441) (by decide +kernel) (by decide +kernel)
theorem tw_442 : (Cond.instanceMethod ({ cls := "ScanRows$Cells", name := "addCell", desc := "(I)I" } : Jvm.MethodName)) ∈ ALLG := al_t (i := 442) (by decide +kernel) (by decide +kernel)
theorem tw_443 : (Cond.selects "ScanRows$Cells" ({ cls := "ScanRows$Cells", name := "addCell", desc := "(I)I" } : Jvm.MethodName) ({ cls := "ScanRows$Cells", name := "addCell", desc := "(I)I" } : Jvm.MethodName)) ∈ ALLG := al_t (i := 443) (by decide +kernel) (by decide +kernel)
theorem tw_444 : (Cond.code ({ cls := "ScanRows$Cells", name := "addCell", desc := "(I)I" } : Jvm.MethodName) prog_3_method_2_code (3 : Nat) (Option.some FieldType.int)) ∈ ALLG := al_t (i := 444) (by decide +kernel) (by decide +kernel)
theorem tw_452 : (Cond.methodLink "ScanRows" (126 : Nat) ({ cls := "ScanRows", name := "requireCell", desc := "(I)V" } : Jvm.MethodName)) ∈ ALLG := al_t (i := 452) (by decide +kernel) (by decide +kernel)
theorem tw_454 : (Cond.instanceMethod ({ cls := "ScanRows", name := "requireCell", desc := "(I)V" } : Jvm.MethodName)) ∈ ALLG := al_t (i := 454) (by decide +kernel) (by decide +kernel)
theorem tw_455 : (Cond.code ({ cls := "ScanRows", name := "requireCell", desc := "(I)V" } : Jvm.MethodName) prog_1_method_21_code (2 : Nat) (Option.none : Option Jvm.ClassFile.FieldType)) ∈ ALLG := al_t (i := 455) (by decide +kernel) (by decide +kernel)
theorem tw_465 : (Cond.methodLink "ScanRows" (134 : Nat) ({ cls := "ScanRows$Access", name := "step", desc := "(II)I" } : Jvm.MethodName)) ∈ ALLG := al_t (i := 465) (by decide +kernel) (by decide +kernel)
theorem tw_527 : (Cond.methodLink "ScanRows" (142 : Nat) ({ cls := "ScanRows$Access", name := "stepUntil", desc := "(I)I" } : Jvm.MethodName)) ∈ ALLG := al_t (i := 527) (by decide +kernel) (by decide +kernel)
theorem tw_528 : (Cond.instanceMethod ({ cls := "ScanRows$Access", name := "stepUntil", desc := "(I)I" } : Jvm.MethodName)) ∈ ALLG := al_t (i := 528) (by decide +kernel) (by decide +kernel)
theorem tw_529 : (Cond.selects "ScanRows$Access" ({ cls := "ScanRows$Access", name := "stepUntil", desc := "(I)I" } : Jvm.MethodName) ({ cls := "ScanRows$Access", name := "stepUntil", desc := "(I)I" } : Jvm.MethodName)) ∈ ALLG := al_t (i := 529) (by decide +kernel) (by decide +kernel)
theorem tw_530 : (Cond.code ({ cls := "ScanRows$Access", name := "stepUntil", desc := "(I)I" } : Jvm.MethodName) prog_2_method_12_code (4 : Nat) (Option.some FieldType.int)) ∈ ALLG := al_t (i := 530) (by decide +kernel) (by decide +kernel)
theorem tw_550 : (Cond.methodLink "ScanRows" (148 : Nat) ({ cls := "ScanRows$Cells", name := "drivenAt", desc := "(IZ)I" } : Jvm.MethodName)) ∈ ALLG := al_t (i := 550) (by decide +kernel) (by decide +kernel)
theorem tw_551 : (Cond.instanceMethod ({ cls := "ScanRows$Cells", name := "drivenAt", desc := "(IZ)I" } : Jvm.MethodName)) ∈ ALLG := al_t (i := 551) (by decide +kernel) (by decide +kernel)
theorem tw_552 : (Cond.selects "ScanRows$Cells" ({ cls := "ScanRows$Cells", name := "drivenAt", desc := "(IZ)I" } : Jvm.MethodName) ({ cls := "ScanRows$Cells", name := "drivenAt", desc := "(IZ)I" } : Jvm.MethodName)) ∈ ALLG := al_t (i := 552) (by decide +kernel) (by decide +kernel)
theorem tw_553 : (Cond.code ({ cls := "ScanRows$Cells", name := "drivenAt", desc := "(IZ)I" } : Jvm.MethodName) prog_3_method_6_code (3 : Nat) (Option.some FieldType.int)) ∈ ALLG := al_t (i := 553) (by decide +kernel) (by decide +kernel)
theorem tw_561 : (Cond.methodLink "ScanRows" (155 : Nat) ({ cls := "ScanRows$Access", name := "registerLength", desc := "()I" } : Jvm.MethodName)) ∈ ALLG := al_t (i := 561) (by decide +kernel) (by decide +kernel)
theorem tw_562 : (Cond.instanceMethod ({ cls := "ScanRows$Access", name := "registerLength", desc := "()I" } : Jvm.MethodName)) ∈ ALLG := al_t (i := 562) (by decide +kernel) (by decide +kernel)
theorem tw_563 : (Cond.selects "ScanRows$Access" ({ cls := "ScanRows$Access", name := "registerLength", desc := "()I" } : Jvm.MethodName) ({ cls := "ScanRows$Access", name := "registerLength", desc := "()I" } : Jvm.MethodName)) ∈ ALLG := al_t (i := 563) (by decide +kernel) (by decide +kernel)
theorem tw_564 : (Cond.code ({ cls := "ScanRows$Access", name := "registerLength", desc := "()I" } : Jvm.MethodName) prog_2_method_5_code (1 : Nat) (Option.some FieldType.int)) ∈ ALLG := al_t (i := 564) (by decide +kernel) (by decide +kernel)
theorem dX3_asBit_0 : decode cX3_asBit 0 = .ok (.iload_n 0, 1) := by decide +kernel
theorem dX3_asBit_1 : decode cX3_asBit 1 = .ok (.ifCond .ne 7, 3) := by decide +kernel
theorem dX3_asBit_4 : decode cX3_asBit 4 = .ok (.iconst 0, 1) := by decide +kernel
theorem dX3_asBit_5 : decode cX3_asBit 5 = .ok (.goto 4, 3) := by decide +kernel
theorem dX3_asBit_8 : decode cX3_asBit 8 = .ok (.iconst 1, 1) := by decide +kernel
theorem dX3_asBit_9 : decode cX3_asBit 9 = .ok (.ireturn, 1) := by decide +kernel
theorem dX3_requireLatch_0 : decode cX3_requireLatch 0 = .ok (.iload_n 1, 1) := by decide +kernel
theorem dX3_requireLatch_1 : decode cX3_requireLatch 1 = .ok (.ifCond .lt 14, 3) := by decide +kernel
theorem dX3_requireLatch_4 : decode cX3_requireLatch 4 = .ok (.iload_n 1, 1) := by decide +kernel
theorem dX3_requireLatch_5 : decode cX3_requireLatch 5 = .ok (.aload_n 0, 1) := by decide +kernel
theorem dX3_requireLatch_6 : decode cX3_requireLatch 6 = .ok (.getfield 10, 3) := by decide +kernel
theorem dX3_requireLatch_9 : decode cX3_requireLatch 9 = .ok (.getfield 32, 3) := by decide +kernel
theorem dX3_requireLatch_12 : decode cX3_requireLatch 12 = .ok (.if_icmp .lt 13, 3) := by decide +kernel
theorem dX3_requireLatch_15 : decode cX3_requireLatch 15 = .ok (.new 68, 3) := by decide +kernel
theorem dX3_requireLatch_18 : decode cX3_requireLatch 18 = .ok (.dup, 1) := by decide +kernel
theorem dX3_requireLatch_19 : decode cX3_requireLatch 19 = .ok (.ldc 161, 2) := by decide +kernel
theorem dX3_requireLatch_21 : decode cX3_requireLatch 21 = .ok (.invokespecial 72, 3) := by decide +kernel
theorem dX3_requireLatch_24 : decode cX3_requireLatch 24 = .ok (.athrow, 1) := by decide +kernel
theorem dX3_requireLatch_25 : decode cX3_requireLatch 25 = .ok (.return_, 1) := by decide +kernel
theorem dX3_requireCell_0 : decode cX3_requireCell 0 = .ok (.iload_n 1, 1) := by decide +kernel
theorem dX3_requireCell_1 : decode cX3_requireCell 1 = .ok (.ifCond .lt 14, 3) := by decide +kernel
theorem dX3_requireCell_4 : decode cX3_requireCell 4 = .ok (.iload_n 1, 1) := by decide +kernel
theorem dX3_requireCell_5 : decode cX3_requireCell 5 = .ok (.aload_n 0, 1) := by decide +kernel
theorem dX3_requireCell_6 : decode cX3_requireCell 6 = .ok (.getfield 19, 3) := by decide +kernel
theorem dX3_requireCell_9 : decode cX3_requireCell 9 = .ok (.getfield 116, 3) := by decide +kernel
theorem dX3_requireCell_12 : decode cX3_requireCell 12 = .ok (.if_icmp .lt 13, 3) := by decide +kernel
theorem dX3_requireCell_15 : decode cX3_requireCell 15 = .ok (.new 68, 3) := by decide +kernel
theorem dX3_requireCell_18 : decode cX3_requireCell 18 = .ok (.dup, 1) := by decide +kernel
theorem dX3_requireCell_19 : decode cX3_requireCell 19 = .ok (.ldc 163, 2) := by decide +kernel
theorem dX3_requireCell_21 : decode cX3_requireCell 21 = .ok (.invokespecial 72, 3) := by decide +kernel
theorem dX3_requireCell_24 : decode cX3_requireCell 24 = .ok (.athrow, 1) := by decide +kernel
theorem dX3_requireCell_25 : decode cX3_requireCell 25 = .ok (.return_, 1) := by decide +kernel
theorem dX3_latch_0 : decode cX3_latch 0 = .ok (.aload_n 0, 1) := by decide +kernel
theorem dX3_latch_1 : decode cX3_latch 1 = .ok (.getfield 10, 3) := by decide +kernel
theorem dX3_latch_4 : decode cX3_latch 4 = .ok (.getfield 32, 3) := by decide +kernel
theorem dX3_latch_7 : decode cX3_latch 7 = .ok (.bipush 32, 2) := by decide +kernel
theorem dX3_latch_9 : decode cX3_latch 9 = .ok (.if_icmp .lt 13, 3) := by decide +kernel
theorem dX3_latch_12 : decode cX3_latch 12 = .ok (.new 36, 3) := by decide +kernel
theorem dX3_latch_15 : decode cX3_latch 15 = .ok (.dup, 1) := by decide +kernel
theorem dX3_latch_16 : decode cX3_latch 16 = .ok (.ldc 38, 2) := by decide +kernel
theorem dX3_latch_18 : decode cX3_latch 18 = .ok (.invokespecial 40, 3) := by decide +kernel
theorem dX3_latch_21 : decode cX3_latch 21 = .ok (.athrow, 1) := by decide +kernel
theorem dX3_latch_22 : decode cX3_latch 22 = .ok (.iload_n 1, 1) := by decide +kernel
theorem dX3_latch_23 : decode cX3_latch 23 = .ok (.ifCond .lt 8, 3) := by decide +kernel
theorem dX3_latch_26 : decode cX3_latch 26 = .ok (.iload_n 1, 1) := by decide +kernel
theorem dX3_latch_27 : decode cX3_latch 27 = .ok (.iconst 4, 1) := by decide +kernel
theorem dX3_latch_28 : decode cX3_latch 28 = .ok (.if_icmp .lt 13, 3) := by decide +kernel
theorem dX3_latch_31 : decode cX3_latch 31 = .ok (.new 43, 3) := by decide +kernel
theorem dX3_latch_34 : decode cX3_latch 34 = .ok (.dup, 1) := by decide +kernel
theorem dX3_latch_35 : decode cX3_latch 35 = .ok (.ldc 45, 2) := by decide +kernel
theorem dX3_latch_37 : decode cX3_latch 37 = .ok (.invokespecial 47, 3) := by decide +kernel
theorem dX3_latch_40 : decode cX3_latch 40 = .ok (.athrow, 1) := by decide +kernel
theorem dX3_latch_41 : decode cX3_latch 41 = .ok (.lload_n 2, 1) := by decide +kernel
theorem dX3_latch_42 : decode cX3_latch 42 = .ok (.ldc2_w 48, 3) := by decide +kernel
theorem dX3_latch_45 : decode cX3_latch 45 = .ok (.lcmp, 1) := by decide +kernel
theorem dX3_latch_46 : decode cX3_latch 46 = .ok (.ifCond .lt 29, 3) := by decide +kernel
theorem dX3_latch_49 : decode cX3_latch 49 = .ok (.lload_n 2, 1) := by decide +kernel
theorem dX3_latch_50 : decode cX3_latch 50 = .ok (.ldc2_w 50, 3) := by decide +kernel
theorem dX3_latch_53 : decode cX3_latch 53 = .ok (.lcmp, 1) := by decide +kernel
theorem dX3_latch_54 : decode cX3_latch 54 = .ok (.ifCond .gt 21, 3) := by decide +kernel
theorem dX3_latch_57 : decode cX3_latch 57 = .ok (.lload 4, 2) := by decide +kernel
theorem dX3_latch_59 : decode cX3_latch 59 = .ok (.ldc2_w 48, 3) := by decide +kernel
theorem dX3_latch_62 : decode cX3_latch 62 = .ok (.lcmp, 1) := by decide +kernel
theorem dX3_latch_63 : decode cX3_latch 63 = .ok (.ifCond .lt 12, 3) := by decide +kernel
theorem dX3_latch_66 : decode cX3_latch 66 = .ok (.lload 4, 2) := by decide +kernel
theorem dX3_latch_68 : decode cX3_latch 68 = .ok (.ldc2_w 50, 3) := by decide +kernel
theorem dX3_latch_71 : decode cX3_latch 71 = .ok (.lcmp, 1) := by decide +kernel
theorem dX3_latch_72 : decode cX3_latch 72 = .ok (.ifCond .le 13, 3) := by decide +kernel
theorem dX3_latch_75 : decode cX3_latch 75 = .ok (.new 43, 3) := by decide +kernel
theorem dX3_latch_78 : decode cX3_latch 78 = .ok (.dup, 1) := by decide +kernel
theorem dX3_latch_79 : decode cX3_latch 79 = .ok (.ldc 52, 2) := by decide +kernel
theorem dX3_latch_81 : decode cX3_latch 81 = .ok (.invokespecial 47, 3) := by decide +kernel
theorem dX3_latch_84 : decode cX3_latch 84 = .ok (.athrow, 1) := by decide +kernel
theorem dX3_latch_85 : decode cX3_latch 85 = .ok (.aload_n 0, 1) := by decide +kernel
theorem dX3_latch_86 : decode cX3_latch 86 = .ok (.getfield 10, 3) := by decide +kernel
theorem dX3_latch_89 : decode cX3_latch 89 = .ok (.iload_n 1, 1) := by decide +kernel
theorem dX3_latch_90 : decode cX3_latch 90 = .ok (.lload_n 2, 1) := by decide +kernel
theorem dX3_latch_91 : decode cX3_latch 91 = .ok (.l2i, 1) := by decide +kernel
theorem dX3_latch_92 : decode cX3_latch 92 = .ok (.lload 4, 2) := by decide +kernel
theorem dX3_latch_94 : decode cX3_latch 94 = .ok (.l2i, 1) := by decide +kernel
theorem dX3_latch_95 : decode cX3_latch 95 = .ok (.invokevirtual 54, 3) := by decide +kernel
theorem dX3_latch_98 : decode cX3_latch 98 = .ok (.ireturn, 1) := by decide +kernel
theorem dX3_make_0 : decode cX3_make 0 = .ok (.iload_n 1, 1) := by decide +kernel
theorem dX3_make_1 : decode cX3_make 1 = .ok (.iconst 1, 1) := by decide +kernel
theorem dX3_make_2 : decode cX3_make 2 = .ok (.if_icmp .lt 9, 3) := by decide +kernel
theorem dX3_make_5 : decode cX3_make 5 = .ok (.iload_n 1, 1) := by decide +kernel
theorem dX3_make_6 : decode cX3_make 6 = .ok (.bipush 8, 2) := by decide +kernel
theorem dX3_make_8 : decode cX3_make 8 = .ok (.if_icmp .le 13, 3) := by decide +kernel
theorem dX3_make_11 : decode cX3_make 11 = .ok (.new 43, 3) := by decide +kernel
theorem dX3_make_14 : decode cX3_make 14 = .ok (.dup, 1) := by decide +kernel
theorem dX3_make_15 : decode cX3_make 15 = .ok (.ldc 58, 2) := by decide +kernel
theorem dX3_make_17 : decode cX3_make 17 = .ok (.invokespecial 47, 3) := by decide +kernel
theorem dX3_make_20 : decode cX3_make 20 = .ok (.athrow, 1) := by decide +kernel
theorem dX3_make_21 : decode cX3_make 21 = .ok (.aload_n 0, 1) := by decide +kernel
theorem dX3_make_22 : decode cX3_make 22 = .ok (.getfield 10, 3) := by decide +kernel
theorem dX3_make_25 : decode cX3_make 25 = .ok (.iload_n 1, 1) := by decide +kernel
theorem dX3_make_26 : decode cX3_make 26 = .ok (.invokevirtual 60, 3) := by decide +kernel
theorem dX3_make_29 : decode cX3_make 29 = .ok (.ireturn, 1) := by decide +kernel
theorem dX3_at_0 : decode cX3_at 0 = .ok (.aload_n 0, 1) := by decide +kernel
theorem dX3_at_1 : decode cX3_at 1 = .ok (.getfield 10, 3) := by decide +kernel
theorem dX3_at_4 : decode cX3_at 4 = .ok (.iload_n 1, 1) := by decide +kernel
theorem dX3_at_5 : decode cX3_at 5 = .ok (.invokevirtual 64, 3) := by decide +kernel
theorem dX3_at_8 : decode cX3_at 8 = .ok (.ifCond .eq 7, 3) := by decide +kernel
theorem dX3_at_11 : decode cX3_at 11 = .ok (.iload_n 2, 1) := by decide +kernel
theorem dX3_at_12 : decode cX3_at 12 = .ok (.ifCond .ge 13, 3) := by decide +kernel
theorem dX3_at_15 : decode cX3_at 15 = .ok (.new 68, 3) := by decide +kernel
theorem dX3_at_18 : decode cX3_at 18 = .ok (.dup, 1) := by decide +kernel
theorem dX3_at_19 : decode cX3_at 19 = .ok (.ldc 70, 2) := by decide +kernel
theorem dX3_at_21 : decode cX3_at 21 = .ok (.invokespecial 72, 3) := by decide +kernel
theorem dX3_at_24 : decode cX3_at 24 = .ok (.athrow, 1) := by decide +kernel
theorem dX3_at_25 : decode cX3_at 25 = .ok (.iload_n 2, 1) := by decide +kernel
theorem dX3_at_26 : decode cX3_at 26 = .ok (.aload_n 0, 1) := by decide +kernel
theorem dX3_at_27 : decode cX3_at 27 = .ok (.getfield 10, 3) := by decide +kernel
theorem dX3_at_30 : decode cX3_at 30 = .ok (.iload_n 1, 1) := by decide +kernel
theorem dX3_at_31 : decode cX3_at 31 = .ok (.invokevirtual 73, 3) := by decide +kernel
theorem dX3_at_34 : decode cX3_at 34 = .ok (.if_icmp .ge 15, 3) := by decide +kernel
theorem dX3_at_37 : decode cX3_at 37 = .ok (.aload_n 0, 1) := by decide +kernel
theorem dX3_at_38 : decode cX3_at 38 = .ok (.getfield 10, 3) := by decide +kernel
theorem dX3_at_41 : decode cX3_at 41 = .ok (.iload_n 1, 1) := by decide +kernel
theorem dX3_at_42 : decode cX3_at 42 = .ok (.iload_n 2, 1) := by decide +kernel
theorem dX3_at_43 : decode cX3_at 43 = .ok (.invokevirtual 76, 3) := by decide +kernel
theorem dX3_at_46 : decode cX3_at 46 = .ok (.goto 4, 3) := by decide +kernel
theorem dX3_at_49 : decode cX3_at 49 = .ok (.iconst (-1), 1) := by decide +kernel
theorem dX3_at_50 : decode cX3_at 50 = .ok (.ireturn, 1) := by decide +kernel
theorem dX3_lockUp_0 : decode cX3_lockUp 0 = .ok (.aload_n 0, 1) := by decide +kernel
theorem dX3_lockUp_1 : decode cX3_lockUp 1 = .ok (.getfield 10, 3) := by decide +kernel
theorem dX3_lockUp_4 : decode cX3_lockUp 4 = .ok (.iload_n 1, 1) := by decide +kernel
theorem dX3_lockUp_5 : decode cX3_lockUp 5 = .ok (.invokevirtual 64, 3) := by decide +kernel
theorem dX3_lockUp_8 : decode cX3_lockUp 8 = .ok (.ifCond .eq 19, 3) := by decide +kernel
theorem dX3_lockUp_11 : decode cX3_lockUp 11 = .ok (.iload_n 2, 1) := by decide +kernel
theorem dX3_lockUp_12 : decode cX3_lockUp 12 = .ok (.ifCond .lt 15, 3) := by decide +kernel
theorem dX3_lockUp_15 : decode cX3_lockUp 15 = .ok (.iload_n 2, 1) := by decide +kernel
theorem dX3_lockUp_16 : decode cX3_lockUp 16 = .ok (.aload_n 0, 1) := by decide +kernel
theorem dX3_lockUp_17 : decode cX3_lockUp 17 = .ok (.getfield 10, 3) := by decide +kernel
theorem dX3_lockUp_20 : decode cX3_lockUp 20 = .ok (.iload_n 1, 1) := by decide +kernel
theorem dX3_lockUp_21 : decode cX3_lockUp 21 = .ok (.invokevirtual 73, 3) := by decide +kernel
theorem dX3_lockUp_24 : decode cX3_lockUp 24 = .ok (.if_icmp .lt 13, 3) := by decide +kernel
theorem dX3_lockUp_27 : decode cX3_lockUp 27 = .ok (.new 68, 3) := by decide +kernel
theorem dX3_lockUp_30 : decode cX3_lockUp 30 = .ok (.dup, 1) := by decide +kernel
theorem dX3_lockUp_31 : decode cX3_lockUp 31 = .ok (.ldc 70, 2) := by decide +kernel
theorem dX3_lockUp_33 : decode cX3_lockUp 33 = .ok (.invokespecial 72, 3) := by decide +kernel
theorem dX3_lockUp_36 : decode cX3_lockUp 36 = .ok (.athrow, 1) := by decide +kernel
theorem dX3_lockUp_37 : decode cX3_lockUp 37 = .ok (.aload_n 0, 1) := by decide +kernel
theorem dX3_lockUp_38 : decode cX3_lockUp 38 = .ok (.getfield 10, 3) := by decide +kernel
theorem dX3_lockUp_41 : decode cX3_lockUp 41 = .ok (.iload_n 1, 1) := by decide +kernel
theorem dX3_lockUp_42 : decode cX3_lockUp 42 = .ok (.iload_n 2, 1) := by decide +kernel
theorem dX3_lockUp_43 : decode cX3_lockUp 43 = .ok (.invokevirtual 80, 3) := by decide +kernel
theorem dX3_lockUp_46 : decode cX3_lockUp 46 = .ok (.ireturn, 1) := by decide +kernel
theorem dX3_travel_0 : decode cX3_travel 0 = .ok (.aload_n 0, 1) := by decide +kernel
theorem dX3_travel_1 : decode cX3_travel 1 = .ok (.getfield 10, 3) := by decide +kernel
theorem dX3_travel_4 : decode cX3_travel 4 = .ok (.invokevirtual 84, 3) := by decide +kernel
theorem dX3_travel_7 : decode cX3_travel 7 = .ok (.lreturn, 1) := by decide +kernel
theorem dX3_improve_0 : decode cX3_improve 0 = .ok (.iload_n 1, 1) := by decide +kernel
theorem dX3_improve_1 : decode cX3_improve 1 = .ok (.ifCond .ge 13, 3) := by decide +kernel
theorem dX3_improve_4 : decode cX3_improve 4 = .ok (.new 43, 3) := by decide +kernel
theorem dX3_improve_7 : decode cX3_improve 7 = .ok (.dup, 1) := by decide +kernel
theorem dX3_improve_8 : decode cX3_improve 8 = .ok (.ldc 88, 2) := by decide +kernel
theorem dX3_improve_10 : decode cX3_improve 10 = .ok (.invokespecial 47, 3) := by decide +kernel
theorem dX3_improve_13 : decode cX3_improve 13 = .ok (.athrow, 1) := by decide +kernel
theorem dX3_improve_14 : decode cX3_improve 14 = .ok (.aload_n 0, 1) := by decide +kernel
theorem dX3_improve_15 : decode cX3_improve 15 = .ok (.getfield 10, 3) := by decide +kernel
theorem dX3_improve_18 : decode cX3_improve 18 = .ok (.iload_n 1, 1) := by decide +kernel
theorem dX3_improve_19 : decode cX3_improve 19 = .ok (.invokevirtual 90, 3) := by decide +kernel
theorem dX3_improve_22 : decode cX3_improve 22 = .ok (.ireturn, 1) := by decide +kernel
theorem dX3_rule_0 : decode cX3_rule 0 = .ok (.iload_n 1, 1) := by decide +kernel
theorem dX3_rule_1 : decode cX3_rule 1 = .ok (.ifCond .lt 12, 3) := by decide +kernel
theorem dX3_rule_4 : decode cX3_rule 4 = .ok (.iload_n 2, 1) := by decide +kernel
theorem dX3_rule_5 : decode cX3_rule 5 = .ok (.ifCond .lt 8, 3) := by decide +kernel
theorem dX3_rule_8 : decode cX3_rule 8 = .ok (.iload_n 2, 1) := by decide +kernel
theorem dX3_rule_9 : decode cX3_rule 9 = .ok (.iconst 1, 1) := by decide +kernel
theorem dX3_rule_10 : decode cX3_rule 10 = .ok (.if_icmp .le 13, 3) := by decide +kernel
theorem dX3_rule_13 : decode cX3_rule 13 = .ok (.new 68, 3) := by decide +kernel
theorem dX3_rule_16 : decode cX3_rule 16 = .ok (.dup, 1) := by decide +kernel
theorem dX3_rule_17 : decode cX3_rule 17 = .ok (.ldc 93, 2) := by decide +kernel
theorem dX3_rule_19 : decode cX3_rule 19 = .ok (.invokespecial 72, 3) := by decide +kernel
theorem dX3_rule_22 : decode cX3_rule 22 = .ok (.athrow, 1) := by decide +kernel
theorem dX3_rule_23 : decode cX3_rule 23 = .ok (.aload_n 0, 1) := by decide +kernel
theorem dX3_rule_24 : decode cX3_rule 24 = .ok (.getfield 10, 3) := by decide +kernel
theorem dX3_rule_27 : decode cX3_rule 27 = .ok (.iload_n 1, 1) := by decide +kernel
theorem dX3_rule_28 : decode cX3_rule 28 = .ok (.iload_n 2, 1) := by decide +kernel
theorem dX3_rule_29 : decode cX3_rule 29 = .ok (.invokevirtual 95, 3) := by decide +kernel
theorem dX3_rule_32 : decode cX3_rule 32 = .ok (.ireturn, 1) := by decide +kernel
theorem dX3_set_0 : decode cX3_set 0 = .ok (.aload_n 0, 1) := by decide +kernel
theorem dX3_set_1 : decode cX3_set 1 = .ok (.iload_n 1, 1) := by decide +kernel
theorem dX3_set_2 : decode cX3_set 2 = .ok (.invokevirtual 98, 3) := by decide +kernel
theorem dX3_set_5 : decode cX3_set 5 = .ok (.aload_n 0, 1) := by decide +kernel
theorem dX3_set_6 : decode cX3_set 6 = .ok (.getfield 10, 3) := by decide +kernel
theorem dX3_set_9 : decode cX3_set 9 = .ok (.iload_n 1, 1) := by decide +kernel
theorem dX3_set_10 : decode cX3_set 10 = .ok (.iload_n 2, 1) := by decide +kernel
theorem dX3_set_11 : decode cX3_set 11 = .ok (.invokevirtual 102, 3) := by decide +kernel
theorem dX3_set_14 : decode cX3_set 14 = .ok (.ireturn, 1) := by decide +kernel
theorem dX3_load_0 : decode cX3_load 0 = .ok (.aload_n 0, 1) := by decide +kernel
theorem dX3_load_1 : decode cX3_load 1 = .ok (.iload_n 1, 1) := by decide +kernel
theorem dX3_load_2 : decode cX3_load 2 = .ok (.invokevirtual 98, 3) := by decide +kernel
theorem dX3_load_5 : decode cX3_load 5 = .ok (.aload_n 0, 1) := by decide +kernel
theorem dX3_load_6 : decode cX3_load 6 = .ok (.getfield 10, 3) := by decide +kernel
theorem dX3_load_9 : decode cX3_load 9 = .ok (.getfield 106, 3) := by decide +kernel
theorem dX3_load_12 : decode cX3_load 12 = .ok (.iload_n 1, 1) := by decide +kernel
theorem dX3_load_13 : decode cX3_load 13 = .ok (.iload_n 2, 1) := by decide +kernel
theorem dX3_load_14 : decode cX3_load 14 = .ok (.invokestatic 110, 3) := by decide +kernel
theorem dX3_load_17 : decode cX3_load 17 = .ok (.iastore, 1) := by decide +kernel
theorem dX3_load_18 : decode cX3_load 18 = .ok (.return_, 1) := by decide +kernel
theorem dX3_value_0 : decode cX3_value 0 = .ok (.aload_n 0, 1) := by decide +kernel
theorem dX3_value_1 : decode cX3_value 1 = .ok (.iload_n 1, 1) := by decide +kernel
theorem dX3_value_2 : decode cX3_value 2 = .ok (.invokevirtual 98, 3) := by decide +kernel
theorem dX3_value_5 : decode cX3_value 5 = .ok (.aload_n 0, 1) := by decide +kernel
theorem dX3_value_6 : decode cX3_value 6 = .ok (.getfield 10, 3) := by decide +kernel
theorem dX3_value_9 : decode cX3_value 9 = .ok (.getfield 106, 3) := by decide +kernel
theorem dX3_value_12 : decode cX3_value 12 = .ok (.iload_n 1, 1) := by decide +kernel
theorem dX3_value_13 : decode cX3_value 13 = .ok (.iaload, 1) := by decide +kernel
theorem dX3_value_14 : decode cX3_value 14 = .ok (.ireturn, 1) := by decide +kernel
theorem dX3_shift_0 : decode cX3_shift 0 = .ok (.aload_n 0, 1) := by decide +kernel
theorem dX3_shift_1 : decode cX3_shift 1 = .ok (.getfield 10, 3) := by decide +kernel
theorem dX3_shift_4 : decode cX3_shift 4 = .ok (.iload_n 1, 1) := by decide +kernel
theorem dX3_shift_5 : decode cX3_shift 5 = .ok (.invokevirtual 113, 3) := by decide +kernel
theorem dX3_shift_8 : decode cX3_shift 8 = .ok (.ireturn, 1) := by decide +kernel
theorem dX3_port_0 : decode cX3_port 0 = .ok (.aload_n 0, 1) := by decide +kernel
theorem dX3_port_1 : decode cX3_port 1 = .ok (.getfield 19, 3) := by decide +kernel
theorem dX3_port_4 : decode cX3_port 4 = .ok (.getfield 116, 3) := by decide +kernel
theorem dX3_port_7 : decode cX3_port 7 = .ok (.bipush 20, 2) := by decide +kernel
theorem dX3_port_9 : decode cX3_port 9 = .ok (.if_icmp .lt 13, 3) := by decide +kernel
theorem dX3_port_12 : decode cX3_port 12 = .ok (.new 36, 3) := by decide +kernel
theorem dX3_port_15 : decode cX3_port 15 = .ok (.dup, 1) := by decide +kernel
theorem dX3_port_16 : decode cX3_port 16 = .ok (.ldc 119, 2) := by decide +kernel
theorem dX3_port_18 : decode cX3_port 18 = .ok (.invokespecial 40, 3) := by decide +kernel
theorem dX3_port_21 : decode cX3_port 21 = .ok (.athrow, 1) := by decide +kernel
theorem dX3_port_22 : decode cX3_port 22 = .ok (.iload_n 1, 1) := by decide +kernel
theorem dX3_port_23 : decode cX3_port 23 = .ok (.ifCond .eq 18, 3) := by decide +kernel
theorem dX3_port_26 : decode cX3_port 26 = .ok (.iload_n 1, 1) := by decide +kernel
theorem dX3_port_27 : decode cX3_port 27 = .ok (.iconst 1, 1) := by decide +kernel
theorem dX3_port_28 : decode cX3_port 28 = .ok (.if_icmp .eq 13, 3) := by decide +kernel
theorem dX3_port_31 : decode cX3_port 31 = .ok (.new 43, 3) := by decide +kernel
theorem dX3_port_34 : decode cX3_port 34 = .ok (.dup, 1) := by decide +kernel
theorem dX3_port_35 : decode cX3_port 35 = .ok (.ldc 121, 2) := by decide +kernel
theorem dX3_port_37 : decode cX3_port 37 = .ok (.invokespecial 47, 3) := by decide +kernel
theorem dX3_port_40 : decode cX3_port 40 = .ok (.athrow, 1) := by decide +kernel
theorem dX3_port_41 : decode cX3_port 41 = .ok (.aload_n 0, 1) := by decide +kernel
theorem dX3_port_42 : decode cX3_port 42 = .ok (.getfield 19, 3) := by decide +kernel
theorem dX3_port_45 : decode cX3_port 45 = .ok (.iload_n 1, 1) := by decide +kernel
theorem dX3_port_46 : decode cX3_port 46 = .ok (.invokevirtual 123, 3) := by decide +kernel
theorem dX3_port_49 : decode cX3_port 49 = .ok (.ireturn, 1) := by decide +kernel
theorem dX3_pin_0 : decode cX3_pin 0 = .ok (.aload_n 0, 1) := by decide +kernel
theorem dX3_pin_1 : decode cX3_pin 1 = .ok (.iload_n 1, 1) := by decide +kernel
theorem dX3_pin_2 : decode cX3_pin 2 = .ok (.invokevirtual 126, 3) := by decide +kernel
theorem dX3_pin_5 : decode cX3_pin 5 = .ok (.aload_n 0, 1) := by decide +kernel
theorem dX3_pin_6 : decode cX3_pin 6 = .ok (.getfield 19, 3) := by decide +kernel
theorem dX3_pin_9 : decode cX3_pin 9 = .ok (.getfield 129, 3) := by decide +kernel
theorem dX3_pin_12 : decode cX3_pin 12 = .ok (.iload_n 1, 1) := by decide +kernel
theorem dX3_pin_13 : decode cX3_pin 13 = .ok (.iload_n 2, 1) := by decide +kernel
theorem dX3_pin_14 : decode cX3_pin 14 = .ok (.invokestatic 110, 3) := by decide +kernel
theorem dX3_pin_17 : decode cX3_pin 17 = .ok (.iastore, 1) := by decide +kernel
theorem dX3_pin_18 : decode cX3_pin 18 = .ok (.return_, 1) := by decide +kernel
theorem dX3_boundary_0 : decode cX3_boundary 0 = .ok (.aload_n 0, 1) := by decide +kernel
theorem dX3_boundary_1 : decode cX3_boundary 1 = .ok (.iload_n 1, 1) := by decide +kernel
theorem dX3_boundary_2 : decode cX3_boundary 2 = .ok (.invokevirtual 126, 3) := by decide +kernel
theorem dX3_boundary_5 : decode cX3_boundary 5 = .ok (.aload_n 0, 1) := by decide +kernel
theorem dX3_boundary_6 : decode cX3_boundary 6 = .ok (.getfield 19, 3) := by decide +kernel
theorem dX3_boundary_9 : decode cX3_boundary 9 = .ok (.iload_n 1, 1) := by decide +kernel
theorem dX3_boundary_10 : decode cX3_boundary 10 = .ok (.aload_n 0, 1) := by decide +kernel
theorem dX3_boundary_11 : decode cX3_boundary 11 = .ok (.getfield 28, 3) := by decide +kernel
theorem dX3_boundary_14 : decode cX3_boundary 14 = .ok (.getfield 145, 3) := by decide +kernel
theorem dX3_boundary_17 : decode cX3_boundary 17 = .ok (.ifCond .ne 7, 3) := by decide +kernel
theorem dX3_boundary_20 : decode cX3_boundary 20 = .ok (.iconst 1, 1) := by decide +kernel
theorem dX3_boundary_21 : decode cX3_boundary 21 = .ok (.goto 4, 3) := by decide +kernel
theorem dX3_boundary_24 : decode cX3_boundary 24 = .ok (.iconst 0, 1) := by decide +kernel
theorem dX3_boundary_25 : decode cX3_boundary 25 = .ok (.invokevirtual 148, 3) := by decide +kernel
theorem dX3_boundary_28 : decode cX3_boundary 28 = .ok (.ireturn, 1) := by decide +kernel
theorem dX3_tick_0 : decode cX3_tick 0 = .ok (.iload_n 1, 1) := by decide +kernel
theorem dX3_tick_1 : decode cX3_tick 1 = .ok (.ifCond .lt 17, 3) := by decide +kernel
theorem dX3_tick_4 : decode cX3_tick 4 = .ok (.iload_n 1, 1) := by decide +kernel
theorem dX3_tick_5 : decode cX3_tick 5 = .ok (.iconst 1, 1) := by decide +kernel
theorem dX3_tick_6 : decode cX3_tick 6 = .ok (.if_icmp .gt 12, 3) := by decide +kernel
theorem dX3_tick_9 : decode cX3_tick 9 = .ok (.iload_n 2, 1) := by decide +kernel
theorem dX3_tick_10 : decode cX3_tick 10 = .ok (.ifCond .lt 8, 3) := by decide +kernel
theorem dX3_tick_13 : decode cX3_tick 13 = .ok (.iload_n 2, 1) := by decide +kernel
theorem dX3_tick_14 : decode cX3_tick 14 = .ok (.iconst 1, 1) := by decide +kernel
theorem dX3_tick_15 : decode cX3_tick 15 = .ok (.if_icmp .le 13, 3) := by decide +kernel
theorem dX3_tick_18 : decode cX3_tick 18 = .ok (.new 43, 3) := by decide +kernel
theorem dX3_tick_21 : decode cX3_tick 21 = .ok (.dup, 1) := by decide +kernel
theorem dX3_tick_22 : decode cX3_tick 22 = .ok (.ldc 132, 2) := by decide +kernel
theorem dX3_tick_24 : decode cX3_tick 24 = .ok (.invokespecial 47, 3) := by decide +kernel
theorem dX3_tick_27 : decode cX3_tick 27 = .ok (.athrow, 1) := by decide +kernel
theorem dX3_tick_28 : decode cX3_tick 28 = .ok (.aload_n 0, 1) := by decide +kernel
theorem dX3_tick_29 : decode cX3_tick 29 = .ok (.getfield 28, 3) := by decide +kernel
theorem dX3_tick_32 : decode cX3_tick 32 = .ok (.iload_n 1, 1) := by decide +kernel
theorem dX3_tick_33 : decode cX3_tick 33 = .ok (.iload_n 2, 1) := by decide +kernel
theorem dX3_tick_34 : decode cX3_tick 34 = .ok (.invokevirtual 134, 3) := by decide +kernel
theorem dX3_tick_37 : decode cX3_tick 37 = .ok (.ireturn, 1) := by decide +kernel
theorem dX3_state_0 : decode cX3_state 0 = .ok (.aload_n 0, 1) := by decide +kernel
theorem dX3_state_1 : decode cX3_state 1 = .ok (.getfield 28, 3) := by decide +kernel
theorem dX3_state_4 : decode cX3_state 4 = .ok (.getfield 137, 3) := by decide +kernel
theorem dX3_state_7 : decode cX3_state 7 = .ok (.ireturn, 1) := by decide +kernel
theorem dX3_go_0 : decode cX3_go 0 = .ok (.iload_n 1, 1) := by decide +kernel
theorem dX3_go_1 : decode cX3_go 1 = .ok (.ifCond .lt 9, 3) := by decide +kernel
theorem dX3_go_4 : decode cX3_go 4 = .ok (.iload_n 1, 1) := by decide +kernel
theorem dX3_go_5 : decode cX3_go 5 = .ok (.bipush 16, 2) := by decide +kernel
theorem dX3_go_7 : decode cX3_go 7 = .ok (.if_icmp .lt 13, 3) := by decide +kernel
theorem dX3_go_10 : decode cX3_go 10 = .ok (.new 43, 3) := by decide +kernel
theorem dX3_go_13 : decode cX3_go 13 = .ok (.dup, 1) := by decide +kernel
theorem dX3_go_14 : decode cX3_go 14 = .ok (.ldc 140, 2) := by decide +kernel
theorem dX3_go_16 : decode cX3_go 16 = .ok (.invokespecial 47, 3) := by decide +kernel
theorem dX3_go_19 : decode cX3_go 19 = .ok (.athrow, 1) := by decide +kernel
theorem dX3_go_20 : decode cX3_go 20 = .ok (.aload_n 0, 1) := by decide +kernel
theorem dX3_go_21 : decode cX3_go 21 = .ok (.getfield 28, 3) := by decide +kernel
theorem dX3_go_24 : decode cX3_go 24 = .ok (.iload_n 1, 1) := by decide +kernel
theorem dX3_go_25 : decode cX3_go 25 = .ok (.invokevirtual 142, 3) := by decide +kernel
theorem dX3_go_28 : decode cX3_go 28 = .ok (.ireturn, 1) := by decide +kernel
theorem dX3_count_0 : decode cX3_count 0 = .ok (.iload_n 1, 1) := by decide +kernel
theorem dX3_count_1 : decode cX3_count 1 = .ok (.tableswitch 75 0 4 #[35, 43, 51, 59, 67], 35) := by decide +kernel
theorem dX3_count_36 : decode cX3_count 36 = .ok (.aload_n 0, 1) := by decide +kernel
theorem dX3_count_37 : decode cX3_count 37 = .ok (.getfield 10, 3) := by decide +kernel
theorem dX3_count_40 : decode cX3_count 40 = .ok (.getfield 32, 3) := by decide +kernel
theorem dX3_count_43 : decode cX3_count 43 = .ok (.ireturn, 1) := by decide +kernel
theorem dX3_count_44 : decode cX3_count 44 = .ok (.aload_n 0, 1) := by decide +kernel
theorem dX3_count_45 : decode cX3_count 45 = .ok (.getfield 10, 3) := by decide +kernel
theorem dX3_count_48 : decode cX3_count 48 = .ok (.getfield 152, 3) := by decide +kernel
theorem dX3_count_51 : decode cX3_count 51 = .ok (.ireturn, 1) := by decide +kernel
theorem dX3_count_52 : decode cX3_count 52 = .ok (.aload_n 0, 1) := by decide +kernel
theorem dX3_count_53 : decode cX3_count 53 = .ok (.getfield 19, 3) := by decide +kernel
theorem dX3_count_56 : decode cX3_count 56 = .ok (.getfield 116, 3) := by decide +kernel
theorem dX3_count_59 : decode cX3_count 59 = .ok (.ireturn, 1) := by decide +kernel
theorem dX3_count_60 : decode cX3_count 60 = .ok (.aload_n 0, 1) := by decide +kernel
theorem dX3_count_61 : decode cX3_count 61 = .ok (.getfield 28, 3) := by decide +kernel
theorem dX3_count_64 : decode cX3_count 64 = .ok (.invokevirtual 155, 3) := by decide +kernel
theorem dX3_count_67 : decode cX3_count 67 = .ok (.ireturn, 1) := by decide +kernel
theorem dX3_count_68 : decode cX3_count 68 = .ok (.aload_n 0, 1) := by decide +kernel
theorem dX3_count_69 : decode cX3_count 69 = .ok (.getfield 28, 3) := by decide +kernel
theorem dX3_count_72 : decode cX3_count 72 = .ok (.getfield 145, 3) := by decide +kernel
theorem dX3_count_75 : decode cX3_count 75 = .ok (.ireturn, 1) := by decide +kernel
theorem dX3_count_76 : decode cX3_count 76 = .ok (.new 68, 3) := by decide +kernel
theorem dX3_count_79 : decode cX3_count 79 = .ok (.dup, 1) := by decide +kernel
theorem dX3_count_80 : decode cX3_count 80 = .ok (.ldc 159, 2) := by decide +kernel
theorem dX3_count_82 : decode cX3_count 82 = .ok (.invokespecial 72, 3) := by decide +kernel
theorem dX3_count_85 : decode cX3_count 85 = .ok (.athrow, 1) := by decide +kernel
set_option maxHeartbeats 4000000 in
set_option maxRecDepth 100000 in
theorem c_ScanRows_asBit (l : Launch) (dC : Nat → ClassId) (dI : Nat → Nat → Nat) (q : Nat → Nat) (cI cZ : ClassId) (sz : Nat) (v : Int32) : Met l yX3_asBit (.code yX3_asBit cX3_asBit 1 (some .int) :: ALLG) ({ frames := 0, cells := 0, slots := 0, locals := 0 }) (va_Pc [.int v] (cP (dC, dI) vwCl [(cI, .int), (cZ, .boolean)] (([] : va_W)) eT sz)) (va_Qi (fun (x : Int32) (_ : Unit) => x = nI (bitN v)) (fun (_ : Unit) => cB (dC, dI) vwCl [(cI, .int), (cZ, .boolean)] ([]) (va_A (([] : va_W)) sz)) (va_A (([] : va_W)) sz)) 0 0 (va_A (([] : va_W)) sz) := by
  refine xm_of (cc := cX3_asBit) (maxL := 1) (ret := some .int) (by decide) rfl (Nat.le_of_ble_eq_true rfl) ?_
  intro p e s m below meth c A hAe hx hb hr hml hts0 hown hlk hin hsz H locs hP hK hD hA hS hE ls hl
  have hts : ∀ w ∈ ALLG, w.before _ s = true := fun w h => hts0 w (List.mem_cons_of_mem _ h)
  rw [← hAe]
  have hl : lv_has ls 1 [(0, .int v)] := hl
  refine lv_iload_n hx hb dX3_asBit_0 rfl (lv_at hl 0 rfl) ?_
  refine lv_if_ne (tgt := 8) hx hb dX3_asBit_1 (by decide) (fun c_1 => ?_) (fun c_1 => ?_)
  · refine lv_iconst (v := nI 1) hx hb dX3_asBit_8 (by decide) ?_
    exact xr_i hx hb hr hlk (u := ()) (by unfold bitN; rw [if_neg (by assumption)]) hP hK hD hS dX3_asBit_9
  · refine lv_iconst (v := nI 0) hx hb dX3_asBit_4 (by decide) ?_
    refine lv_goto (tgt := 9) hx hb dX3_asBit_5 (by decide) ?_
    exact xr_i hx hb hr hlk (u := ()) (by unfold bitN; rw [if_pos (by assumption)]) hP hK hD hS dX3_asBit_9
set_option maxHeartbeats 4000000 in
set_option maxRecDepth 100000 in
theorem c_ScanRows_requireLatch (l : Launch) (dC : Nat → ClassId) (dI : Nat → Nat → Nat) (q : Nat → Nat) (cI cZ : ClassId) (sz : Nat) (r : RS) (k : CS) (a : AS) (i : Nat) (h1 : i < r.n) (h2 : r.n ≤ 32) : Met l yX3_requireLatch (.code yX3_requireLatch cX3_requireLatch 2 none :: ALLG) ({ frames := 0, cells := 0, slots := 0, locals := 0 }) (va_Pc [.ref (q 17), .int (nI i)] (cP (dC, dI) vwCl [(cI, .int), (cZ, .boolean)] (wX q cI cZ r k a) eT sz)) (va_Qv (fun (_ : Unit) => True) (fun (_ : Unit) => cB (dC, dI) vwCl [(cI, .int), (cZ, .boolean)] (wX q cI cZ r k a) (va_A (wX q cI cZ r k a) sz)) (va_A (wX q cI cZ r k a) sz)) 0 0 (va_A (wX q cI cZ r k a) sz) := by
  refine xm_of (cc := cX3_requireLatch) (maxL := 2) (ret := none) (by decide) rfl (Nat.le_of_ble_eq_true rfl) ?_
  intro p e s m below meth c A hAe hx hb hr hml hts0 hown hlk hin hsz H locs hP hK hD hA hS hE ls hl
  have hts : ∀ w ∈ ALLG, w.before _ s = true := fun w h => hts0 w (List.mem_cons_of_mem _ h)
  rw [← hAe]
  have hl : lv_has ls 2 [(0, .ref (q 17)), (1, .int (nI i))] := hl
  refine lv_iload_n hx hb dX3_requireLatch_0 rfl (lv_at hl 1 rfl) ?_
  refine xn_zlt (tgt := 15) hx hb (by omega) dX3_requireLatch_1 (by decide) ?_
  refine lv_iload_n hx hb dX3_requireLatch_4 rfl (lv_at hl 1 rfl) ?_
  refine lv_aload_n hx hb dX3_requireLatch_5 rfl (lv_at hl 0 rfl) ?_
  refine va_get (D := (dC, dI)) (ci := 3) (v := .ref (q 0)) (C := RX3) (T := TX3) (N := 3) hx hb hts inX3 hown hK hP 17 rfl rfl 0 (by decide) (hts _ tw_131) (fun _ h9 => h9) rfl dX3_requireLatch_6 ?_
  refine va_get (D := (dC, dI)) (ci := 2) (v := .int (nI (RS.n r))) (C := RX2) (T := TX2) (N := 12) hx hb hts inX2 hown hK hP 0 rfl rfl 0 (by decide) (hts _ tw_28) (fun _ h9 => h9) rfl dX3_requireLatch_9 ?_
  refine xn_clt (tgt := 25) hx hb (by omega) (by omega) dX3_requireLatch_12 (by decide) (fun c_2 => ?_) (fun c_2 => ?_)
  · exact xr_v hx hb hr hlk (u := ()) trivial hP hK hD hS dX3_requireLatch_25
  · exact absurd (show False by omega) id
set_option maxHeartbeats 4000000 in
set_option maxRecDepth 100000 in
theorem c_ScanRows_requireCell (l : Launch) (dC : Nat → ClassId) (dI : Nat → Nat → Nat) (q : Nat → Nat) (cI cZ : ClassId) (sz : Nat) (r : RS) (k : CS) (a : AS) (i : Nat) (h1 : i < k.n) (h2 : k.n ≤ 20) : Met l yX3_requireCell (.code yX3_requireCell cX3_requireCell 2 none :: ALLG) ({ frames := 0, cells := 0, slots := 0, locals := 0 }) (va_Pc [.ref (q 17), .int (nI i)] (cP (dC, dI) vwCl [(cI, .int), (cZ, .boolean)] (wX q cI cZ r k a) eT sz)) (va_Qv (fun (_ : Unit) => True) (fun (_ : Unit) => cB (dC, dI) vwCl [(cI, .int), (cZ, .boolean)] (wX q cI cZ r k a) (va_A (wX q cI cZ r k a) sz)) (va_A (wX q cI cZ r k a) sz)) 0 0 (va_A (wX q cI cZ r k a) sz) := by
  refine xm_of (cc := cX3_requireCell) (maxL := 2) (ret := none) (by decide) rfl (Nat.le_of_ble_eq_true rfl) ?_
  intro p e s m below meth c A hAe hx hb hr hml hts0 hown hlk hin hsz H locs hP hK hD hA hS hE ls hl
  have hts : ∀ w ∈ ALLG, w.before _ s = true := fun w h => hts0 w (List.mem_cons_of_mem _ h)
  rw [← hAe]
  have hl : lv_has ls 2 [(0, .ref (q 17)), (1, .int (nI i))] := hl
  refine lv_iload_n hx hb dX3_requireCell_0 rfl (lv_at hl 1 rfl) ?_
  refine xn_zlt (tgt := 15) hx hb (by omega) dX3_requireCell_1 (by decide) ?_
  refine lv_iload_n hx hb dX3_requireCell_4 rfl (lv_at hl 1 rfl) ?_
  refine lv_aload_n hx hb dX3_requireCell_5 rfl (lv_at hl 0 rfl) ?_
  refine va_get (D := (dC, dI)) (ci := 3) (v := .ref (q 10)) (C := RX3) (T := TX3) (N := 3) hx hb hts inX3 hown hK hP 17 rfl rfl 1 (by decide) (hts _ tw_132) (fun _ h9 => h9) rfl dX3_requireCell_6 ?_
  refine va_get (D := (dC, dI)) (ci := 1) (v := .int (nI (CS.n k))) (C := RX1) (T := TX1) (N := 5) hx hb hts inX1 hown hK hP 10 rfl rfl 0 (by decide) (hts _ tw_78) (fun _ h9 => h9) rfl dX3_requireCell_9 ?_
  refine xn_clt (tgt := 25) hx hb (by omega) (by omega) dX3_requireCell_12 (by decide) (fun c_2 => ?_) (fun c_2 => ?_)
  · exact xr_v hx hb hr hlk (u := ()) trivial hP hK hD hS dX3_requireCell_25
  · exact absurd (show False by omega) id
set_option maxHeartbeats 4000000 in
set_option maxRecDepth 100000 in
theorem c_ScanRows_latch (l : Launch) (dC : Nat → ClassId) (dI : Nat → Nat → Nat) (q : Nat → Nat) (cI cZ : ClassId) (sz : Nat) (r : RS) (k : CS) (a : AS) (ck : Nat) (xx yy : Int) (h1 : r.n < 32) (h2 : ck < 4) (h3 : -1000 ≤ xx ∧ xx ≤ 1000) (h4 : -1000 ≤ yy ∧ yy ≤ 1000) : Met l yX3_latch (.code yX3_latch cX3_latch 6 (some .int) :: ALLG) ({ frames := 1, cells := 0, slots := 0, locals := 24 }) (va_Pc [.ref (q 17), .int (nI ck), .long (zL xx), .long (zL yy)] (cP (dC, dI) vwCl [(cI, .int), (cZ, .boolean)] (wX q cI cZ r k a) eT sz)) (va_Qi (fun (x : Int32) (u : RS) => x = nI r.n ∧ u = addL r ck xx yy) (fun (u : RS) => cB (dC, dI) vwCl [(cI, .int), (cZ, .boolean)] (wX q cI cZ u k a) (va_A (wX q cI cZ r k a) sz)) (va_A (wX q cI cZ r k a) sz)) 0 0 (va_A (wX q cI cZ r k a) sz) := by
  refine xm_of (cc := cX3_latch) (maxL := 6) (ret := some .int) (by decide) rfl (Nat.le_of_ble_eq_true rfl) ?_
  intro p e s m below meth c A hAe hx hb hr hml hts0 hown hlk hin hsz H locs hP hK hD hA hS hE ls hl
  have hts : ∀ w ∈ ALLG, w.before _ s = true := fun w h => hts0 w (List.mem_cons_of_mem _ h)
  rw [← hAe]
  have hl : lv_has ls 6 [(0, .ref (q 17)), (1, .int (nI ck)), (2, .long (zL xx)), (4, .long (zL yy))] := hl
  refine lv_aload_n hx hb dX3_latch_0 rfl (lv_at hl 0 rfl) ?_
  refine va_get (D := (dC, dI)) (ci := 3) (v := .ref (q 0)) (C := RX3) (T := TX3) (N := 3) hx hb hts inX3 hown hK hP 17 rfl rfl 0 (by decide) (hts _ tw_131) (fun _ h9 => h9) rfl dX3_latch_1 ?_
  refine va_get (D := (dC, dI)) (ci := 2) (v := .int (nI (RS.n r))) (C := RX2) (T := TX2) (N := 12) hx hb hts inX2 hown hK hP 0 rfl rfl 0 (by decide) (hts _ tw_28) (fun _ h9 => h9) rfl dX3_latch_4 ?_
  refine lv_bipush (v := nI 32) hx hb dX3_latch_7 (by decide) ?_
  refine xn_clt (tgt := 22) hx hb (by omega) (by omega) dX3_latch_9 (by decide) (fun c_1 => ?_) (fun c_1 => ?_)
  · refine lv_iload_n hx hb dX3_latch_22 rfl (lv_at hl 1 rfl) ?_
    refine xn_zlt (tgt := 31) hx hb (by omega) dX3_latch_23 (by decide) ?_
    refine lv_iload_n hx hb dX3_latch_26 rfl (lv_at hl 1 rfl) ?_
    refine lv_iconst (v := nI 4) hx hb dX3_latch_27 (by decide) ?_
    refine xn_clt (tgt := 41) hx hb (by omega) (by omega) dX3_latch_28 (by decide) (fun c_3 => ?_) (fun c_3 => ?_)
    · refine lv_lload_n hx hb dX3_latch_41 rfl (lv_at hl 2 rfl) ?_
      refine lv_ldc2 (v := (-1000 : Int64)) hx hb hown (hts _ tw_272) dX3_latch_42 ?_
      refine W.lcmp hx hb dX3_latch_45 ?_
      refine lv_if_lt (tgt := 75) hx hb dX3_latch_46 (by decide) (fun c_4 => ?_) (fun c_4 => ?_)
      · exact absurd ((lg_cmp_lt _ _).mp c_4) (zL_lo h3.1 h3.2)
      · refine lv_lload_n hx hb dX3_latch_49 rfl (lv_at hl 2 rfl) ?_
        refine lv_ldc2 (v := (1000 : Int64)) hx hb hown (hts _ tw_273) dX3_latch_50 ?_
        refine W.lcmp hx hb dX3_latch_53 ?_
        refine lv_if_gt (tgt := 75) hx hb dX3_latch_54 (by decide) (fun c_5 => ?_) (fun c_5 => ?_)
        · exact absurd ((lg_cmp_gt _ _).mp c_5) (zL_hi h3.1 h3.2)
        · refine lv_lload hx hb dX3_latch_57 (lv_at hl 3 rfl) ?_
          refine lv_ldc2 (v := (-1000 : Int64)) hx hb hown (hts _ tw_272) dX3_latch_59 ?_
          refine W.lcmp hx hb dX3_latch_62 ?_
          refine lv_if_lt (tgt := 75) hx hb dX3_latch_63 (by decide) (fun c_6 => ?_) (fun c_6 => ?_)
          · exact absurd ((lg_cmp_lt _ _).mp c_6) (zL_lo h4.1 h4.2)
          · refine lv_lload hx hb dX3_latch_66 (lv_at hl 3 rfl) ?_
            refine lv_ldc2 (v := (1000 : Int64)) hx hb hown (hts _ tw_273) dX3_latch_68 ?_
            refine W.lcmp hx hb dX3_latch_71 ?_
            refine lv_if_le (tgt := 85) hx hb dX3_latch_72 (by decide) (fun c_7 => ?_) (fun c_7 => ?_)
            · refine lv_aload_n hx hb dX3_latch_85 rfl (lv_at hl 0 rfl) ?_
              refine va_get (D := (dC, dI)) (ci := 3) (v := .ref (q 0)) (C := RX3) (T := TX3) (N := 3) hx hb hts inX3 hown hK hP 17 rfl rfl 0 (by decide) (hts _ tw_131) (fun _ h9 => h9) rfl dX3_latch_86 ?_
              refine lv_iload_n hx hb dX3_latch_89 rfl (lv_at hl 1 rfl) ?_
              refine lv_lload_n hx hb dX3_latch_90 rfl (lv_at hl 2 rfl) ?_
              refine lv_l2i hx hb dX3_latch_91 rfl ?_
              refine xt_i (show ((zL xx).toInt32) = zI xx from zL_i xx) ?_
              refine lv_lload hx hb dX3_latch_92 (lv_at hl 3 rfl) ?_
              refine lv_l2i hx hb dX3_latch_94 rfl ?_
              refine xt_i (show ((zL yy).toInt32) = zI yy from zL_i yy) ?_
              refine xc_Vi (As := [.int (nI ck), .int (zI xx), .int (zI yy)]) (wr := wC q cI k ++ wA q cI a ++ wSf q) ⟨hx, hb, hml, hown, hts⟩ (c_Rows_addLatch l dC dI q cI cZ H.size r ck xx yy h1) (cwV 3 hts (gV tw_275 tw_276 tw_277 tw_2 tw_278) rfl rfl rfl (by decide +kernel) ⟨Nat.le_of_ble_eq_true rfl, Nat.le_of_ble_eq_true rfl⟩) rfl hl.1 rfl (Nat.le_of_ble_eq_true rfl) dX3_latch_95 ⟨Nat.zero_le _, Nat.zero_le _⟩ hP hD hK hS hA [0, 1, 2, 3, 4, 5, 6, 7, 8, 9] [10, 11, 12, 13, 14, 15, 16, 17] rfl rfl (by decide) (by decide) (by decide) [0, 1] rfl (q0 := 0) rfl rfl rfl eT_M (trivial) (fun r_8 u_9 H locs w_10 hP hD hS => ?_)
              obtain ⟨rfl, rfl⟩ := w_10
              have hP : va_P (dC, dI) vwCl (wX q cI cZ (addL r ck xx yy) k a) H := hP.sub [8, 9, 10, 11, 12, 13, 14, 15, 16, 17, 0, 1, 2, 3, 4, 5, 6, 7] rfl
              have hD : va_D A (wX q cI cZ (addL r ck xx yy) k a) := hD.sub [8, 9, 10, 11, 12, 13, 14, 15, 16, 17, 0, 1, 2, 3, 4, 5, 6, 7] (by decide) rfl
              exact xr_i hx hb hr hlk (u := addL r ck xx yy) (⟨rfl, rfl⟩) hP hK hD hS dX3_latch_98
            · exact absurd ((lg_cmp_le _ _).mpr (zL_le h4.1 h4.2)) c_7
    · exact absurd (show False by omega) id
  · exact absurd (show False by omega) id
set_option maxHeartbeats 4000000 in
set_option maxRecDepth 100000 in
theorem c_ScanRows_make (l : Launch) (dC : Nat → ClassId) (dI : Nat → Nat → Nat) (q : Nat → Nat) (cI cZ : ClassId) (sz : Nat) (r : RS) (k : CS) (a : AS) (c0 : Nat) (hB : RB r) (h1 : 0 < c0) (h2 : c0 ≤ 8) : Met l yX3_make (.code yX3_make cX3_make 2 (some .int) :: ALLG) ({ frames := 3, cells := 0, slots := 0, locals := 65 }) (va_Pc [.ref (q 17), .int (nI c0)] (cP (dC, dI) vwCl [(cI, .int), (cZ, .boolean)] (wX q cI cZ r k a) eT sz)) (va_Qi (fun (x : Int32) (u : RS) => x = nI (bg r.n c0 1) ∧ u = arrF r c0) (fun (u : RS) => cB (dC, dI) vwCl [(cI, .int), (cZ, .boolean)] (wX q cI cZ u k a) (va_A (wX q cI cZ r k a) sz)) (va_A (wX q cI cZ r k a) sz)) 0 0 (va_A (wX q cI cZ r k a) sz) := by
  refine xm_of (cc := cX3_make) (maxL := 2) (ret := some .int) (by decide) rfl (Nat.le_of_ble_eq_true rfl) ?_
  intro p e s m below meth c A hAe hx hb hr hml hts0 hown hlk hin hsz H locs hP hK hD hA hS hE ls hl
  have hts : ∀ w ∈ ALLG, w.before _ s = true := fun w h => hts0 w (List.mem_cons_of_mem _ h)
  rw [← hAe]
  have hl : lv_has ls 2 [(0, .ref (q 17)), (1, .int (nI c0))] := hl
  refine lv_iload_n hx hb dX3_make_0 rfl (lv_at hl 1 rfl) ?_
  refine lv_iconst (v := nI 1) hx hb dX3_make_1 (by decide) ?_
  refine xn_clt (tgt := 11) hx hb (by omega) (by omega) dX3_make_2 (by decide) (fun c_1 => ?_) (fun c_1 => ?_)
  · exact absurd (show False by omega) id
  · refine lv_iload_n hx hb dX3_make_5 rfl (lv_at hl 1 rfl) ?_
    refine lv_bipush (v := nI 8) hx hb dX3_make_6 (by decide) ?_
    refine xn_cle (tgt := 21) hx hb (by omega) (by omega) dX3_make_8 (by decide) (fun c_2 => ?_) (fun c_2 => ?_)
    · refine lv_aload_n hx hb dX3_make_21 rfl (lv_at hl 0 rfl) ?_
      refine va_get (D := (dC, dI)) (ci := 3) (v := .ref (q 0)) (C := RX3) (T := TX3) (N := 3) hx hb hts inX3 hown hK hP 17 rfl rfl 0 (by decide) (hts _ tw_131) (fun _ h9 => h9) rfl dX3_make_22 ?_
      refine lv_iload_n hx hb dX3_make_25 rfl (lv_at hl 1 rfl) ?_
      refine xc_Vi (As := [.int (nI c0)]) (wr := wC q cI k ++ wA q cI a ++ wSf q) ⟨hx, hb, hml, hown, hts⟩ (c_Rows_arrange l dC dI q cI cZ H.size r c0 hB h1 h2) (cwV 1 hts (gV tw_287 tw_288 tw_289 tw_2 tw_290) rfl rfl rfl (by decide +kernel) ⟨Nat.le_of_ble_eq_true rfl, Nat.le_of_ble_eq_true rfl⟩) rfl hl.1 rfl (Nat.le_of_ble_eq_true rfl) dX3_make_26 ⟨Nat.zero_le _, Nat.zero_le _⟩ hP hD hK hS hA [0, 1, 2, 3, 4, 5, 6, 7, 8, 9] [10, 11, 12, 13, 14, 15, 16, 17] rfl rfl (by decide) (by decide) (by decide) [0, 1] rfl (q0 := 0) rfl rfl rfl eT_M (trivial) (fun r_3 u_4 H locs w_5 hP hD hS => ?_)
      obtain ⟨rfl, rfl⟩ := w_5
      have hP : va_P (dC, dI) vwCl (wX q cI cZ (arrF r c0) k a) H := hP.sub [8, 9, 10, 11, 12, 13, 14, 15, 16, 17, 0, 1, 2, 3, 4, 5, 6, 7] rfl
      have hD : va_D A (wX q cI cZ (arrF r c0) k a) := hD.sub [8, 9, 10, 11, 12, 13, 14, 15, 16, 17, 0, 1, 2, 3, 4, 5, 6, 7] (by decide) rfl
      exact xr_i hx hb hr hlk (u := arrF r c0) (⟨rfl, rfl⟩) hP hK hD hS dX3_make_29
    · exact absurd (show False by omega) id
set_option maxHeartbeats 4000000 in
set_option maxRecDepth 100000 in
theorem c_ScanRows_at (l : Launch) (dC : Nat → ClassId) (dI : Nat → Nat → Nat) (q : Nat → Nat) (cI cZ : ClassId) (sz : Nat) (r : RS) (k : CS) (a : AS) (ch kk : Nat) (h0 : r.c ≤ 8) (h1 : ch < r.c) (h2 : r.st ch ≤ r.st (ch + 1)) (h3 : r.st (ch + 1) ≤ 32) (h4 : kk < 2 ^ 31) : Met l yX3_at (.code yX3_at cX3_at 3 (some .int) :: ALLG) ({ frames := 1, cells := 0, slots := 0, locals := 22 }) (va_Pc [.ref (q 17), .int (nI ch), .int (nI kk)] (cP (dC, dI) vwCl [(cI, .int), (cZ, .boolean)] (wX q cI cZ r k a) eT sz)) (va_Qi (fun (x : Int32) (_ : Unit) => x = zI (atZ r ch kk)) (fun (_ : Unit) => cB (dC, dI) vwCl [(cI, .int), (cZ, .boolean)] (wX q cI cZ r k a) (va_A (wX q cI cZ r k a) sz)) (va_A (wX q cI cZ r k a) sz)) 0 0 (va_A (wX q cI cZ r k a) sz) := by
  refine xm_of (cc := cX3_at) (maxL := 3) (ret := some .int) (by decide) rfl (Nat.le_of_ble_eq_true rfl) ?_
  intro p e s m below meth c A hAe hx hb hr hml hts0 hown hlk hin hsz H locs hP hK hD hA hS hE ls hl
  have hts : ∀ w ∈ ALLG, w.before _ s = true := fun w h => hts0 w (List.mem_cons_of_mem _ h)
  rw [← hAe]
  have hl : lv_has ls 3 [(0, .ref (q 17)), (1, .int (nI ch)), (2, .int (nI kk))] := hl
  refine lv_aload_n hx hb dX3_at_0 rfl (lv_at hl 0 rfl) ?_
  refine va_get (D := (dC, dI)) (ci := 3) (v := .ref (q 0)) (C := RX3) (T := TX3) (N := 3) hx hb hts inX3 hown hK hP 17 rfl rfl 0 (by decide) (hts _ tw_131) (fun _ h9 => h9) rfl dX3_at_1 ?_
  refine lv_iload_n hx hb dX3_at_4 rfl (lv_at hl 1 rfl) ?_
  refine xc_Vi (As := [.int (nI ch)]) (wr := wC q cI k ++ wA q cI a ++ wSf q) ⟨hx, hb, hml, hown, hts⟩ (c_Rows_hasChain l dC dI q cI cZ H.size r (nI ch)) (cwV 1 hts (gV tw_315 tw_316 tw_317 tw_2 tw_318) rfl rfl rfl (by decide +kernel) ⟨Nat.le_of_ble_eq_true rfl, Nat.le_of_ble_eq_true rfl⟩) rfl hl.1 rfl (Nat.le_of_ble_eq_true rfl) dX3_at_5 ⟨Nat.zero_le _, Nat.zero_le _⟩ hP hD hK hS hA [0, 1, 2, 3, 4, 5, 6, 7, 8, 9] [10, 11, 12, 13, 14, 15, 16, 17] rfl rfl (by decide) (by decide) (by decide) [0, 1] rfl (q0 := 0) rfl rfl rfl eT_M (trivial) (fun r_1 u_2 H locs w_3 hP hD hS => ?_)
  obtain rfl := w_3
  have hP : va_P (dC, dI) vwCl (wX q cI cZ r k a) H := hP.sub [8, 9, 10, 11, 12, 13, 14, 15, 16, 17, 0, 1, 2, 3, 4, 5, 6, 7] rfl
  have hD : va_D A (wX q cI cZ r k a) := hD.sub [8, 9, 10, 11, 12, 13, 14, 15, 16, 17, 0, 1, 2, 3, 4, 5, 6, 7] (by decide) rfl
  refine xt_i (show nI (hcN (nI ch) r.c) = nI 1 from congrArg nI (hcN_1 h1 h0)) ?_
  refine xn_zeq (tgt := 15) hx hb (by omega) dX3_at_8 (by decide) (fun c_4 => ?_) (fun c_4 => ?_)
  · exact absurd (show False by omega) id
  · refine lv_iload_n hx hb dX3_at_11 rfl (lv_at hl 2 rfl) ?_
    refine xn_zge (tgt := 25) hx hb (by omega) dX3_at_12 (by decide) ?_
    refine lv_iload_n hx hb dX3_at_25 rfl (lv_at hl 2 rfl) ?_
    refine lv_aload_n hx hb dX3_at_26 rfl (lv_at hl 0 rfl) ?_
    refine va_get (D := (dC, dI)) (ci := 3) (v := .ref (q 0)) (C := RX3) (T := TX3) (N := 3) hx hb hts inX3 hown hK hP 17 rfl rfl 0 (by decide) (hts _ tw_131) (fun _ h9 => h9) rfl dX3_at_27 ?_
    refine lv_iload_n hx hb dX3_at_30 rfl (lv_at hl 1 rfl) ?_
    refine xc_Vi (As := [.int (nI ch)]) (wr := wC q cI k ++ wA q cI a ++ wSf q) ⟨hx, hb, hml, hown, hts⟩ (c_Rows_lengthOf l dC dI q cI cZ H.size r ch (by omega) h2) (cwV 1 hts (gV tw_335 tw_304 tw_305 tw_2 tw_306) rfl rfl rfl (by decide +kernel) ⟨Nat.le_of_ble_eq_true rfl, Nat.le_of_ble_eq_true rfl⟩) rfl hl.1 rfl (Nat.le_of_ble_eq_true rfl) dX3_at_31 ⟨Nat.zero_le _, Nat.zero_le _⟩ hP hD hK hS hA [0, 1, 2, 3, 4, 5, 6, 7, 8, 9] [10, 11, 12, 13, 14, 15, 16, 17] rfl rfl (by decide) (by decide) (by decide) [0, 1] rfl (q0 := 0) rfl rfl rfl eT_M (trivial) (fun r_6 u_7 H locs w_8 hP hD hS => ?_)
    obtain rfl := w_8
    have hP : va_P (dC, dI) vwCl (wX q cI cZ r k a) H := hP.sub [8, 9, 10, 11, 12, 13, 14, 15, 16, 17, 0, 1, 2, 3, 4, 5, 6, 7] rfl
    have hD : va_D A (wX q cI cZ r k a) := hD.sub [8, 9, 10, 11, 12, 13, 14, 15, 16, 17, 0, 1, 2, 3, 4, 5, 6, 7] (by decide) rfl
    refine xn_cge (tgt := 49) hx hb (by omega) (by omega) dX3_at_34 (by decide) (fun c_9 => ?_) (fun c_9 => ?_)
    · refine lv_iconst (v := zI (-1)) hx hb dX3_at_49 (by decide) ?_
      exact xr_i hx hb hr hlk (u := ()) (by unfold atZ; rw [if_neg (by omega)]) hP hK hD hS dX3_at_50
    · refine lv_aload_n hx hb dX3_at_37 rfl (lv_at hl 0 rfl) ?_
      refine va_get (D := (dC, dI)) (ci := 3) (v := .ref (q 0)) (C := RX3) (T := TX3) (N := 3) hx hb hts inX3 hown hK hP 17 rfl rfl 0 (by decide) (hts _ tw_131) (fun _ h9 => h9) rfl dX3_at_38 ?_
      refine lv_iload_n hx hb dX3_at_41 rfl (lv_at hl 1 rfl) ?_
      refine lv_iload_n hx hb dX3_at_42 rfl (lv_at hl 2 rfl) ?_
      refine xc_Vi (As := [.int (nI ch), .int (nI kk)]) (wr := wC q cI k ++ wA q cI a ++ wSf q) ⟨hx, hb, hml, hown, hts⟩ (c_Rows_latchAt l dC dI q cI cZ H.size r ch kk (by omega) (by omega)) (cwV 2 hts (gV tw_336 tw_337 tw_338 tw_2 tw_339) rfl rfl rfl (by decide +kernel) ⟨Nat.le_of_ble_eq_true rfl, Nat.le_of_ble_eq_true rfl⟩) rfl hl.1 rfl (Nat.le_of_ble_eq_true rfl) dX3_at_43 ⟨Nat.zero_le _, Nat.zero_le _⟩ hP hD hK hS hA [0, 1, 2, 3, 4, 5, 6, 7, 8, 9] [10, 11, 12, 13, 14, 15, 16, 17] rfl rfl (by decide) (by decide) (by decide) [0, 1] rfl (q0 := 0) rfl rfl rfl eT_M (trivial) (fun r_10 u_11 H locs w_12 hP hD hS => ?_)
      obtain rfl := w_12
      have hP : va_P (dC, dI) vwCl (wX q cI cZ r k a) H := hP.sub [8, 9, 10, 11, 12, 13, 14, 15, 16, 17, 0, 1, 2, 3, 4, 5, 6, 7] rfl
      have hD : va_D A (wX q cI cZ r k a) := hD.sub [8, 9, 10, 11, 12, 13, 14, 15, 16, 17, 0, 1, 2, 3, 4, 5, 6, 7] (by decide) rfl
      refine lv_goto (tgt := 50) hx hb dX3_at_46 (by decide) ?_
      refine xt_i (show nI (r.rw (r.st ch + kk)) = zI ((r.rw (r.st ch + kk) : Nat) : Int) from (zI_nI _).symm) ?_
      exact xr_i hx hb hr hlk (u := ()) (by unfold atZ; rw [if_pos (by omega)]) hP hK hD hS dX3_at_50
set_option maxHeartbeats 4000000 in
set_option maxRecDepth 100000 in
theorem c_ScanRows_lockUp (l : Launch) (dC : Nat → ClassId) (dI : Nat → Nat → Nat) (q : Nat → Nat) (cI cZ : ClassId) (sz : Nat) (r : RS) (k : CS) (a : AS) (ch kk : Nat) (hB : RB r) (h0 : r.c ≤ 8) (h1 : ch < r.c) (h2 : r.st ch ≤ r.st (ch + 1)) (h3 : r.st (ch + 1) ≤ 32) (h4 : kk < r.st (ch + 1) - r.st ch) : Met l yX3_lockUp (.code yX3_lockUp cX3_lockUp 3 (some .boolean) :: ALLG) ({ frames := 2, cells := 0, slots := 0, locals := 44 }) (va_Pc [.ref (q 17), .int (nI ch), .int (nI kk)] (cP (dC, dI) vwCl [(cI, .int), (cZ, .boolean)] (wX q cI cZ r k a) eT sz)) (va_Qi (fun (x : Int32) (_ : Unit) => x = nI (ccb r (r.st ch + kk))) (fun (_ : Unit) => cB (dC, dI) vwCl [(cI, .int), (cZ, .boolean)] (wX q cI cZ r k a) (va_A (wX q cI cZ r k a) sz)) (va_A (wX q cI cZ r k a) sz)) 0 0 (va_A (wX q cI cZ r k a) sz) := by
  refine xm_of (cc := cX3_lockUp) (maxL := 3) (ret := some .boolean) (by decide) rfl (Nat.le_of_ble_eq_true rfl) ?_
  intro p e s m below meth c A hAe hx hb hr hml hts0 hown hlk hin hsz H locs hP hK hD hA hS hE ls hl
  have hts : ∀ w ∈ ALLG, w.before _ s = true := fun w h => hts0 w (List.mem_cons_of_mem _ h)
  rw [← hAe]
  have g1 := ccb_le r (r.st ch + kk)
  have hl : lv_has ls 3 [(0, .ref (q 17)), (1, .int (nI ch)), (2, .int (nI kk))] := hl
  refine lv_aload_n hx hb dX3_lockUp_0 rfl (lv_at hl 0 rfl) ?_
  refine va_get (D := (dC, dI)) (ci := 3) (v := .ref (q 0)) (C := RX3) (T := TX3) (N := 3) hx hb hts inX3 hown hK hP 17 rfl rfl 0 (by decide) (hts _ tw_131) (fun _ h9 => h9) rfl dX3_lockUp_1 ?_
  refine lv_iload_n hx hb dX3_lockUp_4 rfl (lv_at hl 1 rfl) ?_
  refine xc_Vi (As := [.int (nI ch)]) (wr := wC q cI k ++ wA q cI a ++ wSf q) ⟨hx, hb, hml, hown, hts⟩ (c_Rows_hasChain l dC dI q cI cZ H.size r (nI ch)) (cwV 1 hts (gV tw_315 tw_316 tw_317 tw_2 tw_318) rfl rfl rfl (by decide +kernel) ⟨Nat.le_of_ble_eq_true rfl, Nat.le_of_ble_eq_true rfl⟩) rfl hl.1 rfl (Nat.le_of_ble_eq_true rfl) dX3_lockUp_5 ⟨Nat.zero_le _, Nat.zero_le _⟩ hP hD hK hS hA [0, 1, 2, 3, 4, 5, 6, 7, 8, 9] [10, 11, 12, 13, 14, 15, 16, 17] rfl rfl (by decide) (by decide) (by decide) [0, 1] rfl (q0 := 0) rfl rfl rfl eT_M (trivial) (fun r_1 u_2 H locs w_3 hP hD hS => ?_)
  obtain rfl := w_3
  have hP : va_P (dC, dI) vwCl (wX q cI cZ r k a) H := hP.sub [8, 9, 10, 11, 12, 13, 14, 15, 16, 17, 0, 1, 2, 3, 4, 5, 6, 7] rfl
  have hD : va_D A (wX q cI cZ r k a) := hD.sub [8, 9, 10, 11, 12, 13, 14, 15, 16, 17, 0, 1, 2, 3, 4, 5, 6, 7] (by decide) rfl
  refine xt_i (show nI (hcN (nI ch) r.c) = nI 1 from congrArg nI (hcN_1 h1 h0)) ?_
  refine xn_zeq (tgt := 27) hx hb (by omega) dX3_lockUp_8 (by decide) (fun c_4 => ?_) (fun c_4 => ?_)
  · exact absurd (show False by omega) id
  · refine lv_iload_n hx hb dX3_lockUp_11 rfl (lv_at hl 2 rfl) ?_
    refine xn_zlt (tgt := 27) hx hb (by omega) dX3_lockUp_12 (by decide) ?_
    refine lv_iload_n hx hb dX3_lockUp_15 rfl (lv_at hl 2 rfl) ?_
    refine lv_aload_n hx hb dX3_lockUp_16 rfl (lv_at hl 0 rfl) ?_
    refine va_get (D := (dC, dI)) (ci := 3) (v := .ref (q 0)) (C := RX3) (T := TX3) (N := 3) hx hb hts inX3 hown hK hP 17 rfl rfl 0 (by decide) (hts _ tw_131) (fun _ h9 => h9) rfl dX3_lockUp_17 ?_
    refine lv_iload_n hx hb dX3_lockUp_20 rfl (lv_at hl 1 rfl) ?_
    refine xc_Vi (As := [.int (nI ch)]) (wr := wC q cI k ++ wA q cI a ++ wSf q) ⟨hx, hb, hml, hown, hts⟩ (c_Rows_lengthOf l dC dI q cI cZ H.size r ch (by omega) h2) (cwV 1 hts (gV tw_335 tw_304 tw_305 tw_2 tw_306) rfl rfl rfl (by decide +kernel) ⟨Nat.le_of_ble_eq_true rfl, Nat.le_of_ble_eq_true rfl⟩) rfl hl.1 rfl (Nat.le_of_ble_eq_true rfl) dX3_lockUp_21 ⟨Nat.zero_le _, Nat.zero_le _⟩ hP hD hK hS hA [0, 1, 2, 3, 4, 5, 6, 7, 8, 9] [10, 11, 12, 13, 14, 15, 16, 17] rfl rfl (by decide) (by decide) (by decide) [0, 1] rfl (q0 := 0) rfl rfl rfl eT_M (trivial) (fun r_6 u_7 H locs w_8 hP hD hS => ?_)
    obtain rfl := w_8
    have hP : va_P (dC, dI) vwCl (wX q cI cZ r k a) H := hP.sub [8, 9, 10, 11, 12, 13, 14, 15, 16, 17, 0, 1, 2, 3, 4, 5, 6, 7] rfl
    have hD : va_D A (wX q cI cZ r k a) := hD.sub [8, 9, 10, 11, 12, 13, 14, 15, 16, 17, 0, 1, 2, 3, 4, 5, 6, 7] (by decide) rfl
    refine xn_clt (tgt := 37) hx hb (by omega) (by omega) dX3_lockUp_24 (by decide) (fun c_9 => ?_) (fun c_9 => ?_)
    · refine lv_aload_n hx hb dX3_lockUp_37 rfl (lv_at hl 0 rfl) ?_
      refine va_get (D := (dC, dI)) (ci := 3) (v := .ref (q 0)) (C := RX3) (T := TX3) (N := 3) hx hb hts inX3 hown hK hP 17 rfl rfl 0 (by decide) (hts _ tw_131) (fun _ h9 => h9) rfl dX3_lockUp_38 ?_
      refine lv_iload_n hx hb dX3_lockUp_41 rfl (lv_at hl 1 rfl) ?_
      refine lv_iload_n hx hb dX3_lockUp_42 rfl (lv_at hl 2 rfl) ?_
      refine xc_Vi (As := [.int (nI ch), .int (nI kk)]) (wr := wC q cI k ++ wA q cI a ++ wSf q) ⟨hx, hb, hml, hown, hts⟩ (c_Rows_clockChangesBehind l dC dI q cI cZ H.size r ch kk hB (by omega) (by omega)) (cwV 2 hts (gV tw_347 tw_348 tw_349 tw_2 tw_350) rfl rfl rfl (by decide +kernel) ⟨Nat.le_of_ble_eq_true rfl, Nat.le_of_ble_eq_true rfl⟩) rfl hl.1 rfl (Nat.le_of_ble_eq_true rfl) dX3_lockUp_43 ⟨Nat.zero_le _, Nat.zero_le _⟩ hP hD hK hS hA [0, 1, 2, 3, 4, 5, 6, 7, 8, 9] [10, 11, 12, 13, 14, 15, 16, 17] rfl rfl (by decide) (by decide) (by decide) [0, 1] rfl (q0 := 0) rfl rfl rfl eT_M (trivial) (fun r_10 u_11 H locs w_12 hP hD hS => ?_)
      obtain rfl := w_12
      have hP : va_P (dC, dI) vwCl (wX q cI cZ r k a) H := hP.sub [8, 9, 10, 11, 12, 13, 14, 15, 16, 17, 0, 1, 2, 3, 4, 5, 6, 7] rfl
      have hD : va_D A (wX q cI cZ r k a) := hD.sub [8, 9, 10, 11, 12, 13, 14, 15, 16, 17, 0, 1, 2, 3, 4, 5, 6, 7] (by decide) rfl
      exact xr_z hx hb hr hlk (nar01v (by omega)) (u := ()) rfl hP hK hD hS dX3_lockUp_46
    · exact absurd (show False by omega) id
set_option maxHeartbeats 4000000 in
set_option maxRecDepth 100000 in
theorem c_ScanRows_travel (l : Launch) (dC : Nat → ClassId) (dI : Nat → Nat → Nat) (q : Nat → Nat) (cI cZ : ClassId) (sz : Nat) (r : RS) (k : CS) (a : AS) (hB : RB r) : Met l yX3_travel (.code yX3_travel cX3_travel 1 (some .long) :: ALLG) ({ frames := 3, cells := 0, slots := 0, locals := 70 }) (va_Pc [.ref (q 17)] (cP (dC, dI) vwCl [(cI, .int), (cZ, .boolean)] (wX q cI cZ r k a) eT sz)) (va_Ql (fun (x : Int64) (_ : Unit) => x = lN (sumN (wb r) r.p)) (fun (_ : Unit) => cB (dC, dI) vwCl [(cI, .int), (cZ, .boolean)] (wX q cI cZ r k a) (va_A (wX q cI cZ r k a) sz)) (va_A (wX q cI cZ r k a) sz)) 0 0 (va_A (wX q cI cZ r k a) sz) := by
  refine xm_of (cc := cX3_travel) (maxL := 1) (ret := some .long) (by decide) rfl (Nat.le_of_ble_eq_true rfl) ?_
  intro p e s m below meth c A hAe hx hb hr hml hts0 hown hlk hin hsz H locs hP hK hD hA hS hE ls hl
  have hts : ∀ w ∈ ALLG, w.before _ s = true := fun w h => hts0 w (List.mem_cons_of_mem _ h)
  rw [← hAe]
  have hl : lv_has ls 1 [(0, .ref (q 17))] := hl
  refine lv_aload_n hx hb dX3_travel_0 rfl (lv_at hl 0 rfl) ?_
  refine va_get (D := (dC, dI)) (ci := 3) (v := .ref (q 0)) (C := RX3) (T := TX3) (N := 3) hx hb hts inX3 hown hK hP 17 rfl rfl 0 (by decide) (hts _ tw_131) (fun _ h9 => h9) rfl dX3_travel_1 ?_
  refine xc_Vl (As := []) (wr := wC q cI k ++ wA q cI a ++ wSf q) ⟨hx, hb, hml, hown, hts⟩ (c_Rows_wholeWay l dC dI q cI cZ H.size r hB) (cwV 0 hts (gV tw_145 tw_146 tw_147 tw_2 tw_148) rfl rfl rfl (by decide +kernel) ⟨Nat.le_of_ble_eq_true rfl, Nat.le_of_ble_eq_true rfl⟩) rfl hl.1 rfl (Nat.le_of_ble_eq_true rfl) dX3_travel_4 ⟨Nat.zero_le _, Nat.zero_le _⟩ hP hD hK hS hA [0, 1, 2, 3, 4, 5, 6, 7, 8, 9] [10, 11, 12, 13, 14, 15, 16, 17] rfl rfl (by decide) (by decide) (by decide) [0, 1] rfl (q0 := 0) rfl rfl rfl eT_M (trivial) (fun r_1 u_2 H locs w_3 hP hD hS => ?_)
  obtain rfl := w_3
  have hP : va_P (dC, dI) vwCl (wX q cI cZ r k a) H := hP.sub [8, 9, 10, 11, 12, 13, 14, 15, 16, 17, 0, 1, 2, 3, 4, 5, 6, 7] rfl
  have hD : va_D A (wX q cI cZ r k a) := hD.sub [8, 9, 10, 11, 12, 13, 14, 15, 16, 17, 0, 1, 2, 3, 4, 5, 6, 7] (by decide) rfl
  exact xr_l hx hb hr hlk (u := ()) rfl hP hK hD hS dX3_travel_7
set_option maxHeartbeats 4000000 in
set_option maxRecDepth 100000 in
theorem c_ScanRows_improve (l : Launch) (dC : Nat → ClassId) (dI : Nat → Nat → Nat) (q : Nat → Nat) (cI cZ : ClassId) (sz : Nat) (r : RS) (k : CS) (a : AS) (n0 : Nat) (hB : RB r) (hC : RC r) (h1 : n0 < 2 ^ 31) : Met l yX3_improve (.code yX3_improve cX3_improve 2 (some .int) :: ALLG) ({ frames := 6, cells := 0, slots := 0, locals := 135 }) (va_Pc [.ref (q 17), .int (nI n0)] (cP (dC, dI) vwCl [(cI, .int), (cZ, .boolean)] (wX q cI cZ r k a) eT sz)) (va_Qi (fun (x : Int32) (u : RS) => ∃ kq, kq ≤ n0 ∧ x = nI kq ∧ impR n0 r kq u) (fun (u : RS) => cB (dC, dI) vwCl [(cI, .int), (cZ, .boolean)] (wX q cI cZ u k a) (va_A (wX q cI cZ r k a) sz)) (va_A (wX q cI cZ r k a) sz)) 0 0 (va_A (wX q cI cZ r k a) sz) := by
  refine xm_of (cc := cX3_improve) (maxL := 2) (ret := some .int) (by decide) rfl (Nat.le_of_ble_eq_true rfl) ?_
  intro p e s m below meth c A hAe hx hb hr hml hts0 hown hlk hin hsz H locs hP hK hD hA hS hE ls hl
  have hts : ∀ w ∈ ALLG, w.before _ s = true := fun w h => hts0 w (List.mem_cons_of_mem _ h)
  rw [← hAe]
  have hl : lv_has ls 2 [(0, .ref (q 17)), (1, .int (nI n0))] := hl
  refine lv_iload_n hx hb dX3_improve_0 rfl (lv_at hl 1 rfl) ?_
  refine xn_zge (tgt := 14) hx hb (by omega) dX3_improve_1 (by decide) ?_
  refine lv_aload_n hx hb dX3_improve_14 rfl (lv_at hl 0 rfl) ?_
  refine va_get (D := (dC, dI)) (ci := 3) (v := .ref (q 0)) (C := RX3) (T := TX3) (N := 3) hx hb hts inX3 hown hK hP 17 rfl rfl 0 (by decide) (hts _ tw_131) (fun _ h9 => h9) rfl dX3_improve_15 ?_
  refine lv_iload_n hx hb dX3_improve_18 rfl (lv_at hl 1 rfl) ?_
  refine xc_Vi (As := [.int (nI n0)]) (wr := wC q cI k ++ wA q cI a ++ wSf q) ⟨hx, hb, hml, hown, hts⟩ (c_Rows_exchangeUpTo l dC dI q cI cZ H.size r n0 hB hC h1) (cwV 1 hts (gV tw_359 tw_360 tw_361 tw_2 tw_362) rfl rfl rfl (by decide +kernel) ⟨Nat.le_of_ble_eq_true rfl, Nat.le_of_ble_eq_true rfl⟩) rfl hl.1 rfl (Nat.le_of_ble_eq_true rfl) dX3_improve_19 ⟨Nat.zero_le _, Nat.zero_le _⟩ hP hD hK hS hA [0, 1, 2, 3, 4, 5, 6, 7, 8, 9] [10, 11, 12, 13, 14, 15, 16, 17] rfl rfl (by decide) (by decide) (by decide) [0, 1] rfl (q0 := 0) rfl rfl rfl eT_M (trivial) (fun r_2 u_3 H locs w_4 hP hD hS => ?_)
  obtain ⟨kq, kq1, rfl, kq2⟩ := w_4
  have hP : va_P (dC, dI) vwCl (wX q cI cZ u_3 k a) H := hP.sub [8, 9, 10, 11, 12, 13, 14, 15, 16, 17, 0, 1, 2, 3, 4, 5, 6, 7] rfl
  have hD : va_D A (wX q cI cZ u_3 k a) := hD.sub [8, 9, 10, 11, 12, 13, 14, 15, 16, 17, 0, 1, 2, 3, 4, 5, 6, 7] (by decide) rfl
  exact xr_i hx hb hr hlk (u := u_3) (⟨kq, kq1, rfl, kq2⟩) hP hK hD hS dX3_improve_22
set_option maxHeartbeats 4000000 in
set_option maxRecDepth 100000 in
theorem c_ScanRows_rule (l : Launch) (dC : Nat → ClassId) (dI : Nat → Nat → Nat) (q : Nat → Nat) (cI cZ : ClassId) (sz : Nat) (r : RS) (k : CS) (a : AS) (kq w0 : Nat) (hB : RB r) (h1 : kq < 2 ^ 31) (h2 : w0 < 2) : Met l yX3_rule (.code yX3_rule cX3_rule 3 (some .int) :: ALLG) ({ frames := 2, cells := 0, slots := 0, locals := 47 }) (va_Pc [.ref (q 17), .int (nI kq), .int (nI w0)] (cP (dC, dI) vwCl [(cI, .int), (cZ, .boolean)] (wX q cI cZ r k a) eT sz)) (va_Qi (fun (x : Int32) (_ : Unit) => rulR (brT r) (2 * r.n) kq w0 x) (fun (_ : Unit) => cB (dC, dI) vwCl [(cI, .int), (cZ, .boolean)] (wX q cI cZ r k a) (va_A (wX q cI cZ r k a) sz)) (va_A (wX q cI cZ r k a) sz)) 0 0 (va_A (wX q cI cZ r k a) sz) := by
  refine xm_of (cc := cX3_rule) (maxL := 3) (ret := some .int) (by decide) rfl (Nat.le_of_ble_eq_true rfl) ?_
  intro p e s m below meth c A hAe hx hb hr hml hts0 hown hlk hin hsz H locs hP hK hD hA hS hE ls hl
  have hts : ∀ w ∈ ALLG, w.before _ s = true := fun w h => hts0 w (List.mem_cons_of_mem _ h)
  rw [← hAe]
  have hl : lv_has ls 3 [(0, .ref (q 17)), (1, .int (nI kq)), (2, .int (nI w0))] := hl
  refine lv_iload_n hx hb dX3_rule_0 rfl (lv_at hl 1 rfl) ?_
  refine xn_zlt (tgt := 13) hx hb (by omega) dX3_rule_1 (by decide) ?_
  refine lv_iload_n hx hb dX3_rule_4 rfl (lv_at hl 2 rfl) ?_
  refine xn_zlt (tgt := 13) hx hb (by omega) dX3_rule_5 (by decide) ?_
  refine lv_iload_n hx hb dX3_rule_8 rfl (lv_at hl 2 rfl) ?_
  refine lv_iconst (v := nI 1) hx hb dX3_rule_9 (by decide) ?_
  refine xn_cle (tgt := 23) hx hb (by omega) (by omega) dX3_rule_10 (by decide) (fun c_3 => ?_) (fun c_3 => ?_)
  · refine lv_aload_n hx hb dX3_rule_23 rfl (lv_at hl 0 rfl) ?_
    refine va_get (D := (dC, dI)) (ci := 3) (v := .ref (q 0)) (C := RX3) (T := TX3) (N := 3) hx hb hts inX3 hown hK hP 17 rfl rfl 0 (by decide) (hts _ tw_131) (fun _ h9 => h9) rfl dX3_rule_24 ?_
    refine lv_iload_n hx hb dX3_rule_27 rfl (lv_at hl 1 rfl) ?_
    refine lv_iload_n hx hb dX3_rule_28 rfl (lv_at hl 2 rfl) ?_
    refine xc_Vi (As := [.int (nI kq), .int (nI w0)]) (wr := wC q cI k ++ wA q cI a ++ wSf q) ⟨hx, hb, hml, hown, hts⟩ (c_Rows_brokenRule l dC dI q cI cZ H.size r kq w0 hB h1 h2) (cwV 2 hts (gV tw_391 tw_392 tw_393 tw_2 tw_394) rfl rfl rfl (by decide +kernel) ⟨Nat.le_of_ble_eq_true rfl, Nat.le_of_ble_eq_true rfl⟩) rfl hl.1 rfl (Nat.le_of_ble_eq_true rfl) dX3_rule_29 ⟨Nat.zero_le _, Nat.zero_le _⟩ hP hD hK hS hA [0, 1, 2, 3, 4, 5, 6, 7, 8, 9] [10, 11, 12, 13, 14, 15, 16, 17] rfl rfl (by decide) (by decide) (by decide) [0, 1] rfl (q0 := 0) rfl rfl rfl eT_M (trivial) (fun r_4 u_5 H locs w_6 hP hD hS => ?_)
    have hq := w_6
    have hP : va_P (dC, dI) vwCl (wX q cI cZ r k a) H := hP.sub [8, 9, 10, 11, 12, 13, 14, 15, 16, 17, 0, 1, 2, 3, 4, 5, 6, 7] rfl
    have hD : va_D A (wX q cI cZ r k a) := hD.sub [8, 9, 10, 11, 12, 13, 14, 15, 16, 17, 0, 1, 2, 3, 4, 5, 6, 7] (by decide) rfl
    exact xr_i hx hb hr hlk (u := ()) hq hP hK hD hS dX3_rule_32
  · exact absurd (show False by omega) id
set_option maxHeartbeats 4000000 in
set_option maxRecDepth 100000 in
theorem c_ScanRows_set (l : Launch) (dC : Nat → ClassId) (dI : Nat → Nat → Nat) (q : Nat → Nat) (cI cZ : ClassId) (sz : Nat) (r : RS) (k : CS) (a : AS) (i f : Nat) (hB : RB r) (h1 : i < r.n) (h2 : f < 2) : Met l yX3_set (.code yX3_set cX3_set 3 (some .boolean) :: ALLG) ({ frames := 1, cells := 0, slots := 0, locals := 23 }) (va_Pc [.ref (q 17), .int (nI i), .int (nI f)] (cP (dC, dI) vwCl [(cI, .int), (cZ, .boolean)] (wX q cI cZ r k a) eT sz)) (va_Qi (fun (x : Int32) (u : RS) => x = nI (if r.fl i = f then 0 else 1) ∧ u = r.s_fl (va_up r.fl i f)) (fun (u : RS) => cB (dC, dI) vwCl [(cI, .int), (cZ, .boolean)] (wX q cI cZ u k a) (va_A (wX q cI cZ r k a) sz)) (va_A (wX q cI cZ r k a) sz)) 0 0 (va_A (wX q cI cZ r k a) sz) := by
  refine xm_of (cc := cX3_set) (maxL := 3) (ret := some .boolean) (by decide) rfl (Nat.le_of_ble_eq_true rfl) ?_
  intro p e s m below meth c A hAe hx hb hr hml hts0 hown hlk hin hsz H locs hP hK hD hA hS hE ls hl
  have hts : ∀ w ∈ ALLG, w.before _ s = true := fun w h => hts0 w (List.mem_cons_of_mem _ h)
  rw [← hAe]
  have b_n := hB.1
  have b_c := hB.2.1
  have b_p := hB.2.2.1
  have g9 : (if r.fl i = f then 0 else 1) < 2 := by split <;> decide
  have hl : lv_has ls 3 [(0, .ref (q 17)), (1, .int (nI i)), (2, .int (nI f))] := hl
  refine lv_aload_n hx hb dX3_set_0 rfl (lv_at hl 0 rfl) ?_
  refine lv_iload_n hx hb dX3_set_1 rfl (lv_at hl 1 rfl) ?_
  refine xc_Vv (As := [.int (nI i)]) (wr := []) ⟨hx, hb, hml, hown, hts⟩ (c_ScanRows_requireLatch l dC dI q cI cZ H.size r k a i h1 (by omega)) (cwV 1 hts (gV tw_406 tw_408 sw_13 tw_1 tw_409) rfl rfl rfl (by decide +kernel) ⟨Nat.le_of_ble_eq_true rfl, Nat.le_of_ble_eq_true rfl⟩) rfl hl.1 rfl (Nat.le_of_ble_eq_true rfl) dX3_set_2 ⟨Nat.zero_le _, Nat.zero_le _⟩ hP hD hK hS hA [0, 1, 2, 3, 4, 5, 6, 7, 8, 9, 10, 11, 12, 13, 14, 15, 16, 17] [] rfl rfl (by decide) (by decide) (by decide) [0, 1] rfl (q0 := 17) rfl rfl rfl eT_M (trivial) (fun u_2 H locs w_3 hP hD hS => ?_)
  have hP : va_P (dC, dI) vwCl (wX q cI cZ r k a) H := hP
  have hD : va_D A (wX q cI cZ r k a) := hD
  refine lv_aload_n hx hb dX3_set_5 rfl (lv_at hl 0 rfl) ?_
  refine va_get (D := (dC, dI)) (ci := 3) (v := .ref (q 0)) (C := RX3) (T := TX3) (N := 3) hx hb hts inX3 hown hK hP 17 rfl rfl 0 (by decide) (hts _ tw_131) (fun _ h9 => h9) rfl dX3_set_6 ?_
  refine lv_iload_n hx hb dX3_set_9 rfl (lv_at hl 1 rfl) ?_
  refine lv_iload_n hx hb dX3_set_10 rfl (lv_at hl 2 rfl) ?_
  refine xc_Vi (As := [.int (nI i), .int (nI f)]) (wr := wC q cI k ++ wA q cI a ++ wSf q) ⟨hx, hb, hml, hown, hts⟩ (c_Rows_changeSet l dC dI q cI cZ H.size r i f hB (by omega) h2) (cwV 2 hts (gV tw_411 tw_412 tw_413 tw_2 tw_414) rfl rfl rfl (by decide +kernel) ⟨Nat.le_of_ble_eq_true rfl, Nat.le_of_ble_eq_true rfl⟩) rfl hl.1 rfl (Nat.le_of_ble_eq_true rfl) dX3_set_11 ⟨Nat.zero_le _, Nat.zero_le _⟩ hP hD hK hS hA [0, 1, 2, 3, 4, 5, 6, 7, 8, 9] [10, 11, 12, 13, 14, 15, 16, 17] rfl rfl (by decide) (by decide) (by decide) [0, 1] rfl (q0 := 0) rfl rfl rfl eT_M (trivial) (fun r_4 u_5 H locs w_6 hP hD hS => ?_)
  obtain ⟨rfl, rfl⟩ := w_6
  have hP : va_P (dC, dI) vwCl (wX q cI cZ (RS.s_fl r (va_up (RS.fl r) i f)) k a) H := hP.sub [8, 9, 10, 11, 12, 13, 14, 15, 16, 17, 0, 1, 2, 3, 4, 5, 6, 7] rfl
  have hD : va_D A (wX q cI cZ (RS.s_fl r (va_up (RS.fl r) i f)) k a) := hD.sub [8, 9, 10, 11, 12, 13, 14, 15, 16, 17, 0, 1, 2, 3, 4, 5, 6, 7] (by decide) rfl
  exact xr_z hx hb hr hlk (nar01v (by omega)) (u := RS.s_fl r (va_up (RS.fl r) i f)) (⟨rfl, rfl⟩) hP hK hD hS dX3_set_14
set_option maxHeartbeats 4000000 in
set_option maxRecDepth 100000 in
theorem c_ScanRows_load (l : Launch) (dC : Nat → ClassId) (dI : Nat → Nat → Nat) (q : Nat → Nat) (cI cZ : ClassId) (sz : Nat) (r : RS) (k : CS) (a : AS) (i : Nat) (v : Int32) (hB : RB r) (h1 : i < r.n) : Met l yX3_load (.code yX3_load cX3_load 3 none :: ALLG) ({ frames := 1, cells := 0, slots := 0, locals := 21 }) (va_Pc [.ref (q 17), .int (nI i), .int v] (cP (dC, dI) vwCl [(cI, .int), (cZ, .boolean)] (wX q cI cZ r k a) eT sz)) (va_Qv (fun (u : RS) => u = r.s_vb (va_up r.vb i (bitN v))) (fun (u : RS) => cB (dC, dI) vwCl [(cI, .int), (cZ, .boolean)] (wX q cI cZ u k a) (va_A (wX q cI cZ r k a) sz)) (va_A (wX q cI cZ r k a) sz)) 0 0 (va_A (wX q cI cZ r k a) sz) := by
  refine xm_of (cc := cX3_load) (maxL := 3) (ret := none) (by decide) rfl (Nat.le_of_ble_eq_true rfl) ?_
  intro p e s m below meth c A hAe hx hb hr hml hts0 hown hlk hin hsz H locs hP hK hD hA hS hE ls hl
  have hts : ∀ w ∈ ALLG, w.before _ s = true := fun w h => hts0 w (List.mem_cons_of_mem _ h)
  rw [← hAe]
  have b_n := hB.1
  have b_c := hB.2.1
  have b_p := hB.2.2.1
  have hl : lv_has ls 3 [(0, .ref (q 17)), (1, .int (nI i)), (2, .int v)] := hl
  refine lv_aload_n hx hb dX3_load_0 rfl (lv_at hl 0 rfl) ?_
  refine lv_iload_n hx hb dX3_load_1 rfl (lv_at hl 1 rfl) ?_
  refine xc_Vv (As := [.int (nI i)]) (wr := []) ⟨hx, hb, hml, hown, hts⟩ (c_ScanRows_requireLatch l dC dI q cI cZ H.size r k a i h1 (by omega)) (cwV 1 hts (gV tw_406 tw_408 sw_13 tw_1 tw_409) rfl rfl rfl (by decide +kernel) ⟨Nat.le_of_ble_eq_true rfl, Nat.le_of_ble_eq_true rfl⟩) rfl hl.1 rfl (Nat.le_of_ble_eq_true rfl) dX3_load_2 ⟨Nat.zero_le _, Nat.zero_le _⟩ hP hD hK hS hA [0, 1, 2, 3, 4, 5, 6, 7, 8, 9, 10, 11, 12, 13, 14, 15, 16, 17] [] rfl rfl (by decide) (by decide) (by decide) [0, 1] rfl (q0 := 17) rfl rfl rfl eT_M (trivial) (fun u_2 H locs w_3 hP hD hS => ?_)
  have hP : va_P (dC, dI) vwCl (wX q cI cZ r k a) H := hP
  have hD : va_D A (wX q cI cZ r k a) := hD
  refine lv_aload_n hx hb dX3_load_5 rfl (lv_at hl 0 rfl) ?_
  refine va_get (D := (dC, dI)) (ci := 3) (v := .ref (q 0)) (C := RX3) (T := TX3) (N := 3) hx hb hts inX3 hown hK hP 17 rfl rfl 0 (by decide) (hts _ tw_131) (fun _ h9 => h9) rfl dX3_load_6 ?_
  refine va_get (D := (dC, dI)) (ci := 2) (v := .ref (q 1)) (C := RX2) (T := TX2) (N := 12) hx hb hts inX2 hown hK hP 0 rfl rfl 3 (by decide) (hts _ tw_34) (fun _ h9 => h9) rfl dX3_load_9 ?_
  refine lv_iload_n hx hb dX3_load_12 rfl (lv_at hl 1 rfl) ?_
  refine lv_iload_n hx hb dX3_load_13 rfl (lv_at hl 2 rfl) ?_
  refine xc_Si (As := [.int v]) (wr := wX q cI cZ r k a) ⟨hx, hb, hml, hown, hts⟩ (c_ScanRows_asBit l dC dI q cI cZ H.size v) (cwS 1 hts (gS tw_422 tw_423 tw_1 tw_424) rfl rfl rfl (by decide +kernel) ⟨Nat.le_of_ble_eq_true rfl, Nat.le_of_ble_eq_true rfl⟩) rfl hl.1 rfl (Nat.le_of_ble_eq_true rfl) dX3_load_14 ⟨Nat.zero_le _, Nat.zero_le _⟩ hP hD hK hS hA [] [0, 1, 2, 3, 4, 5, 6, 7, 8, 9, 10, 11, 12, 13, 14, 15, 16, 17] rfl rfl (by decide) (by decide) (by decide) [0, 1] rfl eT_M (trivial) (fun r_4 u_5 H locs w_6 hP hD hS => ?_)
  obtain rfl := w_6
  have hP : va_P (dC, dI) vwCl (wX q cI cZ r k a) H := hP
  have hD : va_D A (wX q cI cZ r k a) := hD
  refine xa_ist hx hb hK hP hD hS 1 0 rfl rfl (by omega) (by decide) (aN_up _ _ _) dX3_load_17 (fun H locs hP hD hS => ?_)
  have hP : va_P (dC, dI) vwCl (wX q cI cZ (RS.s_vb r (va_up (RS.vb r) i (bitN v))) k a) H := hP
  have hD : va_D A (wX q cI cZ (RS.s_vb r (va_up (RS.vb r) i (bitN v))) k a) := hD
  exact xr_v hx hb hr hlk (u := RS.s_vb r (va_up (RS.vb r) i (bitN v))) rfl hP hK hD hS dX3_load_18
set_option maxHeartbeats 4000000 in
set_option maxRecDepth 100000 in
theorem c_ScanRows_value (l : Launch) (dC : Nat → ClassId) (dI : Nat → Nat → Nat) (q : Nat → Nat) (cI cZ : ClassId) (sz : Nat) (r : RS) (k : CS) (a : AS) (i : Nat) (hB : RB r) (h1 : i < r.n) : Met l yX3_value (.code yX3_value cX3_value 2 (some .int) :: ALLG) ({ frames := 1, cells := 0, slots := 0, locals := 21 }) (va_Pc [.ref (q 17), .int (nI i)] (cP (dC, dI) vwCl [(cI, .int), (cZ, .boolean)] (wX q cI cZ r k a) eT sz)) (va_Qi (fun (x : Int32) (_ : Unit) => x = nI (r.vb i)) (fun (_ : Unit) => cB (dC, dI) vwCl [(cI, .int), (cZ, .boolean)] (wX q cI cZ r k a) (va_A (wX q cI cZ r k a) sz)) (va_A (wX q cI cZ r k a) sz)) 0 0 (va_A (wX q cI cZ r k a) sz) := by
  refine xm_of (cc := cX3_value) (maxL := 2) (ret := some .int) (by decide) rfl (Nat.le_of_ble_eq_true rfl) ?_
  intro p e s m below meth c A hAe hx hb hr hml hts0 hown hlk hin hsz H locs hP hK hD hA hS hE ls hl
  have hts : ∀ w ∈ ALLG, w.before _ s = true := fun w h => hts0 w (List.mem_cons_of_mem _ h)
  rw [← hAe]
  have b_n := hB.1
  have b_c := hB.2.1
  have b_p := hB.2.2.1
  have hl : lv_has ls 2 [(0, .ref (q 17)), (1, .int (nI i))] := hl
  refine lv_aload_n hx hb dX3_value_0 rfl (lv_at hl 0 rfl) ?_
  refine lv_iload_n hx hb dX3_value_1 rfl (lv_at hl 1 rfl) ?_
  refine xc_Vv (As := [.int (nI i)]) (wr := []) ⟨hx, hb, hml, hown, hts⟩ (c_ScanRows_requireLatch l dC dI q cI cZ H.size r k a i h1 (by omega)) (cwV 1 hts (gV tw_406 tw_408 sw_13 tw_1 tw_409) rfl rfl rfl (by decide +kernel) ⟨Nat.le_of_ble_eq_true rfl, Nat.le_of_ble_eq_true rfl⟩) rfl hl.1 rfl (Nat.le_of_ble_eq_true rfl) dX3_value_2 ⟨Nat.zero_le _, Nat.zero_le _⟩ hP hD hK hS hA [0, 1, 2, 3, 4, 5, 6, 7, 8, 9, 10, 11, 12, 13, 14, 15, 16, 17] [] rfl rfl (by decide) (by decide) (by decide) [0, 1] rfl (q0 := 17) rfl rfl rfl eT_M (trivial) (fun u_2 H locs w_3 hP hD hS => ?_)
  have hP : va_P (dC, dI) vwCl (wX q cI cZ r k a) H := hP
  have hD : va_D A (wX q cI cZ r k a) := hD
  refine lv_aload_n hx hb dX3_value_5 rfl (lv_at hl 0 rfl) ?_
  refine va_get (D := (dC, dI)) (ci := 3) (v := .ref (q 0)) (C := RX3) (T := TX3) (N := 3) hx hb hts inX3 hown hK hP 17 rfl rfl 0 (by decide) (hts _ tw_131) (fun _ h9 => h9) rfl dX3_value_6 ?_
  refine va_get (D := (dC, dI)) (ci := 2) (v := .ref (q 1)) (C := RX2) (T := TX2) (N := 12) hx hb hts inX2 hown hK hP 0 rfl rfl 3 (by decide) (hts _ tw_34) (fun _ h9 => h9) rfl dX3_value_9 ?_
  refine lv_iload_n hx hb dX3_value_12 rfl (lv_at hl 1 rfl) ?_
  refine xa_ild hx hb hK hP 1 0 rfl rfl (v := nI ((RS.vb r) i)) (by omega) (by decide) rfl dX3_value_13 ?_
  exact xr_i hx hb hr hlk (u := ()) rfl hP hK hD hS dX3_value_14
set_option maxHeartbeats 4000000 in
set_option maxRecDepth 100000 in
theorem c_ScanRows_shift (l : Launch) (dC : Nat → ClassId) (dI : Nat → Nat → Nat) (q : Nat → Nat) (cI cZ : ClassId) (sz : Nat) (r : RS) (k : CS) (a : AS) (bits : Int32) (hB : RB r) : Met l yX3_shift (.code yX3_shift cX3_shift 2 (some .int) :: ALLG) ({ frames := 2, cells := 0, slots := 0, locals := 51 }) (va_Pc [.ref (q 17), .int bits] (cP (dC, dI) vwCl [(cI, .int), (cZ, .boolean)] (wX q cI cZ r k a) eT sz)) (va_Qi (fun (x : Int32) (u : RS) => x = (shC r bits r.c).1 ∧ u = r.s_vb (shC r bits r.c).2) (fun (u : RS) => cB (dC, dI) vwCl [(cI, .int), (cZ, .boolean)] (wX q cI cZ u k a) (va_A (wX q cI cZ r k a) sz)) (va_A (wX q cI cZ r k a) sz)) 0 0 (va_A (wX q cI cZ r k a) sz) := by
  refine xm_of (cc := cX3_shift) (maxL := 2) (ret := some .int) (by decide) rfl (Nat.le_of_ble_eq_true rfl) ?_
  intro p e s m below meth c A hAe hx hb hr hml hts0 hown hlk hin hsz H locs hP hK hD hA hS hE ls hl
  have hts : ∀ w ∈ ALLG, w.before _ s = true := fun w h => hts0 w (List.mem_cons_of_mem _ h)
  rw [← hAe]
  have hl : lv_has ls 2 [(0, .ref (q 17)), (1, .int bits)] := hl
  refine lv_aload_n hx hb dX3_shift_0 rfl (lv_at hl 0 rfl) ?_
  refine va_get (D := (dC, dI)) (ci := 3) (v := .ref (q 0)) (C := RX3) (T := TX3) (N := 3) hx hb hts inX3 hown hK hP 17 rfl rfl 0 (by decide) (hts _ tw_131) (fun _ h9 => h9) rfl dX3_shift_1 ?_
  refine lv_iload_n hx hb dX3_shift_4 rfl (lv_at hl 1 rfl) ?_
  refine xc_Vi (As := [.int bits]) (wr := wC q cI k ++ wA q cI a ++ wSf q) ⟨hx, hb, hml, hown, hts⟩ (c_Rows_shiftChains l dC dI q cI cZ H.size r bits hB) (cwV 1 hts (gV tw_164 tw_165 tw_166 tw_2 tw_167) rfl rfl rfl (by decide +kernel) ⟨Nat.le_of_ble_eq_true rfl, Nat.le_of_ble_eq_true rfl⟩) rfl hl.1 rfl (Nat.le_of_ble_eq_true rfl) dX3_shift_5 ⟨Nat.zero_le _, Nat.zero_le _⟩ hP hD hK hS hA [0, 1, 2, 3, 4, 5, 6, 7, 8, 9] [10, 11, 12, 13, 14, 15, 16, 17] rfl rfl (by decide) (by decide) (by decide) [0, 1] rfl (q0 := 0) rfl rfl rfl eT_M (trivial) (fun r_1 u_2 H locs w_3 hP hD hS => ?_)
  obtain ⟨rfl, rfl⟩ := w_3
  have hP : va_P (dC, dI) vwCl (wX q cI cZ (RS.s_vb r (shC r bits r.c).2) k a) H := hP.sub [8, 9, 10, 11, 12, 13, 14, 15, 16, 17, 0, 1, 2, 3, 4, 5, 6, 7] rfl
  have hD : va_D A (wX q cI cZ (RS.s_vb r (shC r bits r.c).2) k a) := hD.sub [8, 9, 10, 11, 12, 13, 14, 15, 16, 17, 0, 1, 2, 3, 4, 5, 6, 7] (by decide) rfl
  exact xr_i hx hb hr hlk (u := RS.s_vb r (shC r bits r.c).2) (⟨rfl, rfl⟩) hP hK hD hS dX3_shift_8
set_option maxHeartbeats 4000000 in
set_option maxRecDepth 100000 in
theorem c_ScanRows_port (l : Launch) (dC : Nat → ClassId) (dI : Nat → Nat → Nat) (q : Nat → Nat) (cI cZ : ClassId) (sz : Nat) (r : RS) (k : CS) (a : AS) (kd : Nat) (h1 : k.n < 20) (h2 : kd < 2) : Met l yX3_port (.code yX3_port cX3_port 2 (some .int) :: ALLG) ({ frames := 1, cells := 0, slots := 0, locals := 22 }) (va_Pc [.ref (q 17), .int (nI kd)] (cP (dC, dI) vwCl [(cI, .int), (cZ, .boolean)] (wX q cI cZ r k a) eT sz)) (va_Qi (fun (x : Int32) (u : CS) => x = nI k.n ∧ u = (k.s_ki (va_up k.ki k.n kd)).s_n (k.n + 1)) (fun (u : CS) => cB (dC, dI) vwCl [(cI, .int), (cZ, .boolean)] (wX q cI cZ r u a) (va_A (wX q cI cZ r k a) sz)) (va_A (wX q cI cZ r k a) sz)) 0 0 (va_A (wX q cI cZ r k a) sz) := by
  refine xm_of (cc := cX3_port) (maxL := 2) (ret := some .int) (by decide) rfl (Nat.le_of_ble_eq_true rfl) ?_
  intro p e s m below meth c A hAe hx hb hr hml hts0 hown hlk hin hsz H locs hP hK hD hA hS hE ls hl
  have hts : ∀ w ∈ ALLG, w.before _ s = true := fun w h => hts0 w (List.mem_cons_of_mem _ h)
  rw [← hAe]
  have hl : lv_has ls 2 [(0, .ref (q 17)), (1, .int (nI kd))] := hl
  refine lv_aload_n hx hb dX3_port_0 rfl (lv_at hl 0 rfl) ?_
  refine va_get (D := (dC, dI)) (ci := 3) (v := .ref (q 10)) (C := RX3) (T := TX3) (N := 3) hx hb hts inX3 hown hK hP 17 rfl rfl 1 (by decide) (hts _ tw_132) (fun _ h9 => h9) rfl dX3_port_1 ?_
  refine va_get (D := (dC, dI)) (ci := 1) (v := .int (nI (CS.n k))) (C := RX1) (T := TX1) (N := 5) hx hb hts inX1 hown hK hP 10 rfl rfl 0 (by decide) (hts _ tw_78) (fun _ h9 => h9) rfl dX3_port_4 ?_
  refine lv_bipush (v := nI 20) hx hb dX3_port_7 (by decide) ?_
  refine xn_clt (tgt := 22) hx hb (by omega) (by omega) dX3_port_9 (by decide) (fun c_1 => ?_) (fun c_1 => ?_)
  · refine lv_iload_n hx hb dX3_port_22 rfl (lv_at hl 1 rfl) ?_
    refine xn_zeq (tgt := 41) hx hb (by omega) dX3_port_23 (by decide) (fun c_2 => ?_) (fun c_2 => ?_)
    · refine lv_aload_n hx hb dX3_port_41 rfl (lv_at hl 0 rfl) ?_
      refine va_get (D := (dC, dI)) (ci := 3) (v := .ref (q 10)) (C := RX3) (T := TX3) (N := 3) hx hb hts inX3 hown hK hP 17 rfl rfl 1 (by decide) (hts _ tw_132) (fun _ h9 => h9) rfl dX3_port_42 ?_
      refine lv_iload_n hx hb dX3_port_45 rfl (lv_at hl 1 rfl) ?_
      refine xc_Vi (As := [.int (nI kd)]) (wr := wR q cI cZ r ++ wA q cI a ++ wSf q) ⟨hx, hb, hml, hown, hts⟩ (c_Cells_addCell l dC dI q cI cZ H.size k kd h1) (cwV 1 hts (gV tw_441 tw_442 tw_443 tw_3 tw_444) rfl rfl rfl (by decide +kernel) ⟨Nat.le_of_ble_eq_true rfl, Nat.le_of_ble_eq_true rfl⟩) rfl hl.1 rfl (Nat.le_of_ble_eq_true rfl) dX3_port_46 ⟨Nat.zero_le _, Nat.zero_le _⟩ hP hD hK hS hA [10, 11, 12, 13, 14] [0, 1, 2, 3, 4, 5, 6, 7, 8, 9, 15, 16, 17] rfl rfl (by decide) (by decide) (by decide) [0, 1] rfl (q0 := 0) rfl rfl rfl eT_M (trivial) (fun r_3 u_4 H locs w_5 hP hD hS => ?_)
      obtain ⟨rfl, rfl⟩ := w_5
      have hP : va_P (dC, dI) vwCl (wX q cI cZ r (CS.s_n (CS.s_ki k (va_up (CS.ki k) (CS.n k) kd)) (CS.n k + 1)) a) H := hP.sub [0, 1, 2, 3, 4, 5, 6, 7, 8, 9, 13, 14, 15, 16, 17, 10, 11, 12] rfl
      have hD : va_D A (wX q cI cZ r (CS.s_n (CS.s_ki k (va_up (CS.ki k) (CS.n k) kd)) (CS.n k + 1)) a) := hD.sub [0, 1, 2, 3, 4, 5, 6, 7, 8, 9, 13, 14, 15, 16, 17, 10, 11, 12] (by decide) rfl
      exact xr_i hx hb hr hlk (u := CS.s_n (CS.s_ki k (va_up (CS.ki k) (CS.n k) kd)) (CS.n k + 1)) (⟨rfl, rfl⟩) hP hK hD hS dX3_port_49
    · refine lv_iload_n hx hb dX3_port_26 rfl (lv_at hl 1 rfl) ?_
      refine lv_iconst (v := nI 1) hx hb dX3_port_27 (by decide) ?_
      refine xn_ceq (tgt := 41) hx hb (by omega) (by omega) dX3_port_28 (by decide) (fun c_6 => ?_) (fun c_6 => ?_)
      · refine lv_aload_n hx hb dX3_port_41 rfl (lv_at hl 0 rfl) ?_
        refine va_get (D := (dC, dI)) (ci := 3) (v := .ref (q 10)) (C := RX3) (T := TX3) (N := 3) hx hb hts inX3 hown hK hP 17 rfl rfl 1 (by decide) (hts _ tw_132) (fun _ h9 => h9) rfl dX3_port_42 ?_
        refine lv_iload_n hx hb dX3_port_45 rfl (lv_at hl 1 rfl) ?_
        refine xc_Vi (As := [.int (nI kd)]) (wr := wR q cI cZ r ++ wA q cI a ++ wSf q) ⟨hx, hb, hml, hown, hts⟩ (c_Cells_addCell l dC dI q cI cZ H.size k kd h1) (cwV 1 hts (gV tw_441 tw_442 tw_443 tw_3 tw_444) rfl rfl rfl (by decide +kernel) ⟨Nat.le_of_ble_eq_true rfl, Nat.le_of_ble_eq_true rfl⟩) rfl hl.1 rfl (Nat.le_of_ble_eq_true rfl) dX3_port_46 ⟨Nat.zero_le _, Nat.zero_le _⟩ hP hD hK hS hA [10, 11, 12, 13, 14] [0, 1, 2, 3, 4, 5, 6, 7, 8, 9, 15, 16, 17] rfl rfl (by decide) (by decide) (by decide) [0, 1] rfl (q0 := 0) rfl rfl rfl eT_M (trivial) (fun r_7 u_8 H locs w_9 hP hD hS => ?_)
        obtain ⟨rfl, rfl⟩ := w_9
        have hP : va_P (dC, dI) vwCl (wX q cI cZ r (CS.s_n (CS.s_ki k (va_up (CS.ki k) (CS.n k) kd)) (CS.n k + 1)) a) H := hP.sub [0, 1, 2, 3, 4, 5, 6, 7, 8, 9, 13, 14, 15, 16, 17, 10, 11, 12] rfl
        have hD : va_D A (wX q cI cZ r (CS.s_n (CS.s_ki k (va_up (CS.ki k) (CS.n k) kd)) (CS.n k + 1)) a) := hD.sub [0, 1, 2, 3, 4, 5, 6, 7, 8, 9, 13, 14, 15, 16, 17, 10, 11, 12] (by decide) rfl
        exact xr_i hx hb hr hlk (u := CS.s_n (CS.s_ki k (va_up (CS.ki k) (CS.n k) kd)) (CS.n k + 1)) (⟨rfl, rfl⟩) hP hK hD hS dX3_port_49
      · exact absurd (show False by omega) id
  · exact absurd (show False by omega) id
set_option maxHeartbeats 4000000 in
set_option maxRecDepth 100000 in
theorem c_ScanRows_pin (l : Launch) (dC : Nat → ClassId) (dI : Nat → Nat → Nat) (q : Nat → Nat) (cI cZ : ClassId) (sz : Nat) (r : RS) (k : CS) (a : AS) (i : Nat) (v : Int32) (h1 : i < k.n) (h2 : k.n ≤ 20) : Met l yX3_pin (.code yX3_pin cX3_pin 3 none :: ALLG) ({ frames := 1, cells := 0, slots := 0, locals := 21 }) (va_Pc [.ref (q 17), .int (nI i), .int v] (cP (dC, dI) vwCl [(cI, .int), (cZ, .boolean)] (wX q cI cZ r k a) eT sz)) (va_Qv (fun (u : CS) => u = k.s_pin (va_up k.pin i (bitN v))) (fun (u : CS) => cB (dC, dI) vwCl [(cI, .int), (cZ, .boolean)] (wX q cI cZ r u a) (va_A (wX q cI cZ r k a) sz)) (va_A (wX q cI cZ r k a) sz)) 0 0 (va_A (wX q cI cZ r k a) sz) := by
  refine xm_of (cc := cX3_pin) (maxL := 3) (ret := none) (by decide) rfl (Nat.le_of_ble_eq_true rfl) ?_
  intro p e s m below meth c A hAe hx hb hr hml hts0 hown hlk hin hsz H locs hP hK hD hA hS hE ls hl
  have hts : ∀ w ∈ ALLG, w.before _ s = true := fun w h => hts0 w (List.mem_cons_of_mem _ h)
  rw [← hAe]
  have hl : lv_has ls 3 [(0, .ref (q 17)), (1, .int (nI i)), (2, .int v)] := hl
  refine lv_aload_n hx hb dX3_pin_0 rfl (lv_at hl 0 rfl) ?_
  refine lv_iload_n hx hb dX3_pin_1 rfl (lv_at hl 1 rfl) ?_
  refine xc_Vv (As := [.int (nI i)]) (wr := []) ⟨hx, hb, hml, hown, hts⟩ (c_ScanRows_requireCell l dC dI q cI cZ H.size r k a i h1 (by omega)) (cwV 1 hts (gV tw_452 tw_454 sw_14 tw_1 tw_455) rfl rfl rfl (by decide +kernel) ⟨Nat.le_of_ble_eq_true rfl, Nat.le_of_ble_eq_true rfl⟩) rfl hl.1 rfl (Nat.le_of_ble_eq_true rfl) dX3_pin_2 ⟨Nat.zero_le _, Nat.zero_le _⟩ hP hD hK hS hA [0, 1, 2, 3, 4, 5, 6, 7, 8, 9, 10, 11, 12, 13, 14, 15, 16, 17] [] rfl rfl (by decide) (by decide) (by decide) [0, 1] rfl (q0 := 17) rfl rfl rfl eT_M (trivial) (fun u_2 H locs w_3 hP hD hS => ?_)
  have hP : va_P (dC, dI) vwCl (wX q cI cZ r k a) H := hP
  have hD : va_D A (wX q cI cZ r k a) := hD
  refine lv_aload_n hx hb dX3_pin_5 rfl (lv_at hl 0 rfl) ?_
  refine va_get (D := (dC, dI)) (ci := 3) (v := .ref (q 10)) (C := RX3) (T := TX3) (N := 3) hx hb hts inX3 hown hK hP 17 rfl rfl 1 (by decide) (hts _ tw_132) (fun _ h9 => h9) rfl dX3_pin_6 ?_
  refine va_get (D := (dC, dI)) (ci := 1) (v := .ref (q 11)) (C := RX1) (T := TX1) (N := 5) hx hb hts inX1 hown hK hP 10 rfl rfl 1 (by decide) (hts _ tw_80) (fun _ h9 => h9) rfl dX3_pin_9 ?_
  refine lv_iload_n hx hb dX3_pin_12 rfl (lv_at hl 1 rfl) ?_
  refine lv_iload_n hx hb dX3_pin_13 rfl (lv_at hl 2 rfl) ?_
  refine xc_Si (As := [.int v]) (wr := wX q cI cZ r k a) ⟨hx, hb, hml, hown, hts⟩ (c_ScanRows_asBit l dC dI q cI cZ H.size v) (cwS 1 hts (gS tw_422 tw_423 tw_1 tw_424) rfl rfl rfl (by decide +kernel) ⟨Nat.le_of_ble_eq_true rfl, Nat.le_of_ble_eq_true rfl⟩) rfl hl.1 rfl (Nat.le_of_ble_eq_true rfl) dX3_pin_14 ⟨Nat.zero_le _, Nat.zero_le _⟩ hP hD hK hS hA [] [0, 1, 2, 3, 4, 5, 6, 7, 8, 9, 10, 11, 12, 13, 14, 15, 16, 17] rfl rfl (by decide) (by decide) (by decide) [0, 1] rfl eT_M (trivial) (fun r_4 u_5 H locs w_6 hP hD hS => ?_)
  obtain rfl := w_6
  have hP : va_P (dC, dI) vwCl (wX q cI cZ r k a) H := hP
  have hD : va_D A (wX q cI cZ r k a) := hD
  refine xa_ist hx hb hK hP hD hS 11 0 rfl rfl (by omega) (by decide) (aN_up _ _ _) dX3_pin_17 (fun H locs hP hD hS => ?_)
  have hP : va_P (dC, dI) vwCl (wX q cI cZ r (CS.s_pin k (va_up (CS.pin k) i (bitN v))) a) H := hP
  have hD : va_D A (wX q cI cZ r (CS.s_pin k (va_up (CS.pin k) i (bitN v))) a) := hD
  exact xr_v hx hb hr hlk (u := CS.s_pin k (va_up (CS.pin k) i (bitN v))) rfl hP hK hD hS dX3_pin_18
set_option maxHeartbeats 4000000 in
set_option maxRecDepth 100000 in
theorem c_ScanRows_boundary (l : Launch) (dC : Nat → ClassId) (dI : Nat → Nat → Nat) (q : Nat → Nat) (cI cZ : ClassId) (sz : Nat) (r : RS) (k : CS) (a : AS) (i : Nat) (h1 : i < k.n) (h2 : k.n ≤ 20) (h3 : k.ki i < 2) (h4 : a.co < 16) : Met l yX3_boundary (.code yX3_boundary cX3_boundary 2 (some .int) :: ALLG) ({ frames := 1, cells := 0, slots := 0, locals := 22 }) (va_Pc [.ref (q 17), .int (nI i)] (cP (dC, dI) vwCl [(cI, .int), (cZ, .boolean)] (wX q cI cZ r k a) eT sz)) (va_Qi (fun (x : Int32) (_ : Unit) => x = nI (drv k i (if a.co = 0 then 1 else 0))) (fun (_ : Unit) => cB (dC, dI) vwCl [(cI, .int), (cZ, .boolean)] (wX q cI cZ r k a) (va_A (wX q cI cZ r k a) sz)) (va_A (wX q cI cZ r k a) sz)) 0 0 (va_A (wX q cI cZ r k a) sz) := by
  refine xm_of (cc := cX3_boundary) (maxL := 2) (ret := some .int) (by decide) rfl (Nat.le_of_ble_eq_true rfl) ?_
  intro p e s m below meth c A hAe hx hb hr hml hts0 hown hlk hin hsz H locs hP hK hD hA hS hE ls hl
  have hts : ∀ w ∈ ALLG, w.before _ s = true := fun w h => hts0 w (List.mem_cons_of_mem _ h)
  rw [← hAe]
  have hl : lv_has ls 2 [(0, .ref (q 17)), (1, .int (nI i))] := hl
  refine lv_aload_n hx hb dX3_boundary_0 rfl (lv_at hl 0 rfl) ?_
  refine lv_iload_n hx hb dX3_boundary_1 rfl (lv_at hl 1 rfl) ?_
  refine xc_Vv (As := [.int (nI i)]) (wr := []) ⟨hx, hb, hml, hown, hts⟩ (c_ScanRows_requireCell l dC dI q cI cZ H.size r k a i h1 (by omega)) (cwV 1 hts (gV tw_452 tw_454 sw_14 tw_1 tw_455) rfl rfl rfl (by decide +kernel) ⟨Nat.le_of_ble_eq_true rfl, Nat.le_of_ble_eq_true rfl⟩) rfl hl.1 rfl (Nat.le_of_ble_eq_true rfl) dX3_boundary_2 ⟨Nat.zero_le _, Nat.zero_le _⟩ hP hD hK hS hA [0, 1, 2, 3, 4, 5, 6, 7, 8, 9, 10, 11, 12, 13, 14, 15, 16, 17] [] rfl rfl (by decide) (by decide) (by decide) [0, 1] rfl (q0 := 17) rfl rfl rfl eT_M (trivial) (fun u_2 H locs w_3 hP hD hS => ?_)
  have hP : va_P (dC, dI) vwCl (wX q cI cZ r k a) H := hP
  have hD : va_D A (wX q cI cZ r k a) := hD
  refine lv_aload_n hx hb dX3_boundary_5 rfl (lv_at hl 0 rfl) ?_
  refine va_get (D := (dC, dI)) (ci := 3) (v := .ref (q 10)) (C := RX3) (T := TX3) (N := 3) hx hb hts inX3 hown hK hP 17 rfl rfl 1 (by decide) (hts _ tw_132) (fun _ h9 => h9) rfl dX3_boundary_6 ?_
  refine lv_iload_n hx hb dX3_boundary_9 rfl (lv_at hl 1 rfl) ?_
  refine lv_aload_n hx hb dX3_boundary_10 rfl (lv_at hl 0 rfl) ?_
  refine va_get (D := (dC, dI)) (ci := 3) (v := .ref (q 15)) (C := RX3) (T := TX3) (N := 3) hx hb hts inX3 hown hK hP 17 rfl rfl 2 (by decide) (hts _ tw_133) (fun _ h9 => h9) rfl dX3_boundary_11 ?_
  refine va_get (D := (dC, dI)) (ci := 0) (v := .int (nI (AS.co a))) (C := RX0) (T := TX0) (N := 9) hx hb hts inX0 hown hK hP 15 rfl rfl 1 (by decide) (hts _ tw_104) (fun _ h9 => h9) rfl dX3_boundary_14 ?_
  refine xn_zne (tgt := 24) hx hb (by omega) dX3_boundary_17 (by decide) (fun c_4 => ?_) (fun c_4 => ?_)
  · refine lv_iconst (v := nI 0) hx hb dX3_boundary_24 (by decide) ?_
    refine xc_Vi (As := [.int (nI i), .int (nI 0)]) (wr := wR q cI cZ r ++ wA q cI a ++ wSf q) ⟨hx, hb, hml, hown, hts⟩ (c_Cells_drivenAt l dC dI q cI cZ H.size k i 0 (by omega) (by decide) h3) (cwV 2 hts (gV tw_550 tw_551 tw_552 tw_3 tw_553) rfl rfl rfl (by decide +kernel) ⟨Nat.le_of_ble_eq_true rfl, Nat.le_of_ble_eq_true rfl⟩) rfl hl.1 rfl (Nat.le_of_ble_eq_true rfl) dX3_boundary_25 ⟨Nat.zero_le _, Nat.zero_le _⟩ hP hD hK hS hA [10, 11, 12, 13, 14] [0, 1, 2, 3, 4, 5, 6, 7, 8, 9, 15, 16, 17] rfl rfl (by decide) (by decide) (by decide) [0, 1] rfl (q0 := 0) rfl rfl rfl eT_M (trivial) (fun r_5 u_6 H locs w_7 hP hD hS => ?_)
    obtain rfl := w_7
    have hP : va_P (dC, dI) vwCl (wX q cI cZ r k a) H := hP.sub [0, 1, 2, 3, 4, 5, 6, 7, 8, 9, 13, 14, 15, 16, 17, 10, 11, 12] rfl
    have hD : va_D A (wX q cI cZ r k a) := hD.sub [0, 1, 2, 3, 4, 5, 6, 7, 8, 9, 13, 14, 15, 16, 17, 10, 11, 12] (by decide) rfl
    exact xr_i hx hb hr hlk (u := ()) (by rw [if_neg (by omega)]) hP hK hD hS dX3_boundary_28
  · refine lv_iconst (v := nI 1) hx hb dX3_boundary_20 (by decide) ?_
    refine lv_goto (tgt := 25) hx hb dX3_boundary_21 (by decide) ?_
    refine xc_Vi (As := [.int (nI i), .int (nI 1)]) (wr := wR q cI cZ r ++ wA q cI a ++ wSf q) ⟨hx, hb, hml, hown, hts⟩ (c_Cells_drivenAt l dC dI q cI cZ H.size k i 1 (by omega) (by decide) h3) (cwV 2 hts (gV tw_550 tw_551 tw_552 tw_3 tw_553) rfl rfl rfl (by decide +kernel) ⟨Nat.le_of_ble_eq_true rfl, Nat.le_of_ble_eq_true rfl⟩) rfl hl.1 rfl (Nat.le_of_ble_eq_true rfl) dX3_boundary_25 ⟨Nat.zero_le _, Nat.zero_le _⟩ hP hD hK hS hA [10, 11, 12, 13, 14] [0, 1, 2, 3, 4, 5, 6, 7, 8, 9, 15, 16, 17] rfl rfl (by decide) (by decide) (by decide) [0, 1] rfl (q0 := 0) rfl rfl rfl eT_M (trivial) (fun r_8 u_9 H locs w_10 hP hD hS => ?_)
    obtain rfl := w_10
    have hP : va_P (dC, dI) vwCl (wX q cI cZ r k a) H := hP.sub [0, 1, 2, 3, 4, 5, 6, 7, 8, 9, 13, 14, 15, 16, 17, 10, 11, 12] rfl
    have hD : va_D A (wX q cI cZ r k a) := hD.sub [0, 1, 2, 3, 4, 5, 6, 7, 8, 9, 13, 14, 15, 16, 17, 10, 11, 12] (by decide) rfl
    exact xr_i hx hb hr hlk (u := ()) (by rw [if_pos (by assumption)]) hP hK hD hS dX3_boundary_28
set_option maxHeartbeats 4000000 in
set_option maxRecDepth 100000 in
theorem c_ScanRows_tick (l : Launch) (dC : Nat → ClassId) (dI : Nat → Nat → Nat) (q : Nat → Nat) (cI cZ : ClassId) (sz : Nat) (r : RS) (k : CS) (a : AS) (tN m0 b : Nat) (hY : YB (r, k, a)) (hm2 : m0 < 2) (hb2 : b < 2) : Met l yX3_tick (.code yX3_tick cX3_tick 3 (some .int) :: ALLG) ({ frames := 5, cells := 0, slots := 0, locals := 113 }) (va_Pc [.ref (q 17), .int (nI m0), .int (nI b)] (cP (dC, dI) vwCl [(cI, .int), (cZ, .boolean)] (wX q cI cZ r k a) (eN tN (va_A (wX q cI cZ r k a) sz)) sz)) (va_Qi (fun (x : Int32) (u : RS × CS × AS) => x = zI (stepF r k a m0 b).1 ∧ u = (stepF r k a m0 b).2) (fun (u : RS × CS × AS) => cB (dC, dI) vwCl [(cI, .int), (cZ, .boolean)] (wX q cI cZ u.1 u.2.1 u.2.2) (va_A (wX q cI cZ r k a) sz)) (va_A (wX q cI cZ r k a) sz)) 0 0 (va_A (wX q cI cZ r k a) sz) := by
  refine xm_of (cc := cX3_tick) (maxL := 3) (ret := some .int) (by decide) rfl (Nat.le_of_ble_eq_true rfl) ?_
  intro p e s m below meth c A hAe hx hb hr hml hts0 hown hlk hin hsz H locs hP hK hD hA hS hE ls hl
  have hts : ∀ w ∈ ALLG, w.before _ s = true := fun w h => hts0 w (List.mem_cons_of_mem _ h)
  rw [← hAe]
  rw [← hAe] at hE
  have hl : lv_has ls 3 [(0, .ref (q 17)), (1, .int (nI m0)), (2, .int (nI b))] := hl
  refine lv_iload_n hx hb dX3_tick_0 rfl (lv_at hl 1 rfl) ?_
  refine xn_zlt (tgt := 18) hx hb (by omega) dX3_tick_1 (by decide) ?_
  refine lv_iload_n hx hb dX3_tick_4 rfl (lv_at hl 1 rfl) ?_
  refine lv_iconst (v := nI 1) hx hb dX3_tick_5 (by decide) ?_
  refine xn_cgt (tgt := 18) hx hb (by omega) (by omega) dX3_tick_6 (by decide) (fun c_2 => ?_) (fun c_2 => ?_)
  · exact absurd (show False by omega) id
  · refine lv_iload_n hx hb dX3_tick_9 rfl (lv_at hl 2 rfl) ?_
    refine xn_zlt (tgt := 18) hx hb (by omega) dX3_tick_10 (by decide) ?_
    refine lv_iload_n hx hb dX3_tick_13 rfl (lv_at hl 2 rfl) ?_
    refine lv_iconst (v := nI 1) hx hb dX3_tick_14 (by decide) ?_
    refine xn_cle (tgt := 28) hx hb (by omega) (by omega) dX3_tick_15 (by decide) (fun c_4 => ?_) (fun c_4 => ?_)
    · refine lv_aload_n hx hb dX3_tick_28 rfl (lv_at hl 0 rfl) ?_
      refine va_get (D := (dC, dI)) (ci := 3) (v := .ref (q 15)) (C := RX3) (T := TX3) (N := 3) hx hb hts inX3 hown hK hP 17 rfl rfl 2 (by decide) (hts _ tw_133) (fun _ h9 => h9) rfl dX3_tick_29 ?_
      refine lv_iload_n hx hb dX3_tick_32 rfl (lv_at hl 1 rfl) ?_
      refine lv_iload_n hx hb dX3_tick_33 rfl (lv_at hl 2 rfl) ?_
      refine xc_Vi (As := [.int (nI m0), .int (nI b)]) (wr := wSf q) ⟨hx, hb, hml, hown, hts⟩ (c_Access_step l dC dI q cI cZ H.size r k a tN m0 b hY hm2 hb2) (cwV 2 hts (gV tw_465 tw_466 tw_467 tw_4 tw_468) rfl rfl rfl (by decide +kernel) ⟨Nat.le_of_ble_eq_true rfl, Nat.le_of_ble_eq_true rfl⟩) rfl hl.1 rfl (Nat.le_of_ble_eq_true rfl) dX3_tick_34 ⟨Nat.zero_le _, Nat.zero_le _⟩ hP hD hK hS hA [0, 1, 2, 3, 4, 5, 6, 7, 8, 9, 10, 11, 12, 13, 14, 15, 16] [17] rfl rfl (by decide) (by decide) (by decide) [0, 1] rfl (q0 := 15) rfl rfl rfl (eN_M _ _) (eN_kn hE hS (va_free (wc := wY q cI cZ r k a) hD hS hA [0, 1, 2, 3, 4, 5, 6, 7, 8, 9, 10, 11, 12, 13, 14, 15, 16] rfl)) (fun r_5 u_6 H locs w_7 hP hD hS => ?_)
      obtain ⟨rfl, rfl⟩ := w_7
      have hP : va_P (dC, dI) vwCl (wX q cI cZ (((stepF r k a m0 b).2).1) (((stepF r k a m0 b).2).2.1) (((stepF r k a m0 b).2).2.2)) H := hP.sub [1, 2, 3, 4, 5, 6, 7, 8, 9, 10, 11, 12, 13, 14, 15, 16, 17, 0] rfl
      have hD : va_D A (wX q cI cZ (((stepF r k a m0 b).2).1) (((stepF r k a m0 b).2).2.1) (((stepF r k a m0 b).2).2.2)) := hD.sub [1, 2, 3, 4, 5, 6, 7, 8, 9, 10, 11, 12, 13, 14, 15, 16, 17, 0] (by decide) rfl
      exact xr_i hx hb hr hlk (u := (((stepF r k a m0 b).2).1, ((stepF r k a m0 b).2).2.1, ((stepF r k a m0 b).2).2.2)) (⟨rfl, rfl⟩) hP hK hD hS dX3_tick_37
    · exact absurd (show False by omega) id
set_option maxHeartbeats 4000000 in
set_option maxRecDepth 100000 in
theorem c_ScanRows_state (l : Launch) (dC : Nat → ClassId) (dI : Nat → Nat → Nat) (q : Nat → Nat) (cI cZ : ClassId) (sz : Nat) (r : RS) (k : CS) (a : AS) : Met l yX3_state (.code yX3_state cX3_state 1 (some .int) :: ALLG) ({ frames := 0, cells := 0, slots := 0, locals := 0 }) (va_Pc [.ref (q 17)] (cP (dC, dI) vwCl [(cI, .int), (cZ, .boolean)] (wX q cI cZ r k a) eT sz)) (va_Qi (fun (x : Int32) (_ : Unit) => x = nI a.st) (fun (_ : Unit) => cB (dC, dI) vwCl [(cI, .int), (cZ, .boolean)] (wX q cI cZ r k a) (va_A (wX q cI cZ r k a) sz)) (va_A (wX q cI cZ r k a) sz)) 0 0 (va_A (wX q cI cZ r k a) sz) := by
  refine xm_of (cc := cX3_state) (maxL := 1) (ret := some .int) (by decide) rfl (Nat.le_of_ble_eq_true rfl) ?_
  intro p e s m below meth c A hAe hx hb hr hml hts0 hown hlk hin hsz H locs hP hK hD hA hS hE ls hl
  have hts : ∀ w ∈ ALLG, w.before _ s = true := fun w h => hts0 w (List.mem_cons_of_mem _ h)
  rw [← hAe]
  have hl : lv_has ls 1 [(0, .ref (q 17))] := hl
  refine lv_aload_n hx hb dX3_state_0 rfl (lv_at hl 0 rfl) ?_
  refine va_get (D := (dC, dI)) (ci := 3) (v := .ref (q 15)) (C := RX3) (T := TX3) (N := 3) hx hb hts inX3 hown hK hP 17 rfl rfl 2 (by decide) (hts _ tw_133) (fun _ h9 => h9) rfl dX3_state_1 ?_
  refine va_get (D := (dC, dI)) (ci := 0) (v := .int (nI (AS.st a))) (C := RX0) (T := TX0) (N := 9) hx hb hts inX0 hown hK hP 15 rfl rfl 0 (by decide) (hts _ tw_102) (fun _ h9 => h9) rfl dX3_state_4 ?_
  exact xr_i hx hb hr hlk (u := ()) rfl hP hK hD hS dX3_state_7
set_option maxHeartbeats 4000000 in
set_option maxRecDepth 100000 in
theorem c_ScanRows_go (l : Launch) (dC : Nat → ClassId) (dI : Nat → Nat → Nat) (q : Nat → Nat) (cI cZ : ClassId) (sz : Nat) (r : RS) (k : CS) (a : AS) (tN goal : Nat) (hY : YB (r, k, a)) (hg : goal < 16) : Met l yX3_go (.code yX3_go cX3_go 2 (some .int) :: ALLG) ({ frames := 6, cells := 0, slots := 0, locals := 136 }) (va_Pc [.ref (q 17), .int (nI goal)] (cP (dC, dI) vwCl [(cI, .int), (cZ, .boolean)] (wX q cI cZ r k a) (eN tN (va_A (wX q cI cZ r k a) sz)) sz)) (va_Qi (fun (x : Int32) (u : RS × CS × AS) => x = nI (mtF goal a.tk a.st) ∧ u = goIt (r, k, a.s_tk (mtF goal a.tk)) (mtF goal a.tk a.st)) (fun (u : RS × CS × AS) => cB (dC, dI) vwCl [(cI, .int), (cZ, .boolean)] (wX q cI cZ u.1 u.2.1 u.2.2) (va_A (wX q cI cZ r k a) sz)) (va_A (wX q cI cZ r k a) sz)) 0 0 (va_A (wX q cI cZ r k a) sz) := by
  refine xm_of (cc := cX3_go) (maxL := 2) (ret := some .int) (by decide) rfl (Nat.le_of_ble_eq_true rfl) ?_
  intro p e s m below meth c A hAe hx hb hr hml hts0 hown hlk hin hsz H locs hP hK hD hA hS hE ls hl
  have hts : ∀ w ∈ ALLG, w.before _ s = true := fun w h => hts0 w (List.mem_cons_of_mem _ h)
  rw [← hAe]
  rw [← hAe] at hE
  have hl : lv_has ls 2 [(0, .ref (q 17)), (1, .int (nI goal))] := hl
  refine lv_iload_n hx hb dX3_go_0 rfl (lv_at hl 1 rfl) ?_
  refine xn_zlt (tgt := 10) hx hb (by omega) dX3_go_1 (by decide) ?_
  refine lv_iload_n hx hb dX3_go_4 rfl (lv_at hl 1 rfl) ?_
  refine lv_bipush (v := nI 16) hx hb dX3_go_5 (by decide) ?_
  refine xn_clt (tgt := 20) hx hb (by omega) (by omega) dX3_go_7 (by decide) (fun c_2 => ?_) (fun c_2 => ?_)
  · refine lv_aload_n hx hb dX3_go_20 rfl (lv_at hl 0 rfl) ?_
    refine va_get (D := (dC, dI)) (ci := 3) (v := .ref (q 15)) (C := RX3) (T := TX3) (N := 3) hx hb hts inX3 hown hK hP 17 rfl rfl 2 (by decide) (hts _ tw_133) (fun _ h9 => h9) rfl dX3_go_21 ?_
    refine lv_iload_n hx hb dX3_go_24 rfl (lv_at hl 1 rfl) ?_
    refine xc_Vi (As := [.int (nI goal)]) (wr := wSf q) ⟨hx, hb, hml, hown, hts⟩ (c_Access_stepUntil l dC dI q cI cZ H.size r k a tN goal hY hg) (cwV 1 hts (gV tw_527 tw_528 tw_529 tw_4 tw_530) rfl rfl rfl (by decide +kernel) ⟨Nat.le_of_ble_eq_true rfl, Nat.le_of_ble_eq_true rfl⟩) rfl hl.1 rfl (Nat.le_of_ble_eq_true rfl) dX3_go_25 ⟨Nat.zero_le _, Nat.zero_le _⟩ hP hD hK hS hA [0, 1, 2, 3, 4, 5, 6, 7, 8, 9, 10, 11, 12, 13, 14, 15, 16] [17] rfl rfl (by decide) (by decide) (by decide) [0, 1] rfl (q0 := 15) rfl rfl rfl (eN_M _ _) (eN_kn hE hS (va_free (wc := wY q cI cZ r k a) hD hS hA [0, 1, 2, 3, 4, 5, 6, 7, 8, 9, 10, 11, 12, 13, 14, 15, 16] rfl)) (fun r_3 u_4 H locs w_5 hP hD hS => ?_)
    obtain ⟨rfl, rfl⟩ := w_5
    have hP : va_P (dC, dI) vwCl (wX q cI cZ ((goIt (r, k, a.s_tk (mtF goal a.tk)) (mtF goal a.tk a.st)).1) ((goIt (r, k, a.s_tk (mtF goal a.tk)) (mtF goal a.tk a.st)).2.1) ((goIt (r, k, a.s_tk (mtF goal a.tk)) (mtF goal a.tk a.st)).2.2)) H := hP.sub [1, 2, 3, 4, 5, 6, 7, 8, 9, 10, 11, 12, 13, 14, 15, 16, 17, 0] rfl
    have hD : va_D A (wX q cI cZ ((goIt (r, k, a.s_tk (mtF goal a.tk)) (mtF goal a.tk a.st)).1) ((goIt (r, k, a.s_tk (mtF goal a.tk)) (mtF goal a.tk a.st)).2.1) ((goIt (r, k, a.s_tk (mtF goal a.tk)) (mtF goal a.tk a.st)).2.2)) := hD.sub [1, 2, 3, 4, 5, 6, 7, 8, 9, 10, 11, 12, 13, 14, 15, 16, 17, 0] (by decide) rfl
    exact xr_i hx hb hr hlk (u := ((goIt (r, k, a.s_tk (mtF goal a.tk)) (mtF goal a.tk a.st)).1, (goIt (r, k, a.s_tk (mtF goal a.tk)) (mtF goal a.tk a.st)).2.1, (goIt (r, k, a.s_tk (mtF goal a.tk)) (mtF goal a.tk a.st)).2.2)) (⟨rfl, rfl⟩) hP hK hD hS dX3_go_28
  · exact absurd (show False by omega) id
set_option maxHeartbeats 4000000 in
set_option maxRecDepth 100000 in
theorem c_ScanRows_count (l : Launch) (dC : Nat → ClassId) (dI : Nat → Nat → Nat) (q : Nat → Nat) (cI cZ : ClassId) (sz : Nat) (r : RS) (k : CS) (a : AS) (w0 : Nat) (h1 : a.co < 16) (h2 : k.n ≤ 20) (h3 : r.p ≤ 32) (h4 : w0 < 5) : Met l yX3_count (.code yX3_count cX3_count 2 (some .int) :: ALLG) ({ frames := 2, cells := 0, slots := 0, locals := 40 }) (va_Pc [.ref (q 17), .int (nI w0)] (cP (dC, dI) vwCl [(cI, .int), (cZ, .boolean)] (wX q cI cZ r k a) eT sz)) (va_Qi (fun (x : Int32) (_ : Unit) => x = nI (cntF r k a w0)) (fun (_ : Unit) => cB (dC, dI) vwCl [(cI, .int), (cZ, .boolean)] (wX q cI cZ r k a) (va_A (wX q cI cZ r k a) sz)) (va_A (wX q cI cZ r k a) sz)) 0 0 (va_A (wX q cI cZ r k a) sz) := by
  refine xm_of (cc := cX3_count) (maxL := 2) (ret := some .int) (by decide) rfl (Nat.le_of_ble_eq_true rfl) ?_
  intro p e s m below meth c A hAe hx hb hr hml hts0 hown hlk hin hsz H locs hP hK hD hA hS hE ls hl
  have hts : ∀ w ∈ ALLG, w.before _ s = true := fun w h => hts0 w (List.mem_cons_of_mem _ h)
  rw [← hAe]
  have hl : lv_has ls 2 [(0, .ref (q 17)), (1, .int (nI w0))] := hl
  refine lv_iload_n hx hb dX3_count_0 rfl (lv_at hl 1 rfl) ?_
  by_cases k_1 : w0 = 0
  · refine lv_tableIn (tgt := 36) hx hb dX3_count_1 (by rw [k_1]; decide) (by rw [k_1]; decide) (by rw [k_1]; rfl) (by decide) ?_
    refine lv_aload_n hx hb dX3_count_36 rfl (lv_at hl 0 rfl) ?_
    refine va_get (D := (dC, dI)) (ci := 3) (v := .ref (q 0)) (C := RX3) (T := TX3) (N := 3) hx hb hts inX3 hown hK hP 17 rfl rfl 0 (by decide) (hts _ tw_131) (fun _ h9 => h9) rfl dX3_count_37 ?_
    refine va_get (D := (dC, dI)) (ci := 2) (v := .int (nI (RS.n r))) (C := RX2) (T := TX2) (N := 12) hx hb hts inX2 hown hK hP 0 rfl rfl 0 (by decide) (hts _ tw_28) (fun _ h9 => h9) rfl dX3_count_40 ?_
    exact xr_i hx hb hr hlk (u := ()) (by unfold cntF; simp [k_1]) hP hK hD hS dX3_count_43
  · by_cases k_2 : w0 = 1
    · refine lv_tableIn (tgt := 44) hx hb dX3_count_1 (by rw [k_2]; decide) (by rw [k_2]; decide) (by rw [k_2]; rfl) (by decide) ?_
      refine lv_aload_n hx hb dX3_count_44 rfl (lv_at hl 0 rfl) ?_
      refine va_get (D := (dC, dI)) (ci := 3) (v := .ref (q 0)) (C := RX3) (T := TX3) (N := 3) hx hb hts inX3 hown hK hP 17 rfl rfl 0 (by decide) (hts _ tw_131) (fun _ h9 => h9) rfl dX3_count_45 ?_
      refine va_get (D := (dC, dI)) (ci := 2) (v := .int (nI (RS.c r))) (C := RX2) (T := TX2) (N := 12) hx hb hts inX2 hown hK hP 0 rfl rfl 1 (by decide) (hts _ tw_30) (fun _ h9 => h9) rfl dX3_count_48 ?_
      exact xr_i hx hb hr hlk (u := ()) (by unfold cntF; simp [k_2]) hP hK hD hS dX3_count_51
    · by_cases k_3 : w0 = 2
      · refine lv_tableIn (tgt := 52) hx hb dX3_count_1 (by rw [k_3]; decide) (by rw [k_3]; decide) (by rw [k_3]; rfl) (by decide) ?_
        refine lv_aload_n hx hb dX3_count_52 rfl (lv_at hl 0 rfl) ?_
        refine va_get (D := (dC, dI)) (ci := 3) (v := .ref (q 10)) (C := RX3) (T := TX3) (N := 3) hx hb hts inX3 hown hK hP 17 rfl rfl 1 (by decide) (hts _ tw_132) (fun _ h9 => h9) rfl dX3_count_53 ?_
        refine va_get (D := (dC, dI)) (ci := 1) (v := .int (nI (CS.n k))) (C := RX1) (T := TX1) (N := 5) hx hb hts inX1 hown hK hP 10 rfl rfl 0 (by decide) (hts _ tw_78) (fun _ h9 => h9) rfl dX3_count_56 ?_
        exact xr_i hx hb hr hlk (u := ()) (by unfold cntF; simp [k_3]) hP hK hD hS dX3_count_59
      · by_cases k_4 : w0 = 3
        · refine lv_tableIn (tgt := 60) hx hb dX3_count_1 (by rw [k_4]; decide) (by rw [k_4]; decide) (by rw [k_4]; rfl) (by decide) ?_
          refine lv_aload_n hx hb dX3_count_60 rfl (lv_at hl 0 rfl) ?_
          refine va_get (D := (dC, dI)) (ci := 3) (v := .ref (q 15)) (C := RX3) (T := TX3) (N := 3) hx hb hts inX3 hown hK hP 17 rfl rfl 2 (by decide) (hts _ tw_133) (fun _ h9 => h9) rfl dX3_count_61 ?_
          refine xc_Vi (As := []) (wr := wSf q) ⟨hx, hb, hml, hown, hts⟩ (c_Access_registerLength l dC dI q cI cZ H.size r k a h1 h2 h3) (cwV 0 hts (gV tw_561 tw_562 tw_563 tw_4 tw_564) rfl rfl rfl (by decide +kernel) ⟨Nat.le_of_ble_eq_true rfl, Nat.le_of_ble_eq_true rfl⟩) rfl hl.1 rfl (Nat.le_of_ble_eq_true rfl) dX3_count_64 ⟨Nat.zero_le _, Nat.zero_le _⟩ hP hD hK hS hA [0, 1, 2, 3, 4, 5, 6, 7, 8, 9, 10, 11, 12, 13, 14, 15, 16] [17] rfl rfl (by decide) (by decide) (by decide) [0, 1] rfl (q0 := 15) rfl rfl rfl eT_M (trivial) (fun r_5 u_6 H locs w_7 hP hD hS => ?_)
          obtain rfl := w_7
          have hP : va_P (dC, dI) vwCl (wX q cI cZ r k a) H := hP.sub [1, 2, 3, 4, 5, 6, 7, 8, 9, 10, 11, 12, 13, 14, 15, 16, 17, 0] rfl
          have hD : va_D A (wX q cI cZ r k a) := hD.sub [1, 2, 3, 4, 5, 6, 7, 8, 9, 10, 11, 12, 13, 14, 15, 16, 17, 0] (by decide) rfl
          exact xr_i hx hb hr hlk (u := ()) (by unfold cntF; simp [k_4]) hP hK hD hS dX3_count_67
        · by_cases k_8 : w0 = 4
          · refine lv_tableIn (tgt := 68) hx hb dX3_count_1 (by rw [k_8]; decide) (by rw [k_8]; decide) (by rw [k_8]; rfl) (by decide) ?_
            refine lv_aload_n hx hb dX3_count_68 rfl (lv_at hl 0 rfl) ?_
            refine va_get (D := (dC, dI)) (ci := 3) (v := .ref (q 15)) (C := RX3) (T := TX3) (N := 3) hx hb hts inX3 hown hK hP 17 rfl rfl 2 (by decide) (hts _ tw_133) (fun _ h9 => h9) rfl dX3_count_69 ?_
            refine va_get (D := (dC, dI)) (ci := 0) (v := .int (nI (AS.co a))) (C := RX0) (T := TX0) (N := 9) hx hb hts inX0 hown hK hP 15 rfl rfl 1 (by decide) (hts _ tw_104) (fun _ h9 => h9) rfl dX3_count_72 ?_
            exact xr_i hx hb hr hlk (u := ()) (by unfold cntF; simp [k_8]) hP hK hD hS dX3_count_75
          · refine lv_tableOut (tgt := 76) hx hb dX3_count_1 (by rw [nI_toInt (by omega)]; omega) (by decide) ?_
            exact absurd (show False by omega) id
