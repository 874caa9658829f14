theorem tw_13 : (Cond.classLink "ScanRowsLaw" (8 : Nat) "ScanRows") ∈ ALLG := al_t (i := 13) (by decide +kernel) (by decide +kernel)
theorem tw_14 : (Cond.instantiable "ScanRows" (3 : Nat)) ∈ ALLG := al_t (i := 14) (by decide +kernel) (by decide +kernel)
theorem tw_15 : (Cond.methodLink "ScanRowsLaw" (72 : Nat) ({ cls := "ScanRows", name := "<init>", desc := "(I)V" } : Jvm.MethodName)) ∈ ALLG := al_t (i := 15) (by decide +kernel) (by decide +kernel)
theorem tw_16 : (Cond.instanceMethod ({ cls := "ScanRows", name := "<init>", desc := "(I)V" } : Jvm.MethodName)) ∈ ALLG := al_t (i := 16) (by decide +kernel) (by decide +kernel)
theorem tw_17 : (Cond.code ({ cls := "ScanRows", name := "<init>", desc := "(I)V" } : Jvm.MethodName) prog_1_method_1_code (2 : Nat) (Option.none : Option Jvm.ClassFile.FieldType)) ∈ ALLG := al_t (i := 17) (by decide +kernel) (by decide +kernel)
theorem tw_176 : (Cond.methodLink "ScanRowsLaw" (66 : Nat) ({ cls := "ScanRowsLaw", name := "cell", desc := "([II)I" } : Jvm.MethodName)) ∈ ALLG := al_t (i := 176) (by decide +kernel) (by decide +kernel)
theorem tw_177 : (Cond.static ({ cls := "ScanRowsLaw", name := "cell", desc := "([II)I" } : Jvm.MethodName)) ∈ ALLG := al_t (i := 177) (by decide +kernel) (by decide +kernel)
theorem tw_178 : (Cond.code ({ cls := "ScanRowsLaw", name := "cell", desc := "([II)I" } : Jvm.MethodName) method_2_code (2 : Nat) (Option.some FieldType.int)) ∈ ALLG := al_t (i := 178) (by decide +kernel) (by decide +kernel)
theorem tw_566 : (Cond.classLink "ScanRowsLaw" (75 : Nat) "ScanRowsModel") ∈ ALLG := al_t (i := 566) (by decide +kernel) (by decide +kernel)
theorem tw_567 : (Cond.instantiable "ScanRowsModel" (23 : Nat)) ∈ ALLG := al_t (i := 567) (by decide +kernel) (by decide +kernel)
theorem tw_568 : (Cond.methodLink "ScanRowsLaw" (77 : Nat) ({ cls := "ScanRowsModel", name := "<init>", desc := "(I)V" } : Jvm.MethodName)) ∈ ALLG := al_t (i := 568) (by decide +kernel) (by decide +kernel)
theorem tw_569 : (Cond.instanceMethod ({ cls := "ScanRowsModel", name := "<init>", desc := "(I)V" } : Jvm.MethodName)) ∈ ALLG := al_t (i := 569) (by decide +kernel) (by decide +kernel)
theorem tw_570 : (Cond.code ({ cls := "ScanRowsModel", name := "<init>", desc := "(I)V" } : Jvm.MethodName) prog_6_method_1_code (2 : Nat) (Option.none : Option Jvm.ClassFile.FieldType)) ∈ ALLG := al_t (i := 570) (by decide +kernel) (by decide +kernel)
theorem tw_779 : (Cond.arrayClass FieldType.long) ∈ ALLG := al_t (i := 779) (by decide +kernel) (by decide +kernel)
theorem dL_cell_0 : decode cL_cell 0 = .ok (.iload_n 1, 1) := by decide +kernel
theorem dL_cell_1 : decode cL_cell 1 = .ok (.aload_n 0, 1) := by decide +kernel
theorem dL_cell_2 : decode cL_cell 2 = .ok (.arraylength, 1) := by decide +kernel
theorem dL_cell_3 : decode cL_cell 3 = .ok (.if_icmp .ge 9, 3) := by decide +kernel
theorem dL_cell_6 : decode cL_cell 6 = .ok (.aload_n 0, 1) := by decide +kernel
theorem dL_cell_7 : decode cL_cell 7 = .ok (.iload_n 1, 1) := by decide +kernel
theorem dL_cell_8 : decode cL_cell 8 = .ok (.iaload, 1) := by decide +kernel
theorem dL_cell_9 : decode cL_cell 9 = .ok (.goto 4, 3) := by decide +kernel
theorem dL_cell_12 : decode cL_cell 12 = .ok (.iconst 0, 1) := by decide +kernel
theorem dL_cell_13 : decode cL_cell 13 = .ok (.ireturn, 1) := by decide +kernel
theorem k_arr {args : Array Value} {s : State} {D : va_G} {cl : List vw_C} {tys : List (ClassId × FieldType)} (hK : va_K D cl tys s) {ty : FieldType} (hty : ty = .int ∨ ty = .boolean ∨ ty = .long) (harr : (Cond.arrayClass ty).before args s = true) : ∃ cA, va_K D cl (tys ++ [(cA, ty)]) s := by
  obtain ⟨cA, kA, comp, h1, h2, h3⟩ := Cond.arrayClass_spec harr
  refine ⟨cA, hK.app ⟨hK.1, fun k q hk => ?_⟩⟩
  have hz : k < 1 := (List.getElem?_eq_some_iff.mp hk).1
  rw [show k = 0 by omega] at hk
  cases hk
  exact ⟨fun n z => ⟨fun k h => (by cases h), kA, h2, comp, h3⟩, by rcases hty with rfl | rfl | rfl <;> exact h1⟩
abbrev tmN : Term := .static "ScanRows$Access" "NEXT" "[I"
theorem nx_in : ∀ j, j < 32 → Cond.eq (.elem tmN (.int (Int32.ofNat j))) (.int (nI (NX j))) ∈ flatC (Jvm.Cond.and given_1 narrow_1) := by decide +kernel
theorem st_in : ∀ x ∈ STR, Cond.exactly (.string "ScanRows" x.1) "java/lang/String" ∈ flatC (Jvm.Cond.and given_1 narrow_1) := by decide +kernel
theorem sr_in : ∀ x ∈ STR, Cond.stringRef "ScanRows" x.1 x.2 ∈ lw_tbl := by decide +kernel
/-- what the statement gives of the start, for throws and for the port's table -/
theorem env0 {args : Array Value} {s : State} {A : Nat → Prop} (hts : ∀ w ∈ lw_tbl, w.before args s = true) (hgv : (Jvm.Cond.and given_1 narrow_1).before args s = true) (hA0 : ∀ a : Nat, a < s.heap.size → ¬ A a) : ∃ tN, eX tN A s s.heap := by
  have hs := flat_of_before _ hgv
  obtain ⟨t, ht, hT⟩ := va_Tof (tm := tmN) (ty := .int) (N := 32) (f := fun j => .int (nI (NX j))) (A := A) (by decide) (hs (.arrayOf tmN .int) (by decide +kernel)) (va_eqt (hs (.eq (.length tmN) (.int 32)) (by decide +kernel))) (fun j hj => va_eqt (hs _ (nx_in j hj))) hA0
  refine ⟨t, ⟨va_Zref (hts (.laysStatic "ScanRows$Access" "NEXT" "[I") (by decide +kernel)) (hts (.initialized "ScanRows$Access") (by decide +kernel)) ht hA0, hT⟩, ?_, ?_, ?_, ?_, ?_⟩
  · exact vx_Zqof (hts (.laysStatic Bundle.tN "UNASSIGNED_STACK" Bundle.steD) (by decide +kernel)) (hts (.initialized Bundle.tN) (by decide +kernel)) (hs (.isRef (.static Bundle.tN "UNASSIGNED_STACK" Bundle.steD)) (by decide +kernel)) hA0
  · exact vx_Zqof (hts (.laysStatic Bundle.tN "SUPPRESSED_SENTINEL" Bundle.listD) (by decide +kernel)) (hts (.initialized Bundle.tN) (by decide +kernel)) (hs (.isRef (.static Bundle.tN "SUPPRESSED_SENTINEL" Bundle.listD)) (by decide +kernel)) hA0
  · exact fun w hw => va_tabs (XW_t w hw) rfl (hts w (XW_in w hw))
  · intro x hx
    have h1 := Cond.exactly_spec (hs _ (st_in x hx))
    obtain ⟨sa, hsa⟩ : ∃ sa, (Term.string "ScanRows" x.1).eval args s none [] s = some (.ref sa) := by
      obtain ⟨sa, c, cell, k, h, -⟩ := h1; exact ⟨sa, h⟩
    exact ⟨sa, vk_R.of (hts _ (sr_in x hx)) hsa⟩
  · exact va_Nc.of (hs (.not (.castable xIAE xUOE)) (by decide +kernel))
def eS (b L : Nat) (xs : Nat → Int32) : State → Heap → Prop := fun U H => va_X b L xs U H ∧ b < H.size
theorem eS_M (b L : Nat) (xs : Nat → Int32) : eM (eS b L xs) := fun _ _ _ h q => ⟨va_X.moved h q.1, q.2⟩
def x0 (L : Nat) (xs : Nat → Int32) : Int32 := if 0 < L then xs 0 else nI 0
set_option maxHeartbeats 4000000 in
set_option maxRecDepth 100000 in
theorem c_L_cell (l : Launch) (dC : Nat → ClassId) (dI : Nat → Nat → Nat) (sz b L : Nat) (xs : Nat → Int32) (hL : L ≤ 3073) : Met l yL_cell (.code yL_cell cL_cell 2 (some .int) :: ALLG) ({ frames := 0, cells := 0, slots := 0, locals := 0 }) (va_Pc [.ref b, .int (nI 0)] (cP (dC, dI) vwCl [] ([] : va_W) (eS b L xs) sz)) (va_Qi (fun (x : Int32) (_ : Unit) => x = x0 L xs) (fun (_ : Unit) => cB (dC, dI) vwCl [] ([] : va_W) (va_A ([] : va_W) sz)) (va_A ([] : va_W) sz)) 0 0 (va_A ([] : va_W) sz) := by
  refine xm_of (cc := cL_cell) (maxL := 2) (ret := some .int) (by decide) rfl (Nat.le_of_ble_eq_true rfl) ?_
  intro p e s m below meth c A hAe hx hb hr hml hts0 hown hlk hin hsz H locs hP hK hD hA hS hE ls hl
  have hbA : ¬ A b := by
    rw [hAe]; intro z
    rcases z with z | z
    · obtain ⟨k, q, z1, z2⟩ := z
    · have := hE.2; rw [hsz] at this; omega
  rw [← hAe]
  have hl : lv_has ls 2 [(0, .ref b), (1, .int (nI 0))] := hl
  refine lv_iload_n hx hb dL_cell_0 rfl (lv_at hl 1 rfl) ?_
  refine lv_aload_n hx hb dL_cell_1 rfl (lv_at hl 0 rfl) ?_
  refine va_slen hx hb hE.1 hE.2 hbA hS dL_cell_2 ?_
  refine xt_i (show Int32.ofNat L = nI L from rfl) ?_
  refine xn_cge (tgt := 12) hx hb (by decide) (by omega) dL_cell_3 (by decide) (fun c1 => ?_) (fun c1 => ?_)
  · refine lv_iconst (v := nI 0) hx hb dL_cell_12 (by decide) ?_
    exact xr_i hx hb hr hlk (u := ()) (by unfold x0; rw [if_neg (by omega)]) hP hK hD hS dL_cell_13
  · refine lv_aload_n hx hb dL_cell_6 rfl (lv_at hl 0 rfl) ?_
    refine lv_iload_n hx hb dL_cell_7 rfl (lv_at hl 1 rfl) ?_
    refine va_sld hx hb hE.1 hE.2 hbA hS (vp_in_nI (show 0 < L by omega) (by omega)) dL_cell_8 ?_
    refine lv_goto (tgt := 13) hx hb dL_cell_9 (by decide) ?_
    exact xr_i hx hb hr hlk (u := ()) (by unfold x0; rw [if_pos (by omega)]; exact congrArg xs (nI_clamp (by decide))) hP hK hD hS dL_cell_13
theorem sw_out {v : Int32} (q0 : ¬ v &&& nI 31 = nI 0) (q1 : ¬ v &&& nI 31 = nI 1) (q2 : ¬ v &&& nI 31 = nI 2) (q3 : ¬ v &&& nI 31 = nI 3) (q4 : ¬ v &&& nI 31 = nI 4) (q5 : ¬ v &&& nI 31 = nI 5) (q6 : ¬ v &&& nI 31 = nI 6) (q7 : ¬ v &&& nI 31 = nI 7) (q8 : ¬ v &&& nI 31 = nI 8) (q9 : ¬ v &&& nI 31 = nI 9) (q10 : ¬ v &&& nI 31 = nI 10) (q11 : ¬ v &&& nI 31 = nI 11) (q12 : ¬ v &&& nI 31 = nI 12) (q13 : ¬ v &&& nI 31 = nI 13) (q14 : ¬ v &&& nI 31 = nI 14) (q15 : ¬ v &&& nI 31 = nI 15) (q16 : ¬ v &&& nI 31 = nI 16) (q17 : ¬ v &&& nI 31 = nI 17) : (v &&& nI 31).toInt < 0 ∨ 17 < (v &&& nI 31).toInt := by
  obtain ⟨t, h, e⟩ : ∃ t, t < 32 ∧ v &&& nI 31 = nI t := ⟨_, Nat.mod_lt _ (by decide), pk_and v (m := nI 31) 5 (by decide)⟩
  rw [e]
  right
  rw [nI_toInt (by omega)]
  have z0 : t ≠ 0 := fun z => q0 (by rw [e, z])
  have z1 : t ≠ 1 := fun z => q1 (by rw [e, z])
  have z2 : t ≠ 2 := fun z => q2 (by rw [e, z])
  have z3 : t ≠ 3 := fun z => q3 (by rw [e, z])
  have z4 : t ≠ 4 := fun z => q4 (by rw [e, z])
  have z5 : t ≠ 5 := fun z => q5 (by rw [e, z])
  have z6 : t ≠ 6 := fun z => q6 (by rw [e, z])
  have z7 : t ≠ 7 := fun z => q7 (by rw [e, z])
  have z8 : t ≠ 8 := fun z => q8 (by rw [e, z])
  have z9 : t ≠ 9 := fun z => q9 (by rw [e, z])
  have z10 : t ≠ 10 := fun z => q10 (by rw [e, z])
  have z11 : t ≠ 11 := fun z => q11 (by rw [e, z])
  have z12 : t ≠ 12 := fun z => q12 (by rw [e, z])
  have z13 : t ≠ 13 := fun z => q13 (by rw [e, z])
  have z14 : t ≠ 14 := fun z => q14 (by rw [e, z])
  have z15 : t ≠ 15 := fun z => q15 (by rw [e, z])
  have z16 : t ≠ 16 := fun z => q16 (by rw [e, z])
  have z17 : t ≠ 17 := fun z => q17 (by rw [e, z])
  omega
theorem gt_end {i L : Nat} (hi : i < 2 ^ 30) (hL : L ≤ 3073) : (Int32.ofNat L - nI 6 < nI i) ↔ ¬ i + 5 < L := by
  have e : Int32.ofNat L - nI 6 = zI ((L : Int) - 6) := by
    rw [show Int32.ofNat L = nI L from rfl, ← zI_nI, ← zI_nI 6, zI_sub]; rfl
  rw [e, ← zI_nI i, Int32.lt_iff_toInt_lt]
  have f1 : (zI ((L : Int) - 6)).toInt = (L : Int) - 6 := zI_toInt (by omega) (by omega)
  have f2 : (zI (i : Int)).toInt = (i : Int) := zI_toInt (by omega) (by omega)
  rw [f1, f2]; omega
set_option maxHeartbeats 4000000 in
set_option maxRecDepth 100000 in
theorem law_loop {p : Program} {e : Env} {s : State} {m : MethodId} {below : List Frame} {meth : Method} {c : Code} (l : Launch) (hl0 : l.stackTraces = false) {b L : Nat} {xs : Nat → Int32} (hL : L ≤ 3073) (C0 : lw_At p s m meth c b L xs) (A : Nat → Prop) (hA : ∀ q : Nat, s.heap.size ≤ q → A q) (hAs : ∀ q : Nat, A q → s.heap.size ≤ q) (hbA : ¬ A b) (dC : Nat → ClassId) (dI : Nat → Nat → Nat) (qx qm : Nat → Nat) (cI cZ cJ : ClassId) (ao tN : Nat) (hK : va_K (dC, dI) vwCl [(cI, .int), (cZ, .boolean), (cJ, .long)] s) (hE : eX tN A s s.heap) : ∀ (fuel n i : Nat), i = 6 * n + 1 → i < L + 7 → L + 7 - i < fuel → ∀ (r : RS) (k : CS) (a : AS) (y : MS) (o : OS), Rel r k a y → ∀ (H : Heap) (locs : List Loc), va_P (dC, dI) vwCl (wZ qx qm cI cZ cJ ao r k a y o) H → va_D A (wZ qx qm cI cZ cJ ao r k a y o) → va_S A s.heap H locs → ∀ ls : Array Slot, lv_has ls 7 [(4, .int (nI i)), (3, .ref ao), (2, .ref (qm 0)), (1, .ref (qx 17)), (0, .ref b)] → W p l e room_1 s m #[Value.ref b] below meth c H locs (33 + n) (743 + 6 * n) (lw_Z below #[Value.ref b] s) (F0 m 33 ls []) := by
  obtain ⟨hx, hb, hr, hml, hown, hts0, hX, hbl, hlocks, hgv⟩ := id C0
  intro fuel
  induction fuel with
  | zero => intro n i e1 e2 hm; exact absurd hm (Nat.not_lt_zero _)
  | succ fuel ih =>
    intro n i e1 e2 hm r k a y o hR H locs hP hD hS ls hl
    refine lv_iload hx hb dL_law_33 (lv_at hl 0 rfl) ?_
    refine lv_aload_n hx hb dL_law_35 rfl (lv_at hl 4 rfl) ?_
    refine va_slen hx hb hX hbl hbA hS dL_law_36 ?_
    refine lv_bipush (v := nI 6) hx hb dL_law_37 (by decide) ?_
    refine lv_isub hx hb dL_law_39 ?_
    refine lv_icmp_gt (tgt := 1196) hx hb dL_law_40 (by decide) (fun c1 => ?_) (fun c1 => ?_)
    · refine lv_iconst (v := 1) hx hb dL_law_1196 (by decide) ?_
      refine va_forget (fun q hq => hAs _ (hS.2.2 q hq)) ?_
      refine W.widen (k := 1072) (n := 9025) (by omega) (by omega) ?_
      exact lw_ret hx hb hr hlocks dL_law_1197
    · have hi : i + 5 < L := Decidable.byContradiction fun z => c1 ((gt_end (by omega) hL).mpr z)
      refine lv_aload_n hx hb dL_law_43 rfl (lv_at hl 4 rfl) ?_
      refine lv_iload hx hb dL_law_44 (lv_at hl 0 rfl) ?_
      refine va_sld hx hb hX hbl hbA hS (vp_in_nI (show i < L by omega) (by omega)) dL_law_46 ?_
      refine xt_i (show xs (nI i).toNatClampNeg = xs i from congrArg xs (nI_clamp (by omega))) ?_
      refine lv_bipush (v := nI 31) hx hb dL_law_47 (by decide) ?_
      refine lv_iand hx hb dL_law_49 ?_
      have hend : ∀ (r : RS) (k : CS) (a : AS) (y : MS) (o : OS), Rel r k a y → ∀ (H : Heap) (locs : List Loc), va_P (dC, dI) vwCl (wZ qx qm cI cZ cJ ao r k a y o) H → va_D A (wZ qx qm cI cZ cJ ao r k a y o) → va_S A s.heap H locs → ∀ ls : Array Slot, lv_has ls 7 [(4, .int (nI i)), (3, .ref ao), (2, .ref (qm 0)), (1, .ref (qx 17)), (0, .ref b)] → W p l e room_1 s m #[Value.ref b] below meth c H locs (33 + n + 1) (743 + 6 * n + 6) (lw_Z below #[Value.ref b] s) (F0 m 1190 ls []) := by
        intro r k a y o hR H locs hP hD hS ls hl
        refine lv_iinc (v := nI (i + 6)) (lv' := [(4, .int (nI (i + 6))), (3, .ref ao), (2, .ref (qm 0)), (1, .ref (qx 17)), (0, .ref b)]) hx hb dL_law_1190 hl (k := 0) rfl (nI_add _ 6) (by decide) rfl (fun ls hl => ?_)
        refine lv_goto (tgt := 33) hx hb dL_law_1193 (by decide) ?_
        exact ih (n + 1) (i + 6) (by omega) (by omega) (by omega) r k a y o hR H locs hP hD hS ls hl
      by_cases q0 : xs i &&& nI 31 = nI 0
      · rw [q0]
        refine lv_tableIn (tgt := 136) hx hb dL_law_50 (by decide) (by decide) rfl (by decide) ?_
        exact op_latch l hl0 hL C0 A hA hbA dC dI qx qm cI cZ cJ ao tN hK hE i hi (33 + n) (743 + 6 * n) (by omega) (by omega) r k a y o hR H locs hP hD hS ls hl hend
      by_cases q1 : xs i &&& nI 31 = nI 1
      · rw [q1]
        refine lv_tableIn (tgt := 280) hx hb dL_law_50 (by decide) (by decide) rfl (by decide) ?_
        exact op_make l hl0 hL C0 A hA hbA dC dI qx qm cI cZ cJ ao tN hK hE i hi (33 + n) (743 + 6 * n) (by omega) (by omega) r k a y o hR H locs hP hD hS ls hl hend
      by_cases q2 : xs i &&& nI 31 = nI 2
      · rw [q2]
        refine lv_tableIn (tgt := 336) hx hb dL_law_50 (by decide) (by decide) rfl (by decide) ?_
        exact op_at l hl0 hL C0 A hA hbA dC dI qx qm cI cZ cJ ao tN hK hE i hi (33 + n) (743 + 6 * n) (by omega) (by omega) r k a y o hR H locs hP hD hS ls hl hend
      by_cases q3 : xs i &&& nI 31 = nI 3
      · rw [q3]
        refine lv_tableIn (tgt := 404) hx hb dL_law_50 (by decide) (by decide) rfl (by decide) ?_
        exact op_lockUp l hl0 hL C0 A hA hbA dC dI qx qm cI cZ cJ ao tN hK hE i hi (33 + n) (743 + 6 * n) (by omega) (by omega) r k a y o hR H locs hP hD hS ls hl hend
      by_cases q4 : xs i &&& nI 31 = nI 4
      · rw [q4]
        refine lv_tableIn (tgt := 479) hx hb dL_law_50 (by decide) (by decide) rfl (by decide) ?_
        exact op_travel l hl0 hL C0 A hA hbA dC dI qx qm cI cZ cJ ao tN hK hE i hi (33 + n) (743 + 6 * n) (by omega) (by omega) r k a y o hR H locs hP hD hS ls hl hend
      by_cases q5 : xs i &&& nI 31 = nI 5
      · rw [q5]
        refine lv_tableIn (tgt := 493) hx hb dL_law_50 (by decide) (by decide) rfl (by decide) ?_
        exact op_improve l hl0 hL C0 A hA hbA dC dI qx qm cI cZ cJ ao tN hK hE i hi (33 + n) (743 + 6 * n) (by omega) (by omega) r k a y o hR H locs hP hD hS ls hl hend
      by_cases q6 : xs i &&& nI 31 = nI 6
      · rw [q6]
        refine lv_tableIn (tgt := 549) hx hb dL_law_50 (by decide) (by decide) rfl (by decide) ?_
        exact op_rule l hl0 hL C0 A hA hbA dC dI qx qm cI cZ cJ ao tN hK hE i hi (33 + n) (743 + 6 * n) (by omega) (by omega) r k a y o hR H locs hP hD hS ls hl hend
      by_cases q7 : xs i &&& nI 31 = nI 7
      · rw [q7]
        refine lv_tableIn (tgt := 617) hx hb dL_law_50 (by decide) (by decide) rfl (by decide) ?_
        exact op_set l hl0 hL C0 A hA hbA dC dI qx qm cI cZ cJ ao tN hK hE i hi (33 + n) (743 + 6 * n) (by omega) (by omega) r k a y o hR H locs hP hD hS ls hl hend
      by_cases q8 : xs i &&& nI 31 = nI 8
      · rw [q8]
        refine lv_tableIn (tgt := 708) hx hb dL_law_50 (by decide) (by decide) rfl (by decide) ?_
        exact op_load l hl0 hL C0 A hA hbA dC dI qx qm cI cZ cJ ao tN hK hE i hi (33 + n) (743 + 6 * n) (by omega) (by omega) r k a y o hR H locs hP hD hS ls hl hend
      by_cases q9 : xs i &&& nI 31 = nI 9
      · rw [q9]
        refine lv_tableIn (tgt := 756) hx hb dL_law_50 (by decide) (by decide) rfl (by decide) ?_
        exact op_value l hl0 hL C0 A hA hbA dC dI qx qm cI cZ cJ ao tN hK hE i hi (33 + n) (743 + 6 * n) (by omega) (by omega) r k a y o hR H locs hP hD hS ls hl hend
      by_cases q10 : xs i &&& nI 31 = nI 10
      · rw [q10]
        refine lv_tableIn (tgt := 812) hx hb dL_law_50 (by decide) (by decide) rfl (by decide) ?_
        exact op_shift l hl0 hL C0 A hA hbA dC dI qx qm cI cZ cJ ao tN hK hE i hi (33 + n) (743 + 6 * n) (by omega) (by omega) r k a y o hR H locs hP hD hS ls hl hend
      by_cases q11 : xs i &&& nI 31 = nI 11
      · rw [q11]
        refine lv_tableIn (tgt := 837) hx hb dL_law_50 (by decide) (by decide) rfl (by decide) ?_
        exact op_port l hl0 hL C0 A hA hbA dC dI qx qm cI cZ cJ ao tN hK hE i hi (33 + n) (743 + 6 * n) (by omega) (by omega) r k a y o hR H locs hP hD hS ls hl hend
      by_cases q12 : xs i &&& nI 31 = nI 12
      · rw [q12]
        refine lv_tableIn (tgt := 893) hx hb dL_law_50 (by decide) (by decide) rfl (by decide) ?_
        exact op_pin l hl0 hL C0 A hA hbA dC dI qx qm cI cZ cJ ao tN hK hE i hi (33 + n) (743 + 6 * n) (by omega) (by omega) r k a y o hR H locs hP hD hS ls hl hend
      by_cases q13 : xs i &&& nI 31 = nI 13
      · rw [q13]
        refine lv_tableIn (tgt := 941) hx hb dL_law_50 (by decide) (by decide) rfl (by decide) ?_
        exact op_tick l hl0 hL C0 A hA hbA dC dI qx qm cI cZ cJ ao tN hK hE i hi (33 + n) (743 + 6 * n) (by omega) (by omega) r k a y o hR H locs hP hD hS ls hl hend
      by_cases q14 : xs i &&& nI 31 = nI 14
      · rw [q14]
        refine lv_tableIn (tgt := 1009) hx hb dL_law_50 (by decide) (by decide) rfl (by decide) ?_
        exact op_state l hl0 hL C0 A hA hbA dC dI qx qm cI cZ cJ ao tN hK hE i hi (33 + n) (743 + 6 * n) (by omega) (by omega) r k a y o hR H locs hP hD hS ls hl hend
      by_cases q15 : xs i &&& nI 31 = nI 15
      · rw [q15]
        refine lv_tableIn (tgt := 1022) hx hb dL_law_50 (by decide) (by decide) rfl (by decide) ?_
        exact op_go l hl0 hL C0 A hA hbA dC dI qx qm cI cZ cJ ao tN hK hE i hi (33 + n) (743 + 6 * n) (by omega) (by omega) r k a y o hR H locs hP hD hS ls hl hend
      by_cases q16 : xs i &&& nI 31 = nI 16
      · rw [q16]
        refine lv_tableIn (tgt := 1078) hx hb dL_law_50 (by decide) (by decide) rfl (by decide) ?_
        exact op_boundary l hl0 hL C0 A hA hbA dC dI qx qm cI cZ cJ ao tN hK hE i hi (33 + n) (743 + 6 * n) (by omega) (by omega) r k a y o hR H locs hP hD hS ls hl hend
      by_cases q17 : xs i &&& nI 31 = nI 17
      · rw [q17]
        refine lv_tableIn (tgt := 1134) hx hb dL_law_50 (by decide) (by decide) rfl (by decide) ?_
        exact op_count l hl0 hL C0 A hA hbA dC dI qx qm cI cZ cJ ao tN hK hE i hi (33 + n) (743 + 6 * n) (by omega) (by omega) r k a y o hR H locs hP hD hS ls hl hend
      refine lv_tableOut (tgt := 1190) hx hb dL_law_50 (sw_out q0 q1 q2 q3 q4 q5 q6 q7 q8 q9 q10 q11 q12 q13 q14 q15 q16 q17) (by decide) ?_
      refine W.widen (k := 33 + n + 1) (n := 743 + 6 * n + 6) (by omega) (by omega) ?_
      exact hend r k a y o hR H locs hP hD hS ls hl
set_option maxHeartbeats 4000000 in
set_option maxRecDepth 100000 in
theorem whole_start {p : Program} {e : Env} {s : State} {m : MethodId} {below : List Frame} {meth : Method} {c : Code} (l : Launch) (hl0 : l.stackTraces = false) {b L : Nat} {xs : Nat → Int32} (hL : L ≤ 3073) (C0 : lw_At p s m meth c b L xs) : W p l e room_1 s m #[Value.ref b] below meth c s.heap [] 0 0 (lw_Z below #[Value.ref b] s) (entryFrame m ([Value.ref b] : List Value).toArray 7) := by
  obtain ⟨hx, hb, hr, hml, hown, hts0, hX, hbl, hlocks, hgv⟩ := id C0
  have hown : s.vm.findClass "ScanRowsLaw" = some m.cls := hown
  have hts : ∀ w ∈ ALLG, w.before #[Value.ref b] s = true := fun w h => hts0 w (List.mem_filter.mp h).1
  obtain ⟨A, hAe⟩ : ∃ A : Nat → Prop, A = fun q : Nat => s.heap.size ≤ q := ⟨_, rfl⟩
  have hA : ∀ q : Nat, s.heap.size ≤ q → A q := by rw [hAe]; exact fun _ h => h
  have hAs : ∀ q : Nat, A q → s.heap.size ≤ q := by rw [hAe]; exact fun _ h => h
  have hA0 : ∀ q : Nat, q < s.heap.size → ¬ A q := fun q h z => absurd (hAs q z) (Nat.not_le.mpr h)
  have hbA : ¬ A b := hA0 b hbl
  obtain ⟨tN, hE⟩ := env0 (A := A) hts0 hgv hA0
  obtain ⟨c0, iS0, hKn0⟩ := u_known (C := RX0) (T := TX0) (N := 9) (n := 9) hts inX0 (hts (.instantiable RX0 9) tw_96)
  obtain ⟨c1, iS1, hKn1⟩ := u_known (C := RX1) (T := TX1) (N := 5) (n := 5) hts inX1 (hts (.instantiable RX1 5) tw_71)
  obtain ⟨c2, iS2, hKn2⟩ := u_known (C := RX2) (T := TX2) (N := 12) (n := 12) hts inX2 (hts (.instantiable RX2 12) tw_22)
  obtain ⟨c3, iS3, hKn3⟩ := u_known (C := RX3) (T := TX3) (N := 3) (n := 3) hts inX3 (hts (.instantiable RX3 3) tw_14)
  obtain ⟨c4, iS4, hKn4⟩ := u_known (C := RX4) (T := TX4) (N := 23) (n := 23) hts inX4 (hts (.instantiable RX4 23) tw_567)
  obtain ⟨dC, dI, hKc⟩ : ∃ (dC : Nat → ClassId) (dI : Nat → Nat → Nat), ∀ (k : Nat) (q : vw_C), vwCl[k]? = some q → u_Kn s q.1 q.2.1 q.2.2 (dC k) (dI k) := by
    refine ⟨fun k => [c0, c1, c2, c3, c4].getD k c0, fun k => [iS0, iS1, iS2, iS3, iS4].getD k iS0, ?_⟩
    intro k q hq
    match k, hq with
    | 0, hq => cases hq; exact hKn0
    | 1, hq => cases hq; exact hKn1
    | 2, hq => cases hq; exact hKn2
    | 3, hq => cases hq; exact hKn3
    | 4, hq => cases hq; exact hKn4
    | k + 5, hq => simp [vwCl] at hq
  have hS : va_S A s.heap s.heap [] := va_S.rf
  have hK : va_K (dC, dI) vwCl [] s := ⟨hKc, fun k q h => by simp at h⟩
  obtain ⟨cI, hK⟩ := k_arr hK (Or.inl rfl) (hts (.arrayClass .int) tw_68)
  obtain ⟨cZ, hK⟩ := k_arr hK (Or.inr (Or.inl rfl)) (hts (.arrayClass .boolean) tw_69)
  obtain ⟨cJ, hK⟩ := k_arr hK (Or.inr (Or.inr rfl)) (hts (.arrayClass .long) tw_779)
  have hK : va_K (dC, dI) vwCl [(cI, .int), (cZ, .boolean), (cJ, .long)] s := hK
  have hP : va_P (dC, dI) vwCl [] s.heap := fun k q h => by simp at h
  have hD : va_D A [] := ⟨fun i j p q h => by simp at h, fun k q h => by simp at h⟩
  have hl := lv_entry ([.ref b]) (n := 7) (Nat.le_of_ble_eq_true rfl)
  rw [lg_entry_eq]
  generalize (lg_sl ([.ref b]) ++ List.replicate (7 - (lg_sl ([.ref b])).length) Slot.unset).toArray = ls at hl ⊢
  have hl : lv_has ls 7 [(0, .ref b)] := hl
  obtain ⟨H, hH⟩ : ∃ H, H = s.heap := ⟨_, rfl⟩
  rw [← hH] at hP ⊢
  have hS : va_S A s.heap H [] := by rw [hH]; exact va_S.rf
  refine va_new (ci := 3) (fs := [.null, .null, .null]) (C := RX3) (T := TX3) (N := 3) hx hb hts inX3 tyX3 tyX3_ok hown (hts _ tw_13) (hts _ tw_14) (hts _ tw_1) hK hP hD hS hA rfl (fun j hj => by match j, hj with | 0, _ => rfl | 1, _ => rfl | 2, _ => rfl | k + 3, h => exact absurd h (by omega)) (Nat.le_of_ble_eq_true rfl) (Nat.le_of_ble_eq_true rfl) dL_law_0 (fun h0 H hP hD hS => ?_)
  have hP : va_P (dC, dI) vwCl ([(h0, .inr (3, [.null, .null, .null]))]) H := hP
  have hD : va_D A ([(h0, .inr (3, [.null, .null, .null]))]) := hD
  refine W.widen (k := 1) (n := 3) (by omega) (by omega) ?_
  refine lv_dup hx hb dL_law_3 rfl ?_
  refine lv_aload_n hx hb dL_law_4 rfl (lv_at hl 0 rfl) ?_
  refine lv_iconst (v := nI 0) hx hb dL_law_5 (by decide) ?_
  refine xc_Si (As := [.ref b, .int (nI 0)]) (wr := [(h0, .inr (3, [.null, .null, .null]))]) ⟨hx, hb, hml, hown, hts⟩ (c_L_cell l dC dI H.size b L xs hL) (cwS 2 hts (gS tw_176 tw_177 tw_0 tw_178) rfl rfl rfl (by decide +kernel) ⟨Nat.le_of_ble_eq_true rfl, Nat.le_of_ble_eq_true rfl⟩) rfl hl.1 rfl (Nat.le_of_ble_eq_true rfl) dL_law_6 ⟨by show 1 + 0 ≤ 1072; omega, by show 3 + 0 ≤ 9025; omega⟩ hP hD hK hS hA [] [0] rfl rfl (by decide) (by decide) (by decide) [] rfl (eS_M _ _ _) ⟨hX.kept (hS.2.1 b hbl hbA), Nat.lt_of_lt_of_le hbl hS.1⟩ (fun v0 u0 H locs hw0 hP hD hS => ?_)
  obtain rfl := hw0
  have hP : va_P (dC, dI) vwCl ([(h0, .inr (3, [.null, .null, .null]))]) H := hP
  have hD : va_D A ([(h0, .inr (3, [.null, .null, .null]))]) := hD
  refine xc_Iv (As := [.int (x0 L xs)]) (wr := []) ⟨hx, hb, hml, hown, hts⟩ (c_Self_init l dC dI cI cZ H.size h0 (x0 L xs)) (cwI 1 hts (gA tw_17) rfl rfl rfl (hts _ tw_1) (hts _ tw_15) (hts _ tw_16) rfl (by decide +kernel) ⟨Nat.le_of_ble_eq_true rfl, Nat.le_of_ble_eq_true rfl⟩) rfl hl.1 rfl (Nat.le_of_ble_eq_true rfl) dL_law_9 ⟨Nat.le_of_ble_eq_true rfl, Nat.le_of_ble_eq_true rfl⟩ hP hD hK hS hA [0] [] rfl rfl (by decide) (by decide) (by decide) [0, 1] rfl eT_M trivial (fun qx H locs hw1 hPn hDn hSn => ?_)
  obtain rfl := hw1
  have hP : va_P (dC, dI) vwCl (wX qx cI cZ r0 k0 (a00 (x0 L xs))) H := hPn
  have hD : va_D A (wX qx cI cZ r0 k0 (a00 (x0 L xs))) := hDn
  have hS := hSn
  refine W.widen (k := 18) (n := 390) (by decide) (by decide) ?_
  refine lv_astore_n (lv' := [(1, .ref (qx 17)), (0, .ref b)]) hx hb dL_law_12 rfl hl (by decide) rfl (fun ls hl => ?_)
  refine va_new (ci := 4) (fs := [.int (nI 0), .int (nI 0), .null, .null, .null, .null, .null, .int (nI 0), .null, .int (nI 0), .null, .int (nI 0), .null, .null, .null, .null, .int (nI 0), .null, .int (nI 0), .int (nI 0), .int (nI 0), .int (nI 0), .null]) (C := RX4) (T := TX4) (N := 23) hx hb hts inX4 tyX4 tyX4_ok hown (hts _ tw_566) (hts _ tw_567) (hts _ tw_5) hK hP hD hS hA rfl (fun j hj => by match j, hj with | 0, _ => rfl | 1, _ => rfl | 2, _ => rfl | 3, _ => rfl | 4, _ => rfl | 5, _ => rfl | 6, _ => rfl | 7, _ => rfl | 8, _ => rfl | 9, _ => rfl | 10, _ => rfl | 11, _ => rfl | 12, _ => rfl | 13, _ => rfl | 14, _ => rfl | 15, _ => rfl | 16, _ => rfl | 17, _ => rfl | 18, _ => rfl | 19, _ => rfl | 20, _ => rfl | 21, _ => rfl | 22, _ => rfl | k + 23, h => exact absurd h (by omega)) (Nat.le_of_ble_eq_true rfl) (Nat.le_of_ble_eq_true rfl) dL_law_13 (fun h1 H hP hD hS => ?_)
  have hP : va_P (dC, dI) vwCl (wX qx cI cZ r0 k0 (a00 (x0 L xs)) ++ [(h1, .inr (4, [.int (nI 0), .int (nI 0), .null, .null, .null, .null, .null, .int (nI 0), .null, .int (nI 0), .null, .int (nI 0), .null, .null, .null, .null, .int (nI 0), .null, .int (nI 0), .int (nI 0), .int (nI 0), .int (nI 0), .null]))]) H := hP
  have hD : va_D A (wX qx cI cZ r0 k0 (a00 (x0 L xs)) ++ [(h1, .inr (4, [.int (nI 0), .int (nI 0), .null, .null, .null, .null, .null, .int (nI 0), .null, .int (nI 0), .null, .int (nI 0), .null, .null, .null, .null, .int (nI 0), .null, .int (nI 0), .int (nI 0), .int (nI 0), .int (nI 0), .null]))]) := hD
  refine W.widen (k := 19) (n := 413) (by omega) (by omega) ?_
  refine lv_dup hx hb dL_law_16 rfl ?_
  refine lv_aload_n hx hb dL_law_17 rfl (lv_at hl 1 rfl) ?_
  refine lv_iconst (v := nI 0) hx hb dL_law_18 (by decide) ?_
  refine xc_Si (As := [.ref b, .int (nI 0)]) (wr := wX qx cI cZ r0 k0 (a00 (x0 L xs)) ++ [(h1, .inr (4, [.int (nI 0), .int (nI 0), .null, .null, .null, .null, .null, .int (nI 0), .null, .int (nI 0), .null, .int (nI 0), .null, .null, .null, .null, .int (nI 0), .null, .int (nI 0), .int (nI 0), .int (nI 0), .int (nI 0), .null]))]) ⟨hx, hb, hml, hown, hts⟩ (c_L_cell l dC dI H.size b L xs hL) (cwS 2 hts (gS tw_176 tw_177 tw_0 tw_178) rfl rfl rfl (by decide +kernel) ⟨Nat.le_of_ble_eq_true rfl, Nat.le_of_ble_eq_true rfl⟩) rfl hl.1 rfl (Nat.le_of_ble_eq_true rfl) dL_law_19 ⟨by show 19 + 0 ≤ 1072; omega, by show 413 + 0 ≤ 9025; omega⟩ hP hD hK hS hA [] [0, 1, 2, 3, 4, 5, 6, 7, 8, 9, 10, 11, 12, 13, 14, 15, 16, 17, 18] rfl rfl (by decide) (by decide) (by decide) [] rfl (eS_M _ _ _) ⟨hX.kept (hS.2.1 b hbl hbA), Nat.lt_of_lt_of_le hbl hS.1⟩ (fun v0 u0 H locs hw0 hP hD hS => ?_)
  obtain rfl := hw0
  have hP : va_P (dC, dI) vwCl (wX qx cI cZ r0 k0 (a00 (x0 L xs)) ++ [(h1, .inr (4, [.int (nI 0), .int (nI 0), .null, .null, .null, .null, .null, .int (nI 0), .null, .int (nI 0), .null, .int (nI 0), .null, .null, .null, .null, .int (nI 0), .null, .int (nI 0), .int (nI 0), .int (nI 0), .int (nI 0), .null]))]) H := hP
  have hD : va_D A (wX qx cI cZ r0 k0 (a00 (x0 L xs)) ++ [(h1, .inr (4, [.int (nI 0), .int (nI 0), .null, .null, .null, .null, .null, .int (nI 0), .null, .int (nI 0), .null, .int (nI 0), .null, .null, .null, .null, .int (nI 0), .null, .int (nI 0), .int (nI 0), .int (nI 0), .int (nI 0), .null]))]) := hD
  refine xc_Iv (As := [.int (x0 L xs)]) (wr := wX qx cI cZ r0 k0 (a00 (x0 L xs))) ⟨hx, hb, hml, hown, hts⟩ (c_M_init l dC dI cI cZ H.size h1 (x0 L xs)) (cwI 1 hts (gA tw_570) rfl rfl rfl (hts _ tw_5) (hts _ tw_568) (hts _ tw_569) rfl (by decide +kernel) ⟨Nat.le_of_ble_eq_true rfl, Nat.le_of_ble_eq_true rfl⟩) rfl hl.1 rfl (Nat.le_of_ble_eq_true rfl) dL_law_22 ⟨Nat.le_of_ble_eq_true rfl, Nat.le_of_ble_eq_true rfl⟩ hP hD hK hS hA [18] [0, 1, 2, 3, 4, 5, 6, 7, 8, 9, 10, 11, 12, 13, 14, 15, 16, 17] rfl rfl (by decide) (by decide) (by decide) [0, 1] rfl eT_M trivial (fun qm H locs hw2 hPn hDn hSn => ?_)
  obtain rfl := hw2
  have hP : va_P (dC, dI) vwCl (wX qx cI cZ r0 k0 (a00 (x0 L xs)) ++ wM qm cI cZ (m00 (x0 L xs))) H := hPn
  have hD : va_D A (wX qx cI cZ r0 k0 (a00 (x0 L xs)) ++ wM qm cI cZ (m00 (x0 L xs))) := hDn
  have hS := hSn
  refine W.widen (k := 32) (n := 742) (by decide) (by decide) ?_
  refine lv_astore_n (lv' := [(2, .ref (qm 0)), (1, .ref (qx 17)), (0, .ref b)]) hx hb dL_law_25 rfl hl (by decide) rfl (fun ls hl => ?_)
  refine lv_iconst (v := nI 1) hx hb dL_law_26 (by decide) ?_
  refine va_newa (atype := .long) (ty := .long) (a0 := (1, .inr (.inl (fun _ => 0)))) hx hb (hts _ tw_779) rfl hK hP hD hS hA (fun _ => rfl) (by decide) (N' := 1) (by decide) (by decide) (Nat.le_of_ble_eq_true rfl) (Nat.le_of_ble_eq_true rfl) dL_law_27 (fun ao cN H hK hP hD hS => ?_)
  obtain rfl := xk_one 2 3 hK rfl rfl (fun _ z => by cases z)
  have hK : va_K (dC, dI) vwCl [(cI, .int), (cZ, .boolean), (cJ, .long)] s := hK.sub [0, 1, 2] rfl
  have hP : va_P (dC, dI) vwCl (wZ qx qm cI cZ cJ ao r0 k0 (a00 (x0 L xs)) (m00 (x0 L xs)) (fun _ => 0)) H := hP
  have hD : va_D A (wZ qx qm cI cZ cJ ao r0 k0 (a00 (x0 L xs)) (m00 (x0 L xs)) (fun _ => 0)) := hD
  refine W.widen (k := 33) (n := 743) (by decide) (by decide) ?_
  refine lv_astore_n (lv' := [(3, .ref ao), (2, .ref (qm 0)), (1, .ref (qx 17)), (0, .ref b)]) hx hb dL_law_29 rfl hl (by decide) rfl (fun ls hl => ?_)
  refine lv_iconst (v := nI 1) hx hb dL_law_30 (by decide) ?_
  refine lv_istore (lv' := [(4, .int (nI 1)), (3, .ref ao), (2, .ref (qm 0)), (1, .ref (qx 17)), (0, .ref b)]) hx hb dL_law_31 hl (by decide) rfl (fun ls hl => ?_)
  exact law_loop l hl0 hL C0 A hA hAs hbA dC dI qx qm cI cZ cJ ao tN hK hE (L + 7) 0 1 rfl (by omega) (by omega) r0 k0 (a00 (x0 L xs)) (m00 (x0 L xs)) (fun _ => 0) (Rel_0 _) H _ hP hD hS ls hl
theorem st_off {l : Launch} (h : l.flags = flags0) : l.stackTraces = false := by
  unfold Launch.stackTraces; rw [h]; decide +kernel
set_option maxHeartbeats 4000000 in
theorem lw_walk (l : Launch) (hl0 : l.stackTraces = false) (b : Addr) (xs : List Int32) : MetFree l x (headSpec (Jvm.Cond.code x code maxLocals ret :: tables_1) room_1) (lw_P b xs) (fun _ _ _ _ _ => True) lw_Q := by
  refine MetFree.of_bodyS (code := code) (maxLocals := maxLocals) (ret := ret) (by decide) ?_ ?_
  · intro args s m h hn
    obtain ⟨meth, c, h1, h2, h3, h4, h5, h6, -, -⟩ := Cond.code_spec hn (atoms_spec (ws := Jvm.Cond.code x code maxLocals ret :: tables_1) h _ List.mem_cons_self)
    exact ⟨meth, c, h1, h2, h3, h4, h5, h6⟩
  · intro p e s m args below meth c s₁ B hml0 hP _
    obtain ⟨rfl, hx, hbd, hgv⟩ := hP
    obtain ⟨scr, harrAt, hlist, hof, hsmall⟩ := hx
    obtain ⟨hcb, hkn, -, -⟩ := State.arrayAt?_spec harrAt
    have hown : s.vm.findClass R_law = some m.cls := findClass_of_methodNamed B.named
    have hts0 : ∀ c ∈ (Jvm.Cond.code x code maxLocals ret :: tables_1), c.before #[Value.ref b] s = true := atoms_spec (ws := Jvm.Cond.code x code maxLocals ret :: tables_1) B.pre
    have hts : ∀ w ∈ lw_tbl, w.before #[Value.ref b] s = true := k2_hts_sels lw_privs (fun w hw => hts0 w (List.mem_cons_of_mem _ hw)) lw_privs_ok
    have hml : c.maxLocals = 7 := B.maxLocals_eq (hts0 _ List.mem_cons_self)
    have X₀ : Stand p l e room_1 s m #[Value.ref b] below meth c s₁ [] 0 0 := Stand.of_body B
    have hh0 : s₁.heap = s.heap := by rw [B.state]; rfl
    have hsz : scr.slots.size = xs.length := by rw [← Array.length_toList, hlist, List.length_map]
    have hval : ∀ j : Nat, j < xs.length → scr.slots[j]? = some (.int (xs.getD j 0)) := fun j hj => by
      rw [← Array.getElem?_toList, hlist]
      simp [hj]
    have hbl : b < s.heap.size := (Array.getElem?_eq_some_iff.mp hcb).1
    have hX : va_X b xs.length (fun j => xs.getD j 0) s s.heap := ⟨scr, hcb, hof, hkn, hsz, hval⟩
    have K : W p l e room_1 s m #[Value.ref b] below meth c s₁.heap [] 0 0 (lw_Z below #[Value.ref b] s) (entryFrame m ([Value.ref b] : List Value).toArray 7) := by
      rw [hh0]
      exact whole_start l hl0 hbd ⟨B.exec, B.bytes, B.returns, hml, hown, hts, hX, hbl, B.notSynchronized, hgv⟩
    obtain ⟨t, a1, o, b1, b2, b3⟩ := K s₁ rfl X₀
    exact ⟨t, o, a1, b1, b2, b3⟩
theorem lw_pre_spec {args : Array Value} {s : State} (h : (Jvm.Cond.and given_1 narrow_1).before args s = true) (hr : rest_1_c.before args s = true) : ∃ (b : Addr) (xs : List Int32), lw_P b xs args s := by
  have hs := flat_of_before _ h
  have hq := flat_of_before _ hr
  have hc : (Cond.count 1).before args s = true := hs _ (by decide +kernel)
  have harr : (Cond.arrayOf (.arg 0) .int).before args s = true := hs _ (by decide +kernel)
  have hle : (Cond.le (.length (.arg 0)) (.int 3073)).before args s = true := hs _ (by decide +kernel)
  have hlen : (Cond.isInt (.length (.arg 0))).before args s = true := hq _ (by decide +kernel)
  have hall : (Cond.all (.arg 0) (.isInt (.elem (.arg 0) (.index 0)))).before args s = true := hq _ (by decide +kernel)
  obtain ⟨b, xs, hb, hx⟩ := State.ints_of_pre rfl harr hlen hall
  have hsm : xs.length < 2 ^ 31 := hx.choose_spec.2.2.2
  have hev : (Term.length (.arg 0)).eval args s none [] s = some (.int xs.length.toInt32) := hx.length_eval hb
  have hv := Cond.le_ints hev (show (Term.int 3073).eval args s none [] s = some (.int 3073) from rfl)
  have hd : xs.length.toInt32 ≤ 3073 := by
    simpa [Cond.before, Cond.holds, hv] using hle
  have hN : xs.length ≤ 3073 := (Int32.ofNat_le_ofNat hsm (by decide)).mp (show Int32.ofNat xs.length ≤ Int32.ofNat 3073 from hd)
  exact ⟨b, xs, Cond.one_arg hc (show args[0]? = some (.ref b) from hb), hx, hN, h⟩
theorem lw_comes (l : Launch) (hl0 : l.stackTraces = false) : Comes l x (Jvm.Cond.code x code maxLocals ret :: tables_1) room_1 (fun tb e args s => Calls_1 tb e args s ∧ rest_1 tb e args s ∧ Pre_1 tb e args s)
    (fun _ _ args s o t => lw_Q args s o t) := by
  intro p e ha hc hk s m args below hf hfit hheap happ hpre
  obtain ⟨b, xs, hP⟩ := lw_pre_spec hpre.2.2 hpre.2.1
  obtain ⟨k, o, h1, h2, h3, hQ⟩   := lw_walk l hl0 b xs p e ha hc hk s m args below hf ((Spec.applies_iff_loose hf).mp happ).1 hP trivial
  exact ⟨k, o, h1, h2, h3, hQ⟩
theorem lw_frame {s t : State} {o : Outcome} {args : Array Value} (h : Framed s o t [] 1072 9025) :
    Framed s o t (fieldLocs frame_1_writes args s ++ arrayLocs frame_1_arrays args s ++ staticLocs frame_1_statics s) 1072 9025 := h
theorem lw_limb (L : Cond) (hL : ∀ (args : Array Value) (s t : State), L.after args s (.returned (some (.int 1))) t = true) :
    ArmFor flags0 classFile x code maxLocals ret World_1 tables_1 room_1 Calls_1 rest_1 Pre_1
      (fun tb e a s o t => postC L tb e a s o t ∧ Framed s o t (fieldLocs frame_1_writes a s ++ arrayLocs frame_1_arrays a s ++ staticLocs frame_1_statics s) 1072 9025) := by
  intro l hfl _ _ p e ha hc hk s m args below hf hfit hheap happ hpre
  obtain ⟨k, o, h1, h2, h3, rfl, hF⟩ := lw_comes l (st_off hfl) p e ha hc hk s m args below hf hfit hheap happ hpre
  exact ⟨k, _, h1, h2, h3, hL args s _, lw_frame hF⟩
theorem i_vc : Claimed_1_1 ∧ Claimed_1_2 := ⟨lw_limb limb_1_1 (fun args s t => by simp [limb_1_1, Cond.after, Cond.holds, Cond.value]), lw_limb limb_1_2 (fun args s t => Cond.after_iff.mpr (by
  first | (rw [show limb_1_2 = Cond.eq .result (.int 1) from rfl, Cond.eq_ints (x := 1) (y := 1) rfl rfl]; simp; done) | (simp [limb_1_2, Cond.value, Term.eval]; done)))⟩
