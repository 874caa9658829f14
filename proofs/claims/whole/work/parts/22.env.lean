/-! what is asked of a state for a throw: words of the tables that are no lasting ones, texts, two statics of Throwable -/
def nwK : Cond → Bool
  | .declares _ => true
  | .castable .. => true
  | _ => false
theorem nw_mv {w : Cond} (hk : nwK w = true) {s U : State} (h : s.vm.Alike U.vm) (hb : w.before #[] s = true) : w.before #[] U = true := by
  cases w with
  | declares x => exact va_tabs rfl (rfl : (s.setVm U.vm).vm = U.vm) (by rw [Cond.declares_setVm h]; exact hb)
  | castable C T => exact va_tabs rfl (rfl : (s.setVm U.vm).vm = U.vm) (by rw [Cond.castable_setVm h]; exact hb)
  | _ => exact Bool.noConfusion hk
abbrev xUOE : String := "java/lang/UnsupportedOperationException"
abbrev xIAE : String := "java/lang/IllegalArgumentException"
abbrev xIOB : String := "java/lang/IndexOutOfBoundsException"
abbrev xNs : List String := ["java/lang/RuntimeException", "java/lang/Exception"]
def XW : List Cond := (vx_atS RX3 40 xUOE xNs ++ (vx_atS RX3 47 xIAE xNs ++ vx_atS RX3 72 xIOB xNs)).filter (fun w => !goodWord w)
theorem XW_k : ∀ w ∈ XW, nwK w = true := by decide +kernel
theorem XW_t : ∀ w ∈ XW, w.onTables = true := by decide +kernel
theorem XW_in : ∀ w ∈ XW, w ∈ lw_tbl := by decide +kernel
def STR : List (Nat × String) := [(38, "there are as many latches as there can be"), (45, "no such clock"), (52, "no such place"), (58, "chains are not 1 to 8"), (70, "no such chain or place"), (88, "steps are below 0"), (93, "no such rule or no such what"), (119, "there are as many cells as there can be"), (121, "no such kind"), (132, "mode or bit is not 0 or 1"), (140, "no such state"), (159, "no such what"), (161, "no such latch"), (163, "no such cell")]
def eXs (U : State) : Prop := (∀ w ∈ XW, w.before #[] U = true) ∧ (∀ x ∈ STR, ∃ sa, vk_R RX3 x.1 x.2 sa U) ∧ va_Nc xIAE xUOE U
theorem eXs_W {s U : State} (hW : s.WarmedH U.vm) (h : eXs s) : eXs U := ⟨fun w hw => nw_mv (XW_k w hw) hW.alike (h.1 w hw), fun x hx => (h.2.1 x hx).imp fun _ z => vk_R.warm hW z, va_Nc.moved hW.alike h.2.2⟩
def eX (tN : Nat) (A : Nat → Prop) : State → Heap → Prop := fun U H => eN tN A U H ∧ vx_Zq Bundle.tN "UNASSIGNED_STACK" Bundle.steD A U H ∧ vx_Zq Bundle.tN "SUPPRESSED_SENTINEL" Bundle.listD A U H ∧ eXs U
def eW (E : State → Heap → Prop) : Prop := ∀ (s U : State) (H : Heap), s.WarmedH U.vm → E s H → E U H
theorem eW_of {E : State → Heap → Prop} (h : eM E) : eW E := fun s U H hW => h s U H hW.alike
theorem eX_W (tN : Nat) (A : Nat → Prop) : eW (eX tN A) := fun s U H hW h => ⟨eN_M tN A s U H hW.alike h.1, vx_Zq.moved hW.alike h.2.1, vx_Zq.moved hW.alike h.2.2.1, eXs_W hW h.2.2.2⟩
theorem eX_kn {tN : Nat} {A B : Nat → Prop} {s : State} {H0 H : Heap} {locs : List Loc} (h : eX tN A s H0) (hS : va_S A H0 H locs) (hAB : ∀ q, B q → A q) : eX tN B s H := ⟨eN_kn h.1 hS hAB, (h.2.1.kept hS.2.1).narrow hAB, (h.2.2.1.kept hS.2.1).narrow hAB, h.2.2.2⟩
theorem cP_blindW {As : List Value} {D : va_G} {cl : List vw_C} {tys : List (ClassId × FieldType)} {ws : va_W} {E : State → Heap → Prop} {sz : Nat} (hE : eW E) : FrameBlind (va_Pc As (cP D cl tys ws E sz)) := fun a U g mk q => ⟨q.1, q.2.1, q.2.2.1, va_K.moved (u := U) (U := U.calling g mk a) (Vm.Alike.refl U.vm) q.2.2.2.1, q.2.2.2.2.1, hE U (U.calling g mk a) U.heap (State.WarmedH.refl U) q.2.2.2.2.2⟩
theorem xc_preW {s : State} {H : Heap} {As : List Value} {D : va_G} {cl : List vw_C} {tys tysC : List (ClassId × FieldType)} {ws wc : va_W} {E : State → Heap → Prop} {A : Nat → Prop} (hP : va_P D cl ws H) (hD : va_D A ws) (hK : va_K D cl tys s) (is : List Nat) (hC : is.map (fun i => ws[i]?) = wc.map some) (hn : va_nd is = true) (tK : List Nat) (hKs : tK.filterMap (fun i => tys[i]?) = tysC) (hM : eW E) (hE : E s H) :
    ∀ U : State, U.heap = H → s.WarmedH U.vm → va_Pc As (cP D cl tysC wc E H.size) As.toArray U :=
  fun U hU hW => ⟨rfl, by rw [hU], by rw [hU]; exact xc_P hP is hC, va_K.moved hW.alike (hK.sub tK hKs), (hD.sub is hn hC).weaken (fun _ _ _ _ => trivial), by rw [hU]; exact hM s U H hW hE⟩
/-- where a method has thrown, and the world is as it was -/
abbrev xE (D : va_G) (cl : List vw_C) (tys : List (ClassId × FieldType)) (X : String) (ws : va_W) (A : Nat → Prop) : String → State → State → Prop := vx_X (fun (_ : Unit) => True) (fun E (_ : Unit) t => E = X ∧ cB D cl tys ws A t) A
abbrev qNi (A : Nat → Prop) : Array Value → State → Outcome → State → Prop := va_Qi (fun (_ : Int32) (_ : Unit) => False) (fun _ _ => True) A
abbrev qNv (A : Nat → Prop) : Array Value → State → Outcome → State → Prop := va_Qv (fun (_ : Unit) => False) (fun _ _ => True) A
theorem xm_x {l : Launch} {y : MethodName} {wsY ws' : List Cond} {rm : Room} {As : List Value} {D : va_G} {cl : List vw_C} {tys : List (ClassId × FieldType)} {ws : va_W} {E : State → Heap → Prop} {sz : Nat} {Qc : Array Value → State → Outcome → State → Prop} {XC : String → State → State → Prop} {mc ms : Nat} {cc : ByteArray} {maxL : Nat} {ret : Option FieldType}
    (hy : plainName y.cls = true) (hw : wsY = Cond.code y cc maxL ret :: ws') (hlen : (lg_sl As).length ≤ maxL)
    (body : ∀ (p : Program) (e : Env) (s : State) (m : MethodId) (below : List Frame) (meth : Method) (c : Code) (A : Nat → Prop), A = va_A ws sz → p.tables.exec = Jvm.exec → c.code = cc → meth.sig.returnType = ret → c.maxLocals = maxL → (∀ w ∈ wsY, w.before As.toArray s = true) → s.vm.findClass y.cls = some m.cls → meth.locks = false → (∀ x ∈ c.exceptionTable.toList, False) →
      s.heap.size = sz → ∀ (H : Heap) (locs : List Loc), va_P D cl ws H → va_K D cl tys s → va_D A ws → (∀ q : Nat, s.heap.size ≤ q → A q) → va_S A s.heap H locs → E s s.heap → ∀ ls : Array Slot, lv_has ls maxL (lv_args 0 As) →
      W p l e rm s m As.toArray below meth c H locs 0 0 (vx_MQ below Qc XC As.toArray s mc ms A) (F0 m 0 ls [])) : vx_Met l y wsY rm (va_Pc As (cP D cl tys ws E sz)) Qc XC mc ms (va_A ws sz) := by
  refine vx_ofW (cc := cc) (maxL := maxL) (ret := ret) hy hw ?_
  intro p e s m args below meth c s₁ B hml ht hv
  obtain ⟨rfl, hsz, hP, hK, hD0, hE⟩ := hv
  have hl := lv_entry As (n := maxL) hlen
  rw [lg_entry_eq]
  exact body p e s m below meth c (va_A ws sz) rfl B.exec B.bytes B.returns hml (atoms_spec (ws := wsY) B.pre) (findClass_of_methodNamed B.named) B.notSynchronized ht hsz s.heap [] hP hK (hD0.self (sz := sz)) (fun q h => Or.inr (by rw [← hsz]; exact h)) va_S.rf hE _ hl
/-- a method with a table of handlers that returns -/
theorem xm_h {l : Launch} {y : MethodName} {wsY ws' : List Cond} {rm : Room} {As : List Value} {D : va_G} {cl : List vw_C} {tys : List (ClassId × FieldType)} {ws : va_W} {E : State → Heap → Prop} {sz : Nat} {Qc : Array Value → State → Outcome → State → Prop} {mc ms : Nat} {cc : ByteArray} {maxL : Nat} {ret : Option FieldType} {hh : List (Nat × Nat × Nat × Nat)}
    (hy : plainName y.cls = true) (hw : wsY = Cond.codeWith y cc maxL ret hh :: ws') (hlen : (lg_sl As).length ≤ maxL)
    (body : ∀ (p : Program) (e : Env) (s : State) (m : MethodId) (below : List Frame) (meth : Method) (c : Code) (A : Nat → Prop), A = va_A ws sz → p.tables.exec = Jvm.exec → c.code = cc → meth.sig.returnType = ret → c.maxLocals = maxL → (∀ w ∈ wsY, w.before As.toArray s = true) → s.vm.findClass y.cls = some m.cls → meth.locks = false → c.exceptionTable.toList = tableOf hh →
      s.heap.size = sz → ∀ (H : Heap) (locs : List Loc), va_P D cl ws H → va_K D cl tys s → va_D A ws → (∀ q : Nat, s.heap.size ≤ q → A q) → va_S A s.heap H locs → E s s.heap → ∀ ls : Array Slot, lv_has ls maxL (lv_args 0 As) →
      W p l e rm s m As.toArray below meth c H locs 0 0 (MQ below Qc As.toArray s mc ms A) (F0 m 0 ls [])) : Met l y wsY rm (va_Pc As (cP D cl tys ws E sz)) Qc mc ms (va_A ws sz) := by
  refine MetFree.of_bodyS (code := cc) (maxLocals := maxL) (ret := ret) hy ?_ ?_
  · intro args s m h hn
    obtain ⟨m9, meth, c, hn9, h1, h2, h3, h4, -, h5, h6, -⟩ := Cond.codeWith_spec (atoms_spec (ws := wsY) h _ (by rw [hw]; exact List.mem_cons_self))
    cases hn.symm.trans hn9
    exact ⟨meth, c, h1, h2, h3, h4, h5, h6⟩
  · intro p e s m args below meth c s₁ B hml hv _
    obtain ⟨rfl, hsz, hP, hK, hD0, hE⟩ := hv
    have hl := lv_entry As (n := maxL) hlen
    have hh0 : s₁.heap = s.heap := by rw [B.state]; rfl
    have hpre := atoms_spec (ws := wsY) B.pre
    have ht := vx_table (x := y) B (hpre _ (by rw [hw]; exact List.mem_cons_self))
    have hbody := body p e s m below meth c (va_A ws sz) rfl B.exec B.bytes B.returns hml hpre (findClass_of_methodNamed B.named) B.notSynchronized ht hsz s.heap [] hP hK (hD0.self (sz := sz)) (fun q h => Or.inr (by rw [← hsz]; exact h)) va_S.rf hE _ hl
    rw [← lg_entry_eq] at hbody
    obtain ⟨t, a1, o, b1, b2, b3⟩ := hbody s₁ hh0 (Stand.of_body B)
    exact ⟨t, o, a1, b1, b2, ⟨b3.1, b3.2⟩⟩
section XT
variable {p : Program} {l : Launch} {e : Env} {R : Room} {s : State} {m : MethodId} {args : Array Value} {below : List Frame} {meth : Method} {c : Code} {H : Heap} {locs : List Loc} {cells slots : Nat} {Q : State → Prop}
variable {cc : ByteArray} {pc : Nat} {ls : Array Slot} {rest : List Value} {A : Nat → Prop} {D : va_G} {cl : List vw_C} {tys : List (ClassId × FieldType)} {ws : va_W}
theorem xt_S {Qc : Array Value → State → Outcome → State → Prop} {mc ms tN : Nat} (hx : p.tables.exec = Jvm.exec) (hb : c.code = cc) (hl0 : l.stackTraces = false) (hown : s.vm.findClass RX3 = some m.cls) (hts : ∀ w ∈ ALLG, w.before args s = true) (hlk : meth.locks = false) (hout : ∀ x ∈ c.exceptionTable.toList, False) (hsize : ls.size = c.maxLocals) (hE : eX tN A s s.heap) (hP : va_P D cl ws H) (hK : va_K D cl tys s) (hD : va_D A ws) (hS : va_S A s.heap H locs)
    {X text : String} {ik is ic : Nat} (hwk : Cond.classLink RX3 ik X ∈ ALLG) (hwi : Cond.initialized X ∈ ALLG) (hstr : (is, text) ∈ STR) (hg : ∀ w ∈ (vx_atS RX3 ic X xNs).filter goodWord, w ∈ ALLG) (hn : ∀ w ∈ (vx_atS RX3 ic X xNs).filter (fun w => !goodWord w), w ∈ XW) (hot : ∀ w ∈ Cond.classLink RX3 ik X :: Cond.initialized X :: vx_atS RX3 ic X xNs, vx_ot w = true) (hfit : Bundle.fit X = true)
    (d0 : decode cc pc = .ok (.new ik, 3)) (d3 : decode cc (pc + 3) = .ok (.dup, 1)) (d4 : decode cc (pc + 4) = .ok (.ldc is, 2)) (d6 : decode cc (pc + 6) = .ok (.invokespecial ic, 3)) (d9 : decode cc (pc + 9) = .ok (.athrow, 1))
    (hRf : 5 < R.frames) (hRl : (rest.map fun v => v.category).sum + 82 ≤ R.locals) (hRc : cells + 1 ≤ R.cells) (hRs : slots + 6 ≤ R.slots) (hc : cells + 1 ≤ mc) (hs : slots + 6 ≤ ms) :
    W p l e R s m args below meth c H locs cells slots (vx_MQ below Qc (xE D cl tys X ws A) args s mc ms A) (F0 m pc ls rest) := by
  obtain ⟨sa, hsa⟩ := hE.2.2.2.2.1 _ hstr
  refine vx_throwS (names := xNs) hx hb hl0 hown hfit (by decide +kernel) (hts _ hwk) (hts _ hwi) hsa (vx_hat (fun w hw => hts w (hg w hw)) hn (fun w hw => va_tabs (XW_t w hw) rfl (hE.2.2.2.1 w hw))) hot hE.2.1 hE.2.2.1 hS hsize d0 d3 d4 d6 d9 (fun x hx => absurd (hout x hx) id) hRf hRl hRc hRs hlk ?_ hS.2.2 hc hs
  intro t hal hz hk
  exact ⟨(), trivial, ⟨rfl, hP.kept (fun k x hx => hk x.1 ((hP k x hx).lt)), va_K.moved hal hK, hD⟩, Nat.le_trans hS.1 hz, fun q h1 h2 => (hk q (Nat.lt_of_lt_of_le h1 hS.1)).trans (hS.2.1 q h1 h2)⟩
/-- thrown by a callee, and not caught here -/
theorem xt_out {Qc : Array Value → State → Outcome → State → Prop} {mc ms : Nat} (hlk : meth.locks = false) (hout : ∀ x ∈ c.exceptionTable.toList, False) {X : String} {ce : Cell} {q : Addr} (hcell : H[q]? = some ce) (hv : ce.vm = .none) (hcl : s.vm.findClass X = some ce.cls) (hP : va_P D cl ws H) (hK : va_K D cl tys s) (hD : va_D A ws) (hS : va_S A s.heap H locs) (hc : cells ≤ mc) (hs : slots ≤ ms) :
    vx_W p l e R s m args below meth c H locs cells slots (vx_MQ below Qc (xE D cl tys X ws A) args s mc ms A) (F0 m pc ls rest) q :=
  vx_out (fun x hx => absurd (hout x hx) id) hlk hcell hv hcl (fun t ht hal => ⟨(), trivial, ⟨rfl, by rw [ht]; exact hP, va_K.moved hal hK, hD⟩, hS.F ht⟩) hS.2.2 hc hs
end XT
section XV
variable {p : Program} {l : Launch} {e : Env} {R : Room} {s : State} {m : MethodId} {args : Array Value} {below : List Frame} {meth : Method} {c : Code} {H H0 : Heap} {locs : List Loc} {cells slots : Nat} {Q : State → Prop}
variable {cc : ByteArray} {pc : Nat} {ls : Array Slot} {rest : List Value} {A : Nat → Prop} {D : va_G} {cl : List vw_C} {tys : List (ClassId × FieldType)} {ws : va_W}
variable {y : MethodName} {bytes : ByteArray} {maxL nL mc ms n index : Nat} {ret : Option FieldType} {wsY : List Cond} {rm : Room} {Ts : List Cond} {own C X : String} {b : Addr} {As st0 : List Value} {E : State → Heap → Prop} {wc wr : va_W} {tysC : List (ClassId × FieldType)} {q9 : vw_C} {fs : List Value} {ci q0 : Nat}
theorem xv_Vi (S0 : CallFix p m c cc nL s args Ts own) (hM : vx_Met l y wsY rm (va_Pc (.ref b :: As) (cP D cl tysC wc E H.size)) (qNi (va_A wc H.size)) (xE D cl tysC X wc (va_A wc H.size)) mc ms (va_A wc H.size)) (cw : CallW R s args own C index y bytes maxL ret wsY rm mc ms n)
    (hn : As.length = n) (hsize : ls.size = nL) (hst : st0 = As.reverse ++ .ref b :: rest) (hW : (rest.map fun v => v.category).sum ≤ 8) (hdg : decode cc pc = .ok (.invokevirtual index, 3)) (hf : cells + mc ≤ R.cells ∧ slots + ms ≤ R.slots)
    (hP : va_P D cl ws H) (hD : va_D A ws) (hK : va_K D cl tys s) (hS : va_S A H0 H locs) (hA : ∀ q, H0.size ≤ q → A q) (isC isR : List Nat) (hC : isC.map (fun i => ws[i]?) = wc.map some) (hR : isR.map (fun i => ws[i]?) = wr.map some) (hnd : va_nd isC = true) (hndR : va_nd isR = true) (hdis : ∀ i ∈ isR, i ∉ isC) (tK : List Nat) (hKs : tK.filterMap (fun i => tys[i]?) = tysC) (hcl : cl[ci]? = some q9) (hrc : wc[q0]? = some (b, .inr (ci, fs))) (hCn : q9.1 = C) (hEM : eW E) (hE : E s H)
    (kx : ∀ (ce : Cell) (q : Addr) (H1 : Heap) (locs1 : List Loc), va_P D cl (wr ++ wc) H1 → va_D A (wr ++ wc) → va_S A H0 H1 locs1 → H1[q]? = some ce → ce.vm = .none → s.vm.findClass X = some ce.cls → vx_W p l e R s m args below meth c H1 locs1 (cells + mc) (slots + ms) Q (F0 m pc ls rest) q) : W p l e R s m args below meth c H locs cells slots Q (F0 m pc ls st0) := by
  have hFc := va_free (wc := wc) hD hS hA isC hC
  refine vx_calli (vx_runV (As := As) (rest := rest) S0 hM cw ⟨cP_blindW hEM, by have h9 := va_recv (hK.sub tK hKs) (xc_P hP isC hC) hcl hrc; rw [hCn] at h9; exact h9, xc_preW (As := .ref b :: As) hP hD hK isC hC hnd tK hKs hEM hE⟩ rfl hn hsize hst (lv_room hW) hdg hf) hS (fun q _ h => hFc q h) hFc (fun q _ h => hFc q h) (fun E ce q9 u t H1 locs ht hvm hw hB hz1 hk1 hS hce hcv hcl9 => ?_) (fun r u t H1 locs ht hvm hw hB hz1 hk1 hS => absurd hw id)
  obtain ⟨rfl, hP1, hK1, hD1⟩ := hB
  rw [ht] at hP1
  obtain ⟨hP, hD⟩ := va_join (wr := wr) (w1 := wc) hP hD isC isR hC hR hndR hdis hk1 hFc hP1 hD1
  exact kx ce q9 H1 locs hP hD hS hce hcv hcl9
theorem xv_Vv (S0 : CallFix p m c cc nL s args Ts own) (hM : vx_Met l y wsY rm (va_Pc (.ref b :: As) (cP D cl tysC wc E H.size)) (qNv (va_A wc H.size)) (xE D cl tysC X wc (va_A wc H.size)) mc ms (va_A wc H.size)) (cw : CallW R s args own C index y bytes maxL ret wsY rm mc ms n)
    (hn : As.length = n) (hsize : ls.size = nL) (hst : st0 = As.reverse ++ .ref b :: rest) (hW : (rest.map fun v => v.category).sum ≤ 8) (hdg : decode cc pc = .ok (.invokevirtual index, 3)) (hf : cells + mc ≤ R.cells ∧ slots + ms ≤ R.slots)
    (hP : va_P D cl ws H) (hD : va_D A ws) (hK : va_K D cl tys s) (hS : va_S A H0 H locs) (hA : ∀ q, H0.size ≤ q → A q) (isC isR : List Nat) (hC : isC.map (fun i => ws[i]?) = wc.map some) (hR : isR.map (fun i => ws[i]?) = wr.map some) (hnd : va_nd isC = true) (hndR : va_nd isR = true) (hdis : ∀ i ∈ isR, i ∉ isC) (tK : List Nat) (hKs : tK.filterMap (fun i => tys[i]?) = tysC) (hcl : cl[ci]? = some q9) (hrc : wc[q0]? = some (b, .inr (ci, fs))) (hCn : q9.1 = C) (hEM : eW E) (hE : E s H)
    (kx : ∀ (ce : Cell) (q : Addr) (H1 : Heap) (locs1 : List Loc), va_P D cl (wr ++ wc) H1 → va_D A (wr ++ wc) → va_S A H0 H1 locs1 → H1[q]? = some ce → ce.vm = .none → s.vm.findClass X = some ce.cls → vx_W p l e R s m args below meth c H1 locs1 (cells + mc) (slots + ms) Q (F0 m pc ls rest) q) : W p l e R s m args below meth c H locs cells slots Q (F0 m pc ls st0) := by
  have hFc := va_free (wc := wc) hD hS hA isC hC
  refine vx_callv (vx_runV (As := As) (rest := rest) S0 hM cw ⟨cP_blindW hEM, by have h9 := va_recv (hK.sub tK hKs) (xc_P hP isC hC) hcl hrc; rw [hCn] at h9; exact h9, xc_preW (As := .ref b :: As) hP hD hK isC hC hnd tK hKs hEM hE⟩ rfl hn hsize hst (lv_room hW) hdg hf) hS (fun q _ h => hFc q h) hFc (fun q _ h => hFc q h) (fun E ce q9 u t H1 locs ht hvm hw hB hz1 hk1 hS hce hcv hcl9 => ?_) (fun u t H1 locs ht hvm hw hB hz1 hk1 hS => absurd hw id)
  obtain ⟨rfl, hP1, hK1, hD1⟩ := hB
  rw [ht] at hP1
  obtain ⟨hP, hD⟩ := va_join (wr := wr) (w1 := wc) hP hD isC isR hC hR hndR hdis hk1 hFc hP1 hD1
  exact kx ce q9 H1 locs hP hD hS hce hcv hcl9
theorem xw_Si {S : Type} {post : Int32 → S → Prop} {w1 : S → va_W} {hh : List (Nat × Nat × Nat × Nat)} (S0 : CallFix p m c cc nL s args Ts own) (hM : Met l y wsY rm (va_Pc As (cP D cl tysC wc E H.size)) (va_Qi post (fun u => cB D cl tysC (w1 u) (va_A wc H.size)) (va_A wc H.size)) mc ms (va_A wc H.size)) (cw : vx_CSW R s args own index y bytes maxL ret hh wsY rm mc ms n)
    (hn : As.length = n) (hsize : ls.size = nL) (hst : st0 = As.reverse ++ rest) (hW : (rest.map fun v => v.category).sum ≤ 8) (hdg : decode cc pc = .ok (.invokestatic index, 3)) (hf : cells + mc ≤ R.cells ∧ slots + ms ≤ R.slots)
    (hP : va_P D cl ws H) (hD : va_D A ws) (hK : va_K D cl tys s) (hS : va_S A H0 H locs) (hA : ∀ q, H0.size ≤ q → A q) (isC isR : List Nat) (hC : isC.map (fun i => ws[i]?) = wc.map some) (hR : isR.map (fun i => ws[i]?) = wr.map some) (hnd : va_nd isC = true) (hndR : va_nd isR = true) (hdis : ∀ i ∈ isR, i ∉ isC) (tK : List Nat) (hKs : tK.filterMap (fun i => tys[i]?) = tysC) (hEM : eW E) (hE : E s H)
    (kk : ∀ (r : Int32) (u : S) (H1 : Heap) (locs1 : List Loc), post r u → va_P D cl (wr ++ w1 u) H1 → va_D A (wr ++ w1 u) → va_S A H0 H1 locs1 → W p l e R s m args below meth c H1 locs1 (cells + mc) (slots + ms) Q (F0 m (pc + 3) ls (.int r :: rest))) : W p l e R s m args below meth c H locs cells slots Q (F0 m pc ls st0) := by
  have hFc := va_free (wc := wc) hD hS hA isC hC
  refine va_calli (vx_runSW (As := As) (rest := rest) S0 hM cw ⟨cP_blindW hEM, xc_preW (As := As) hP hD hK isC hC hnd tK hKs hEM hE⟩ rfl hn hsize hst (lv_room hW) hdg hf) hS (fun q _ h => hFc q h) hFc (fun r u t H1 locs ht hvm hw hB hz1 hk1 hS => ?_)
  obtain ⟨hP1, hK1, hD1⟩ := hB
  rw [ht] at hP1
  obtain ⟨hP, hD⟩ := va_join (wr := wr) (w1 := w1 u) hP hD isC isR hC hR hndR hdis hk1 hFc hP1 hD1
  exact kk r u H1 locs hw hP hD hS
end XV
theorem xg_u : ∀ w ∈ (vx_atS RX3 40 xUOE xNs).filter goodWord, w ∈ ALLG := by
  have h : ∀ w ∈ (vx_atS RX3 40 xUOE xNs).filter goodWord, w ∈ lw_tbl := by decide +kernel
  exact fun w hw => List.mem_filter.mpr ⟨h w hw, (List.mem_filter.mp hw).2⟩
theorem xn_u : ∀ w ∈ (vx_atS RX3 40 xUOE xNs).filter (fun w => !goodWord w), w ∈ XW := by decide +kernel
theorem xo_u : ∀ w ∈ Cond.classLink RX3 36 xUOE :: Cond.initialized xUOE :: vx_atS RX3 40 xUOE xNs, vx_ot w = true := by decide +kernel
theorem xf_u : Bundle.fit xUOE = true := by decide +kernel
theorem xg_a : ∀ w ∈ (vx_atS RX3 47 xIAE xNs).filter goodWord, w ∈ ALLG := by
  have h : ∀ w ∈ (vx_atS RX3 47 xIAE xNs).filter goodWord, w ∈ lw_tbl := by decide +kernel
  exact fun w hw => List.mem_filter.mpr ⟨h w hw, (List.mem_filter.mp hw).2⟩
theorem xn_a : ∀ w ∈ (vx_atS RX3 47 xIAE xNs).filter (fun w => !goodWord w), w ∈ XW := by decide +kernel
theorem xo_a : ∀ w ∈ Cond.classLink RX3 43 xIAE :: Cond.initialized xIAE :: vx_atS RX3 47 xIAE xNs, vx_ot w = true := by decide +kernel
theorem xf_a : Bundle.fit xIAE = true := by decide +kernel
theorem xg_i : ∀ w ∈ (vx_atS RX3 72 xIOB xNs).filter goodWord, w ∈ ALLG := by
  have h : ∀ w ∈ (vx_atS RX3 72 xIOB xNs).filter goodWord, w ∈ lw_tbl := by decide +kernel
  exact fun w hw => List.mem_filter.mpr ⟨h w hw, (List.mem_filter.mp hw).2⟩
theorem xn_i : ∀ w ∈ (vx_atS RX3 72 xIOB xNs).filter (fun w => !goodWord w), w ∈ XW := by decide +kernel
theorem xo_i : ∀ w ∈ Cond.classLink RX3 68 xIOB :: Cond.initialized xIOB :: vx_atS RX3 72 xIOB xNs, vx_ot w = true := by decide +kernel
theorem xf_i : Bundle.fit xIOB = true := by decide +kernel
