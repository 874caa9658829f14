section
-- ===== PART A: goes FIRST, ahead of the names: the tables' words, and 'selects' of the private methods out of them =====
/-- a private method of a class that the tables say can be made, by its rows of tables_1 -/
def lw_okq (q : MethodName × Nat) : Prop := (q.1.cls ≠ "java/lang/invoke/MethodHandle" ∧ q.1.cls ≠ "java/lang/invoke/VarHandle") ∧ Cond.instantiable q.1.cls q.2 ∈ tables_1 ∧ Cond.privateMethod q.1 ∈ tables_1 ∧ Cond.instanceMethod q.1 ∈ tables_1
theorem lw_p0 : lw_okq (⟨"ScanRows$Rows", "wayBehind", "(I)I"⟩, 12) := ⟨⟨by decide +kernel, by decide +kernel⟩, List.mem_of_getElem? (i := 22) (by decide +kernel), List.mem_of_getElem? (i := 150) (by decide +kernel), List.mem_of_getElem? (i := 151) (by decide +kernel)⟩
theorem lw_p1 : lw_okq (⟨"ScanRows$Rows", "hasNeighbourBehind", "(I)Z"⟩, 12) := ⟨⟨by decide +kernel, by decide +kernel⟩, List.mem_of_getElem? (i := 22) (by decide +kernel), List.mem_of_getElem? (i := 154) (by decide +kernel), List.mem_of_getElem? (i := 155) (by decide +kernel)⟩
theorem lw_p2 : lw_okq (⟨"ScanRows$Rows", "shiftPlaces", "(III)I"⟩, 12) := ⟨⟨by decide +kernel, by decide +kernel⟩, List.mem_of_getElem? (i := 22) (by decide +kernel), List.mem_of_getElem? (i := 169) (by decide +kernel), List.mem_of_getElem? (i := 170) (by decide +kernel)⟩
theorem lw_p3 : lw_okq (⟨"java/lang/Throwable", "fillInStackTrace", "(I)Ljava/lang/Throwable;"⟩, 6) := ⟨⟨by decide +kernel, by decide +kernel⟩, List.mem_of_getElem? (i := 227) (by decide +kernel), List.mem_of_getElem? (i := 225) (by decide +kernel), List.mem_of_getElem? (i := 226) (by decide +kernel)⟩
theorem lw_p4 : lw_okq (⟨"ScanRows$Rows", "sortRow", "()V"⟩, 12) := ⟨⟨by decide +kernel, by decide +kernel⟩, List.mem_of_getElem? (i := 22) (by decide +kernel), List.mem_of_getElem? (i := 292) (by decide +kernel), List.mem_of_getElem? (i := 293) (by decide +kernel)⟩
theorem lw_p5 : lw_okq (⟨"ScanRows$Rows", "standsBefore", "(II)Z"⟩, 12) := ⟨⟨by decide +kernel, by decide +kernel⟩, List.mem_of_getElem? (i := 22) (by decide +kernel), List.mem_of_getElem? (i := 296) (by decide +kernel), List.mem_of_getElem? (i := 297) (by decide +kernel)⟩
theorem lw_p6 : lw_okq (⟨"ScanRows$Rows", "cutRow", "(I)V"⟩, 12) := ⟨⟨by decide +kernel, by decide +kernel⟩, List.mem_of_getElem? (i := 22) (by decide +kernel), List.mem_of_getElem? (i := 300) (by decide +kernel), List.mem_of_getElem? (i := 301) (by decide +kernel)⟩
theorem lw_p7 : lw_okq (⟨"ScanRows$Rows", "exchangeOnce", "()Z"⟩, 12) := ⟨⟨by decide +kernel, by decide +kernel⟩, List.mem_of_getElem? (i := 22) (by decide +kernel), List.mem_of_getElem? (i := 364) (by decide +kernel), List.mem_of_getElem? (i := 365) (by decide +kernel)⟩
theorem lw_p8 : lw_okq (⟨"ScanRows$Rows", "mayExchange", "(II)Z"⟩, 12) := ⟨⟨by decide +kernel, by decide +kernel⟩, List.mem_of_getElem? (i := 22) (by decide +kernel), List.mem_of_getElem? (i := 368) (by decide +kernel), List.mem_of_getElem? (i := 369) (by decide +kernel)⟩
theorem lw_p9 : lw_okq (⟨"ScanRows$Rows", "exchangeIfShorter", "(II)Z"⟩, 12) := ⟨⟨by decide +kernel, by decide +kernel⟩, List.mem_of_getElem? (i := 22) (by decide +kernel), List.mem_of_getElem? (i := 372) (by decide +kernel), List.mem_of_getElem? (i := 373) (by decide +kernel)⟩
theorem lw_p10 : lw_okq (⟨"ScanRows$Rows", "wayAround", "(I)I"⟩, 12) := ⟨⟨by decide +kernel, by decide +kernel⟩, List.mem_of_getElem? (i := 22) (by decide +kernel), List.mem_of_getElem? (i := 376) (by decide +kernel), List.mem_of_getElem? (i := 377) (by decide +kernel)⟩
theorem lw_p11 : lw_okq (⟨"ScanRows$Rows", "exchange", "(II)V"⟩, 12) := ⟨⟨by decide +kernel, by decide +kernel⟩, List.mem_of_getElem? (i := 22) (by decide +kernel), List.mem_of_getElem? (i := 380) (by decide +kernel), List.mem_of_getElem? (i := 381) (by decide +kernel)⟩
theorem lw_p12 : lw_okq (⟨"ScanRows$Rows", "breaks", "(II)Z"⟩, 12) := ⟨⟨by decide +kernel, by decide +kernel⟩, List.mem_of_getElem? (i := 22) (by decide +kernel), List.mem_of_getElem? (i := 396) (by decide +kernel), List.mem_of_getElem? (i := 397) (by decide +kernel)⟩
theorem lw_p13 : lw_okq (⟨"ScanRows", "requireLatch", "(I)V"⟩, 3) := ⟨⟨by decide +kernel, by decide +kernel⟩, List.mem_of_getElem? (i := 14) (by decide +kernel), List.mem_of_getElem? (i := 407) (by decide +kernel), List.mem_of_getElem? (i := 408) (by decide +kernel)⟩
theorem lw_p14 : lw_okq (⟨"ScanRows", "requireCell", "(I)V"⟩, 3) := ⟨⟨by decide +kernel, by decide +kernel⟩, List.mem_of_getElem? (i := 14) (by decide +kernel), List.mem_of_getElem? (i := 453) (by decide +kernel), List.mem_of_getElem? (i := 454) (by decide +kernel)⟩
theorem lw_p15 : lw_okq (⟨"ScanRows$Access", "act", "(I)I"⟩, 9) := ⟨⟨by decide +kernel, by decide +kernel⟩, List.mem_of_getElem? (i := 96) (by decide +kernel), List.mem_of_getElem? (i := 470) (by decide +kernel), List.mem_of_getElem? (i := 471) (by decide +kernel)⟩
def lw_privs_1 : List (MethodName × Nat) := [(⟨"ScanRows$Rows", "wayBehind", "(I)I"⟩, 12), (⟨"ScanRows$Rows", "hasNeighbourBehind", "(I)Z"⟩, 12), (⟨"ScanRows$Rows", "shiftPlaces", "(III)I"⟩, 12), (⟨"java/lang/Throwable", "fillInStackTrace", "(I)Ljava/lang/Throwable;"⟩, 6), (⟨"ScanRows$Rows", "sortRow", "()V"⟩, 12), (⟨"ScanRows$Rows", "standsBefore", "(II)Z"⟩, 12), (⟨"ScanRows$Rows", "cutRow", "(I)V"⟩, 12), (⟨"ScanRows$Rows", "exchangeOnce", "()Z"⟩, 12), (⟨"ScanRows$Rows", "mayExchange", "(II)Z"⟩, 12), (⟨"ScanRows$Rows", "exchangeIfShorter", "(II)Z"⟩, 12), (⟨"ScanRows$Rows", "wayAround", "(I)I"⟩, 12), (⟨"ScanRows$Rows", "exchange", "(II)V"⟩, 12), (⟨"ScanRows$Rows", "breaks", "(II)Z"⟩, 12), (⟨"ScanRows", "requireLatch", "(I)V"⟩, 3), (⟨"ScanRows", "requireCell", "(I)V"⟩, 3), (⟨"ScanRows$Access", "act", "(I)I"⟩, 9)]
theorem lw_r1 : ∀ q ∈ lw_privs_1, lw_okq q := List.forall_mem_cons.mpr ⟨lw_p0, List.forall_mem_cons.mpr ⟨lw_p1, List.forall_mem_cons.mpr ⟨lw_p2, List.forall_mem_cons.mpr ⟨lw_p3, List.forall_mem_cons.mpr ⟨lw_p4, List.forall_mem_cons.mpr ⟨lw_p5, List.forall_mem_cons.mpr ⟨lw_p6, List.forall_mem_cons.mpr ⟨lw_p7, List.forall_mem_cons.mpr ⟨lw_p8, List.forall_mem_cons.mpr ⟨lw_p9, List.forall_mem_cons.mpr ⟨lw_p10, List.forall_mem_cons.mpr ⟨lw_p11, List.forall_mem_cons.mpr ⟨lw_p12, List.forall_mem_cons.mpr ⟨lw_p13, List.forall_mem_cons.mpr ⟨lw_p14, List.forall_mem_cons.mpr ⟨lw_p15, fun _ h => absurd h List.not_mem_nil⟩⟩⟩⟩⟩⟩⟩⟩⟩⟩⟩⟩⟩⟩⟩⟩
theorem lw_p16 : lw_okq (⟨"ScanRows$Access", "captureData", "()V"⟩, 9) := ⟨⟨by decide +kernel, by decide +kernel⟩, List.mem_of_getElem? (i := 96) (by decide +kernel), List.mem_of_getElem? (i := 474) (by decide +kernel), List.mem_of_getElem? (i := 475) (by decide +kernel)⟩
theorem lw_p17 : lw_okq (⟨"ScanRows$Access", "register", "()I"⟩, 9) := ⟨⟨by decide +kernel, by decide +kernel⟩, List.mem_of_getElem? (i := 96) (by decide +kernel), List.mem_of_getElem? (i := 478) (by decide +kernel), List.mem_of_getElem? (i := 479) (by decide +kernel)⟩
theorem lw_p18 : lw_okq (⟨"ScanRows$Access", "shiftData", "(I)I"⟩, 9) := ⟨⟨by decide +kernel, by decide +kernel⟩, List.mem_of_getElem? (i := 96) (by decide +kernel), List.mem_of_getElem? (i := 486) (by decide +kernel), List.mem_of_getElem? (i := 487) (by decide +kernel)⟩
theorem lw_p19 : lw_okq (⟨"ScanRows$Access", "shiftNumber", "(I)I"⟩, 9) := ⟨⟨by decide +kernel, by decide +kernel⟩, List.mem_of_getElem? (i := 96) (by decide +kernel), List.mem_of_getElem? (i := 494) (by decide +kernel), List.mem_of_getElem? (i := 495) (by decide +kernel)⟩
theorem lw_p20 : lw_okq (⟨"ScanRows$Access", "shiftBypass", "(I)I"⟩, 9) := ⟨⟨by decide +kernel, by decide +kernel⟩, List.mem_of_getElem? (i := 96) (by decide +kernel), List.mem_of_getElem? (i := 502) (by decide +kernel), List.mem_of_getElem? (i := 503) (by decide +kernel)⟩
theorem lw_p21 : lw_okq (⟨"ScanRows$Access", "updateData", "()V"⟩, 9) := ⟨⟨by decide +kernel, by decide +kernel⟩, List.mem_of_getElem? (i := 96) (by decide +kernel), List.mem_of_getElem? (i := 506) (by decide +kernel), List.mem_of_getElem? (i := 507) (by decide +kernel)⟩
theorem lw_p22 : lw_okq (⟨"ScanRows$Access", "shiftCode", "(I)I"⟩, 9) := ⟨⟨by decide +kernel, by decide +kernel⟩, List.mem_of_getElem? (i := 96) (by decide +kernel), List.mem_of_getElem? (i := 514) (by decide +kernel), List.mem_of_getElem? (i := 515) (by decide +kernel)⟩
theorem lw_p23 : lw_okq (⟨"ScanRows$Access", "measureTicks", "(I)V"⟩, 9) := ⟨⟨by decide +kernel, by decide +kernel⟩, List.mem_of_getElem? (i := 96) (by decide +kernel), List.mem_of_getElem? (i := 532) (by decide +kernel), List.mem_of_getElem? (i := 533) (by decide +kernel)⟩
theorem lw_p24 : lw_okq (⟨"ScanRows$Access", "shortestMode", "()I"⟩, 9) := ⟨⟨by decide +kernel, by decide +kernel⟩, List.mem_of_getElem? (i := 96) (by decide +kernel), List.mem_of_getElem? (i := 539) (by decide +kernel), List.mem_of_getElem? (i := 540) (by decide +kernel)⟩
theorem lw_p25 : lw_okq (⟨"ScanRowsModel", "isBefore", "(II)Z"⟩, 23) := ⟨⟨by decide +kernel, by decide +kernel⟩, List.mem_of_getElem? (i := 567) (by decide +kernel), List.mem_of_getElem? (i := 657) (by decide +kernel), List.mem_of_getElem? (i := 658) (by decide +kernel)⟩
theorem lw_p26 : lw_okq (⟨"ScanRowsModel", "isChain", "(I)Z"⟩, 23) := ⟨⟨by decide +kernel, by decide +kernel⟩, List.mem_of_getElem? (i := 567) (by decide +kernel), List.mem_of_getElem? (i := 665) (by decide +kernel), List.mem_of_getElem? (i := 666) (by decide +kernel)⟩
theorem lw_p27 : lw_okq (⟨"ScanRowsModel", "allTravel", "()I"⟩, 23) := ⟨⟨by decide +kernel, by decide +kernel⟩, List.mem_of_getElem? (i := 567) (by decide +kernel), List.mem_of_getElem? (i := 677) (by decide +kernel), List.mem_of_getElem? (i := 678) (by decide +kernel)⟩
theorem lw_p28 : lw_okq (⟨"ScanRowsModel", "step", "()Z"⟩, 23) := ⟨⟨by decide +kernel, by decide +kernel⟩, List.mem_of_getElem? (i := 567) (by decide +kernel), List.mem_of_getElem? (i := 688) (by decide +kernel), List.mem_of_getElem? (i := 689) (by decide +kernel)⟩
theorem lw_p29 : lw_okq (⟨"ScanRowsModel", "placeOf", "(I)I"⟩, 23) := ⟨⟨by decide +kernel, by decide +kernel⟩, List.mem_of_getElem? (i := 567) (by decide +kernel), List.mem_of_getElem? (i := 692) (by decide +kernel), List.mem_of_getElem? (i := 693) (by decide +kernel)⟩
theorem lw_p30 : lw_okq (⟨"ScanRowsModel", "exchange", "(II)V"⟩, 23) := ⟨⟨by decide +kernel, by decide +kernel⟩, List.mem_of_getElem? (i := 567) (by decide +kernel), List.mem_of_getElem? (i := 696) (by decide +kernel), List.mem_of_getElem? (i := 697) (by decide +kernel)⟩
theorem lw_p31 : lw_okq (⟨"ScanRowsModel", "isLatch", "(I)Z"⟩, 23) := ⟨⟨by decide +kernel, by decide +kernel⟩, List.mem_of_getElem? (i := 567) (by decide +kernel), List.mem_of_getElem? (i := 708) (by decide +kernel), List.mem_of_getElem? (i := 709) (by decide +kernel)⟩
def lw_privs_2 : List (MethodName × Nat) := [(⟨"ScanRows$Access", "captureData", "()V"⟩, 9), (⟨"ScanRows$Access", "register", "()I"⟩, 9), (⟨"ScanRows$Access", "shiftData", "(I)I"⟩, 9), (⟨"ScanRows$Access", "shiftNumber", "(I)I"⟩, 9), (⟨"ScanRows$Access", "shiftBypass", "(I)I"⟩, 9), (⟨"ScanRows$Access", "updateData", "()V"⟩, 9), (⟨"ScanRows$Access", "shiftCode", "(I)I"⟩, 9), (⟨"ScanRows$Access", "measureTicks", "(I)V"⟩, 9), (⟨"ScanRows$Access", "shortestMode", "()I"⟩, 9), (⟨"ScanRowsModel", "isBefore", "(II)Z"⟩, 23), (⟨"ScanRowsModel", "isChain", "(I)Z"⟩, 23), (⟨"ScanRowsModel", "allTravel", "()I"⟩, 23), (⟨"ScanRowsModel", "step", "()Z"⟩, 23), (⟨"ScanRowsModel", "placeOf", "(I)I"⟩, 23), (⟨"ScanRowsModel", "exchange", "(II)V"⟩, 23), (⟨"ScanRowsModel", "isLatch", "(I)Z"⟩, 23)]
theorem lw_r2 : ∀ q ∈ lw_privs_2, lw_okq q := List.forall_mem_cons.mpr ⟨lw_p16, List.forall_mem_cons.mpr ⟨lw_p17, List.forall_mem_cons.mpr ⟨lw_p18, List.forall_mem_cons.mpr ⟨lw_p19, List.forall_mem_cons.mpr ⟨lw_p20, List.forall_mem_cons.mpr ⟨lw_p21, List.forall_mem_cons.mpr ⟨lw_p22, List.forall_mem_cons.mpr ⟨lw_p23, List.forall_mem_cons.mpr ⟨lw_p24, List.forall_mem_cons.mpr ⟨lw_p25, List.forall_mem_cons.mpr ⟨lw_p26, List.forall_mem_cons.mpr ⟨lw_p27, List.forall_mem_cons.mpr ⟨lw_p28, List.forall_mem_cons.mpr ⟨lw_p29, List.forall_mem_cons.mpr ⟨lw_p30, List.forall_mem_cons.mpr ⟨lw_p31, fun _ h => absurd h List.not_mem_nil⟩⟩⟩⟩⟩⟩⟩⟩⟩⟩⟩⟩⟩⟩⟩⟩
theorem lw_p32 : lw_okq (⟨"ScanRowsModel", "move", "(III)I"⟩, 23) := ⟨⟨by decide +kernel, by decide +kernel⟩, List.mem_of_getElem? (i := 567) (by decide +kernel), List.mem_of_getElem? (i := 724) (by decide +kernel), List.mem_of_getElem? (i := 725) (by decide +kernel)⟩
theorem lw_p33 : lw_okq (⟨"ScanRowsModel", "isCell", "(I)Z"⟩, 23) := ⟨⟨by decide +kernel, by decide +kernel⟩, List.mem_of_getElem? (i := 567) (by decide +kernel), List.mem_of_getElem? (i := 736) (by decide +kernel), List.mem_of_getElem? (i := 737) (by decide +kernel)⟩
theorem lw_p34 : lw_okq (⟨"ScanRowsModel", "doTick", "(II)I"⟩, 23) := ⟨⟨by decide +kernel, by decide +kernel⟩, List.mem_of_getElem? (i := 567) (by decide +kernel), List.mem_of_getElem? (i := 748) (by decide +kernel), List.mem_of_getElem? (i := 749) (by decide +kernel)⟩
theorem lw_p35 : lw_okq (⟨"ScanRowsModel", "capture", "()V"⟩, 23) := ⟨⟨by decide +kernel, by decide +kernel⟩, List.mem_of_getElem? (i := 567) (by decide +kernel), List.mem_of_getElem? (i := 752) (by decide +kernel), List.mem_of_getElem? (i := 753) (by decide +kernel)⟩
theorem lw_p36 : lw_okq (⟨"ScanRowsModel", "register", "()I"⟩, 23) := ⟨⟨by decide +kernel, by decide +kernel⟩, List.mem_of_getElem? (i := 567) (by decide +kernel), List.mem_of_getElem? (i := 756) (by decide +kernel), List.mem_of_getElem? (i := 757) (by decide +kernel)⟩
theorem lw_p37 : lw_okq (⟨"ScanRowsModel", "shiftData", "(I)I"⟩, 23) := ⟨⟨by decide +kernel, by decide +kernel⟩, List.mem_of_getElem? (i := 567) (by decide +kernel), List.mem_of_getElem? (i := 760) (by decide +kernel), List.mem_of_getElem? (i := 761) (by decide +kernel)⟩
def lw_privs_3 : List (MethodName × Nat) := [(⟨"ScanRowsModel", "move", "(III)I"⟩, 23), (⟨"ScanRowsModel", "isCell", "(I)Z"⟩, 23), (⟨"ScanRowsModel", "doTick", "(II)I"⟩, 23), (⟨"ScanRowsModel", "capture", "()V"⟩, 23), (⟨"ScanRowsModel", "register", "()I"⟩, 23), (⟨"ScanRowsModel", "shiftData", "(I)I"⟩, 23)]
theorem lw_r3 : ∀ q ∈ lw_privs_3, lw_okq q := List.forall_mem_cons.mpr ⟨lw_p32, List.forall_mem_cons.mpr ⟨lw_p33, List.forall_mem_cons.mpr ⟨lw_p34, List.forall_mem_cons.mpr ⟨lw_p35, List.forall_mem_cons.mpr ⟨lw_p36, List.forall_mem_cons.mpr ⟨lw_p37, fun _ h => absurd h List.not_mem_nil⟩⟩⟩⟩⟩⟩
def lw_privs : List (MethodName × Nat) := lw_privs_1 ++ (lw_privs_2 ++ (lw_privs_3))
def lw_tbl : List Cond := k2_sels lw_privs ++ tables_1
theorem lw_privs_ok : ∀ q ∈ lw_privs, lw_okq q := by
  show ∀ q ∈ lw_privs_1 ++ (lw_privs_2 ++ (lw_privs_3)), lw_okq q
  exact List.forall_mem_append.mpr ⟨lw_r1, List.forall_mem_append.mpr ⟨lw_r2, lw_r3⟩⟩
/-! All words of the tables that stay true at every call, as one list: every method's words are its code and these. -/
def ALLG : List Cond := lw_tbl.filter goodWord
theorem al_t {i : Nat} {w : Cond} (h : tables_1[i]? = some w) (hg : goodWord w = true) : w ∈ ALLG := List.mem_filter.mpr ⟨List.mem_append_right _ (List.mem_of_getElem? h), hg⟩
theorem al_s {i : Nat} {w : Cond} (h : (k2_sels lw_privs)[i]? = some w) (hg : goodWord w = true) : w ∈ ALLG := List.mem_filter.mpr ⟨List.mem_append_left _ (List.mem_of_getElem? h), hg⟩
theorem al_good {ws : List Cond} (h : ∀ w ∈ ws, w ∈ ALLG) : GoodIn ALLG ws := fun w hw => ⟨h w hw, good_of_word (List.mem_filter.mp (h w hw)).2⟩
theorem al_c {w0 : Cond} (h0 : w0 ∈ ALLG) : ∀ w ∈ w0 :: ALLG, w ∈ ALLG := fun w h => (List.mem_cons.mp h).elim (fun e => e ▸ h0) id
theorem gA {w0 : Cond} (h0 : w0 ∈ ALLG) : GoodIn ALLG (w0 :: ALLG) := al_good (al_c h0)
theorem gV {own C : String} {idx : Nat} {y : MethodName} {w0 : Cond} (h1 : Cond.methodLink own idx y ∈ ALLG) (h2 : Cond.instanceMethod y ∈ ALLG) (h3 : Cond.selects C y y ∈ ALLG) (h4 : Cond.initialized C ∈ ALLG) (h5 : w0 ∈ ALLG) : GoodIn ALLG (wsV own idx C y (w0 :: ALLG)) := by
  refine al_good fun w hw => ?_
  rcases List.mem_append.mp hw with h | h
  · simp only [List.mem_cons, List.not_mem_nil, or_false] at h
    rcases h with rfl | rfl | rfl | rfl <;> assumption
  · exact al_c h5 w h
theorem gS {own : String} {idx : Nat} {y : MethodName} {w0 : Cond} (h1 : Cond.methodLink own idx y ∈ ALLG) (h2 : Cond.static y ∈ ALLG) (h4 : Cond.initialized own ∈ ALLG) (h5 : w0 ∈ ALLG) : GoodIn ALLG (wsS own idx y (w0 :: ALLG)) := by
  refine al_good fun w hw => ?_
  rcases List.mem_append.mp hw with h | h
  · simp only [List.mem_cons, List.not_mem_nil, or_false] at h
    rcases h with rfl | rfl | rfl <;> assumption
  · exact al_c h5 w h
end
section
/-! Rows over numbers: nI of a Nat, zI of an Int. -/
def zI (z : Int) : Int32 := Int32.ofInt z
/-- an array of small numbers, of numbers with a sign -/
def aN (g : Nat → Nat) : Nat → Int32 := fun j => nI (g j)
def aZ (g : Nat → Int) : Nat → Int32 := fun j => zI (g j)
theorem zI_toInt {z : Int} (h1 : -2147483648 ≤ z) (h2 : z < 2147483648) : (zI z).toInt = z := by
  unfold zI
  rw [Int32.toInt_ofInt]
  show z.bmod 4294967296 = z
  exact Int.bmod_eq_of_le (by omega) (by omega)
theorem zI_nI (n : Nat) : zI (n : Int) = nI n := by unfold zI nI; exact Int32.ofInt_eq_ofNat
theorem zI_lt {a b : Int} (a1 : -2147483648 ≤ a) (a2 : a < 2147483648) (b1 : -2147483648 ≤ b) (b2 : b < 2147483648) : zI a < zI b ↔ a < b := by rw [Int32.lt_iff_toInt_lt, zI_toInt a1 a2, zI_toInt b1 b2]
theorem zI_le {a b : Int} (a1 : -2147483648 ≤ a) (a2 : a < 2147483648) (b1 : -2147483648 ≤ b) (b2 : b < 2147483648) : zI a ≤ zI b ↔ a ≤ b := by rw [Int32.le_iff_toInt_le, zI_toInt a1 a2, zI_toInt b1 b2]
theorem zI_eq {a b : Int} (a1 : -2147483648 ≤ a) (a2 : a < 2147483648) (b1 : -2147483648 ≤ b) (b2 : b < 2147483648) : zI a = zI b ↔ a = b := by rw [← Int32.toInt_inj, zI_toInt a1 a2, zI_toInt b1 b2]
theorem zI_sub (a b : Int) : zI a - zI b = zI (a - b) := by unfold zI; exact (Int32.ofInt_sub a b).symm
theorem zI_add (a b : Int) : zI a + zI b = zI (a + b) := by unfold zI; exact (Int32.ofInt_add a b).symm
theorem nI_lit (n : Nat) : nI n = Int32.ofNat n := rfl
theorem aN_up (g : Nat → Nat) (k v : Nat) : upd (aN g) k (nI v) = aN (va_up g k v) := by
  funext j; unfold upd aN va_up; by_cases h : j = k <;> simp [h]
theorem aZ_up (g : Nat → Int) (k : Nat) (v : Int) : upd (aZ g) k (zI v) = aZ (va_up g k v) := by
  funext j; unfold upd aZ va_up; by_cases h : j = k <;> simp [h]
theorem aN_0 : (fun _ => (0 : Int32)) = aN (fun _ => 0) := rfl
theorem aZ_0 : (fun _ => (0 : Int32)) = aZ (fun _ => 0) := rfl
section XN
variable {p : Program} {l : Launch} {e : Env} {R : Room} {s : State} {m : MethodId} {args : Array Value} {below : List Frame} {meth : Method} {c : Code} {H : Heap} {locs : List Loc} {cells slots : Nat} {Q : State → Prop}
variable {cc : ByteArray} {pc : Nat} {ls : Array Slot} {rest : List Value} {D : va_G} {cl : List vw_C} {A : Nat → Prop} {ad : Nat} {tys : List (ClassId × FieldType)} {ws : va_W} {H0 : Heap}

theorem xn_add (hx : p.tables.exec = Jvm.exec) (hb : c.code = cc) {x y : Nat} (hdg : decode cc pc = .ok (.iadd, 1)) (k : W p l e R s m args below meth c H locs cells slots Q (F0 m (pc + 1) ls (.int (nI (x + y)) :: rest))) : W p l e R s m args below meth c H locs cells slots Q (F0 m pc ls (.int (nI y) :: .int (nI x) :: rest)) := lv_iadd hx hb hdg (by rw [nI_add]; exact k)
theorem xn_sub (hx : p.tables.exec = Jvm.exec) (hb : c.code = cc) {x y : Nat} (h : y ≤ x) (hdg : decode cc pc = .ok (.isub, 1)) (k : W p l e R s m args below meth c H locs cells slots Q (F0 m (pc + 1) ls (.int (nI (x - y)) :: rest))) : W p l e R s m args below meth c H locs cells slots Q (F0 m pc ls (.int (nI y) :: .int (nI x) :: rest)) := lv_isub hx hb hdg (by rw [pk_sub h]; exact k)
theorem xn_mul (hx : p.tables.exec = Jvm.exec) (hb : c.code = cc) {x y : Nat} (hdg : decode cc pc = .ok (.imul, 1)) (k : W p l e R s m args below meth c H locs cells slots Q (F0 m (pc + 1) ls (.int (nI (x * y)) :: rest))) : W p l e R s m args below meth c H locs cells slots Q (F0 m pc ls (.int (nI y) :: .int (nI x) :: rest)) := lv_imul hx hb hdg (by rw [pk_mul]; exact k)
theorem xn_div (hx : p.tables.exec = Jvm.exec) (hb : c.code = cc) {x y : Nat} (h1 : x < 2 ^ 31) (h2 : 0 < y) (h3 : y < 2 ^ 31) (hdg : decode cc pc = .ok (.idiv, 1)) (k : W p l e R s m args below meth c H locs cells slots Q (F0 m (pc + 1) ls (.int (nI (x / y)) :: rest))) : W p l e R s m args below meth c H locs cells slots Q (F0 m pc ls (.int (nI y) :: .int (nI x) :: rest)) := lv_idiv hx hb hdg (nI_ne0 h2 h3) (by rw [pk_div h1 h2 h3]; exact k)
theorem xn_rem (hx : p.tables.exec = Jvm.exec) (hb : c.code = cc) {x y : Nat} (h1 : x < 2 ^ 31) (h2 : 0 < y) (h3 : y < 2 ^ 31) (hdg : decode cc pc = .ok (.irem, 1)) (k : W p l e R s m args below meth c H locs cells slots Q (F0 m (pc + 1) ls (.int (nI (x % y)) :: rest))) : W p l e R s m args below meth c H locs cells slots Q (F0 m pc ls (.int (nI y) :: .int (nI x) :: rest)) := lv_irem hx hb hdg (nI_ne0 h2 h3) (by rw [pk_rem h1 h2 h3]; exact k)
theorem xz_add (hx : p.tables.exec = Jvm.exec) (hb : c.code = cc) {x y : Int} (hdg : decode cc pc = .ok (.iadd, 1)) (k : W p l e R s m args below meth c H locs cells slots Q (F0 m (pc + 1) ls (.int (zI (x + y)) :: rest))) : W p l e R s m args below meth c H locs cells slots Q (F0 m pc ls (.int (zI y) :: .int (zI x) :: rest)) := lv_iadd hx hb hdg (by rw [zI_add]; exact k)
theorem xz_sub (hx : p.tables.exec = Jvm.exec) (hb : c.code = cc) {x y : Int} (hdg : decode cc pc = .ok (.isub, 1)) (k : W p l e R s m args below meth c H locs cells slots Q (F0 m (pc + 1) ls (.int (zI (x - y)) :: rest))) : W p l e R s m args below meth c H locs cells slots Q (F0 m pc ls (.int (zI y) :: .int (zI x) :: rest)) := lv_isub hx hb hdg (by rw [zI_sub]; exact k)
theorem xn_clt (hx : p.tables.exec = Jvm.exec) (hb : c.code = cc) {x y : Nat} {off : Int} {tgt : Nat} (h1 : x < 2 ^ 31) (h2 : y < 2 ^ 31) (hdg : decode cc pc = .ok (.if_icmp .lt off, 3)) (ht : (pc : Int) + off = (tgt : Int)) (kt : x < y → W p l e R s m args below meth c H locs cells slots Q (F0 m tgt ls rest)) (kf : y ≤ x → W p l e R s m args below meth c H locs cells slots Q (F0 m (pc + 3) ls rest)) : W p l e R s m args below meth c H locs cells slots Q (F0 m pc ls (.int (nI y) :: .int (nI x) :: rest)) := lv_icmp_lt hx hb hdg ht (fun q => kt ((nI_ltI h1 h2).mp q)) (fun q => kf (Nat.not_lt.mp fun z => q ((nI_ltI h1 h2).mpr z)))
theorem xn_cge (hx : p.tables.exec = Jvm.exec) (hb : c.code = cc) {x y : Nat} {off : Int} {tgt : Nat} (h1 : x < 2 ^ 31) (h2 : y < 2 ^ 31) (hdg : decode cc pc = .ok (.if_icmp .ge off, 3)) (ht : (pc : Int) + off = (tgt : Int)) (kt : y ≤ x → W p l e R s m args below meth c H locs cells slots Q (F0 m tgt ls rest)) (kf : x < y → W p l e R s m args below meth c H locs cells slots Q (F0 m (pc + 3) ls rest)) : W p l e R s m args below meth c H locs cells slots Q (F0 m pc ls (.int (nI y) :: .int (nI x) :: rest)) := lv_icmp_ge hx hb hdg ht (fun q => kt ((nI_leI h2 h1).mp q)) (fun q => kf (Nat.not_le.mp fun z => q ((nI_leI h2 h1).mpr z)))
theorem xn_cgt (hx : p.tables.exec = Jvm.exec) (hb : c.code = cc) {x y : Nat} {off : Int} {tgt : Nat} (h1 : x < 2 ^ 31) (h2 : y < 2 ^ 31) (hdg : decode cc pc = .ok (.if_icmp .gt off, 3)) (ht : (pc : Int) + off = (tgt : Int)) (kt : y < x → W p l e R s m args below meth c H locs cells slots Q (F0 m tgt ls rest)) (kf : x ≤ y → W p l e R s m args below meth c H locs cells slots Q (F0 m (pc + 3) ls rest)) : W p l e R s m args below meth c H locs cells slots Q (F0 m pc ls (.int (nI y) :: .int (nI x) :: rest)) := lv_icmp_gt hx hb hdg ht (fun q => kt ((nI_ltI h2 h1).mp q)) (fun q => kf (Nat.not_lt.mp fun z => q ((nI_ltI h2 h1).mpr z)))
theorem xn_cle (hx : p.tables.exec = Jvm.exec) (hb : c.code = cc) {x y : Nat} {off : Int} {tgt : Nat} (h1 : x < 2 ^ 31) (h2 : y < 2 ^ 31) (hdg : decode cc pc = .ok (.if_icmp .le off, 3)) (ht : (pc : Int) + off = (tgt : Int)) (kt : x ≤ y → W p l e R s m args below meth c H locs cells slots Q (F0 m tgt ls rest)) (kf : y < x → W p l e R s m args below meth c H locs cells slots Q (F0 m (pc + 3) ls rest)) : W p l e R s m args below meth c H locs cells slots Q (F0 m pc ls (.int (nI y) :: .int (nI x) :: rest)) := lv_icmp_le hx hb hdg ht (fun q => kt ((nI_leI h1 h2).mp q)) (fun q => kf (Nat.not_le.mp fun z => q ((nI_leI h1 h2).mpr z)))
theorem xn_ceq (hx : p.tables.exec = Jvm.exec) (hb : c.code = cc) {x y : Nat} {off : Int} {tgt : Nat} (h1 : x < 2 ^ 31) (h2 : y < 2 ^ 31) (hdg : decode cc pc = .ok (.if_icmp .eq off, 3)) (ht : (pc : Int) + off = (tgt : Int)) (kt : x = y → W p l e R s m args below meth c H locs cells slots Q (F0 m tgt ls rest)) (kf : x ≠ y → W p l e R s m args below meth c H locs cells slots Q (F0 m (pc + 3) ls rest)) : W p l e R s m args below meth c H locs cells slots Q (F0 m pc ls (.int (nI y) :: .int (nI x) :: rest)) := lv_icmp_eq hx hb hdg ht (fun q => kt ((nI_eq h1 h2).mp q)) (fun q => kf (fun z => q ((nI_eq h1 h2).mpr z)))
theorem xn_cne (hx : p.tables.exec = Jvm.exec) (hb : c.code = cc) {x y : Nat} {off : Int} {tgt : Nat} (h1 : x < 2 ^ 31) (h2 : y < 2 ^ 31) (hdg : decode cc pc = .ok (.if_icmp .ne off, 3)) (ht : (pc : Int) + off = (tgt : Int)) (kt : x ≠ y → W p l e R s m args below meth c H locs cells slots Q (F0 m tgt ls rest)) (kf : x = y → W p l e R s m args below meth c H locs cells slots Q (F0 m (pc + 3) ls rest)) : W p l e R s m args below meth c H locs cells slots Q (F0 m pc ls (.int (nI y) :: .int (nI x) :: rest)) := lv_icmp_ne hx hb hdg ht (fun q => kt (fun z => q ((nI_eq h1 h2).mpr z))) (fun q => kf ((nI_eq h1 h2).mp q))
theorem xn_zeq (hx : p.tables.exec = Jvm.exec) (hb : c.code = cc) {x : Nat} {off : Int} {tgt : Nat} (h1 : x < 2 ^ 31) (hdg : decode cc pc = .ok (.ifCond .eq off, 3)) (ht : (pc : Int) + off = (tgt : Int)) (kt : x = 0 → W p l e R s m args below meth c H locs cells slots Q (F0 m tgt ls rest)) (kf : 0 < x → W p l e R s m args below meth c H locs cells slots Q (F0 m (pc + 3) ls rest)) : W p l e R s m args below meth c H locs cells slots Q (F0 m pc ls (.int (nI x) :: rest)) := lv_if_eq hx hb hdg ht (fun q => kt (Nat.eq_zero_of_not_pos fun z => nI_ne0 z h1 q)) (fun q => kf (Nat.pos_of_ne_zero fun z => q (by rw [z]; rfl)))
theorem xn_zne (hx : p.tables.exec = Jvm.exec) (hb : c.code = cc) {x : Nat} {off : Int} {tgt : Nat} (h1 : x < 2 ^ 31) (hdg : decode cc pc = .ok (.ifCond .ne off, 3)) (ht : (pc : Int) + off = (tgt : Int)) (kt : 0 < x → W p l e R s m args below meth c H locs cells slots Q (F0 m tgt ls rest)) (kf : x = 0 → W p l e R s m args below meth c H locs cells slots Q (F0 m (pc + 3) ls rest)) : W p l e R s m args below meth c H locs cells slots Q (F0 m pc ls (.int (nI x) :: rest)) := lv_if_ne hx hb hdg ht (fun q => kt (Nat.pos_of_ne_zero fun z => q (by rw [z]; rfl))) (fun q => kf (Nat.eq_zero_of_not_pos fun z => nI_ne0 z h1 q))
theorem xn_zle (hx : p.tables.exec = Jvm.exec) (hb : c.code = cc) {x : Nat} {off : Int} {tgt : Nat} (h1 : x < 2 ^ 31) (hdg : decode cc pc = .ok (.ifCond .le off, 3)) (ht : (pc : Int) + off = (tgt : Int)) (kt : x = 0 → W p l e R s m args below meth c H locs cells slots Q (F0 m tgt ls rest)) (kf : 0 < x → W p l e R s m args below meth c H locs cells slots Q (F0 m (pc + 3) ls rest)) : W p l e R s m args below meth c H locs cells slots Q (F0 m pc ls (.int (nI x) :: rest)) := lv_if_le hx hb hdg ht (fun q => kt (Nat.eq_zero_of_not_pos fun z => nI_nle z h1 q)) (fun q => kf (Nat.pos_of_ne_zero fun z => q (by rw [z]; decide)))
theorem xn_zgt (hx : p.tables.exec = Jvm.exec) (hb : c.code = cc) {x : Nat} {off : Int} {tgt : Nat} (h1 : x < 2 ^ 31) (hdg : decode cc pc = .ok (.ifCond .gt off, 3)) (ht : (pc : Int) + off = (tgt : Int)) (kt : 0 < x → W p l e R s m args below meth c H locs cells slots Q (F0 m tgt ls rest)) (kf : x = 0 → W p l e R s m args below meth c H locs cells slots Q (F0 m (pc + 3) ls rest)) : W p l e R s m args below meth c H locs cells slots Q (F0 m pc ls (.int (nI x) :: rest)) := lv_if_gt hx hb hdg ht (fun q => kt (Nat.pos_of_ne_zero fun z => absurd (z ▸ q : (0 : Int32) < nI 0) (by decide))) (fun q => kf (Nat.eq_zero_of_not_pos fun z => q (by have := nI_lt z h1; exact this)))
theorem xn_zlt (hx : p.tables.exec = Jvm.exec) (hb : c.code = cc) {x : Nat} {off : Int} {tgt : Nat} (h1 : x < 2 ^ 31) (hdg : decode cc pc = .ok (.ifCond .lt off, 3)) (ht : (pc : Int) + off = (tgt : Int)) (kf : W p l e R s m args below meth c H locs cells slots Q (F0 m (pc + 3) ls rest)) : W p l e R s m args below meth c H locs cells slots Q (F0 m pc ls (.int (nI x) :: rest)) := lv_if_lt hx hb hdg ht (fun q => absurd q (nI_pos h1)) (fun _ => kf)
theorem xn_zge (hx : p.tables.exec = Jvm.exec) (hb : c.code = cc) {x : Nat} {off : Int} {tgt : Nat} (h1 : x < 2 ^ 31) (hdg : decode cc pc = .ok (.ifCond .ge off, 3)) (ht : (pc : Int) + off = (tgt : Int)) (kt : W p l e R s m args below meth c H locs cells slots Q (F0 m tgt ls rest)) : W p l e R s m args below meth c H locs cells slots Q (F0 m pc ls (.int (nI x) :: rest)) := lv_if_ge hx hb hdg ht (fun _ => kt) (fun q => absurd (nI_pos' h1) q)
theorem xz_clt (hx : p.tables.exec = Jvm.exec) (hb : c.code = cc) {x y : Int} {off : Int} {tgt : Nat} (a1 : -2147483648 ≤ x) (a2 : x < 2147483648) (b1 : -2147483648 ≤ y) (b2 : y < 2147483648) (hdg : decode cc pc = .ok (.if_icmp .lt off, 3)) (ht : (pc : Int) + off = (tgt : Int)) (kt : x < y → W p l e R s m args below meth c H locs cells slots Q (F0 m tgt ls rest)) (kf : y ≤ x → W p l e R s m args below meth c H locs cells slots Q (F0 m (pc + 3) ls rest)) : W p l e R s m args below meth c H locs cells slots Q (F0 m pc ls (.int (zI y) :: .int (zI x) :: rest)) := lv_icmp_lt hx hb hdg ht (fun q => kt ((zI_lt a1 a2 b1 b2).mp q)) (fun q => kf (Int.not_lt.mp fun z => q ((zI_lt a1 a2 b1 b2).mpr z)))
theorem xz_cge (hx : p.tables.exec = Jvm.exec) (hb : c.code = cc) {x y : Int} {off : Int} {tgt : Nat} (a1 : -2147483648 ≤ x) (a2 : x < 2147483648) (b1 : -2147483648 ≤ y) (b2 : y < 2147483648) (hdg : decode cc pc = .ok (.if_icmp .ge off, 3)) (ht : (pc : Int) + off = (tgt : Int)) (kt : y ≤ x → W p l e R s m args below meth c H locs cells slots Q (F0 m tgt ls rest)) (kf : x < y → W p l e R s m args below meth c H locs cells slots Q (F0 m (pc + 3) ls rest)) : W p l e R s m args below meth c H locs cells slots Q (F0 m pc ls (.int (zI y) :: .int (zI x) :: rest)) := lv_icmp_ge hx hb hdg ht (fun q => kt ((zI_le b1 b2 a1 a2).mp q)) (fun q => kf (Int.not_le.mp fun z => q ((zI_le b1 b2 a1 a2).mpr z)))
theorem xz_cgt (hx : p.tables.exec = Jvm.exec) (hb : c.code = cc) {x y : Int} {off : Int} {tgt : Nat} (a1 : -2147483648 ≤ x) (a2 : x < 2147483648) (b1 : -2147483648 ≤ y) (b2 : y < 2147483648) (hdg : decode cc pc = .ok (.if_icmp .gt off, 3)) (ht : (pc : Int) + off = (tgt : Int)) (kt : y < x → W p l e R s m args below meth c H locs cells slots Q (F0 m tgt ls rest)) (kf : x ≤ y → W p l e R s m args below meth c H locs cells slots Q (F0 m (pc + 3) ls rest)) : W p l e R s m args below meth c H locs cells slots Q (F0 m pc ls (.int (zI y) :: .int (zI x) :: rest)) := lv_icmp_gt hx hb hdg ht (fun q => kt ((zI_lt b1 b2 a1 a2).mp q)) (fun q => kf (Int.not_lt.mp fun z => q ((zI_lt b1 b2 a1 a2).mpr z)))
theorem xz_cle (hx : p.tables.exec = Jvm.exec) (hb : c.code = cc) {x y : Int} {off : Int} {tgt : Nat} (a1 : -2147483648 ≤ x) (a2 : x < 2147483648) (b1 : -2147483648 ≤ y) (b2 : y < 2147483648) (hdg : decode cc pc = .ok (.if_icmp .le off, 3)) (ht : (pc : Int) + off = (tgt : Int)) (kt : x ≤ y → W p l e R s m args below meth c H locs cells slots Q (F0 m tgt ls rest)) (kf : y < x → W p l e R s m args below meth c H locs cells slots Q (F0 m (pc + 3) ls rest)) : W p l e R s m args below meth c H locs cells slots Q (F0 m pc ls (.int (zI y) :: .int (zI x) :: rest)) := lv_icmp_le hx hb hdg ht (fun q => kt ((zI_le a1 a2 b1 b2).mp q)) (fun q => kf (Int.not_le.mp fun z => q ((zI_le a1 a2 b1 b2).mpr z)))
theorem xz_ceq (hx : p.tables.exec = Jvm.exec) (hb : c.code = cc) {x y : Int} {off : Int} {tgt : Nat} (a1 : -2147483648 ≤ x) (a2 : x < 2147483648) (b1 : -2147483648 ≤ y) (b2 : y < 2147483648) (hdg : decode cc pc = .ok (.if_icmp .eq off, 3)) (ht : (pc : Int) + off = (tgt : Int)) (kt : x = y → W p l e R s m args below meth c H locs cells slots Q (F0 m tgt ls rest)) (kf : x ≠ y → W p l e R s m args below meth c H locs cells slots Q (F0 m (pc + 3) ls rest)) : W p l e R s m args below meth c H locs cells slots Q (F0 m pc ls (.int (zI y) :: .int (zI x) :: rest)) := lv_icmp_eq hx hb hdg ht (fun q => kt ((zI_eq a1 a2 b1 b2).mp q)) (fun q => kf (fun z => q ((zI_eq a1 a2 b1 b2).mpr z)))
theorem xz_cne (hx : p.tables.exec = Jvm.exec) (hb : c.code = cc) {x y : Int} {off : Int} {tgt : Nat} (a1 : -2147483648 ≤ x) (a2 : x < 2147483648) (b1 : -2147483648 ≤ y) (b2 : y < 2147483648) (hdg : decode cc pc = .ok (.if_icmp .ne off, 3)) (ht : (pc : Int) + off = (tgt : Int)) (kt : x ≠ y → W p l e R s m args below meth c H locs cells slots Q (F0 m tgt ls rest)) (kf : x = y → W p l e R s m args below meth c H locs cells slots Q (F0 m (pc + 3) ls rest)) : W p l e R s m args below meth c H locs cells slots Q (F0 m pc ls (.int (zI y) :: .int (zI x) :: rest)) := lv_icmp_ne hx hb hdg ht (fun q => kt (fun z => q ((zI_eq a1 a2 b1 b2).mpr z))) (fun q => kf ((zI_eq a1 a2 b1 b2).mp q))
theorem xt_i {x y : Int32} (h : x = y) (k : W p l e R s m args below meth c H locs cells slots Q (F0 m pc ls (.int y :: rest))) : W p l e R s m args below meth c H locs cells slots Q (F0 m pc ls (.int x :: rest)) := h ▸ k
theorem xt_l {x y : Int64} (h : x = y) (k : W p l e R s m args below meth c H locs cells slots Q (F0 m pc ls (.long y :: rest))) : W p l e R s m args below meth c H locs cells slots Q (F0 m pc ls (.long x :: rest)) := h ▸ k
theorem xa_ild (hx : p.tables.exec = Jvm.exec) (hb : c.code = cc) (hK : va_K D cl tys s) (hP : va_P D cl ws H) (q0 t0 : Nat) {cA : ClassId} {n : Nat} {f : Nat → Int32} (ha : ws[q0]? = some (ad, .inl (cA, n, .inl f))) (ht : tys[t0]? = some (cA, .int)) {k : Nat} {v : Int32} (hk : k < n) (hn : n < 2 ^ 31) (hv : f k = v) (hdg : decode cc pc = .ok (.iaload, 1))
    (kk : W p l e R s m args below meth c H locs cells slots Q (F0 m (pc + 1) ls (.int v :: rest))) : W p l e R s m args below meth c H locs cells slots Q (F0 m pc ls (.int (nI k) :: .ref ad :: rest)) := by
  refine va_iald hx hb hK hP q0 t0 ha ht (vp_in_nI hk hn) hdg ?_
  rw [nI_clamp (Nat.lt_trans hk hn), hv]
  exact kk
theorem xa_ist (hx : p.tables.exec = Jvm.exec) (hb : c.code = cc) (hK : va_K D cl tys s) (hP : va_P D cl ws H) (hD : va_D A ws) (hS : va_S A H0 H locs) (q0 t0 : Nat) {cA : ClassId} {n : Nat} {f g : Nat → Int32} (ha : ws[q0]? = some (ad, .inl (cA, n, .inl f))) (ht : tys[t0]? = some (cA, .int)) {k : Nat} {x : Int32} (hk : k < n) (hn : n < 2 ^ 31) (hg : upd f k x = g) (hdg : decode cc pc = .ok (.iastore, 1))
    (kk : ∀ (H1 : Heap) (locs1 : List Loc), va_P D cl (ws.set q0 (ad, .inl (cA, n, .inl g))) H1 → va_D A (ws.set q0 (ad, .inl (cA, n, .inl g))) → va_S A H0 H1 locs1 → W p l e R s m args below meth c H1 locs1 cells slots Q (F0 m (pc + 1) ls rest)) : W p l e R s m args below meth c H locs cells slots Q (F0 m pc ls (.int x :: .int (nI k) :: .ref ad :: rest)) := by
  refine va_iast hx hb hK hP hD hS q0 t0 ha ht (vp_in_nI hk hn) hdg ?_
  rw [nI_clamp (Nat.lt_trans hk hn), hg]
  exact kk
theorem xa_zld (hx : p.tables.exec = Jvm.exec) (hb : c.code = cc) (hK : va_K D cl tys s) (hP : va_P D cl ws H) (q0 t0 : Nat) {cA : ClassId} {n : Nat} {f : Nat → Int32} (ha : ws[q0]? = some (ad, .inl (cA, n, .inl f))) (ht : tys[t0]? = some (cA, .boolean)) {k : Nat} {v : Int32} (hk : k < n) (hn : n < 2 ^ 31) (hv : f k = v) (hdg : decode cc pc = .ok (.baload, 1))
    (kk : W p l e R s m args below meth c H locs cells slots Q (F0 m (pc + 1) ls (.int v :: rest))) : W p l e R s m args below meth c H locs cells slots Q (F0 m pc ls (.int (nI k) :: .ref ad :: rest)) := by
  refine va_zald hx hb hK hP q0 t0 ha ht (vp_in_nI hk hn) hdg ?_
  rw [nI_clamp (Nat.lt_trans hk hn), hv]
  exact kk
theorem xa_zst (hx : p.tables.exec = Jvm.exec) (hb : c.code = cc) (hK : va_K D cl tys s) (hP : va_P D cl ws H) (hD : va_D A ws) (hS : va_S A H0 H locs) (q0 t0 : Nat) {cA : ClassId} {n : Nat} {f g : Nat → Int32} (ha : ws[q0]? = some (ad, .inl (cA, n, .inl f))) (ht : tys[t0]? = some (cA, .boolean)) {k : Nat} {x : Int32} (hk : k < n) (hn : n < 2 ^ 31) (hz : vp_nar .boolean x = x) (hg : upd f k x = g) (hdg : decode cc pc = .ok (.bastore, 1))
    (kk : ∀ (H1 : Heap) (locs1 : List Loc), va_P D cl (ws.set q0 (ad, .inl (cA, n, .inl g))) H1 → va_D A (ws.set q0 (ad, .inl (cA, n, .inl g))) → va_S A H0 H1 locs1 → W p l e R s m args below meth c H1 locs1 cells slots Q (F0 m (pc + 1) ls rest)) : W p l e R s m args below meth c H locs cells slots Q (F0 m pc ls (.int x :: .int (nI k) :: .ref ad :: rest)) := by
  refine va_zast hx hb hK hP hD hS q0 t0 ha ht (vp_in_nI hk hn) hdg ?_
  rw [nI_clamp (Nat.lt_trans hk hn), hz, hg]
  exact kk
end XN
/-- the class of an array is one, whenever it is asked for -/
theorem xk_one {D : va_G} {cl : List vw_C} {tys : List (ClassId × FieldType)} {s : State} {cA cB : ClassId} {ty : FieldType} (t0 t1 : Nat) (hK : va_K D cl tys s) (h0 : tys[t0]? = some (cA, ty)) (h1 : tys[t1]? = some (cB, ty)) (hty : ∀ C, ty ≠ .object C) : cA = cB := by
  have e0 := (hK.2 t0 _ h0).2
  have e1 := (hK.2 t1 _ h1).2
  cases ty with
  | object C => exact absurd rfl (hty C)
  | _ => exact Option.some.inj (e0.symm.trans e1)
/-! A method's start and end, and calls with the frame. -/
def cP (D : va_G) (cl : List vw_C) (tys : List (ClassId × FieldType)) (ws : va_W) (E : State → Heap → Prop) (sz : Nat) (U : State) : Prop := U.heap.size = sz ∧ va_P D cl ws U.heap ∧ va_K D cl tys U ∧ va_D (fun _ => True) ws ∧ E U U.heap
def cB (D : va_G) (cl : List vw_C) (tys : List (ClassId × FieldType)) (ws : va_W) (A : Nat → Prop) (t : State) : Prop := va_P D cl ws t.heap ∧ va_K D cl tys t ∧ va_D A ws
/-- what is asked of a state beside its world goes by its tables and its heap alone -/
def eM (E : State → Heap → Prop) : Prop := ∀ (u U : State) (H : Heap), u.vm.Alike U.vm → E u H → E U H
def eT : State → Heap → Prop := fun _ _ => True
theorem eT_M : eM eT := fun _ _ _ _ _ => trivial
theorem cP_blind {As : List Value} {D : va_G} {cl : List vw_C} {tys : List (ClassId × FieldType)} {ws : va_W} {E : State → Heap → Prop} {sz : Nat} (hE : eM E) : FrameBlind (va_Pc As (cP D cl tys ws E sz)) := fun a U g mk q => ⟨q.1, q.2.1, q.2.2.1, va_K.moved (u := U) (U := U.calling g mk a) (Vm.Alike.refl U.vm) q.2.2.2.1, q.2.2.2.2.1, hE U (U.calling g mk a) U.heap (Vm.Alike.refl U.vm) q.2.2.2.2.2⟩
theorem xc_P {D : va_G} {cl : List vw_C} {ws wc : va_W} {H : Heap} (h : va_P D cl ws H) (is : List Nat) (hC : is.map (fun i => ws[i]?) = wc.map some) : va_P D cl wc H := by
  intro k q hk
  have h1 : (is.map (fun i => ws[i]?))[k]? = some (some q) := by rw [hC, List.getElem?_map, hk]; rfl
  rw [List.getElem?_map] at h1
  cases hi : is[k]? with
  | none => rw [hi] at h1; cases h1
  | some i => rw [hi] at h1; exact h i q (Option.some.inj h1)
theorem xc_pre {s : State} {H : Heap} {As : List Value} {D : va_G} {cl : List vw_C} {tys tysC : List (ClassId × FieldType)} {ws wc : va_W} {E : State → Heap → Prop} {A : Nat → Prop} (hP : va_P D cl ws H) (hD : va_D A ws) (hK : va_K D cl tys s) (is : List Nat) (hC : is.map (fun i => ws[i]?) = wc.map some) (hn : va_nd is = true) (tK : List Nat) (hKs : tK.filterMap (fun i => tys[i]?) = tysC) (hM : eM E) (hE : E s H) :
    ∀ U : State, U.heap = H → s.WarmedH U.vm → va_Pc As (cP D cl tysC wc E H.size) As.toArray U :=
  fun U hU hW => ⟨rfl, by rw [hU], by rw [hU]; exact xc_P hP is hC, va_K.moved hW.alike (hK.sub tK hKs), (hD.sub is hn hC).weaken (fun _ _ _ _ => trivial), by rw [hU]; exact hM s U H hW.alike hE⟩
section XC
variable {p : Program} {l : Launch} {e : Env} {R : Room} {s : State} {m : MethodId} {args : Array Value} {below : List Frame} {meth : Method} {c : Code} {H : Heap} {locs : List Loc} {cells slots : Nat} {Q : State → Prop}
variable {cc : ByteArray} {pc : Nat} {ls : Array Slot} {rest : List Value} {D : va_G} {cl : List vw_C} {A : Nat → Prop} {tys : List (ClassId × FieldType)} {ws : va_W} {H0 : Heap}
variable {y : MethodName} {bytes : ByteArray} {maxL nL mc ms n index : Nat} {ret : Option FieldType} {wsY : List Cond} {rm : Room} {Ts : List Cond} {own C : String} {b : Addr} {As st0 : List Value} {E : State → Heap → Prop} {wc wr : va_W} {tysC : List (ClassId × FieldType)} {q9 : vw_C} {fs : List Value} {ci q0 : Nat}
theorem xc_Vi {S : Type} {post : Int32 → S → Prop} {w1 : S → va_W} (S0 : CallFix p m c cc nL s args Ts own) (hM : Met l y wsY rm (va_Pc (.ref b :: As) (cP D cl tysC wc E H.size)) (va_Qi post (fun u => cB D cl tysC (w1 u) (va_A wc H.size)) (va_A wc H.size)) mc ms (va_A wc H.size)) (cw : CallW R s args own C index y bytes maxL ret wsY rm mc ms n)
    (hn : As.length = n) (hsize : ls.size = nL) (hst : st0 = As.reverse ++ .ref b :: rest) (hW : (rest.map fun v => v.category).sum ≤ 8) (hdg : decode cc pc = .ok (.invokevirtual index, 3)) (hf : cells + mc ≤ R.cells ∧ slots + ms ≤ R.slots)
    (hP : va_P D cl ws H) (hD : va_D A ws) (hK : va_K D cl tys s) (hS : va_S A H0 H locs) (hA : ∀ q, H0.size ≤ q → A q) (isC isR : List Nat) (hC : isC.map (fun i => ws[i]?) = wc.map some) (hR : isR.map (fun i => ws[i]?) = wr.map some) (hnd : va_nd isC = true) (hndR : va_nd isR = true) (hdis : ∀ i ∈ isR, i ∉ isC) (tK : List Nat) (hKs : tK.filterMap (fun i => tys[i]?) = tysC) (hcl : cl[ci]? = some q9) (hrc : wc[q0]? = some (b, .inr (ci, fs))) (hCn : q9.1 = C) (hEM : eM E) (hE : E s H)
    (kk : ∀ (r : Int32) (u : S) (H1 : Heap) (locs1 : List Loc), post r u → va_P D cl (wr ++ w1 u) H1 → va_D A (wr ++ w1 u) → va_S A H0 H1 locs1 → W p l e R s m args below meth c H1 locs1 (cells + mc) (slots + ms) Q (F0 m (pc + 3) ls (.int r :: rest))) : W p l e R s m args below meth c H locs cells slots Q (F0 m pc ls st0) := by
  have hFc := va_free (wc := wc) hD hS hA isC hC
  refine va_calli (va_runV (As := As) (rest := rest) S0 hM cw ⟨cP_blind hEM, by have h9 := va_recv (hK.sub tK hKs) (xc_P hP isC hC) hcl hrc; rw [hCn] at h9; exact h9, xc_pre (As := .ref b :: As) hP hD hK isC hC hnd tK hKs hEM hE⟩ rfl hn hsize hst (lv_room hW) hdg hf) hS (fun q _ h => hFc q h) hFc (fun r u t H1 locs ht hvm hw hB hz1 hk1 hS => ?_)
  obtain ⟨hP1, hK1, hD1⟩ := hB
  rw [ht] at hP1
  obtain ⟨hP, hD⟩ := va_join (wr := wr) (w1 := w1 u) hP hD isC isR hC hR hndR hdis hk1 hFc hP1 hD1
  exact kk r u H1 locs hw hP hD hS
theorem xc_Si {S : Type} {post : Int32 → S → Prop} {w1 : S → va_W} (S0 : CallFix p m c cc nL s args Ts own) (hM : Met l y wsY rm (va_Pc As (cP D cl tysC wc E H.size)) (va_Qi post (fun u => cB D cl tysC (w1 u) (va_A wc H.size)) (va_A wc H.size)) mc ms (va_A wc H.size)) (cw : CallB R s args own index y bytes maxL ret wsY rm mc ms n ∧ (Cond.static y).before args s = true)
    (hn : As.length = n) (hsize : ls.size = nL) (hst : st0 = As.reverse ++ rest) (hW : (rest.map fun v => v.category).sum ≤ 8) (hdg : decode cc pc = .ok (.invokestatic index, 3)) (hf : cells + mc ≤ R.cells ∧ slots + ms ≤ R.slots)
    (hP : va_P D cl ws H) (hD : va_D A ws) (hK : va_K D cl tys s) (hS : va_S A H0 H locs) (hA : ∀ q, H0.size ≤ q → A q) (isC isR : List Nat) (hC : isC.map (fun i => ws[i]?) = wc.map some) (hR : isR.map (fun i => ws[i]?) = wr.map some) (hnd : va_nd isC = true) (hndR : va_nd isR = true) (hdis : ∀ i ∈ isR, i ∉ isC) (tK : List Nat) (hKs : tK.filterMap (fun i => tys[i]?) = tysC) (hEM : eM E) (hE : E s H)
    (kk : ∀ (r : Int32) (u : S) (H1 : Heap) (locs1 : List Loc), post r u → va_P D cl (wr ++ w1 u) H1 → va_D A (wr ++ w1 u) → va_S A H0 H1 locs1 → W p l e R s m args below meth c H1 locs1 (cells + mc) (slots + ms) Q (F0 m (pc + 3) ls (.int r :: rest))) : W p l e R s m args below meth c H locs cells slots Q (F0 m pc ls st0) := by
  have hFc := va_free (wc := wc) hD hS hA isC hC
  refine va_calli (va_runS (As := As) (rest := rest) S0 hM cw ⟨cP_blind hEM, xc_pre (As := As) hP hD hK isC hC hnd tK hKs hEM hE⟩ rfl hn hsize hst (lv_room hW) hdg hf) hS (fun q _ h => hFc q h) hFc (fun r u t H1 locs ht hvm hw hB hz1 hk1 hS => ?_)
  obtain ⟨hP1, hK1, hD1⟩ := hB
  rw [ht] at hP1
  obtain ⟨hP, hD⟩ := va_join (wr := wr) (w1 := w1 u) hP hD isC isR hC hR hndR hdis hk1 hFc hP1 hD1
  exact kk r u H1 locs hw hP hD hS
theorem xc_Vl {S : Type} {post : Int64 → S → Prop} {w1 : S → va_W} (S0 : CallFix p m c cc nL s args Ts own) (hM : Met l y wsY rm (va_Pc (.ref b :: As) (cP D cl tysC wc E H.size)) (va_Ql post (fun u => cB D cl tysC (w1 u) (va_A wc H.size)) (va_A wc H.size)) mc ms (va_A wc H.size)) (cw : CallW R s args own C index y bytes maxL ret wsY rm mc ms n)
    (hn : As.length = n) (hsize : ls.size = nL) (hst : st0 = As.reverse ++ .ref b :: rest) (hW : (rest.map fun v => v.category).sum ≤ 8) (hdg : decode cc pc = .ok (.invokevirtual index, 3)) (hf : cells + mc ≤ R.cells ∧ slots + ms ≤ R.slots)
    (hP : va_P D cl ws H) (hD : va_D A ws) (hK : va_K D cl tys s) (hS : va_S A H0 H locs) (hA : ∀ q, H0.size ≤ q → A q) (isC isR : List Nat) (hC : isC.map (fun i => ws[i]?) = wc.map some) (hR : isR.map (fun i => ws[i]?) = wr.map some) (hnd : va_nd isC = true) (hndR : va_nd isR = true) (hdis : ∀ i ∈ isR, i ∉ isC) (tK : List Nat) (hKs : tK.filterMap (fun i => tys[i]?) = tysC) (hcl : cl[ci]? = some q9) (hrc : wc[q0]? = some (b, .inr (ci, fs))) (hCn : q9.1 = C) (hEM : eM E) (hE : E s H)
    (kk : ∀ (r : Int64) (u : S) (H1 : Heap) (locs1 : List Loc), post r u → va_P D cl (wr ++ w1 u) H1 → va_D A (wr ++ w1 u) → va_S A H0 H1 locs1 → W p l e R s m args below meth c H1 locs1 (cells + mc) (slots + ms) Q (F0 m (pc + 3) ls (.long r :: rest))) : W p l e R s m args below meth c H locs cells slots Q (F0 m pc ls st0) := by
  have hFc := va_free (wc := wc) hD hS hA isC hC
  refine va_calll (va_runV (As := As) (rest := rest) S0 hM cw ⟨cP_blind hEM, by have h9 := va_recv (hK.sub tK hKs) (xc_P hP isC hC) hcl hrc; rw [hCn] at h9; exact h9, xc_pre (As := .ref b :: As) hP hD hK isC hC hnd tK hKs hEM hE⟩ rfl hn hsize hst (lv_room hW) hdg hf) hS (fun q _ h => hFc q h) hFc (fun r u t H1 locs ht hvm hw hB hz1 hk1 hS => ?_)
  obtain ⟨hP1, hK1, hD1⟩ := hB
  rw [ht] at hP1
  obtain ⟨hP, hD⟩ := va_join (wr := wr) (w1 := w1 u) hP hD isC isR hC hR hndR hdis hk1 hFc hP1 hD1
  exact kk r u H1 locs hw hP hD hS
theorem xc_Sl {S : Type} {post : Int64 → S → Prop} {w1 : S → va_W} (S0 : CallFix p m c cc nL s args Ts own) (hM : Met l y wsY rm (va_Pc As (cP D cl tysC wc E H.size)) (va_Ql post (fun u => cB D cl tysC (w1 u) (va_A wc H.size)) (va_A wc H.size)) mc ms (va_A wc H.size)) (cw : CallB R s args own index y bytes maxL ret wsY rm mc ms n ∧ (Cond.static y).before args s = true)
    (hn : As.length = n) (hsize : ls.size = nL) (hst : st0 = As.reverse ++ rest) (hW : (rest.map fun v => v.category).sum ≤ 8) (hdg : decode cc pc = .ok (.invokestatic index, 3)) (hf : cells + mc ≤ R.cells ∧ slots + ms ≤ R.slots)
    (hP : va_P D cl ws H) (hD : va_D A ws) (hK : va_K D cl tys s) (hS : va_S A H0 H locs) (hA : ∀ q, H0.size ≤ q → A q) (isC isR : List Nat) (hC : isC.map (fun i => ws[i]?) = wc.map some) (hR : isR.map (fun i => ws[i]?) = wr.map some) (hnd : va_nd isC = true) (hndR : va_nd isR = true) (hdis : ∀ i ∈ isR, i ∉ isC) (tK : List Nat) (hKs : tK.filterMap (fun i => tys[i]?) = tysC) (hEM : eM E) (hE : E s H)
    (kk : ∀ (r : Int64) (u : S) (H1 : Heap) (locs1 : List Loc), post r u → va_P D cl (wr ++ w1 u) H1 → va_D A (wr ++ w1 u) → va_S A H0 H1 locs1 → W p l e R s m args below meth c H1 locs1 (cells + mc) (slots + ms) Q (F0 m (pc + 3) ls (.long r :: rest))) : W p l e R s m args below meth c H locs cells slots Q (F0 m pc ls st0) := by
  have hFc := va_free (wc := wc) hD hS hA isC hC
  refine va_calll (va_runS (As := As) (rest := rest) S0 hM cw ⟨cP_blind hEM, xc_pre (As := As) hP hD hK isC hC hnd tK hKs hEM hE⟩ rfl hn hsize hst (lv_room hW) hdg hf) hS (fun q _ h => hFc q h) hFc (fun r u t H1 locs ht hvm hw hB hz1 hk1 hS => ?_)
  obtain ⟨hP1, hK1, hD1⟩ := hB
  rw [ht] at hP1
  obtain ⟨hP, hD⟩ := va_join (wr := wr) (w1 := w1 u) hP hD isC isR hC hR hndR hdis hk1 hFc hP1 hD1
  exact kk r u H1 locs hw hP hD hS
theorem xc_Vv {S : Type} {post : S → Prop} {w1 : S → va_W} (S0 : CallFix p m c cc nL s args Ts own) (hM : Met l y wsY rm (va_Pc (.ref b :: As) (cP D cl tysC wc E H.size)) (va_Qv post (fun u => cB D cl tysC (w1 u) (va_A wc H.size)) (va_A wc H.size)) mc ms (va_A wc H.size)) (cw : CallW R s args own C index y bytes maxL ret wsY rm mc ms n)
    (hn : As.length = n) (hsize : ls.size = nL) (hst : st0 = As.reverse ++ .ref b :: rest) (hW : (rest.map fun v => v.category).sum ≤ 8) (hdg : decode cc pc = .ok (.invokevirtual index, 3)) (hf : cells + mc ≤ R.cells ∧ slots + ms ≤ R.slots)
    (hP : va_P D cl ws H) (hD : va_D A ws) (hK : va_K D cl tys s) (hS : va_S A H0 H locs) (hA : ∀ q, H0.size ≤ q → A q) (isC isR : List Nat) (hC : isC.map (fun i => ws[i]?) = wc.map some) (hR : isR.map (fun i => ws[i]?) = wr.map some) (hnd : va_nd isC = true) (hndR : va_nd isR = true) (hdis : ∀ i ∈ isR, i ∉ isC) (tK : List Nat) (hKs : tK.filterMap (fun i => tys[i]?) = tysC) (hcl : cl[ci]? = some q9) (hrc : wc[q0]? = some (b, .inr (ci, fs))) (hCn : q9.1 = C) (hEM : eM E) (hE : E s H)
    (kk : ∀ (u : S) (H1 : Heap) (locs1 : List Loc), post u → va_P D cl (wr ++ w1 u) H1 → va_D A (wr ++ w1 u) → va_S A H0 H1 locs1 → W p l e R s m args below meth c H1 locs1 (cells + mc) (slots + ms) Q (F0 m (pc + 3) ls (rest))) : W p l e R s m args below meth c H locs cells slots Q (F0 m pc ls st0) := by
  have hFc := va_free (wc := wc) hD hS hA isC hC
  refine va_callv (va_runV (As := As) (rest := rest) S0 hM cw ⟨cP_blind hEM, by have h9 := va_recv (hK.sub tK hKs) (xc_P hP isC hC) hcl hrc; rw [hCn] at h9; exact h9, xc_pre (As := .ref b :: As) hP hD hK isC hC hnd tK hKs hEM hE⟩ rfl hn hsize hst (lv_room hW) hdg hf) hS (fun q _ h => hFc q h) hFc (fun u t H1 locs ht hvm hw hB hz1 hk1 hS => ?_)
  obtain ⟨hP1, hK1, hD1⟩ := hB
  rw [ht] at hP1
  obtain ⟨hP, hD⟩ := va_join (wr := wr) (w1 := w1 u) hP hD isC isR hC hR hndR hdis hk1 hFc hP1 hD1
  exact kk u H1 locs hw hP hD hS
theorem xc_Sv {S : Type} {post : S → Prop} {w1 : S → va_W} (S0 : CallFix p m c cc nL s args Ts own) (hM : Met l y wsY rm (va_Pc As (cP D cl tysC wc E H.size)) (va_Qv post (fun u => cB D cl tysC (w1 u) (va_A wc H.size)) (va_A wc H.size)) mc ms (va_A wc H.size)) (cw : CallB R s args own index y bytes maxL ret wsY rm mc ms n ∧ (Cond.static y).before args s = true)
    (hn : As.length = n) (hsize : ls.size = nL) (hst : st0 = As.reverse ++ rest) (hW : (rest.map fun v => v.category).sum ≤ 8) (hdg : decode cc pc = .ok (.invokestatic index, 3)) (hf : cells + mc ≤ R.cells ∧ slots + ms ≤ R.slots)
    (hP : va_P D cl ws H) (hD : va_D A ws) (hK : va_K D cl tys s) (hS : va_S A H0 H locs) (hA : ∀ q, H0.size ≤ q → A q) (isC isR : List Nat) (hC : isC.map (fun i => ws[i]?) = wc.map some) (hR : isR.map (fun i => ws[i]?) = wr.map some) (hnd : va_nd isC = true) (hndR : va_nd isR = true) (hdis : ∀ i ∈ isR, i ∉ isC) (tK : List Nat) (hKs : tK.filterMap (fun i => tys[i]?) = tysC) (hEM : eM E) (hE : E s H)
    (kk : ∀ (u : S) (H1 : Heap) (locs1 : List Loc), post u → va_P D cl (wr ++ w1 u) H1 → va_D A (wr ++ w1 u) → va_S A H0 H1 locs1 → W p l e R s m args below meth c H1 locs1 (cells + mc) (slots + ms) Q (F0 m (pc + 3) ls (rest))) : W p l e R s m args below meth c H locs cells slots Q (F0 m pc ls st0) := by
  have hFc := va_free (wc := wc) hD hS hA isC hC
  refine va_callv (va_runS (As := As) (rest := rest) S0 hM cw ⟨cP_blind hEM, xc_pre (As := As) hP hD hK isC hC hnd tK hKs hEM hE⟩ rfl hn hsize hst (lv_room hW) hdg hf) hS (fun q _ h => hFc q h) hFc (fun u t H1 locs ht hvm hw hB hz1 hk1 hS => ?_)
  obtain ⟨hP1, hK1, hD1⟩ := hB
  rw [ht] at hP1
  obtain ⟨hP, hD⟩ := va_join (wr := wr) (w1 := w1 u) hP hD isC isR hC hR hndR hdis hk1 hFc hP1 hD1
  exact kk u H1 locs hw hP hD hS
theorem xc_Iv {S : Type} {post : S → Prop} {w1 : S → va_W} (S0 : CallFix p m c cc nL s args Ts own) (hM : Met l y wsY rm (va_Pc (.ref b :: As) (cP D cl tysC wc E H.size)) (va_Qv post (fun u => cB D cl tysC (w1 u) (va_A wc H.size)) (va_A wc H.size)) mc ms (va_A wc H.size)) (cw : CallB R s args own index y bytes maxL none wsY rm mc ms n ∧ y.name = "<init>" ∧ (Cond.instanceMethod y).before args s = true)
    (hn : As.length = n) (hsize : ls.size = nL) (hst : st0 = As.reverse ++ .ref b :: rest) (hW : (rest.map fun v => v.category).sum ≤ 8) (hdg : decode cc pc = .ok (.invokespecial index, 3)) (hf : cells + mc ≤ R.cells ∧ slots + ms ≤ R.slots)
    (hP : va_P D cl ws H) (hD : va_D A ws) (hK : va_K D cl tys s) (hS : va_S A H0 H locs) (hA : ∀ q, H0.size ≤ q → A q) (isC isR : List Nat) (hC : isC.map (fun i => ws[i]?) = wc.map some) (hR : isR.map (fun i => ws[i]?) = wr.map some) (hnd : va_nd isC = true) (hndR : va_nd isR = true) (hdis : ∀ i ∈ isR, i ∉ isC) (tK : List Nat) (hKs : tK.filterMap (fun i => tys[i]?) = tysC) (hEM : eM E) (hE : E s H)
    (kk : ∀ (u : S) (H1 : Heap) (locs1 : List Loc), post u → va_P D cl (wr ++ w1 u) H1 → va_D A (wr ++ w1 u) → va_S A H0 H1 locs1 → W p l e R s m args below meth c H1 locs1 (cells + mc) (slots + ms) Q (F0 m (pc + 3) ls (rest))) : W p l e R s m args below meth c H locs cells slots Q (F0 m pc ls st0) := by
  have hFc := va_free (wc := wc) hD hS hA isC hC
  refine va_callv (va_runI (b := b) (As := As) (rest := rest) S0 hM cw ⟨cP_blind hEM, xc_pre (As := .ref b :: As) hP hD hK isC hC hnd tK hKs hEM hE⟩ rfl hn hsize hst (lv_room hW) hdg hf) hS (fun q _ h => hFc q h) hFc (fun u t H1 locs ht hvm hw hB hz1 hk1 hS => ?_)
  obtain ⟨hP1, hK1, hD1⟩ := hB
  rw [ht] at hP1
  obtain ⟨hP, hD⟩ := va_join (wr := wr) (w1 := w1 u) hP hD isC isR hC hR hndR hdis hk1 hFc hP1 hD1
  exact kk u H1 locs hw hP hD hS
end XC
/-! a method's beginning and its ends -/
theorem xm_of {l : Launch} {y : MethodName} {wsY ws' : List Cond} {rm : Room} {As : List Value} {D : va_G} {cl : List vw_C} {tys : List (ClassId × FieldType)} {ws : va_W} {E : State → Heap → Prop} {sz : Nat} {Qc : Array Value → State → Outcome → State → Prop} {mc ms : Nat} {cc : ByteArray} {maxL : Nat} {ret : Option FieldType}
    (hy : plainName y.cls = true) (hw : wsY = Cond.code y cc maxL ret :: ws') (hlen : (lg_sl As).length ≤ maxL)
    (body : ∀ (p : Program) (e : Env) (s : State) (m : MethodId) (below : List Frame) (meth : Method) (c : Code) (A : Nat → Prop), A = va_A ws sz → p.tables.exec = Jvm.exec → c.code = cc → meth.sig.returnType = ret → c.maxLocals = maxL → (∀ w ∈ wsY, w.before As.toArray s = true) → s.vm.findClass y.cls = some m.cls → meth.locks = false → meth.name = y.name →
      s.heap.size = sz → ∀ (H : Heap) (locs : List Loc), va_P D cl ws H → va_K D cl tys s → va_D A ws → (∀ q : Nat, s.heap.size ≤ q → A q) → va_S A s.heap H locs → E s s.heap → ∀ ls : Array Slot, lv_has ls maxL (lv_args 0 As) →
      W p l e rm s m As.toArray below meth c H locs 0 0 (MQ below Qc As.toArray s mc ms A) (F0 m 0 ls [])) : Met l y wsY rm (va_Pc As (cP D cl tys ws E sz)) Qc mc ms (va_A ws sz) := by
  refine Met.ofW (cc := cc) (maxL := maxL) (ret := ret) hy hw ?_
  intro p e s m args below meth c s₁ B hml hv
  obtain ⟨rfl, hsz, hP, hK, hD0, hE⟩ := hv
  have hl := lv_entry As (n := maxL) hlen
  rw [lg_entry_eq]
  exact body p e s m below meth c (va_A ws sz) rfl B.exec B.bytes B.returns hml (atoms_spec (ws := wsY) B.pre) (findClass_of_methodNamed B.named) B.notSynchronized (name_of_methodNamed B.named B.method).1 hsz s.heap [] hP hK (hD0.self (sz := sz)) (fun q h => Or.inr (by rw [← hsz]; exact h)) va_S.rf hE _ hl
section XR
variable {p : Program} {l : Launch} {e : Env} {R : Room} {s : State} {m : MethodId} {args : Array Value} {below : List Frame} {meth : Method} {c : Code} {H : Heap} {locs : List Loc} {cells slots : Nat} {Q : State → Prop}
variable {cc : ByteArray} {pc : Nat} {ls : Array Slot} {rest : List Value} {D : va_G} {cl : List vw_C} {A : Nat → Prop} {ad : Nat} {tys : List (ClassId × FieldType)} {ws : va_W} {H0 : Heap}

theorem xr_i {S : Type} {post : Int32 → S → Prop} {w1 : S → va_W} (hx : p.tables.exec = Jvm.exec) (hb : c.code = cc) (hr : meth.sig.returnType = some .int) (hlk : meth.locks = false) {v : Int32} (u : S) (hp : post v u) (hP : va_P D cl (w1 u) H) (hK : va_K D cl tys s) (hD : va_D A (w1 u)) (hS : va_S A s.heap H locs) (hdg : decode cc pc = .ok (.ireturn, 1)) : W p l e R s m args below meth c H locs cells slots (MQ below (va_Qi post (fun u => cB D cl tys (w1 u) A) A) args s cells slots A) (F0 m pc ls [.int v]) :=
  W.iret hx hb hr (fun t ht hW => ⟨⟨v, u, rfl, hp, by rw [ht]; exact hP, va_K.moved hW.alike hK, hD⟩, hS.F ht⟩) hS.2.2 hdg hlk
theorem xr_z {S : Type} {post : Int32 → S → Prop} {w1 : S → va_W} (hx : p.tables.exec = Jvm.exec) (hb : c.code = cc) (hr : meth.sig.returnType = some .boolean) (hlk : meth.locks = false) {v : Int32} (hn : narrow .boolean (.int v) = .int v) (u : S) (hp : post v u) (hP : va_P D cl (w1 u) H) (hK : va_K D cl tys s) (hD : va_D A (w1 u)) (hS : va_S A s.heap H locs) (hdg : decode cc pc = .ok (.ireturn, 1)) : W p l e R s m args below meth c H locs cells slots (MQ below (va_Qi post (fun u => cB D cl tys (w1 u) A) A) args s cells slots A) (F0 m pc ls [.int v]) :=
  W.zret hx hb hr hn (fun t ht hW => ⟨⟨v, u, rfl, hp, by rw [ht]; exact hP, va_K.moved hW.alike hK, hD⟩, hS.F ht⟩) hS.2.2 hdg hlk
theorem xr_l {S : Type} {post : Int64 → S → Prop} {w1 : S → va_W} (hx : p.tables.exec = Jvm.exec) (hb : c.code = cc) (hr : meth.sig.returnType = some .long) (hlk : meth.locks = false) {v : Int64} (u : S) (hp : post v u) (hP : va_P D cl (w1 u) H) (hK : va_K D cl tys s) (hD : va_D A (w1 u)) (hS : va_S A s.heap H locs) (hdg : decode cc pc = .ok (.lreturn, 1)) : W p l e R s m args below meth c H locs cells slots (MQ below (va_Ql post (fun u => cB D cl tys (w1 u) A) A) args s cells slots A) (F0 m pc ls [.long v]) :=
  W.lret hx hb hr (fun t ht hW => ⟨⟨v, u, rfl, hp, by rw [ht]; exact hP, va_K.moved hW.alike hK, hD⟩, hS.F ht⟩) hS.2.2 hdg hlk
theorem xr_v {S : Type} {post : S → Prop} {w1 : S → va_W} (hx : p.tables.exec = Jvm.exec) (hb : c.code = cc) (hr : meth.sig.returnType = none) (hlk : meth.locks = false) (u : S) (hp : post u) (hP : va_P D cl (w1 u) H) (hK : va_K D cl tys s) (hD : va_D A (w1 u)) (hS : va_S A s.heap H locs) (hdg : decode cc pc = .ok (.return_, 1)) : W p l e R s m args below meth c H locs cells slots (MQ below (va_Qv post (fun u => cB D cl tys (w1 u) A) A) args s cells slots A) (F0 m pc ls []) :=
  W.vret hx hb hr (fun t ht hW => ⟨⟨u, rfl, hp, by rw [ht]; exact hP, va_K.moved hW.alike hK, hD⟩, hS.F ht⟩) hS.2.2 hdg hlk
end XR
end
section
def RX0 : String := "ScanRows$Access"
def TX0 : u_T := fun k => match k with
  | 0 => ("ScanRows$Access", "state", "I", false)
  | 1 => ("ScanRows$Access", "code", "I", false)
  | 2 => ("ScanRows$Access", "number", "I", true)
  | 3 => ("ScanRows$Access", "rows", "LScanRows$Rows;", true)
  | 4 => ("ScanRows$Access", "cells", "LScanRows$Cells;", true)
  | 5 => ("ScanRows$Access", "codeInRegister", "I", false)
  | 6 => ("ScanRows$Access", "numberInRegister", "I", false)
  | 7 => ("ScanRows$Access", "bypassBit", "I", false)
  | _ => ("ScanRows$Access", "ticksFrom", "[I", true)
def tyX0 : Nat → FieldType := fun k => match k with
  | 0 => .int
  | 1 => .int
  | 2 => .int
  | 3 => .object "ScanRows$Rows"
  | 4 => .object "ScanRows$Cells"
  | 5 => .int
  | 6 => .int
  | 7 => .int
  | _ => .array .int
theorem nmX0 : ∀ a, a < 9 → ∀ b, b < 9 → a ≠ b → (TX0 a).2.1 ≠ (TX0 b).2.1 := by decide +kernel
theorem tyX0_ok : ∀ k, k < 9 → parseFieldDescriptor (TX0 k).2.2.1 = some (tyX0 k) := by decide +kernel
def RX1 : String := "ScanRows$Cells"
def TX1 : u_T := fun k => match k with
  | 0 => ("ScanRows$Cells", "count", "I", false)
  | 1 => ("ScanRows$Cells", "atPin", "[I", true)
  | 2 => ("ScanRows$Cells", "kindOf", "[I", true)
  | 3 => ("ScanRows$Cells", "held", "[I", true)
  | _ => ("ScanRows$Cells", "inRegister", "[I", true)
def tyX1 : Nat → FieldType := fun k => match k with
  | 0 => .int
  | 1 => .array .int
  | 2 => .array .int
  | 3 => .array .int
  | _ => .array .int
theorem nmX1 : ∀ a, a < 5 → ∀ b, b < 5 → a ≠ b → (TX1 a).2.1 ≠ (TX1 b).2.1 := by decide +kernel
theorem tyX1_ok : ∀ k, k < 5 → parseFieldDescriptor (TX1 k).2.2.1 = some (tyX1 k) := by decide +kernel
def RX2 : String := "ScanRows$Rows"
def TX2 : u_T := fun k => match k with
  | 0 => ("ScanRows$Rows", "latches", "I", false)
  | 1 => ("ScanRows$Rows", "chains", "I", false)
  | 2 => ("ScanRows$Rows", "placed", "I", false)
  | 3 => ("ScanRows$Rows", "value", "[I", true)
  | 4 => ("ScanRows$Rows", "clock", "[I", true)
  | 5 => ("ScanRows$Rows", "x", "[I", true)
  | 6 => ("ScanRows$Rows", "y", "[I", true)
  | 7 => ("ScanRows$Rows", "fromLogic", "[Z", true)
  | 8 => ("ScanRows$Rows", "placeOf", "[I", true)
  | 9 => ("ScanRows$Rows", "row", "[I", true)
  | 10 => ("ScanRows$Rows", "chainOf", "[I", true)
  | _ => ("ScanRows$Rows", "start", "[I", true)
def tyX2 : Nat → FieldType := fun k => match k with
  | 0 => .int
  | 1 => .int
  | 2 => .int
  | 3 => .array .int
  | 4 => .array .int
  | 5 => .array .int
  | 6 => .array .int
  | 7 => .array .boolean
  | 8 => .array .int
  | 9 => .array .int
  | 10 => .array .int
  | _ => .array .int
theorem nmX2 : ∀ a, a < 12 → ∀ b, b < 12 → a ≠ b → (TX2 a).2.1 ≠ (TX2 b).2.1 := by decide +kernel
theorem tyX2_ok : ∀ k, k < 12 → parseFieldDescriptor (TX2 k).2.2.1 = some (tyX2 k) := by decide +kernel
def RX3 : String := "ScanRows"
def TX3 : u_T := fun k => match k with
  | 0 => ("ScanRows", "rows", "LScanRows$Rows;", true)
  | 1 => ("ScanRows", "cells", "LScanRows$Cells;", true)
  | _ => ("ScanRows", "access", "LScanRows$Access;", true)
def tyX3 : Nat → FieldType := fun k => match k with
  | 0 => .object "ScanRows$Rows"
  | 1 => .object "ScanRows$Cells"
  | _ => .object "ScanRows$Access"
theorem nmX3 : ∀ a, a < 3 → ∀ b, b < 3 → a ≠ b → (TX3 a).2.1 ≠ (TX3 b).2.1 := by decide +kernel
theorem tyX3_ok : ∀ k, k < 3 → parseFieldDescriptor (TX3 k).2.2.1 = some (tyX3 k) := by decide +kernel
def RX4 : String := "ScanRowsModel"
def TX4 : u_T := fun k => match k with
  | 0 => ("ScanRowsModel", "thrown", "I", false)
  | 1 => ("ScanRowsModel", "number", "I", true)
  | 2 => ("ScanRowsModel", "clocks", "[I", true)
  | 3 => ("ScanRowsModel", "xs", "[I", true)
  | 4 => ("ScanRowsModel", "ys", "[I", true)
  | 5 => ("ScanRowsModel", "values", "[I", true)
  | 6 => ("ScanRowsModel", "sets", "[Z", true)
  | 7 => ("ScanRowsModel", "latches", "I", false)
  | 8 => ("ScanRowsModel", "row", "[I", true)
  | 9 => ("ScanRowsModel", "chained", "I", false)
  | 10 => ("ScanRowsModel", "begins", "[I", true)
  | 11 => ("ScanRowsModel", "chains", "I", false)
  | 12 => ("ScanRowsModel", "kinds", "[I", true)
  | 13 => ("ScanRowsModel", "pins", "[I", true)
  | 14 => ("ScanRowsModel", "holds", "[I", true)
  | 15 => ("ScanRowsModel", "cellBits", "[I", true)
  | 16 => ("ScanRowsModel", "cells", "I", false)
  | 17 => ("ScanRowsModel", "numberBits", "[I", true)
  | 18 => ("ScanRowsModel", "bypass", "I", false)
  | 19 => ("ScanRowsModel", "codeBits", "I", false)
  | 20 => ("ScanRowsModel", "code", "I", false)
  | 21 => ("ScanRowsModel", "state", "I", false)
  | _ => ("ScanRowsModel", "far", "[I", true)
def tyX4 : Nat → FieldType := fun k => match k with
  | 0 => .int
  | 1 => .int
  | 2 => .array .int
  | 3 => .array .int
  | 4 => .array .int
  | 5 => .array .int
  | 6 => .array .boolean
  | 7 => .int
  | 8 => .array .int
  | 9 => .int
  | 10 => .array .int
  | 11 => .int
  | 12 => .array .int
  | 13 => .array .int
  | 14 => .array .int
  | 15 => .array .int
  | 16 => .int
  | 17 => .array .int
  | 18 => .int
  | 19 => .int
  | 20 => .int
  | 21 => .int
  | _ => .array .int
theorem nmX4 : ∀ a, a < 23 → ∀ b, b < 23 → a ≠ b → (TX4 a).2.1 ≠ (TX4 b).2.1 := by decide +kernel
theorem tyX4_ok : ∀ k, k < 23 → parseFieldDescriptor (TX4 k).2.2.1 = some (tyX4 k) := by decide +kernel
abbrev vwCl : List vw_C := [(RX0, TX0, 9), (RX1, TX1, 5), (RX2, TX2, 12), (RX3, TX3, 3), (RX4, TX4, 23)]
def RL : String := "ScanRowsLaw"
abbrev cX3_init : ByteArray := prog_1_method_1_code
def yX3_init : MethodName := ⟨RX3, "<init>", "(I)V"⟩
abbrev cX2_init : ByteArray := prog_4_method_1_code
def yX2_init : MethodName := ⟨RX2, "<init>", "()V"⟩
abbrev cX1_init : ByteArray := prog_3_method_1_code
def yX1_init : MethodName := ⟨RX1, "<init>", "()V"⟩
abbrev cX0_init : ByteArray := prog_2_method_1_code
def yX0_init : MethodName := ⟨RX0, "<init>", "(ILScanRows$Rows;LScanRows$Cells;)V"⟩
abbrev cX3_travel : ByteArray := prog_1_method_6_code
def yX3_travel : MethodName := ⟨RX3, "travel", "()J"⟩
abbrev cX2_wholeWay : ByteArray := prog_4_method_12_code
def yX2_wholeWay : MethodName := ⟨RX2, "wholeWay", "()J"⟩
abbrev cX2_wayBehind : ByteArray := prog_4_method_13_code
def yX2_wayBehind : MethodName := ⟨RX2, "wayBehind", "(I)I"⟩
abbrev cX2_hasNeighbourBehind : ByteArray := prog_4_method_11_code
def yX2_hasNeighbourBehind : MethodName := ⟨RX2, "hasNeighbourBehind", "(I)Z"⟩
abbrev cX3_shift : ByteArray := prog_1_method_12_code
def yX3_shift : MethodName := ⟨RX3, "shift", "(I)I"⟩
abbrev cX2_shiftChains : ByteArray := prog_4_method_23_code
def yX2_shiftChains : MethodName := ⟨RX2, "shiftChains", "(I)I"⟩
abbrev cX2_shiftPlaces : ByteArray := prog_4_method_25_code
def yX2_shiftPlaces : MethodName := ⟨RX2, "shiftPlaces", "(III)I"⟩
abbrev cX3_state : ByteArray := prog_1_method_16_code
def yX3_state : MethodName := ⟨RX3, "state", "()I"⟩
abbrev cL_cell : ByteArray := method_2_code
def yL_cell : MethodName := ⟨RL, "cell", "([II)I"⟩
abbrev cL_latch : ByteArray := method_3_code
def yL_latch : MethodName := ⟨RL, "latch", "(LScanRows;IJJ[J)I"⟩
abbrev cX3_latch : ByteArray := prog_1_method_2_code
def yX3_latch : MethodName := ⟨RX3, "latch", "(IJJ)I"⟩
abbrev cX2_addLatch : ByteArray := prog_4_method_2_code
def yX2_addLatch : MethodName := ⟨RX2, "addLatch", "(III)I"⟩
abbrev cL_make : ByteArray := method_4_code
def yL_make : MethodName := ⟨RL, "make", "(LScanRows;I[J)I"⟩
abbrev cX3_make : ByteArray := prog_1_method_3_code
def yX3_make : MethodName := ⟨RX3, "make", "(I)I"⟩
abbrev cX2_arrange : ByteArray := prog_4_method_3_code
def yX2_arrange : MethodName := ⟨RX2, "arrange", "(I)I"⟩
abbrev cX2_sortRow : ByteArray := prog_4_method_4_code
def yX2_sortRow : MethodName := ⟨RX2, "sortRow", "()V"⟩
abbrev cX2_standsBefore : ByteArray := prog_4_method_5_code
def yX2_standsBefore : MethodName := ⟨RX2, "standsBefore", "(II)Z"⟩
abbrev cX2_cutRow : ByteArray := prog_4_method_6_code
def yX2_cutRow : MethodName := ⟨RX2, "cutRow", "(I)V"⟩
abbrev cX2_lengthOf : ByteArray := prog_4_method_8_code
def yX2_lengthOf : MethodName := ⟨RX2, "lengthOf", "(I)I"⟩
abbrev cL_at : ByteArray := method_5_code
def yL_at : MethodName := ⟨RL, "at", "(LScanRows;II[J)I"⟩
abbrev cX3_at : ByteArray := prog_1_method_4_code
def yX3_at : MethodName := ⟨RX3, "at", "(II)I"⟩
abbrev cX2_hasChain : ByteArray := prog_4_method_7_code
def yX2_hasChain : MethodName := ⟨RX2, "hasChain", "(I)Z"⟩
abbrev cX2_latchAt : ByteArray := prog_4_method_9_code
def yX2_latchAt : MethodName := ⟨RX2, "latchAt", "(II)I"⟩
abbrev cL_lockUp : ByteArray := method_6_code
def yL_lockUp : MethodName := ⟨RL, "lockUp", "(LScanRows;II[J)I"⟩
abbrev cX3_lockUp : ByteArray := prog_1_method_5_code
def yX3_lockUp : MethodName := ⟨RX3, "lockUp", "(II)Z"⟩
abbrev cX2_clockChangesBehind : ByteArray := prog_4_method_10_code
def yX2_clockChangesBehind : MethodName := ⟨RX2, "clockChangesBehind", "(II)Z"⟩
abbrev cL_improve : ByteArray := method_7_code
def yL_improve : MethodName := ⟨RL, "improve", "(LScanRows;I[J)I"⟩
abbrev cX3_improve : ByteArray := prog_1_method_7_code
def yX3_improve : MethodName := ⟨RX3, "improve", "(I)I"⟩
abbrev cX2_exchangeUpTo : ByteArray := prog_4_method_15_code
def yX2_exchangeUpTo : MethodName := ⟨RX2, "exchangeUpTo", "(I)I"⟩
abbrev cX2_exchangeOnce : ByteArray := prog_4_method_16_code
def yX2_exchangeOnce : MethodName := ⟨RX2, "exchangeOnce", "()Z"⟩
abbrev cX2_mayExchange : ByteArray := prog_4_method_17_code
def yX2_mayExchange : MethodName := ⟨RX2, "mayExchange", "(II)Z"⟩
abbrev cX2_exchangeIfShorter : ByteArray := prog_4_method_18_code
def yX2_exchangeIfShorter : MethodName := ⟨RX2, "exchangeIfShorter", "(II)Z"⟩
abbrev cX2_wayAround : ByteArray := prog_4_method_14_code
def yX2_wayAround : MethodName := ⟨RX2, "wayAround", "(I)I"⟩
abbrev cX2_exchange : ByteArray := prog_4_method_19_code
def yX2_exchange : MethodName := ⟨RX2, "exchange", "(II)V"⟩
abbrev cL_rule : ByteArray := method_8_code
def yL_rule : MethodName := ⟨RL, "rule", "(LScanRows;II[J)I"⟩
abbrev cX3_rule : ByteArray := prog_1_method_8_code
def yX3_rule : MethodName := ⟨RX3, "rule", "(II)I"⟩
abbrev cX2_brokenRule : ByteArray := prog_4_method_20_code
def yX2_brokenRule : MethodName := ⟨RX2, "brokenRule", "(II)I"⟩
abbrev cX2_breaks : ByteArray := prog_4_method_21_code
def yX2_breaks : MethodName := ⟨RX2, "breaks", "(II)Z"⟩
abbrev cL_set : ByteArray := method_9_code
def yL_set : MethodName := ⟨RL, "set", "(LScanRows;IZ[J)I"⟩
abbrev cX3_set : ByteArray := prog_1_method_9_code
def yX3_set : MethodName := ⟨RX3, "set", "(IZ)Z"⟩
abbrev cX3_requireLatch : ByteArray := prog_1_method_20_code
def yX3_requireLatch : MethodName := ⟨RX3, "requireLatch", "(I)V"⟩
abbrev cX2_changeSet : ByteArray := prog_4_method_22_code
def yX2_changeSet : MethodName := ⟨RX2, "changeSet", "(IZ)Z"⟩
abbrev cL_load : ByteArray := method_10_code
def yL_load : MethodName := ⟨RL, "load", "(LScanRows;II)I"⟩
abbrev cX3_load : ByteArray := prog_1_method_10_code
def yX3_load : MethodName := ⟨RX3, "load", "(II)V"⟩
abbrev cX3_asBit : ByteArray := prog_1_method_22_code
def yX3_asBit : MethodName := ⟨RX3, "asBit", "(I)I"⟩
abbrev cL_value : ByteArray := method_11_code
def yL_value : MethodName := ⟨RL, "value", "(LScanRows;I[J)I"⟩
abbrev cX3_value : ByteArray := prog_1_method_11_code
def yX3_value : MethodName := ⟨RX3, "value", "(I)I"⟩
abbrev cL_port : ByteArray := method_12_code
def yL_port : MethodName := ⟨RL, "port", "(LScanRows;I[J)I"⟩
abbrev cX3_port : ByteArray := prog_1_method_13_code
def yX3_port : MethodName := ⟨RX3, "port", "(I)I"⟩
abbrev cX1_addCell : ByteArray := prog_3_method_2_code
def yX1_addCell : MethodName := ⟨RX1, "addCell", "(I)I"⟩
abbrev cL_pin : ByteArray := method_13_code
def yL_pin : MethodName := ⟨RL, "pin", "(LScanRows;II)I"⟩
abbrev cX3_pin : ByteArray := prog_1_method_14_code
def yX3_pin : MethodName := ⟨RX3, "pin", "(II)V"⟩
abbrev cX3_requireCell : ByteArray := prog_1_method_21_code
def yX3_requireCell : MethodName := ⟨RX3, "requireCell", "(I)V"⟩
abbrev cL_tick : ByteArray := method_14_code
def yL_tick : MethodName := ⟨RL, "tick", "(LScanRows;II[J)I"⟩
abbrev cX3_tick : ByteArray := prog_1_method_15_code
def yX3_tick : MethodName := ⟨RX3, "tick", "(II)I"⟩
abbrev cX0_step : ByteArray := prog_2_method_2_code
def yX0_step : MethodName := ⟨RX0, "step", "(II)I"⟩
abbrev cX0_act : ByteArray := prog_2_method_3_code
def yX0_act : MethodName := ⟨RX0, "act", "(I)I"⟩
abbrev cX0_captureData : ByteArray := prog_2_method_6_code
def yX0_captureData : MethodName := ⟨RX0, "captureData", "()V"⟩
abbrev cX0_register : ByteArray := prog_2_method_4_code
def yX0_register : MethodName := ⟨RX0, "register", "()I"⟩
abbrev cX1_capture : ByteArray := prog_3_method_3_code
def yX1_capture : MethodName := ⟨RX1, "capture", "()V"⟩
abbrev cX0_shiftData : ByteArray := prog_2_method_7_code
def yX0_shiftData : MethodName := ⟨RX0, "shiftData", "(I)I"⟩
abbrev cX1_shiftRegister : ByteArray := prog_3_method_4_code
def yX1_shiftRegister : MethodName := ⟨RX1, "shiftRegister", "(I)I"⟩
abbrev cX0_shiftNumber : ByteArray := prog_2_method_8_code
def yX0_shiftNumber : MethodName := ⟨RX0, "shiftNumber", "(I)I"⟩
abbrev cX2_shiftWholeRow : ByteArray := prog_4_method_24_code
def yX2_shiftWholeRow : MethodName := ⟨RX2, "shiftWholeRow", "(I)I"⟩
abbrev cX0_shiftBypass : ByteArray := prog_2_method_9_code
def yX0_shiftBypass : MethodName := ⟨RX0, "shiftBypass", "(I)I"⟩
abbrev cX0_updateData : ByteArray := prog_2_method_11_code
def yX0_updateData : MethodName := ⟨RX0, "updateData", "()V"⟩
abbrev cX1_update : ByteArray := prog_3_method_5_code
def yX1_update : MethodName := ⟨RX1, "update", "()V"⟩
abbrev cX0_shiftCode : ByteArray := prog_2_method_10_code
def yX0_shiftCode : MethodName := ⟨RX0, "shiftCode", "(I)I"⟩
abbrev cL_go : ByteArray := method_15_code
def yL_go : MethodName := ⟨RL, "go", "(LScanRows;I[J)I"⟩
abbrev cX3_go : ByteArray := prog_1_method_17_code
def yX3_go : MethodName := ⟨RX3, "go", "(I)I"⟩
abbrev cX0_stepUntil : ByteArray := prog_2_method_12_code
def yX0_stepUntil : MethodName := ⟨RX0, "stepUntil", "(I)I"⟩
abbrev cX0_measureTicks : ByteArray := prog_2_method_14_code
def yX0_measureTicks : MethodName := ⟨RX0, "measureTicks", "(I)V"⟩
abbrev cX0_shortestMode : ByteArray := prog_2_method_13_code
def yX0_shortestMode : MethodName := ⟨RX0, "shortestMode", "()I"⟩
abbrev cL_boundary : ByteArray := method_16_code
def yL_boundary : MethodName := ⟨RL, "boundary", "(LScanRows;I[J)I"⟩
abbrev cX3_boundary : ByteArray := prog_1_method_18_code
def yX3_boundary : MethodName := ⟨RX3, "boundary", "(I)I"⟩
abbrev cX1_drivenAt : ByteArray := prog_3_method_6_code
def yX1_drivenAt : MethodName := ⟨RX1, "drivenAt", "(IZ)I"⟩
abbrev cL_count : ByteArray := method_17_code
def yL_count : MethodName := ⟨RL, "count", "(LScanRows;I[J)I"⟩
abbrev cX3_count : ByteArray := prog_1_method_19_code
def yX3_count : MethodName := ⟨RX3, "count", "(I)I"⟩
abbrev cX0_registerLength : ByteArray := prog_2_method_5_code
def yX0_registerLength : MethodName := ⟨RX0, "registerLength", "()I"⟩
abbrev cX4_init : ByteArray := prog_6_method_1_code
def yX4_init : MethodName := ⟨RX4, "<init>", "(I)V"⟩
abbrev cX4_thrown : ByteArray := prog_6_method_2_code
def yX4_thrown : MethodName := ⟨RX4, "thrown", "()I"⟩
abbrev cX4_latch : ByteArray := prog_6_method_6_code
def yX4_latch : MethodName := ⟨RX4, "latch", "(IJJ)I"⟩
abbrev cX4_make : ByteArray := prog_6_method_8_code
def yX4_make : MethodName := ⟨RX4, "make", "(I)I"⟩
abbrev cX4_isBefore : ByteArray := prog_6_method_7_code
def yX4_isBefore : MethodName := ⟨RX4, "isBefore", "(II)Z"⟩
abbrev cX4_at : ByteArray := prog_6_method_9_code
def yX4_at : MethodName := ⟨RX4, "at", "(II)I"⟩
abbrev cX4_isChain : ByteArray := prog_6_method_4_code
def yX4_isChain : MethodName := ⟨RX4, "isChain", "(I)Z"⟩
abbrev cX4_lockUp : ByteArray := prog_6_method_10_code
def yX4_lockUp : MethodName := ⟨RX4, "lockUp", "(II)Z"⟩
abbrev cX4_travel : ByteArray := prog_6_method_13_code
def yX4_travel : MethodName := ⟨RX4, "travel", "()J"⟩
abbrev cX4_allTravel : ByteArray := prog_6_method_12_code
def yX4_allTravel : MethodName := ⟨RX4, "allTravel", "()I"⟩
abbrev cX4_size : ByteArray := prog_6_method_11_code
def yX4_size : MethodName := ⟨RX4, "size", "(I)I"⟩
abbrev cX4_improve : ByteArray := prog_6_method_17_code
def yX4_improve : MethodName := ⟨RX4, "improve", "(I)I"⟩
abbrev cX4_step : ByteArray := prog_6_method_16_code
def yX4_step : MethodName := ⟨RX4, "step", "()Z"⟩
abbrev cX4_placeOf : ByteArray := prog_6_method_14_code
def yX4_placeOf : MethodName := ⟨RX4, "placeOf", "(I)I"⟩
abbrev cX4_exchange : ByteArray := prog_6_method_15_code
def yX4_exchange : MethodName := ⟨RX4, "exchange", "(II)V"⟩
abbrev cX4_rule : ByteArray := prog_6_method_18_code
def yX4_rule : MethodName := ⟨RX4, "rule", "(II)I"⟩
abbrev cX4_set : ByteArray := prog_6_method_19_code
def yX4_set : MethodName := ⟨RX4, "set", "(IZ)Z"⟩
abbrev cX4_isLatch : ByteArray := prog_6_method_3_code
def yX4_isLatch : MethodName := ⟨RX4, "isLatch", "(I)Z"⟩
abbrev cX4_load : ByteArray := prog_6_method_20_code
def yX4_load : MethodName := ⟨RX4, "load", "(II)V"⟩
abbrev cX4_value : ByteArray := prog_6_method_21_code
def yX4_value : MethodName := ⟨RX4, "value", "(I)I"⟩
abbrev cX4_shift : ByteArray := prog_6_method_23_code
def yX4_shift : MethodName := ⟨RX4, "shift", "(I)I"⟩
abbrev cX4_move : ByteArray := prog_6_method_22_code
def yX4_move : MethodName := ⟨RX4, "move", "(III)I"⟩
abbrev cX4_port : ByteArray := prog_6_method_24_code
def yX4_port : MethodName := ⟨RX4, "port", "(I)I"⟩
abbrev cX4_pin : ByteArray := prog_6_method_25_code
def yX4_pin : MethodName := ⟨RX4, "pin", "(II)V"⟩
abbrev cX4_isCell : ByteArray := prog_6_method_5_code
def yX4_isCell : MethodName := ⟨RX4, "isCell", "(I)Z"⟩
abbrev cX4_boundary : ByteArray := prog_6_method_26_code
def yX4_boundary : MethodName := ⟨RX4, "boundary", "(I)I"⟩
abbrev cX4_tick : ByteArray := prog_6_method_32_code
def yX4_tick : MethodName := ⟨RX4, "tick", "(II)I"⟩
abbrev cX4_doTick : ByteArray := prog_6_method_31_code
def yX4_doTick : MethodName := ⟨RX4, "doTick", "(II)I"⟩
abbrev cX4_capture : ByteArray := prog_6_method_29_code
def yX4_capture : MethodName := ⟨RX4, "capture", "()V"⟩
abbrev cX4_register : ByteArray := prog_6_method_27_code
def yX4_register : MethodName := ⟨RX4, "register", "()I"⟩
abbrev cX4_shiftData : ByteArray := prog_6_method_30_code
def yX4_shiftData : MethodName := ⟨RX4, "shiftData", "(I)I"⟩
abbrev cX4_next : ByteArray := prog_6_method_28_code
def yX4_next : MethodName := ⟨RX4, "next", "(II)I"⟩
abbrev cX4_state : ByteArray := prog_6_method_33_code
def yX4_state : MethodName := ⟨RX4, "state", "()I"⟩
abbrev cX4_go : ByteArray := prog_6_method_34_code
def yX4_go : MethodName := ⟨RX4, "go", "(I)I"⟩
abbrev cX4_count : ByteArray := prog_6_method_35_code
def yX4_count : MethodName := ⟨RX4, "count", "(I)I"⟩
theorem tw_43 : (Cond.lays "ScanRows$Rows" "ScanRows$Rows" "latches" "I") ∈ ALLG := al_t (i := 43) (by decide +kernel) (by decide +kernel)
theorem tw_45 : (Cond.lays "ScanRows$Rows" "ScanRows$Rows" "chains" "I") ∈ ALLG := al_t (i := 45) (by decide +kernel) (by decide +kernel)
theorem tw_47 : (Cond.lays "ScanRows$Rows" "ScanRows$Rows" "placed" "I") ∈ ALLG := al_t (i := 47) (by decide +kernel) (by decide +kernel)
theorem tw_49 : (Cond.laysFinal "ScanRows$Rows" "ScanRows$Rows" "value" "[I") ∈ ALLG := al_t (i := 49) (by decide +kernel) (by decide +kernel)
theorem tw_51 : (Cond.laysFinal "ScanRows$Rows" "ScanRows$Rows" "clock" "[I") ∈ ALLG := al_t (i := 51) (by decide +kernel) (by decide +kernel)
theorem tw_53 : (Cond.laysFinal "ScanRows$Rows" "ScanRows$Rows" "x" "[I") ∈ ALLG := al_t (i := 53) (by decide +kernel) (by decide +kernel)
theorem tw_55 : (Cond.laysFinal "ScanRows$Rows" "ScanRows$Rows" "y" "[I") ∈ ALLG := al_t (i := 55) (by decide +kernel) (by decide +kernel)
theorem tw_57 : (Cond.laysFinal "ScanRows$Rows" "ScanRows$Rows" "fromLogic" "[Z") ∈ ALLG := al_t (i := 57) (by decide +kernel) (by decide +kernel)
theorem tw_59 : (Cond.laysFinal "ScanRows$Rows" "ScanRows$Rows" "placeOf" "[I") ∈ ALLG := al_t (i := 59) (by decide +kernel) (by decide +kernel)
theorem tw_61 : (Cond.laysFinal "ScanRows$Rows" "ScanRows$Rows" "row" "[I") ∈ ALLG := al_t (i := 61) (by decide +kernel) (by decide +kernel)
theorem tw_63 : (Cond.laysFinal "ScanRows$Rows" "ScanRows$Rows" "chainOf" "[I") ∈ ALLG := al_t (i := 63) (by decide +kernel) (by decide +kernel)
theorem tw_65 : (Cond.laysFinal "ScanRows$Rows" "ScanRows$Rows" "start" "[I") ∈ ALLG := al_t (i := 65) (by decide +kernel) (by decide +kernel)
theorem tw_84 : (Cond.lays "ScanRows$Cells" "ScanRows$Cells" "count" "I") ∈ ALLG := al_t (i := 84) (by decide +kernel) (by decide +kernel)
theorem tw_86 : (Cond.laysFinal "ScanRows$Cells" "ScanRows$Cells" "atPin" "[I") ∈ ALLG := al_t (i := 86) (by decide +kernel) (by decide +kernel)
theorem tw_88 : (Cond.laysFinal "ScanRows$Cells" "ScanRows$Cells" "kindOf" "[I") ∈ ALLG := al_t (i := 88) (by decide +kernel) (by decide +kernel)
theorem tw_90 : (Cond.laysFinal "ScanRows$Cells" "ScanRows$Cells" "held" "[I") ∈ ALLG := al_t (i := 90) (by decide +kernel) (by decide +kernel)
theorem tw_92 : (Cond.laysFinal "ScanRows$Cells" "ScanRows$Cells" "inRegister" "[I") ∈ ALLG := al_t (i := 92) (by decide +kernel) (by decide +kernel)
theorem tw_112 : (Cond.lays "ScanRows$Access" "ScanRows$Access" "state" "I") ∈ ALLG := al_t (i := 112) (by decide +kernel) (by decide +kernel)
theorem tw_114 : (Cond.lays "ScanRows$Access" "ScanRows$Access" "code" "I") ∈ ALLG := al_t (i := 114) (by decide +kernel) (by decide +kernel)
theorem tw_116 : (Cond.laysFinal "ScanRows$Access" "ScanRows$Access" "number" "I") ∈ ALLG := al_t (i := 116) (by decide +kernel) (by decide +kernel)
theorem tw_118 : (Cond.laysFinal "ScanRows$Access" "ScanRows$Access" "rows" "LScanRows$Rows;") ∈ ALLG := al_t (i := 118) (by decide +kernel) (by decide +kernel)
theorem tw_120 : (Cond.laysFinal "ScanRows$Access" "ScanRows$Access" "cells" "LScanRows$Cells;") ∈ ALLG := al_t (i := 120) (by decide +kernel) (by decide +kernel)
theorem tw_122 : (Cond.lays "ScanRows$Access" "ScanRows$Access" "codeInRegister" "I") ∈ ALLG := al_t (i := 122) (by decide +kernel) (by decide +kernel)
theorem tw_124 : (Cond.lays "ScanRows$Access" "ScanRows$Access" "numberInRegister" "I") ∈ ALLG := al_t (i := 124) (by decide +kernel) (by decide +kernel)
theorem tw_126 : (Cond.lays "ScanRows$Access" "ScanRows$Access" "bypassBit" "I") ∈ ALLG := al_t (i := 126) (by decide +kernel) (by decide +kernel)
theorem tw_128 : (Cond.laysFinal "ScanRows$Access" "ScanRows$Access" "ticksFrom" "[I") ∈ ALLG := al_t (i := 128) (by decide +kernel) (by decide +kernel)
theorem tw_134 : (Cond.laysFinal "ScanRows" "ScanRows" "rows" "LScanRows$Rows;") ∈ ALLG := al_t (i := 134) (by decide +kernel) (by decide +kernel)
theorem tw_136 : (Cond.laysFinal "ScanRows" "ScanRows" "cells" "LScanRows$Cells;") ∈ ALLG := al_t (i := 136) (by decide +kernel) (by decide +kernel)
theorem tw_138 : (Cond.laysFinal "ScanRows" "ScanRows" "access" "LScanRows$Access;") ∈ ALLG := al_t (i := 138) (by decide +kernel) (by decide +kernel)
theorem tw_595 : (Cond.lays "ScanRowsModel" "ScanRowsModel" "thrown" "I") ∈ ALLG := al_t (i := 595) (by decide +kernel) (by decide +kernel)
theorem tw_597 : (Cond.laysFinal "ScanRowsModel" "ScanRowsModel" "number" "I") ∈ ALLG := al_t (i := 597) (by decide +kernel) (by decide +kernel)
theorem tw_599 : (Cond.laysFinal "ScanRowsModel" "ScanRowsModel" "clocks" "[I") ∈ ALLG := al_t (i := 599) (by decide +kernel) (by decide +kernel)
theorem tw_601 : (Cond.laysFinal "ScanRowsModel" "ScanRowsModel" "xs" "[I") ∈ ALLG := al_t (i := 601) (by decide +kernel) (by decide +kernel)
theorem tw_603 : (Cond.laysFinal "ScanRowsModel" "ScanRowsModel" "ys" "[I") ∈ ALLG := al_t (i := 603) (by decide +kernel) (by decide +kernel)
theorem tw_605 : (Cond.laysFinal "ScanRowsModel" "ScanRowsModel" "values" "[I") ∈ ALLG := al_t (i := 605) (by decide +kernel) (by decide +kernel)
theorem tw_607 : (Cond.laysFinal "ScanRowsModel" "ScanRowsModel" "sets" "[Z") ∈ ALLG := al_t (i := 607) (by decide +kernel) (by decide +kernel)
theorem tw_609 : (Cond.lays "ScanRowsModel" "ScanRowsModel" "latches" "I") ∈ ALLG := al_t (i := 609) (by decide +kernel) (by decide +kernel)
theorem tw_611 : (Cond.laysFinal "ScanRowsModel" "ScanRowsModel" "row" "[I") ∈ ALLG := al_t (i := 611) (by decide +kernel) (by decide +kernel)
theorem tw_613 : (Cond.lays "ScanRowsModel" "ScanRowsModel" "chained" "I") ∈ ALLG := al_t (i := 613) (by decide +kernel) (by decide +kernel)
theorem tw_615 : (Cond.laysFinal "ScanRowsModel" "ScanRowsModel" "begins" "[I") ∈ ALLG := al_t (i := 615) (by decide +kernel) (by decide +kernel)
theorem tw_617 : (Cond.lays "ScanRowsModel" "ScanRowsModel" "chains" "I") ∈ ALLG := al_t (i := 617) (by decide +kernel) (by decide +kernel)
theorem tw_619 : (Cond.laysFinal "ScanRowsModel" "ScanRowsModel" "kinds" "[I") ∈ ALLG := al_t (i := 619) (by decide +kernel) (by decide +kernel)
theorem tw_621 : (Cond.laysFinal "ScanRowsModel" "ScanRowsModel" "pins" "[I") ∈ ALLG := al_t (i := 621) (by decide +kernel) (by decide +kernel)
theorem tw_623 : (Cond.laysFinal "ScanRowsModel" "ScanRowsModel" "holds" "[I") ∈ ALLG := al_t (i := 623) (by decide +kernel) (by decide +kernel)
theorem tw_625 : (Cond.laysFinal "ScanRowsModel" "ScanRowsModel" "cellBits" "[I") ∈ ALLG := al_t (i := 625) (by decide +kernel) (by decide +kernel)
theorem tw_627 : (Cond.lays "ScanRowsModel" "ScanRowsModel" "cells" "I") ∈ ALLG := al_t (i := 627) (by decide +kernel) (by decide +kernel)
theorem tw_629 : (Cond.laysFinal "ScanRowsModel" "ScanRowsModel" "numberBits" "[I") ∈ ALLG := al_t (i := 629) (by decide +kernel) (by decide +kernel)
theorem tw_631 : (Cond.lays "ScanRowsModel" "ScanRowsModel" "bypass" "I") ∈ ALLG := al_t (i := 631) (by decide +kernel) (by decide +kernel)
theorem tw_633 : (Cond.lays "ScanRowsModel" "ScanRowsModel" "codeBits" "I") ∈ ALLG := al_t (i := 633) (by decide +kernel) (by decide +kernel)
theorem tw_635 : (Cond.lays "ScanRowsModel" "ScanRowsModel" "code" "I") ∈ ALLG := al_t (i := 635) (by decide +kernel) (by decide +kernel)
theorem tw_637 : (Cond.lays "ScanRowsModel" "ScanRowsModel" "state" "I") ∈ ALLG := al_t (i := 637) (by decide +kernel) (by decide +kernel)
theorem tw_639 : (Cond.laysFinal "ScanRowsModel" "ScanRowsModel" "far" "[I") ∈ ALLG := al_t (i := 639) (by decide +kernel) (by decide +kernel)
theorem inX0 : ∀ w ∈ u_ws RX0 TX0 9, w ∈ ALLG := by
  intro w hw
  obtain ⟨k, hk, rfl⟩ := List.mem_map.mp hw
  have hk := List.mem_range.mp hk
  match k, hk with
  | 0, _ => exact tw_112
  | 1, _ => exact tw_114
  | 2, _ => exact tw_116
  | 3, _ => exact tw_118
  | 4, _ => exact tw_120
  | 5, _ => exact tw_122
  | 6, _ => exact tw_124
  | 7, _ => exact tw_126
  | 8, _ => exact tw_128
  | k + 9, h => exact absurd h (by omega)
theorem inX1 : ∀ w ∈ u_ws RX1 TX1 5, w ∈ ALLG := by
  intro w hw
  obtain ⟨k, hk, rfl⟩ := List.mem_map.mp hw
  have hk := List.mem_range.mp hk
  match k, hk with
  | 0, _ => exact tw_84
  | 1, _ => exact tw_86
  | 2, _ => exact tw_88
  | 3, _ => exact tw_90
  | 4, _ => exact tw_92
  | k + 5, h => exact absurd h (by omega)
theorem inX2 : ∀ w ∈ u_ws RX2 TX2 12, w ∈ ALLG := by
  intro w hw
  obtain ⟨k, hk, rfl⟩ := List.mem_map.mp hw
  have hk := List.mem_range.mp hk
  match k, hk with
  | 0, _ => exact tw_43
  | 1, _ => exact tw_45
  | 2, _ => exact tw_47
  | 3, _ => exact tw_49
  | 4, _ => exact tw_51
  | 5, _ => exact tw_53
  | 6, _ => exact tw_55
  | 7, _ => exact tw_57
  | 8, _ => exact tw_59
  | 9, _ => exact tw_61
  | 10, _ => exact tw_63
  | 11, _ => exact tw_65
  | k + 12, h => exact absurd h (by omega)
theorem inX3 : ∀ w ∈ u_ws RX3 TX3 3, w ∈ ALLG := by
  intro w hw
  obtain ⟨k, hk, rfl⟩ := List.mem_map.mp hw
  have hk := List.mem_range.mp hk
  match k, hk with
  | 0, _ => exact tw_134
  | 1, _ => exact tw_136
  | 2, _ => exact tw_138
  | k + 3, h => exact absurd h (by omega)
theorem inX4 : ∀ w ∈ u_ws RX4 TX4 23, w ∈ ALLG := by
  intro w hw
  obtain ⟨k, hk, rfl⟩ := List.mem_map.mp hw
  have hk := List.mem_range.mp hk
  match k, hk with
  | 0, _ => exact tw_595
  | 1, _ => exact tw_597
  | 2, _ => exact tw_599
  | 3, _ => exact tw_601
  | 4, _ => exact tw_603
  | 5, _ => exact tw_605
  | 6, _ => exact tw_607
  | 7, _ => exact tw_609
  | 8, _ => exact tw_611
  | 9, _ => exact tw_613
  | 10, _ => exact tw_615
  | 11, _ => exact tw_617
  | 12, _ => exact tw_619
  | 13, _ => exact tw_621
  | 14, _ => exact tw_623
  | 15, _ => exact tw_625
  | 16, _ => exact tw_627
  | 17, _ => exact tw_629
  | 18, _ => exact tw_631
  | 19, _ => exact tw_633
  | 20, _ => exact tw_635
  | 21, _ => exact tw_637
  | 22, _ => exact tw_639
  | k + 23, h => exact absurd h (by omega)
end
section
abbrev RS : Type := Nat × Nat × Nat × (Nat → Nat) × (Nat → Nat) × (Nat → Int) × (Nat → Int) × (Nat → Nat) × (Nat → Int) × (Nat → Nat) × (Nat → Nat) × (Nat → Nat)
abbrev RS.n (r : RS) : Nat := r.1
abbrev RS.c (r : RS) : Nat := r.2.1
abbrev RS.p (r : RS) : Nat := r.2.2.1
abbrev RS.vb (r : RS) : Nat → Nat := r.2.2.2.1
abbrev RS.ck (r : RS) : Nat → Nat := r.2.2.2.2.1
abbrev RS.xx (r : RS) : Nat → Int := r.2.2.2.2.2.1
abbrev RS.yy (r : RS) : Nat → Int := r.2.2.2.2.2.2.1
abbrev RS.fl (r : RS) : Nat → Nat := r.2.2.2.2.2.2.2.1
abbrev RS.po (r : RS) : Nat → Int := r.2.2.2.2.2.2.2.2.1
abbrev RS.rw (r : RS) : Nat → Nat := r.2.2.2.2.2.2.2.2.2.1
abbrev RS.ch (r : RS) : Nat → Nat := r.2.2.2.2.2.2.2.2.2.2.1
abbrev RS.st (r : RS) : Nat → Nat := r.2.2.2.2.2.2.2.2.2.2.2
abbrev RS.s_n (r : RS) (v : Nat) : RS := (v, r.2.1, r.2.2.1, r.2.2.2.1, r.2.2.2.2.1, r.2.2.2.2.2.1, r.2.2.2.2.2.2.1, r.2.2.2.2.2.2.2.1, r.2.2.2.2.2.2.2.2.1, r.2.2.2.2.2.2.2.2.2.1, r.2.2.2.2.2.2.2.2.2.2.1, r.2.2.2.2.2.2.2.2.2.2.2)
abbrev RS.s_c (r : RS) (v : Nat) : RS := (r.1, v, r.2.2.1, r.2.2.2.1, r.2.2.2.2.1, r.2.2.2.2.2.1, r.2.2.2.2.2.2.1, r.2.2.2.2.2.2.2.1, r.2.2.2.2.2.2.2.2.1, r.2.2.2.2.2.2.2.2.2.1, r.2.2.2.2.2.2.2.2.2.2.1, r.2.2.2.2.2.2.2.2.2.2.2)
abbrev RS.s_p (r : RS) (v : Nat) : RS := (r.1, r.2.1, v, r.2.2.2.1, r.2.2.2.2.1, r.2.2.2.2.2.1, r.2.2.2.2.2.2.1, r.2.2.2.2.2.2.2.1, r.2.2.2.2.2.2.2.2.1, r.2.2.2.2.2.2.2.2.2.1, r.2.2.2.2.2.2.2.2.2.2.1, r.2.2.2.2.2.2.2.2.2.2.2)
abbrev RS.s_vb (r : RS) (v : Nat → Nat) : RS := (r.1, r.2.1, r.2.2.1, v, r.2.2.2.2.1, r.2.2.2.2.2.1, r.2.2.2.2.2.2.1, r.2.2.2.2.2.2.2.1, r.2.2.2.2.2.2.2.2.1, r.2.2.2.2.2.2.2.2.2.1, r.2.2.2.2.2.2.2.2.2.2.1, r.2.2.2.2.2.2.2.2.2.2.2)
abbrev RS.s_ck (r : RS) (v : Nat → Nat) : RS := (r.1, r.2.1, r.2.2.1, r.2.2.2.1, v, r.2.2.2.2.2.1, r.2.2.2.2.2.2.1, r.2.2.2.2.2.2.2.1, r.2.2.2.2.2.2.2.2.1, r.2.2.2.2.2.2.2.2.2.1, r.2.2.2.2.2.2.2.2.2.2.1, r.2.2.2.2.2.2.2.2.2.2.2)
abbrev RS.s_xx (r : RS) (v : Nat → Int) : RS := (r.1, r.2.1, r.2.2.1, r.2.2.2.1, r.2.2.2.2.1, v, r.2.2.2.2.2.2.1, r.2.2.2.2.2.2.2.1, r.2.2.2.2.2.2.2.2.1, r.2.2.2.2.2.2.2.2.2.1, r.2.2.2.2.2.2.2.2.2.2.1, r.2.2.2.2.2.2.2.2.2.2.2)
abbrev RS.s_yy (r : RS) (v : Nat → Int) : RS := (r.1, r.2.1, r.2.2.1, r.2.2.2.1, r.2.2.2.2.1, r.2.2.2.2.2.1, v, r.2.2.2.2.2.2.2.1, r.2.2.2.2.2.2.2.2.1, r.2.2.2.2.2.2.2.2.2.1, r.2.2.2.2.2.2.2.2.2.2.1, r.2.2.2.2.2.2.2.2.2.2.2)
abbrev RS.s_fl (r : RS) (v : Nat → Nat) : RS := (r.1, r.2.1, r.2.2.1, r.2.2.2.1, r.2.2.2.2.1, r.2.2.2.2.2.1, r.2.2.2.2.2.2.1, v, r.2.2.2.2.2.2.2.2.1, r.2.2.2.2.2.2.2.2.2.1, r.2.2.2.2.2.2.2.2.2.2.1, r.2.2.2.2.2.2.2.2.2.2.2)
abbrev RS.s_po (r : RS) (v : Nat → Int) : RS := (r.1, r.2.1, r.2.2.1, r.2.2.2.1, r.2.2.2.2.1, r.2.2.2.2.2.1, r.2.2.2.2.2.2.1, r.2.2.2.2.2.2.2.1, v, r.2.2.2.2.2.2.2.2.2.1, r.2.2.2.2.2.2.2.2.2.2.1, r.2.2.2.2.2.2.2.2.2.2.2)
abbrev RS.s_rw (r : RS) (v : Nat → Nat) : RS := (r.1, r.2.1, r.2.2.1, r.2.2.2.1, r.2.2.2.2.1, r.2.2.2.2.2.1, r.2.2.2.2.2.2.1, r.2.2.2.2.2.2.2.1, r.2.2.2.2.2.2.2.2.1, v, r.2.2.2.2.2.2.2.2.2.2.1, r.2.2.2.2.2.2.2.2.2.2.2)
abbrev RS.s_ch (r : RS) (v : Nat → Nat) : RS := (r.1, r.2.1, r.2.2.1, r.2.2.2.1, r.2.2.2.2.1, r.2.2.2.2.2.1, r.2.2.2.2.2.2.1, r.2.2.2.2.2.2.2.1, r.2.2.2.2.2.2.2.2.1, r.2.2.2.2.2.2.2.2.2.1, v, r.2.2.2.2.2.2.2.2.2.2.2)
abbrev RS.s_st (r : RS) (v : Nat → Nat) : RS := (r.1, r.2.1, r.2.2.1, r.2.2.2.1, r.2.2.2.2.1, r.2.2.2.2.2.1, r.2.2.2.2.2.2.1, r.2.2.2.2.2.2.2.1, r.2.2.2.2.2.2.2.2.1, r.2.2.2.2.2.2.2.2.2.1, r.2.2.2.2.2.2.2.2.2.2.1, v)
abbrev CS : Type := Nat × (Nat → Nat) × (Nat → Nat) × (Nat → Nat) × (Nat → Nat)
abbrev CS.n (r : CS) : Nat := r.1
abbrev CS.pin (r : CS) : Nat → Nat := r.2.1
abbrev CS.ki (r : CS) : Nat → Nat := r.2.2.1
abbrev CS.he (r : CS) : Nat → Nat := r.2.2.2.1
abbrev CS.ir (r : CS) : Nat → Nat := r.2.2.2.2
abbrev CS.s_n (r : CS) (v : Nat) : CS := (v, r.2.1, r.2.2.1, r.2.2.2.1, r.2.2.2.2)
abbrev CS.s_pin (r : CS) (v : Nat → Nat) : CS := (r.1, v, r.2.2.1, r.2.2.2.1, r.2.2.2.2)
abbrev CS.s_ki (r : CS) (v : Nat → Nat) : CS := (r.1, r.2.1, v, r.2.2.2.1, r.2.2.2.2)
abbrev CS.s_he (r : CS) (v : Nat → Nat) : CS := (r.1, r.2.1, r.2.2.1, v, r.2.2.2.2)
abbrev CS.s_ir (r : CS) (v : Nat → Nat) : CS := (r.1, r.2.1, r.2.2.1, r.2.2.2.1, v)
abbrev AS : Type := Nat × Nat × Int32 × Nat × Int32 × Nat × (Nat → Nat)
abbrev AS.st (r : AS) : Nat := r.1
abbrev AS.co (r : AS) : Nat := r.2.1
abbrev AS.nu (r : AS) : Int32 := r.2.2.1
abbrev AS.cr (r : AS) : Nat := r.2.2.2.1
abbrev AS.nr (r : AS) : Int32 := r.2.2.2.2.1
abbrev AS.by_ (r : AS) : Nat := r.2.2.2.2.2.1
abbrev AS.tk (r : AS) : Nat → Nat := r.2.2.2.2.2.2
abbrev AS.s_st (r : AS) (v : Nat) : AS := (v, r.2.1, r.2.2.1, r.2.2.2.1, r.2.2.2.2.1, r.2.2.2.2.2.1, r.2.2.2.2.2.2)
abbrev AS.s_co (r : AS) (v : Nat) : AS := (r.1, v, r.2.2.1, r.2.2.2.1, r.2.2.2.2.1, r.2.2.2.2.2.1, r.2.2.2.2.2.2)
abbrev AS.s_nu (r : AS) (v : Int32) : AS := (r.1, r.2.1, v, r.2.2.2.1, r.2.2.2.2.1, r.2.2.2.2.2.1, r.2.2.2.2.2.2)
abbrev AS.s_cr (r : AS) (v : Nat) : AS := (r.1, r.2.1, r.2.2.1, v, r.2.2.2.2.1, r.2.2.2.2.2.1, r.2.2.2.2.2.2)
abbrev AS.s_nr (r : AS) (v : Int32) : AS := (r.1, r.2.1, r.2.2.1, r.2.2.2.1, v, r.2.2.2.2.2.1, r.2.2.2.2.2.2)
abbrev AS.s_by_ (r : AS) (v : Nat) : AS := (r.1, r.2.1, r.2.2.1, r.2.2.2.1, r.2.2.2.2.1, v, r.2.2.2.2.2.2)
abbrev AS.s_tk (r : AS) (v : Nat → Nat) : AS := (r.1, r.2.1, r.2.2.1, r.2.2.2.1, r.2.2.2.2.1, r.2.2.2.2.2.1, v)
/-- the cells of the class's objects: rows 0 .. 9, cells 10 .. 14, the port 15 and 16, the object itself 17 -/
abbrev wR (q : Nat → Nat) (cI cZ : ClassId) (r : RS) : va_W := [(q 0, .inr (2, [.int (nI (RS.n r)), .int (nI (RS.c r)), .int (nI (RS.p r)), .ref (q 1), .ref (q 2), .ref (q 3), .ref (q 4), .ref (q 5), .ref (q 6), .ref (q 7), .ref (q 8), .ref (q 9)])), (q 1, .inl (cI, 32, .inl (aN (RS.vb r)))), (q 2, .inl (cI, 32, .inl (aN (RS.ck r)))), (q 3, .inl (cI, 32, .inl (aZ (RS.xx r)))), (q 4, .inl (cI, 32, .inl (aZ (RS.yy r)))), (q 5, .inl (cZ, 32, .inl (aN (RS.fl r)))), (q 6, .inl (cI, 32, .inl (aZ (RS.po r)))), (q 7, .inl (cI, 32, .inl (aN (RS.rw r)))), (q 8, .inl (cI, 32, .inl (aN (RS.ch r)))), (q 9, .inl (cI, 9, .inl (aN (RS.st r))))]
abbrev wC (q : Nat → Nat) (cI : ClassId) (k : CS) : va_W := [(q 10, .inr (1, [.int (nI (CS.n k)), .ref (q 11), .ref (q 12), .ref (q 13), .ref (q 14)])), (q 11, .inl (cI, 20, .inl (aN (CS.pin k)))), (q 12, .inl (cI, 20, .inl (aN (CS.ki k)))), (q 13, .inl (cI, 20, .inl (aN (CS.he k)))), (q 14, .inl (cI, 20, .inl (aN (CS.ir k))))]
abbrev wA (q : Nat → Nat) (cI : ClassId) (a : AS) : va_W := [(q 15, .inr (0, [.int (nI (AS.st a)), .int (nI (AS.co a)), .int (AS.nu a), .ref (q 0), .ref (q 10), .int (nI (AS.cr a)), .int (AS.nr a), .int (nI (AS.by_ a)), .ref (q 16)])), (q 16, .inl (cI, 16, .inl (aN (AS.tk a))))]
abbrev wSf (q : Nat → Nat) : va_W := [(q 17, .inr (3, [.ref (q 0), .ref (q 10), .ref (q 15)]))]
abbrev wY (q : Nat → Nat) (cI cZ : ClassId) (r : RS) (k : CS) (a : AS) : va_W := [(q 0, .inr (2, [.int (nI (RS.n r)), .int (nI (RS.c r)), .int (nI (RS.p r)), .ref (q 1), .ref (q 2), .ref (q 3), .ref (q 4), .ref (q 5), .ref (q 6), .ref (q 7), .ref (q 8), .ref (q 9)])), (q 1, .inl (cI, 32, .inl (aN (RS.vb r)))), (q 2, .inl (cI, 32, .inl (aN (RS.ck r)))), (q 3, .inl (cI, 32, .inl (aZ (RS.xx r)))), (q 4, .inl (cI, 32, .inl (aZ (RS.yy r)))), (q 5, .inl (cZ, 32, .inl (aN (RS.fl r)))), (q 6, .inl (cI, 32, .inl (aZ (RS.po r)))), (q 7, .inl (cI, 32, .inl (aN (RS.rw r)))), (q 8, .inl (cI, 32, .inl (aN (RS.ch r)))), (q 9, .inl (cI, 9, .inl (aN (RS.st r)))), (q 10, .inr (1, [.int (nI (CS.n k)), .ref (q 11), .ref (q 12), .ref (q 13), .ref (q 14)])), (q 11, .inl (cI, 20, .inl (aN (CS.pin k)))), (q 12, .inl (cI, 20, .inl (aN (CS.ki k)))), (q 13, .inl (cI, 20, .inl (aN (CS.he k)))), (q 14, .inl (cI, 20, .inl (aN (CS.ir k)))), (q 15, .inr (0, [.int (nI (AS.st a)), .int (nI (AS.co a)), .int (AS.nu a), .ref (q 0), .ref (q 10), .int (nI (AS.cr a)), .int (AS.nr a), .int (nI (AS.by_ a)), .ref (q 16)])), (q 16, .inl (cI, 16, .inl (aN (AS.tk a))))]
abbrev wX (q : Nat → Nat) (cI cZ : ClassId) (r : RS) (k : CS) (a : AS) : va_W := [(q 0, .inr (2, [.int (nI (RS.n r)), .int (nI (RS.c r)), .int (nI (RS.p r)), .ref (q 1), .ref (q 2), .ref (q 3), .ref (q 4), .ref (q 5), .ref (q 6), .ref (q 7), .ref (q 8), .ref (q 9)])), (q 1, .inl (cI, 32, .inl (aN (RS.vb r)))), (q 2, .inl (cI, 32, .inl (aN (RS.ck r)))), (q 3, .inl (cI, 32, .inl (aZ (RS.xx r)))), (q 4, .inl (cI, 32, .inl (aZ (RS.yy r)))), (q 5, .inl (cZ, 32, .inl (aN (RS.fl r)))), (q 6, .inl (cI, 32, .inl (aZ (RS.po r)))), (q 7, .inl (cI, 32, .inl (aN (RS.rw r)))), (q 8, .inl (cI, 32, .inl (aN (RS.ch r)))), (q 9, .inl (cI, 9, .inl (aN (RS.st r)))), (q 10, .inr (1, [.int (nI (CS.n k)), .ref (q 11), .ref (q 12), .ref (q 13), .ref (q 14)])), (q 11, .inl (cI, 20, .inl (aN (CS.pin k)))), (q 12, .inl (cI, 20, .inl (aN (CS.ki k)))), (q 13, .inl (cI, 20, .inl (aN (CS.he k)))), (q 14, .inl (cI, 20, .inl (aN (CS.ir k)))), (q 15, .inr (0, [.int (nI (AS.st a)), .int (nI (AS.co a)), .int (AS.nu a), .ref (q 0), .ref (q 10), .int (nI (AS.cr a)), .int (AS.nr a), .int (nI (AS.by_ a)), .ref (q 16)])), (q 16, .inl (cI, 16, .inl (aN (AS.tk a)))), (q 17, .inr (3, [.ref (q 0), .ref (q 10), .ref (q 15)]))]
/-! What the class's methods do, in numbers. -/
def hnb (r : RS) (k : Nat) : Nat := if k + 1 < r.p ∧ r.ch k = r.ch (k + 1) then 1 else 0
def wb (r : RS) (k : Nat) : Nat := if k + 1 < r.p ∧ r.ch k = r.ch (k + 1) then (r.xx (r.rw k) - r.xx (r.rw (k + 1))).natAbs + (r.yy (r.rw k) - r.yy (r.rw (k + 1))).natAbs else 0
def wa (r : RS) (k : Nat) : Nat := (if k = 0 then 0 else wb r (k - 1)) + wb r k
def sumN (f : Nat → Nat) : Nat → Nat
  | 0 => 0
  | n + 1 => sumN f n + f n
/-- two places exchange their latches -/
def exch (r : RS) (a b : Nat) : RS :=
  let w := va_up (va_up r.rw a (r.rw b)) b (r.rw a)
  (r.s_rw w).s_po (va_up (va_up r.po (w a) (a : Int)) (w b) (b : Int))
/-- bounds that always hold -/
def RB (r : RS) : Prop := r.n ≤ 32 ∧ r.c ≤ 8 ∧ r.p ≤ r.n ∧ (∀ k, r.vb k < 2) ∧ (∀ k, r.ck k < 4) ∧ (∀ k, -1000 ≤ r.xx k ∧ r.xx k ≤ 1000) ∧ (∀ k, -1000 ≤ r.yy k ∧ r.yy k ≤ 1000) ∧ (∀ k, r.fl k < 2) ∧ (∀ k, -1 ≤ r.po k ∧ r.po k < 32) ∧ (∀ k, r.rw k < 32) ∧ (∀ k, r.ch k < 8) ∧ (∀ k, r.st k ≤ 32)
def hcN (v : Int32) (c : Nat) : Nat := if ¬ v < 0 ∧ v < nI c then 1 else 0
def ccb (r : RS) (k : Nat) : Nat := if (k + 1 < r.p ∧ r.ch k = r.ch (k + 1)) ∧ r.ck (r.rw k) ≠ r.ck (r.rw (k + 1)) then 1 else 0
def mayN (r : RS) (i j : Nat) : Nat := if r.ck i = r.ck j ∧ r.po i ≠ -1 ∧ r.po j ≠ -1 then 1 else 0
def brk (r : RS) (i j : Nat) : Nat := if j = 0 then r.fl i else if r.po i = -1 then 1 else 0
def addL (r : RS) (ck : Nat) (xx yy : Int) : RS := ((((r.s_ck (va_up r.ck r.n ck)).s_xx (va_up r.xx r.n xx)).s_yy (va_up r.yy r.n yy)).s_po (va_up r.po r.n (-1))).s_n (r.n + 1)
/-- k steps of a shift from place f on: what is carried, and the values -/
def shL (r : RS) (f b : Nat) : Nat → Nat × (Nat → Nat)
  | 0 => (b, r.vb)
  | k + 1 => ((shL r f b k).2 (r.rw (f + k)), va_up (shL r f b k).2 (r.rw (f + k)) (shL r f b k).1)
def shO (r : RS) (f t b : Nat) : Nat := if f < t then (shL r f b (t - f)).1 else 0
def shV (r : RS) (f t b : Nat) : Nat → Nat := if f < t then (shL r f b (t - f)).2 else r.vb
theorem shL_s (r : RS) (f b k : Nat) : shL r f b (k + 1) = ((shL r f b k).2 (r.rw (f + k)), va_up (shL r f b k).2 (r.rw (f + k)) (shL r f b k).1) := rfl
theorem shO_no {r : RS} {f t b : Nat} (h : ¬ f < t) : shO r f t b = 0 := if_neg h
theorem shV_no {r : RS} {f t b : Nat} (h : ¬ f < t) : shV r f t b = r.vb := if_neg h
theorem shO_yes {r : RS} {f t b : Nat} (h : f < t) : shO r f t b = (shL r f b (t - f)).1 := if_pos h
theorem shV_yes {r : RS} {f t b : Nat} (h : f < t) : shV r f t b = (shL r f b (t - f)).2 := if_pos h
theorem hnb_le (r : RS) (k : Nat) : hnb r k ≤ 1 := by unfold hnb; split <;> omega
theorem hnb_pos {r : RS} {k : Nat} (h : 0 < hnb r k) : k + 1 < r.p ∧ r.ch k = r.ch (k + 1) := by
  unfold hnb at h
  split at h
  · assumption
  · exact absurd h (Nat.lt_irrefl 0)
theorem hnb_one {r : RS} {k : Nat} (h : k + 1 < r.p ∧ r.ch k = r.ch (k + 1)) : hnb r k = 1 := if_pos h
theorem wb_yes {r : RS} {k : Nat} (h : k + 1 < r.p ∧ r.ch k = r.ch (k + 1)) : wb r k = (r.xx (r.rw k) - r.xx (r.rw (k + 1))).natAbs + (r.yy (r.rw k) - r.yy (r.rw (k + 1))).natAbs := if_pos h
theorem wb_no {r : RS} {k : Nat} (h : hnb r k = 0) : wb r k = 0 := if_neg (fun q => by rw [hnb_one q] at h; cases h)
theorem up_lt {g : Nat → Nat} {m : Nat} (h : ∀ k, g k < m) {v : Nat} (hv : v < m) (i : Nat) : ∀ k, va_up g i v k < m := by
  intro k; unfold va_up; split
  · exact hv
  · exact h k
theorem abs_zI {z : Int} (h1 : -1073741824 ≤ z) (h2 : z ≤ 1073741824) : (if (0 : Int32) ≤ zI z then zI z else 0 - zI z) = nI z.natAbs := by
  have e0 : (0 : Int32) = zI 0 := rfl
  by_cases h : 0 ≤ z
  · rw [e0, if_pos ((zI_le (by decide) (by decide) (by omega) (by omega)).mpr h), ← zI_nI, Int.natAbs_of_nonneg h]
  · rw [e0, if_neg (fun q => h ((zI_le (by decide) (by decide) (by omega) (by omega)).mp q)), zI_sub, ← zI_nI]
    congr 1
    omega
theorem nar01 {f : Nat} (h : f < 2) : vp_nar .boolean (nI f) = nI f := by
  rcases (show f = 0 ∨ f = 1 by omega) with rfl | rfl <;> decide
/-- the first n of f, then g -/
def cpN (f g : Nat → Nat) (n : Nat) : Nat → Nat := fun j => if j < n then f j else g j
theorem cpN_0 (f g : Nat → Nat) : cpN f g 0 = g := by funext j; simp [cpN]
theorem cpN_s (f g : Nat → Nat) (i : Nat) : va_up (cpN f g i) i (f i) = cpN f g (i + 1) := by
  funext j; unfold va_up cpN
  by_cases h : j = i
  · subst h; simp
  · rw [if_neg h]; by_cases h2 : j < i
    · rw [if_pos h2, if_pos (by omega)]
    · rw [if_neg h2, if_neg (by omega)]
/-- a row of bits that shifts by one: what goes out of its first n, and the row -/
def srO (g : Nat → Nat) (b n : Nat) : Nat := if n = 0 then b else g (n - 1)
def srV (g : Nat → Nat) (b n : Nat) : Nat → Nat := fun j => if j < n then (if j = 0 then b else g (j - 1)) else g j
theorem srV_0 (g : Nat → Nat) (b : Nat) : srV g b 0 = g := by funext j; simp [srV]
theorem srV_at (g : Nat → Nat) (b i : Nat) : srV g b i i = srO g b (i + 1) := by simp [srV, srO]
theorem srV_s (g : Nat → Nat) (b i : Nat) : va_up (srV g b i) i (srO g b i) = srV g b (i + 1) := by
  funext j; unfold va_up srV srO
  by_cases h : j = i
  · subst h; simp
  · rw [if_neg h]; by_cases h2 : j < i
    · rw [if_pos h2, if_pos (show j < i + 1 by omega)]
    · rw [if_neg h2, if_neg (show ¬ j < i + 1 by omega)]
def drv (k : CS) (i h : Nat) : Nat := if h = 1 ∧ k.ki i = 1 then k.he i else k.pin i
def CB (k : CS) : Prop := k.n ≤ 20 ∧ (∀ i, k.pin i < 2) ∧ (∀ i, k.ki i < 2) ∧ (∀ i, k.he i < 2) ∧ (∀ i, k.ir i < 2)
theorem aZ_upN (g : Nat → Int) (k v : Nat) : upd (aZ g) k (nI v) = aZ (va_up g k (v : Int)) := by rw [← zI_nI]; exact aZ_up _ _ _
theorem nar01v {f : Nat} (h : f < 2) : narrow .boolean (.int (nI f)) = .int (nI f) := by
  rcases (show f = 0 ∨ f = 1 by omega) with rfl | rfl <;> rfl
/-- which register the code names: 1 cells, 2 number, 3 chains, 0 bypass -/
def reg (co n p : Nat) : Nat := if co = 0 ∨ co = 1 then (if 0 < n then 1 else 0) else if co = 2 then 2 else if co = 3 ∧ 0 < p then 3 else 0
theorem reg_lt (co n p : Nat) : reg co n p < 4 := by unfold reg; split <;> (try split) <;> (try split) <;> omega
def regLen (co n p : Nat) : Nat := if reg co n p = 1 then n else if reg co n p = 2 then 32 else if reg co n p = 3 then p else 1
def nrS (x : Int32) (b : Nat) : Int32 := (x.toUInt32 >>> ((nI 1).toUInt32 &&& Int32.toUInt32 31)).toInt32 ||| (nI b <<< (nI 31 &&& 31))
theorem cr_and {c : Nat} (h : c < 16) : nI c &&& nI 1 = nI (c % 2) := by
  have : ∀ c, c < 16 → nI c &&& nI 1 = nI (c % 2) := by decide +kernel
  exact this c h
theorem cr_sh {c b : Nat} (h : c < 16) (hb : b < 2) : ((nI c).toUInt32 >>> ((nI 1).toUInt32 &&& Int32.toUInt32 31)).toInt32 ||| (nI b <<< (nI 3 &&& 31)) = nI (c / 2 + b * 8) := by
  have : ∀ c, c < 16 → ∀ b, b < 2 → ((nI c).toUInt32 >>> ((nI 1).toUInt32 &&& Int32.toUInt32 31)).toInt32 ||| (nI b <<< (nI 3 &&& 31)) = nI (c / 2 + b * 8) := by decide +kernel
  exact this c h b hb
/-! the port -/
def NXl : List Nat := [1, 0, 1, 2, 3, 9, 4, 5, 4, 5, 6, 8, 6, 7, 4, 8, 1, 2, 10, 0, 11, 12, 11, 12, 13, 15, 13, 14, 11, 15, 1, 2]
def NX (k : Nat) : Nat := NXl.getD k 0
theorem NX_lt (k : Nat) : NX k < 16 := by
  by_cases h : k < 32
  · have : ∀ k, k < 32 → NX k < 16 := by decide +kernel
    exact this k h
  · unfold NX; rw [List.getD_eq_getElem?_getD, List.getElem?_eq_none (by show NXl.length ≤ k; have : NXl.length = 32 := rfl; omega)]; decide
def eN (tN : Nat) (A : Nat → Prop) : State → Heap → Prop := fun U H => va_Z "ScanRows$Access" "NEXT" "[I" (.ref tN) A U H ∧ va_T .int tN 32 (fun j => .int (nI (NX j))) A U H
theorem eN_M (tN : Nat) (A : Nat → Prop) : eM (eN tN A) := fun _ _ _ h q => ⟨va_Z.moved h q.1, va_T.moved h q.2⟩
theorem eN_kn {tN : Nat} {A B : Nat → Prop} {s : State} {H0 H : Heap} {locs : List Loc} (h : eN tN A s H0) (hS : va_S A H0 H locs) (hAB : ∀ q, B q → A q) : eN tN B s H := ⟨(h.1.kept hS.2.1).narrow hAB, (h.2.kept hS.2.1).narrow hAB⟩
def nbit (x : Int32) : Nat := x.toBitVec.toNat % 2
theorem nbit_and (x : Int32) : x &&& nI 1 = nI (nbit x) := pk_and x 1 (by decide)
theorem nbit_lt (x : Int32) : nbit x < 2 := Nat.mod_lt _ (by decide)
theorem min_nI {x y : Nat} (h1 : x < 2 ^ 31) (h2 : y < 2 ^ 31) : (if nI y < nI x then nI y else nI x) = nI (min x y) := by
  by_cases h : y < x
  · rw [if_pos ((nI_ltI h2 h1).mpr h), Nat.min_eq_right (by omega)]
  · rw [if_neg (fun q => h ((nI_ltI h2 h1).mp q)), Nat.min_eq_left (by omega)]
def tk0 (goal j : Nat) : Nat := if j = goal then 0 else 16
def mtS (g : Nat → Nat) (i : Nat) : Nat → Nat := va_up g i (min (g i) (min (g (NX (2 * i))) (g (NX (2 * i + 1))) + 1))
def mtI (g : Nat → Nat) : Nat → (Nat → Nat)
  | 0 => g
  | n + 1 => mtS (mtI g n) n
def mtO (g : Nat → Nat) : Nat → (Nat → Nat)
  | 0 => g
  | n + 1 => mtI (mtO g n) 16
def mtF (goal : Nat) (g : Nat → Nat) : Nat → Nat := mtO (cpN (tk0 goal) g 16) 16
theorem tk0_le (goal j : Nat) : tk0 goal j ≤ 16 := by unfold tk0; split <;> omega
theorem cpN_le {f g : Nat → Nat} {m : Nat} (hf : ∀ j, f j ≤ m) (hg : ∀ j, g j ≤ m) (n : Nat) : ∀ j, cpN f g n j ≤ m := by
  intro j; unfold cpN; split
  · exact hf j
  · exact hg j
theorem mtS_le {g : Nat → Nat} (h : ∀ j, g j ≤ 16) (i : Nat) : ∀ j, mtS g i j ≤ 16 := by
  intro j; unfold mtS va_up; split
  · exact Nat.le_trans (Nat.min_le_left _ _) (h i)
  · exact h j
theorem mtI_le {g : Nat → Nat} (h : ∀ j, g j ≤ 16) (n : Nat) : ∀ j, mtI g n j ≤ 16 := by
  induction n with
  | zero => exact h
  | succ n ih => exact mtS_le ih n
theorem mtO_le {g : Nat → Nat} (h : ∀ j, g j ≤ 16) (n : Nat) : ∀ j, mtO g n j ≤ 16 := by
  induction n with
  | zero => exact h
  | succ n ih => exact mtI_le ih 16
def capD (r : RS) (k : CS) (a : AS) : RS × CS × AS := if reg a.co k.n r.p = 1 then (r, k.s_ir (cpN k.pin k.ir k.n), a) else if reg a.co k.n r.p = 2 then (r, k, a.s_nr a.nu) else if reg a.co k.n r.p = 3 then (r, k, a) else (r, k, a.s_by_ 0)
def shfD (r : RS) (k : CS) (a : AS) (b : Nat) : Nat × (RS × CS × AS) := if reg a.co k.n r.p = 1 then (srO k.ir b k.n, (r, k.s_ir (srV k.ir b k.n), a)) else if reg a.co k.n r.p = 2 then (nbit a.nr, (r, k, a.s_nr (nrS a.nr b))) else if reg a.co k.n r.p = 3 then (shO r 0 r.p b, (r.s_vb (shV r 0 r.p b), k, a)) else (a.by_, (r, k, a.s_by_ b))
def updD (r : RS) (k : CS) (a : AS) : RS × CS × AS := if reg a.co k.n r.p = 1 then (r, k.s_he (cpN k.ir k.he k.n), a) else (r, k, a)
def actF (r : RS) (k : CS) (a : AS) (b : Nat) : Int × (RS × CS × AS) :=
  if a.st = 3 then (-1, capD r k a) else if a.st = 4 then (((shfD r k a b).1 : Int), (shfD r k a b).2) else if a.st = 8 then (-1, updD r k a) else if a.st = 10 then (-1, (r, k, a.s_cr 1)) else if a.st = 11 then (((a.cr % 2 : Nat) : Int), (r, k, a.s_cr (a.cr / 2 + b * 8))) else if a.st = 15 then (-1, (r, k, a.s_co a.cr)) else (-1, (r, k, a))
def stepA (a : AS) (m : Nat) : AS := if NX (2 * a.st + m) = 0 then (a.s_st (NX (2 * a.st + m))).s_co 2 else a.s_st (NX (2 * a.st + m))
def stepF (r : RS) (k : CS) (a : AS) (m b : Nat) : Int × (RS × CS × AS) := ((actF r k a b).1, ((actF r k a b).2.1, (actF r k a b).2.2.1, stepA (actF r k a b).2.2.2 m))
def smode (a : AS) : Nat := if a.tk (NX (2 * a.st)) < a.tk a.st then 0 else 1
def AB (a : AS) : Prop := a.st < 16 ∧ a.co < 16 ∧ a.cr < 16 ∧ a.by_ < 2 ∧ ∀ j, a.tk j ≤ 16
def YB (y : RS × CS × AS) : Prop := RB y.1 ∧ CB y.2.1 ∧ AB y.2.2
def goIt (y : RS × CS × AS) : Nat → RS × CS × AS
  | 0 => y
  | i + 1 => (stepF (goIt y i).1 (goIt y i).2.1 (goIt y i).2.2 (smode (goIt y i).2.2) 0).2
theorem capD_st (r : RS) (k : CS) (a : AS) : (capD r k a).2.2.st = a.st := by unfold capD; split <;> (try split) <;> (try split) <;> rfl
theorem shfD_st (r : RS) (k : CS) (a : AS) (b : Nat) : (shfD r k a b).2.2.2.st = a.st := by unfold shfD; split <;> (try split) <;> (try split) <;> rfl
theorem updD_st (r : RS) (k : CS) (a : AS) : (updD r k a).2.2.st = a.st := by unfold updD; split <;> rfl
theorem actF_st (r : RS) (k : CS) (a : AS) (b : Nat) : (actF r k a b).2.2.2.st = a.st := by
  unfold actF
  split
  · exact capD_st r k a
  · split
    · exact shfD_st r k a b
    · split
      · exact updD_st r k a
      · split <;> (try split) <;> (try split) <;> rfl
end
section
theorem sw_0 : Cond.selects "ScanRows$Rows" (⟨"ScanRows$Rows", "wayBehind", "(I)I"⟩ : MethodName) (⟨"ScanRows$Rows", "wayBehind", "(I)I"⟩ : MethodName) ∈ ALLG := al_s (i := 0) (by decide +kernel) (by decide +kernel)
theorem sw_1 : Cond.selects "ScanRows$Rows" (⟨"ScanRows$Rows", "hasNeighbourBehind", "(I)Z"⟩ : MethodName) (⟨"ScanRows$Rows", "hasNeighbourBehind", "(I)Z"⟩ : MethodName) ∈ ALLG := al_s (i := 1) (by decide +kernel) (by decide +kernel)
theorem tw_2 : (Cond.initialized "ScanRows$Rows") ∈ ALLG := al_t (i := 2) (by decide +kernel) (by decide +kernel)
theorem tw_12 : (Cond.initialized "java/lang/Math") ∈ ALLG := al_t (i := 12) (by decide +kernel) (by decide +kernel)
theorem tw_27 : (Cond.fieldLink "ScanRows$Rows" (40 : Nat) "ScanRows$Rows" "latches" "I") ∈ ALLG := al_t (i := 27) (by decide +kernel) (by decide +kernel)
theorem tw_29 : (Cond.fieldLink "ScanRows$Rows" (62 : Nat) "ScanRows$Rows" "chains" "I") ∈ ALLG := al_t (i := 29) (by decide +kernel) (by decide +kernel)
theorem tw_32 : (Cond.fieldLink "ScanRows$Rows" (59 : Nat) "ScanRows$Rows" "placed" "I") ∈ ALLG := al_t (i := 32) (by decide +kernel) (by decide +kernel)
theorem tw_33 : (Cond.fieldLink "ScanRows$Rows" (9 : Nat) "ScanRows$Rows" "value" "[I") ∈ ALLG := al_t (i := 33) (by decide +kernel) (by decide +kernel)
theorem tw_35 : (Cond.fieldLink "ScanRows$Rows" (15 : Nat) "ScanRows$Rows" "clock" "[I") ∈ ALLG := al_t (i := 35) (by decide +kernel) (by decide +kernel)
theorem tw_36 : (Cond.fieldLink "ScanRows$Rows" (18 : Nat) "ScanRows$Rows" "x" "[I") ∈ ALLG := al_t (i := 36) (by decide +kernel) (by decide +kernel)
theorem tw_37 : (Cond.fieldLink "ScanRows$Rows" (21 : Nat) "ScanRows$Rows" "y" "[I") ∈ ALLG := al_t (i := 37) (by decide +kernel) (by decide +kernel)
theorem tw_38 : (Cond.fieldLink "ScanRows$Rows" (24 : Nat) "ScanRows$Rows" "fromLogic" "[Z") ∈ ALLG := al_t (i := 38) (by decide +kernel) (by decide +kernel)
theorem tw_39 : (Cond.fieldLink "ScanRows$Rows" (28 : Nat) "ScanRows$Rows" "placeOf" "[I") ∈ ALLG := al_t (i := 39) (by decide +kernel) (by decide +kernel)
theorem tw_40 : (Cond.fieldLink "ScanRows$Rows" (31 : Nat) "ScanRows$Rows" "row" "[I") ∈ ALLG := al_t (i := 40) (by decide +kernel) (by decide +kernel)
theorem tw_41 : (Cond.fieldLink "ScanRows$Rows" (34 : Nat) "ScanRows$Rows" "chainOf" "[I") ∈ ALLG := al_t (i := 41) (by decide +kernel) (by decide +kernel)
theorem tw_42 : (Cond.fieldLink "ScanRows$Rows" (37 : Nat) "ScanRows$Rows" "start" "[I") ∈ ALLG := al_t (i := 42) (by decide +kernel) (by decide +kernel)
theorem tw_149 : (Cond.methodLink "ScanRows$Rows" (69 : Nat) ({ cls := "ScanRows$Rows", name := "wayBehind", desc := "(I)I" } : Jvm.MethodName)) ∈ ALLG := al_t (i := 149) (by decide +kernel) (by decide +kernel)
theorem tw_151 : (Cond.instanceMethod ({ cls := "ScanRows$Rows", name := "wayBehind", desc := "(I)I" } : Jvm.MethodName)) ∈ ALLG := al_t (i := 151) (by decide +kernel) (by decide +kernel)
theorem tw_152 : (Cond.code ({ cls := "ScanRows$Rows", name := "wayBehind", desc := "(I)I" } : Jvm.MethodName) prog_4_method_13_code (4 : Nat) (Option.some FieldType.int)) ∈ ALLG := al_t (i := 152) (by decide +kernel) (by decide +kernel)
theorem tw_153 : (Cond.methodLink "ScanRows$Rows" (65 : Nat) ({ cls := "ScanRows$Rows", name := "hasNeighbourBehind", desc := "(I)Z" } : Jvm.MethodName)) ∈ ALLG := al_t (i := 153) (by decide +kernel) (by decide +kernel)
theorem tw_155 : (Cond.instanceMethod ({ cls := "ScanRows$Rows", name := "hasNeighbourBehind", desc := "(I)Z" } : Jvm.MethodName)) ∈ ALLG := al_t (i := 155) (by decide +kernel) (by decide +kernel)
theorem tw_156 : (Cond.code ({ cls := "ScanRows$Rows", name := "hasNeighbourBehind", desc := "(I)Z" } : Jvm.MethodName) prog_4_method_11_code (2 : Nat) (Option.some FieldType.boolean)) ∈ ALLG := al_t (i := 156) (by decide +kernel) (by decide +kernel)
theorem tw_157 : (Cond.methodLink "ScanRows$Rows" (72 : Nat) ({ cls := "java/lang/Math", name := "abs", desc := "(I)I" } : Jvm.MethodName)) ∈ ALLG := al_t (i := 157) (by decide +kernel) (by decide +kernel)
theorem tw_158 : (Cond.static ({ cls := "java/lang/Math", name := "abs", desc := "(I)I" } : Jvm.MethodName)) ∈ ALLG := al_t (i := 158) (by decide +kernel) (by decide +kernel)
theorem tw_159 : (Cond.code ({ cls := "java/lang/Math", name := "abs", desc := "(I)I" } : Jvm.MethodName) prog_10_method_59_code (1 : Nat) (Option.some FieldType.int)) ∈ ALLG := al_t (i := 159) (by decide +kernel) (by decide +kernel)
theorem dX2_hasChain_0 : decode cX2_hasChain 0 = .ok (.iload_n 1, 1) := by decide +kernel
theorem dX2_hasChain_1 : decode cX2_hasChain 1 = .ok (.ifCond .lt 15, 3) := by decide +kernel
theorem dX2_hasChain_4 : decode cX2_hasChain 4 = .ok (.iload_n 1, 1) := by decide +kernel
theorem dX2_hasChain_5 : decode cX2_hasChain 5 = .ok (.aload_n 0, 1) := by decide +kernel
theorem dX2_hasChain_6 : decode cX2_hasChain 6 = .ok (.getfield 62, 3) := by decide +kernel
theorem dX2_hasChain_9 : decode cX2_hasChain 9 = .ok (.if_icmp .ge 7, 3) := by decide +kernel
theorem dX2_hasChain_12 : decode cX2_hasChain 12 = .ok (.iconst 1, 1) := by decide +kernel
theorem dX2_hasChain_13 : decode cX2_hasChain 13 = .ok (.goto 4, 3) := by decide +kernel
theorem dX2_hasChain_16 : decode cX2_hasChain 16 = .ok (.iconst 0, 1) := by decide +kernel
theorem dX2_hasChain_17 : decode cX2_hasChain 17 = .ok (.ireturn, 1) := by decide +kernel
theorem dX2_lengthOf_0 : decode cX2_lengthOf 0 = .ok (.aload_n 0, 1) := by decide +kernel
theorem dX2_lengthOf_1 : decode cX2_lengthOf 1 = .ok (.getfield 37, 3) := by decide +kernel
theorem dX2_lengthOf_4 : decode cX2_lengthOf 4 = .ok (.iload_n 1, 1) := by decide +kernel
theorem dX2_lengthOf_5 : decode cX2_lengthOf 5 = .ok (.iconst 1, 1) := by decide +kernel
theorem dX2_lengthOf_6 : decode cX2_lengthOf 6 = .ok (.iadd, 1) := by decide +kernel
theorem dX2_lengthOf_7 : decode cX2_lengthOf 7 = .ok (.iaload, 1) := by decide +kernel
theorem dX2_lengthOf_8 : decode cX2_lengthOf 8 = .ok (.aload_n 0, 1) := by decide +kernel
theorem dX2_lengthOf_9 : decode cX2_lengthOf 9 = .ok (.getfield 37, 3) := by decide +kernel
theorem dX2_lengthOf_12 : decode cX2_lengthOf 12 = .ok (.iload_n 1, 1) := by decide +kernel
theorem dX2_lengthOf_13 : decode cX2_lengthOf 13 = .ok (.iaload, 1) := by decide +kernel
theorem dX2_lengthOf_14 : decode cX2_lengthOf 14 = .ok (.isub, 1) := by decide +kernel
theorem dX2_lengthOf_15 : decode cX2_lengthOf 15 = .ok (.ireturn, 1) := by decide +kernel
theorem dX2_latchAt_0 : decode cX2_latchAt 0 = .ok (.aload_n 0, 1) := by decide +kernel
theorem dX2_latchAt_1 : decode cX2_latchAt 1 = .ok (.getfield 31, 3) := by decide +kernel
theorem dX2_latchAt_4 : decode cX2_latchAt 4 = .ok (.aload_n 0, 1) := by decide +kernel
theorem dX2_latchAt_5 : decode cX2_latchAt 5 = .ok (.getfield 37, 3) := by decide +kernel
theorem dX2_latchAt_8 : decode cX2_latchAt 8 = .ok (.iload_n 1, 1) := by decide +kernel
theorem dX2_latchAt_9 : decode cX2_latchAt 9 = .ok (.iaload, 1) := by decide +kernel
theorem dX2_latchAt_10 : decode cX2_latchAt 10 = .ok (.iload_n 2, 1) := by decide +kernel
theorem dX2_latchAt_11 : decode cX2_latchAt 11 = .ok (.iadd, 1) := by decide +kernel
theorem dX2_latchAt_12 : decode cX2_latchAt 12 = .ok (.iaload, 1) := by decide +kernel
theorem dX2_latchAt_13 : decode cX2_latchAt 13 = .ok (.ireturn, 1) := by decide +kernel
theorem dX2_hasNeighbourBehind_0 : decode cX2_hasNeighbourBehind 0 = .ok (.iload_n 1, 1) := by decide +kernel
theorem dX2_hasNeighbourBehind_1 : decode cX2_hasNeighbourBehind 1 = .ok (.ifCond .lt 34, 3) := by decide +kernel
theorem dX2_hasNeighbourBehind_4 : decode cX2_hasNeighbourBehind 4 = .ok (.iload_n 1, 1) := by decide +kernel
theorem dX2_hasNeighbourBehind_5 : decode cX2_hasNeighbourBehind 5 = .ok (.iconst 1, 1) := by decide +kernel
theorem dX2_hasNeighbourBehind_6 : decode cX2_hasNeighbourBehind 6 = .ok (.iadd, 1) := by decide +kernel
theorem dX2_hasNeighbourBehind_7 : decode cX2_hasNeighbourBehind 7 = .ok (.aload_n 0, 1) := by decide +kernel
theorem dX2_hasNeighbourBehind_8 : decode cX2_hasNeighbourBehind 8 = .ok (.getfield 59, 3) := by decide +kernel
theorem dX2_hasNeighbourBehind_11 : decode cX2_hasNeighbourBehind 11 = .ok (.if_icmp .ge 24, 3) := by decide +kernel
theorem dX2_hasNeighbourBehind_14 : decode cX2_hasNeighbourBehind 14 = .ok (.aload_n 0, 1) := by decide +kernel
theorem dX2_hasNeighbourBehind_15 : decode cX2_hasNeighbourBehind 15 = .ok (.getfield 34, 3) := by decide +kernel
theorem dX2_hasNeighbourBehind_18 : decode cX2_hasNeighbourBehind 18 = .ok (.iload_n 1, 1) := by decide +kernel
theorem dX2_hasNeighbourBehind_19 : decode cX2_hasNeighbourBehind 19 = .ok (.iaload, 1) := by decide +kernel
theorem dX2_hasNeighbourBehind_20 : decode cX2_hasNeighbourBehind 20 = .ok (.aload_n 0, 1) := by decide +kernel
theorem dX2_hasNeighbourBehind_21 : decode cX2_hasNeighbourBehind 21 = .ok (.getfield 34, 3) := by decide +kernel
theorem dX2_hasNeighbourBehind_24 : decode cX2_hasNeighbourBehind 24 = .ok (.iload_n 1, 1) := by decide +kernel
theorem dX2_hasNeighbourBehind_25 : decode cX2_hasNeighbourBehind 25 = .ok (.iconst 1, 1) := by decide +kernel
theorem dX2_hasNeighbourBehind_26 : decode cX2_hasNeighbourBehind 26 = .ok (.iadd, 1) := by decide +kernel
theorem dX2_hasNeighbourBehind_27 : decode cX2_hasNeighbourBehind 27 = .ok (.iaload, 1) := by decide +kernel
theorem dX2_hasNeighbourBehind_28 : decode cX2_hasNeighbourBehind 28 = .ok (.if_icmp .ne 7, 3) := by decide +kernel
theorem dX2_hasNeighbourBehind_31 : decode cX2_hasNeighbourBehind 31 = .ok (.iconst 1, 1) := by decide +kernel
theorem dX2_hasNeighbourBehind_32 : decode cX2_hasNeighbourBehind 32 = .ok (.goto 4, 3) := by decide +kernel
theorem dX2_hasNeighbourBehind_35 : decode cX2_hasNeighbourBehind 35 = .ok (.iconst 0, 1) := by decide +kernel
theorem dX2_hasNeighbourBehind_36 : decode cX2_hasNeighbourBehind 36 = .ok (.ireturn, 1) := by decide +kernel
theorem dX2_clockChangesBehind_0 : decode cX2_clockChangesBehind 0 = .ok (.aload_n 0, 1) := by decide +kernel
theorem dX2_clockChangesBehind_1 : decode cX2_clockChangesBehind 1 = .ok (.getfield 37, 3) := by decide +kernel
theorem dX2_clockChangesBehind_4 : decode cX2_clockChangesBehind 4 = .ok (.iload_n 1, 1) := by decide +kernel
theorem dX2_clockChangesBehind_5 : decode cX2_clockChangesBehind 5 = .ok (.iaload, 1) := by decide +kernel
theorem dX2_clockChangesBehind_6 : decode cX2_clockChangesBehind 6 = .ok (.iload_n 2, 1) := by decide +kernel
theorem dX2_clockChangesBehind_7 : decode cX2_clockChangesBehind 7 = .ok (.iadd, 1) := by decide +kernel
theorem dX2_clockChangesBehind_8 : decode cX2_clockChangesBehind 8 = .ok (.istore_n 3, 1) := by decide +kernel
theorem dX2_clockChangesBehind_9 : decode cX2_clockChangesBehind 9 = .ok (.aload_n 0, 1) := by decide +kernel
theorem dX2_clockChangesBehind_10 : decode cX2_clockChangesBehind 10 = .ok (.iload_n 3, 1) := by decide +kernel
theorem dX2_clockChangesBehind_11 : decode cX2_clockChangesBehind 11 = .ok (.invokevirtual 65, 3) := by decide +kernel
theorem dX2_clockChangesBehind_14 : decode cX2_clockChangesBehind 14 = .ok (.ifCond .eq 34, 3) := by decide +kernel
theorem dX2_clockChangesBehind_17 : decode cX2_clockChangesBehind 17 = .ok (.aload_n 0, 1) := by decide +kernel
theorem dX2_clockChangesBehind_18 : decode cX2_clockChangesBehind 18 = .ok (.getfield 15, 3) := by decide +kernel
theorem dX2_clockChangesBehind_21 : decode cX2_clockChangesBehind 21 = .ok (.aload_n 0, 1) := by decide +kernel
theorem dX2_clockChangesBehind_22 : decode cX2_clockChangesBehind 22 = .ok (.getfield 31, 3) := by decide +kernel
theorem dX2_clockChangesBehind_25 : decode cX2_clockChangesBehind 25 = .ok (.iload_n 3, 1) := by decide +kernel
theorem dX2_clockChangesBehind_26 : decode cX2_clockChangesBehind 26 = .ok (.iaload, 1) := by decide +kernel
theorem dX2_clockChangesBehind_27 : decode cX2_clockChangesBehind 27 = .ok (.iaload, 1) := by decide +kernel
theorem dX2_clockChangesBehind_28 : decode cX2_clockChangesBehind 28 = .ok (.aload_n 0, 1) := by decide +kernel
theorem dX2_clockChangesBehind_29 : decode cX2_clockChangesBehind 29 = .ok (.getfield 15, 3) := by decide +kernel
theorem dX2_clockChangesBehind_32 : decode cX2_clockChangesBehind 32 = .ok (.aload_n 0, 1) := by decide +kernel
theorem dX2_clockChangesBehind_33 : decode cX2_clockChangesBehind 33 = .ok (.getfield 31, 3) := by decide +kernel
theorem dX2_clockChangesBehind_36 : decode cX2_clockChangesBehind 36 = .ok (.iload_n 3, 1) := by decide +kernel
theorem dX2_clockChangesBehind_37 : decode cX2_clockChangesBehind 37 = .ok (.iconst 1, 1) := by decide +kernel
theorem dX2_clockChangesBehind_38 : decode cX2_clockChangesBehind 38 = .ok (.iadd, 1) := by decide +kernel
theorem dX2_clockChangesBehind_39 : decode cX2_clockChangesBehind 39 = .ok (.iaload, 1) := by decide +kernel
theorem dX2_clockChangesBehind_40 : decode cX2_clockChangesBehind 40 = .ok (.iaload, 1) := by decide +kernel
theorem dX2_clockChangesBehind_41 : decode cX2_clockChangesBehind 41 = .ok (.if_icmp .eq 7, 3) := by decide +kernel
theorem dX2_clockChangesBehind_44 : decode cX2_clockChangesBehind 44 = .ok (.iconst 1, 1) := by decide +kernel
theorem dX2_clockChangesBehind_45 : decode cX2_clockChangesBehind 45 = .ok (.goto 4, 3) := by decide +kernel
theorem dX2_clockChangesBehind_48 : decode cX2_clockChangesBehind 48 = .ok (.iconst 0, 1) := by decide +kernel
theorem dX2_clockChangesBehind_49 : decode cX2_clockChangesBehind 49 = .ok (.ireturn, 1) := by decide +kernel
theorem dX2_wayBehind_0 : decode cX2_wayBehind 0 = .ok (.aload_n 0, 1) := by decide +kernel
theorem dX2_wayBehind_1 : decode cX2_wayBehind 1 = .ok (.iload_n 1, 1) := by decide +kernel
theorem dX2_wayBehind_2 : decode cX2_wayBehind 2 = .ok (.invokevirtual 65, 3) := by decide +kernel
theorem dX2_wayBehind_5 : decode cX2_wayBehind 5 = .ok (.ifCond .ne 5, 3) := by decide +kernel
theorem dX2_wayBehind_8 : decode cX2_wayBehind 8 = .ok (.iconst 0, 1) := by decide +kernel
theorem dX2_wayBehind_9 : decode cX2_wayBehind 9 = .ok (.ireturn, 1) := by decide +kernel
theorem dX2_wayBehind_10 : decode cX2_wayBehind 10 = .ok (.aload_n 0, 1) := by decide +kernel
theorem dX2_wayBehind_11 : decode cX2_wayBehind 11 = .ok (.getfield 31, 3) := by decide +kernel
theorem dX2_wayBehind_14 : decode cX2_wayBehind 14 = .ok (.iload_n 1, 1) := by decide +kernel
theorem dX2_wayBehind_15 : decode cX2_wayBehind 15 = .ok (.iaload, 1) := by decide +kernel
theorem dX2_wayBehind_16 : decode cX2_wayBehind 16 = .ok (.istore_n 2, 1) := by decide +kernel
theorem dX2_wayBehind_17 : decode cX2_wayBehind 17 = .ok (.aload_n 0, 1) := by decide +kernel
theorem dX2_wayBehind_18 : decode cX2_wayBehind 18 = .ok (.getfield 31, 3) := by decide +kernel
theorem dX2_wayBehind_21 : decode cX2_wayBehind 21 = .ok (.iload_n 1, 1) := by decide +kernel
theorem dX2_wayBehind_22 : decode cX2_wayBehind 22 = .ok (.iconst 1, 1) := by decide +kernel
theorem dX2_wayBehind_23 : decode cX2_wayBehind 23 = .ok (.iadd, 1) := by decide +kernel
theorem dX2_wayBehind_24 : decode cX2_wayBehind 24 = .ok (.iaload, 1) := by decide +kernel
theorem dX2_wayBehind_25 : decode cX2_wayBehind 25 = .ok (.istore_n 3, 1) := by decide +kernel
theorem dX2_wayBehind_26 : decode cX2_wayBehind 26 = .ok (.aload_n 0, 1) := by decide +kernel
theorem dX2_wayBehind_27 : decode cX2_wayBehind 27 = .ok (.getfield 18, 3) := by decide +kernel
theorem dX2_wayBehind_30 : decode cX2_wayBehind 30 = .ok (.iload_n 2, 1) := by decide +kernel
theorem dX2_wayBehind_31 : decode cX2_wayBehind 31 = .ok (.iaload, 1) := by decide +kernel
theorem dX2_wayBehind_32 : decode cX2_wayBehind 32 = .ok (.aload_n 0, 1) := by decide +kernel
theorem dX2_wayBehind_33 : decode cX2_wayBehind 33 = .ok (.getfield 18, 3) := by decide +kernel
theorem dX2_wayBehind_36 : decode cX2_wayBehind 36 = .ok (.iload_n 3, 1) := by decide +kernel
theorem dX2_wayBehind_37 : decode cX2_wayBehind 37 = .ok (.iaload, 1) := by decide +kernel
theorem dX2_wayBehind_38 : decode cX2_wayBehind 38 = .ok (.isub, 1) := by decide +kernel
theorem dX2_wayBehind_39 : decode cX2_wayBehind 39 = .ok (.invokestatic 72, 3) := by decide +kernel
theorem dX2_wayBehind_42 : decode cX2_wayBehind 42 = .ok (.aload_n 0, 1) := by decide +kernel
theorem dX2_wayBehind_43 : decode cX2_wayBehind 43 = .ok (.getfield 21, 3) := by decide +kernel
theorem dX2_wayBehind_46 : decode cX2_wayBehind 46 = .ok (.iload_n 2, 1) := by decide +kernel
theorem dX2_wayBehind_47 : decode cX2_wayBehind 47 = .ok (.iaload, 1) := by decide +kernel
theorem dX2_wayBehind_48 : decode cX2_wayBehind 48 = .ok (.aload_n 0, 1) := by decide +kernel
theorem dX2_wayBehind_49 : decode cX2_wayBehind 49 = .ok (.getfield 21, 3) := by decide +kernel
theorem dX2_wayBehind_52 : decode cX2_wayBehind 52 = .ok (.iload_n 3, 1) := by decide +kernel
theorem dX2_wayBehind_53 : decode cX2_wayBehind 53 = .ok (.iaload, 1) := by decide +kernel
theorem dX2_wayBehind_54 : decode cX2_wayBehind 54 = .ok (.isub, 1) := by decide +kernel
theorem dX2_wayBehind_55 : decode cX2_wayBehind 55 = .ok (.invokestatic 72, 3) := by decide +kernel
theorem dX2_wayBehind_58 : decode cX2_wayBehind 58 = .ok (.iadd, 1) := by decide +kernel
theorem dX2_wayBehind_59 : decode cX2_wayBehind 59 = .ok (.ireturn, 1) := by decide +kernel
theorem dX2_wayAround_0 : decode cX2_wayAround 0 = .ok (.aload_n 0, 1) := by decide +kernel
theorem dX2_wayAround_1 : decode cX2_wayAround 1 = .ok (.iload_n 1, 1) := by decide +kernel
theorem dX2_wayAround_2 : decode cX2_wayAround 2 = .ok (.iconst 1, 1) := by decide +kernel
theorem dX2_wayAround_3 : decode cX2_wayAround 3 = .ok (.isub, 1) := by decide +kernel
theorem dX2_wayAround_4 : decode cX2_wayAround 4 = .ok (.invokevirtual 69, 3) := by decide +kernel
theorem dX2_wayAround_7 : decode cX2_wayAround 7 = .ok (.aload_n 0, 1) := by decide +kernel
theorem dX2_wayAround_8 : decode cX2_wayAround 8 = .ok (.iload_n 1, 1) := by decide +kernel
theorem dX2_wayAround_9 : decode cX2_wayAround 9 = .ok (.invokevirtual 69, 3) := by decide +kernel
theorem dX2_wayAround_12 : decode cX2_wayAround 12 = .ok (.iadd, 1) := by decide +kernel
theorem dX2_wayAround_13 : decode cX2_wayAround 13 = .ok (.ireturn, 1) := by decide +kernel
theorem dX2_mayExchange_0 : decode cX2_mayExchange 0 = .ok (.aload_n 0, 1) := by decide +kernel
theorem dX2_mayExchange_1 : decode cX2_mayExchange 1 = .ok (.getfield 15, 3) := by decide +kernel
theorem dX2_mayExchange_4 : decode cX2_mayExchange 4 = .ok (.iload_n 1, 1) := by decide +kernel
theorem dX2_mayExchange_5 : decode cX2_mayExchange 5 = .ok (.iaload, 1) := by decide +kernel
theorem dX2_mayExchange_6 : decode cX2_mayExchange 6 = .ok (.aload_n 0, 1) := by decide +kernel
theorem dX2_mayExchange_7 : decode cX2_mayExchange 7 = .ok (.getfield 15, 3) := by decide +kernel
theorem dX2_mayExchange_10 : decode cX2_mayExchange 10 = .ok (.iload_n 2, 1) := by decide +kernel
theorem dX2_mayExchange_11 : decode cX2_mayExchange 11 = .ok (.iaload, 1) := by decide +kernel
theorem dX2_mayExchange_12 : decode cX2_mayExchange 12 = .ok (.if_icmp .ne 27, 3) := by decide +kernel
theorem dX2_mayExchange_15 : decode cX2_mayExchange 15 = .ok (.aload_n 0, 1) := by decide +kernel
theorem dX2_mayExchange_16 : decode cX2_mayExchange 16 = .ok (.getfield 28, 3) := by decide +kernel
theorem dX2_mayExchange_19 : decode cX2_mayExchange 19 = .ok (.iload_n 1, 1) := by decide +kernel
theorem dX2_mayExchange_20 : decode cX2_mayExchange 20 = .ok (.iaload, 1) := by decide +kernel
theorem dX2_mayExchange_21 : decode cX2_mayExchange 21 = .ok (.iconst (-1), 1) := by decide +kernel
theorem dX2_mayExchange_22 : decode cX2_mayExchange 22 = .ok (.if_icmp .eq 17, 3) := by decide +kernel
theorem dX2_mayExchange_25 : decode cX2_mayExchange 25 = .ok (.aload_n 0, 1) := by decide +kernel
theorem dX2_mayExchange_26 : decode cX2_mayExchange 26 = .ok (.getfield 28, 3) := by decide +kernel
theorem dX2_mayExchange_29 : decode cX2_mayExchange 29 = .ok (.iload_n 2, 1) := by decide +kernel
theorem dX2_mayExchange_30 : decode cX2_mayExchange 30 = .ok (.iaload, 1) := by decide +kernel
theorem dX2_mayExchange_31 : decode cX2_mayExchange 31 = .ok (.iconst (-1), 1) := by decide +kernel
theorem dX2_mayExchange_32 : decode cX2_mayExchange 32 = .ok (.if_icmp .eq 7, 3) := by decide +kernel
theorem dX2_mayExchange_35 : decode cX2_mayExchange 35 = .ok (.iconst 1, 1) := by decide +kernel
theorem dX2_mayExchange_36 : decode cX2_mayExchange 36 = .ok (.goto 4, 3) := by decide +kernel
theorem dX2_mayExchange_39 : decode cX2_mayExchange 39 = .ok (.iconst 0, 1) := by decide +kernel
theorem dX2_mayExchange_40 : decode cX2_mayExchange 40 = .ok (.ireturn, 1) := by decide +kernel
theorem dX2_exchange_0 : decode cX2_exchange 0 = .ok (.aload_n 0, 1) := by decide +kernel
theorem dX2_exchange_1 : decode cX2_exchange 1 = .ok (.getfield 31, 3) := by decide +kernel
theorem dX2_exchange_4 : decode cX2_exchange 4 = .ok (.iload_n 1, 1) := by decide +kernel
theorem dX2_exchange_5 : decode cX2_exchange 5 = .ok (.iaload, 1) := by decide +kernel
theorem dX2_exchange_6 : decode cX2_exchange 6 = .ok (.istore_n 3, 1) := by decide +kernel
theorem dX2_exchange_7 : decode cX2_exchange 7 = .ok (.aload_n 0, 1) := by decide +kernel
theorem dX2_exchange_8 : decode cX2_exchange 8 = .ok (.getfield 31, 3) := by decide +kernel
theorem dX2_exchange_11 : decode cX2_exchange 11 = .ok (.iload_n 1, 1) := by decide +kernel
theorem dX2_exchange_12 : decode cX2_exchange 12 = .ok (.aload_n 0, 1) := by decide +kernel
theorem dX2_exchange_13 : decode cX2_exchange 13 = .ok (.getfield 31, 3) := by decide +kernel
theorem dX2_exchange_16 : decode cX2_exchange 16 = .ok (.iload_n 2, 1) := by decide +kernel
theorem dX2_exchange_17 : decode cX2_exchange 17 = .ok (.iaload, 1) := by decide +kernel
theorem dX2_exchange_18 : decode cX2_exchange 18 = .ok (.iastore, 1) := by decide +kernel
theorem dX2_exchange_19 : decode cX2_exchange 19 = .ok (.aload_n 0, 1) := by decide +kernel
theorem dX2_exchange_20 : decode cX2_exchange 20 = .ok (.getfield 31, 3) := by decide +kernel
theorem dX2_exchange_23 : decode cX2_exchange 23 = .ok (.iload_n 2, 1) := by decide +kernel
theorem dX2_exchange_24 : decode cX2_exchange 24 = .ok (.iload_n 3, 1) := by decide +kernel
theorem dX2_exchange_25 : decode cX2_exchange 25 = .ok (.iastore, 1) := by decide +kernel
theorem dX2_exchange_26 : decode cX2_exchange 26 = .ok (.aload_n 0, 1) := by decide +kernel
theorem dX2_exchange_27 : decode cX2_exchange 27 = .ok (.getfield 28, 3) := by decide +kernel
theorem dX2_exchange_30 : decode cX2_exchange 30 = .ok (.aload_n 0, 1) := by decide +kernel
theorem dX2_exchange_31 : decode cX2_exchange 31 = .ok (.getfield 31, 3) := by decide +kernel
theorem dX2_exchange_34 : decode cX2_exchange 34 = .ok (.iload_n 1, 1) := by decide +kernel
theorem dX2_exchange_35 : decode cX2_exchange 35 = .ok (.iaload, 1) := by decide +kernel
theorem dX2_exchange_36 : decode cX2_exchange 36 = .ok (.iload_n 1, 1) := by decide +kernel
theorem dX2_exchange_37 : decode cX2_exchange 37 = .ok (.iastore, 1) := by decide +kernel
theorem dX2_exchange_38 : decode cX2_exchange 38 = .ok (.aload_n 0, 1) := by decide +kernel
theorem dX2_exchange_39 : decode cX2_exchange 39 = .ok (.getfield 28, 3) := by decide +kernel
theorem dX2_exchange_42 : decode cX2_exchange 42 = .ok (.aload_n 0, 1) := by decide +kernel
theorem dX2_exchange_43 : decode cX2_exchange 43 = .ok (.getfield 31, 3) := by decide +kernel
theorem dX2_exchange_46 : decode cX2_exchange 46 = .ok (.iload_n 2, 1) := by decide +kernel
theorem dX2_exchange_47 : decode cX2_exchange 47 = .ok (.iaload, 1) := by decide +kernel
theorem dX2_exchange_48 : decode cX2_exchange 48 = .ok (.iload_n 2, 1) := by decide +kernel
theorem dX2_exchange_49 : decode cX2_exchange 49 = .ok (.iastore, 1) := by decide +kernel
theorem dX2_exchange_50 : decode cX2_exchange 50 = .ok (.return_, 1) := by decide +kernel
theorem dX2_breaks_0 : decode cX2_breaks 0 = .ok (.iload_n 2, 1) := by decide +kernel
theorem dX2_breaks_1 : decode cX2_breaks 1 = .ok (.ifCond .ne 12, 3) := by decide +kernel
theorem dX2_breaks_4 : decode cX2_breaks 4 = .ok (.aload_n 0, 1) := by decide +kernel
theorem dX2_breaks_5 : decode cX2_breaks 5 = .ok (.getfield 24, 3) := by decide +kernel
theorem dX2_breaks_8 : decode cX2_breaks 8 = .ok (.iload_n 1, 1) := by decide +kernel
theorem dX2_breaks_9 : decode cX2_breaks 9 = .ok (.baload, 1) := by decide +kernel
theorem dX2_breaks_10 : decode cX2_breaks 10 = .ok (.goto 18, 3) := by decide +kernel
theorem dX2_breaks_13 : decode cX2_breaks 13 = .ok (.aload_n 0, 1) := by decide +kernel
theorem dX2_breaks_14 : decode cX2_breaks 14 = .ok (.getfield 28, 3) := by decide +kernel
theorem dX2_breaks_17 : decode cX2_breaks 17 = .ok (.iload_n 1, 1) := by decide +kernel
theorem dX2_breaks_18 : decode cX2_breaks 18 = .ok (.iaload, 1) := by decide +kernel
theorem dX2_breaks_19 : decode cX2_breaks 19 = .ok (.iconst (-1), 1) := by decide +kernel
theorem dX2_breaks_20 : decode cX2_breaks 20 = .ok (.if_icmp .ne 7, 3) := by decide +kernel
theorem dX2_breaks_23 : decode cX2_breaks 23 = .ok (.iconst 1, 1) := by decide +kernel
theorem dX2_breaks_24 : decode cX2_breaks 24 = .ok (.goto 4, 3) := by decide +kernel
theorem dX2_breaks_27 : decode cX2_breaks 27 = .ok (.iconst 0, 1) := by decide +kernel
theorem dX2_breaks_28 : decode cX2_breaks 28 = .ok (.ireturn, 1) := by decide +kernel
theorem dX2_changeSet_0 : decode cX2_changeSet 0 = .ok (.aload_n 0, 1) := by decide +kernel
theorem dX2_changeSet_1 : decode cX2_changeSet 1 = .ok (.getfield 24, 3) := by decide +kernel
theorem dX2_changeSet_4 : decode cX2_changeSet 4 = .ok (.iload_n 1, 1) := by decide +kernel
theorem dX2_changeSet_5 : decode cX2_changeSet 5 = .ok (.baload, 1) := by decide +kernel
theorem dX2_changeSet_6 : decode cX2_changeSet 6 = .ok (.iload_n 2, 1) := by decide +kernel
theorem dX2_changeSet_7 : decode cX2_changeSet 7 = .ok (.if_icmp .eq 7, 3) := by decide +kernel
theorem dX2_changeSet_10 : decode cX2_changeSet 10 = .ok (.iconst 1, 1) := by decide +kernel
theorem dX2_changeSet_11 : decode cX2_changeSet 11 = .ok (.goto 4, 3) := by decide +kernel
theorem dX2_changeSet_14 : decode cX2_changeSet 14 = .ok (.iconst 0, 1) := by decide +kernel
theorem dX2_changeSet_15 : decode cX2_changeSet 15 = .ok (.istore_n 3, 1) := by decide +kernel
theorem dX2_changeSet_16 : decode cX2_changeSet 16 = .ok (.aload_n 0, 1) := by decide +kernel
theorem dX2_changeSet_17 : decode cX2_changeSet 17 = .ok (.getfield 24, 3) := by decide +kernel
theorem dX2_changeSet_20 : decode cX2_changeSet 20 = .ok (.iload_n 1, 1) := by decide +kernel
theorem dX2_changeSet_21 : decode cX2_changeSet 21 = .ok (.iload_n 2, 1) := by decide +kernel
theorem dX2_changeSet_22 : decode cX2_changeSet 22 = .ok (.bastore, 1) := by decide +kernel
theorem dX2_changeSet_23 : decode cX2_changeSet 23 = .ok (.iload_n 3, 1) := by decide +kernel
theorem dX2_changeSet_24 : decode cX2_changeSet 24 = .ok (.ireturn, 1) := by decide +kernel
theorem dX2_addLatch_0 : decode cX2_addLatch 0 = .ok (.aload_n 0, 1) := by decide +kernel
theorem dX2_addLatch_1 : decode cX2_addLatch 1 = .ok (.getfield 40, 3) := by decide +kernel
theorem dX2_addLatch_4 : decode cX2_addLatch 4 = .ok (.istore 4, 2) := by decide +kernel
theorem dX2_addLatch_6 : decode cX2_addLatch 6 = .ok (.aload_n 0, 1) := by decide +kernel
theorem dX2_addLatch_7 : decode cX2_addLatch 7 = .ok (.getfield 15, 3) := by decide +kernel
theorem dX2_addLatch_10 : decode cX2_addLatch 10 = .ok (.iload 4, 2) := by decide +kernel
theorem dX2_addLatch_12 : decode cX2_addLatch 12 = .ok (.iload_n 1, 1) := by decide +kernel
theorem dX2_addLatch_13 : decode cX2_addLatch 13 = .ok (.iastore, 1) := by decide +kernel
theorem dX2_addLatch_14 : decode cX2_addLatch 14 = .ok (.aload_n 0, 1) := by decide +kernel
theorem dX2_addLatch_15 : decode cX2_addLatch 15 = .ok (.getfield 18, 3) := by decide +kernel
theorem dX2_addLatch_18 : decode cX2_addLatch 18 = .ok (.iload 4, 2) := by decide +kernel
theorem dX2_addLatch_20 : decode cX2_addLatch 20 = .ok (.iload_n 2, 1) := by decide +kernel
theorem dX2_addLatch_21 : decode cX2_addLatch 21 = .ok (.iastore, 1) := by decide +kernel
theorem dX2_addLatch_22 : decode cX2_addLatch 22 = .ok (.aload_n 0, 1) := by decide +kernel
theorem dX2_addLatch_23 : decode cX2_addLatch 23 = .ok (.getfield 21, 3) := by decide +kernel
theorem dX2_addLatch_26 : decode cX2_addLatch 26 = .ok (.iload 4, 2) := by decide +kernel
theorem dX2_addLatch_28 : decode cX2_addLatch 28 = .ok (.iload_n 3, 1) := by decide +kernel
theorem dX2_addLatch_29 : decode cX2_addLatch 29 = .ok (.iastore, 1) := by decide +kernel
theorem dX2_addLatch_30 : decode cX2_addLatch 30 = .ok (.aload_n 0, 1) := by decide +kernel
theorem dX2_addLatch_31 : decode cX2_addLatch 31 = .ok (.getfield 28, 3) := by decide +kernel
theorem dX2_addLatch_34 : decode cX2_addLatch 34 = .ok (.iload 4, 2) := by decide +kernel
theorem dX2_addLatch_36 : decode cX2_addLatch 36 = .ok (.iconst (-1), 1) := by decide +kernel
theorem dX2_addLatch_37 : decode cX2_addLatch 37 = .ok (.iastore, 1) := by decide +kernel
theorem dX2_addLatch_38 : decode cX2_addLatch 38 = .ok (.aload_n 0, 1) := by decide +kernel
theorem dX2_addLatch_39 : decode cX2_addLatch 39 = .ok (.dup, 1) := by decide +kernel
theorem dX2_addLatch_40 : decode cX2_addLatch 40 = .ok (.getfield 40, 3) := by decide +kernel
theorem dX2_addLatch_43 : decode cX2_addLatch 43 = .ok (.iconst 1, 1) := by decide +kernel
theorem dX2_addLatch_44 : decode cX2_addLatch 44 = .ok (.iadd, 1) := by decide +kernel
theorem dX2_addLatch_45 : decode cX2_addLatch 45 = .ok (.putfield 40, 3) := by decide +kernel
theorem dX2_addLatch_48 : decode cX2_addLatch 48 = .ok (.iload 4, 2) := by decide +kernel
theorem dX2_addLatch_50 : decode cX2_addLatch 50 = .ok (.ireturn, 1) := by decide +kernel
theorem dX2_shiftPlaces_0 : decode cX2_shiftPlaces 0 = .ok (.iload_n 1, 1) := by decide +kernel
theorem dX2_shiftPlaces_1 : decode cX2_shiftPlaces 1 = .ok (.iload_n 2, 1) := by decide +kernel
theorem dX2_shiftPlaces_2 : decode cX2_shiftPlaces 2 = .ok (.if_icmp .lt 5, 3) := by decide +kernel
theorem dX2_shiftPlaces_5 : decode cX2_shiftPlaces 5 = .ok (.iconst 0, 1) := by decide +kernel
theorem dX2_shiftPlaces_6 : decode cX2_shiftPlaces 6 = .ok (.ireturn, 1) := by decide +kernel
theorem dX2_shiftPlaces_7 : decode cX2_shiftPlaces 7 = .ok (.iload_n 3, 1) := by decide +kernel
theorem dX2_shiftPlaces_8 : decode cX2_shiftPlaces 8 = .ok (.istore 4, 2) := by decide +kernel
theorem dX2_shiftPlaces_10 : decode cX2_shiftPlaces 10 = .ok (.iload_n 1, 1) := by decide +kernel
theorem dX2_shiftPlaces_11 : decode cX2_shiftPlaces 11 = .ok (.istore 5, 2) := by decide +kernel
theorem dX2_shiftPlaces_13 : decode cX2_shiftPlaces 13 = .ok (.iload 5, 2) := by decide +kernel
theorem dX2_shiftPlaces_15 : decode cX2_shiftPlaces 15 = .ok (.iload_n 2, 1) := by decide +kernel
theorem dX2_shiftPlaces_16 : decode cX2_shiftPlaces 16 = .ok (.if_icmp .ge 40, 3) := by decide +kernel
theorem dX2_shiftPlaces_19 : decode cX2_shiftPlaces 19 = .ok (.aload_n 0, 1) := by decide +kernel
theorem dX2_shiftPlaces_20 : decode cX2_shiftPlaces 20 = .ok (.getfield 31, 3) := by decide +kernel
theorem dX2_shiftPlaces_23 : decode cX2_shiftPlaces 23 = .ok (.iload 5, 2) := by decide +kernel
theorem dX2_shiftPlaces_25 : decode cX2_shiftPlaces 25 = .ok (.iaload, 1) := by decide +kernel
theorem dX2_shiftPlaces_26 : decode cX2_shiftPlaces 26 = .ok (.istore 6, 2) := by decide +kernel
theorem dX2_shiftPlaces_28 : decode cX2_shiftPlaces 28 = .ok (.aload_n 0, 1) := by decide +kernel
theorem dX2_shiftPlaces_29 : decode cX2_shiftPlaces 29 = .ok (.getfield 9, 3) := by decide +kernel
theorem dX2_shiftPlaces_32 : decode cX2_shiftPlaces 32 = .ok (.iload 6, 2) := by decide +kernel
theorem dX2_shiftPlaces_34 : decode cX2_shiftPlaces 34 = .ok (.iaload, 1) := by decide +kernel
theorem dX2_shiftPlaces_35 : decode cX2_shiftPlaces 35 = .ok (.istore 7, 2) := by decide +kernel
theorem dX2_shiftPlaces_37 : decode cX2_shiftPlaces 37 = .ok (.aload_n 0, 1) := by decide +kernel
theorem dX2_shiftPlaces_38 : decode cX2_shiftPlaces 38 = .ok (.getfield 9, 3) := by decide +kernel
theorem dX2_shiftPlaces_41 : decode cX2_shiftPlaces 41 = .ok (.iload 6, 2) := by decide +kernel
theorem dX2_shiftPlaces_43 : decode cX2_shiftPlaces 43 = .ok (.iload 4, 2) := by decide +kernel
theorem dX2_shiftPlaces_45 : decode cX2_shiftPlaces 45 = .ok (.iastore, 1) := by decide +kernel
theorem dX2_shiftPlaces_46 : decode cX2_shiftPlaces 46 = .ok (.iload 7, 2) := by decide +kernel
theorem dX2_shiftPlaces_48 : decode cX2_shiftPlaces 48 = .ok (.istore 4, 2) := by decide +kernel
theorem dX2_shiftPlaces_50 : decode cX2_shiftPlaces 50 = .ok (.iinc 5 1, 3) := by decide +kernel
theorem dX2_shiftPlaces_53 : decode cX2_shiftPlaces 53 = .ok (.goto (-40), 3) := by decide +kernel
theorem dX2_shiftPlaces_56 : decode cX2_shiftPlaces 56 = .ok (.iload 4, 2) := by decide +kernel
theorem dX2_shiftPlaces_58 : decode cX2_shiftPlaces 58 = .ok (.ireturn, 1) := by decide +kernel
set_option maxHeartbeats 4000000 in
set_option maxRecDepth 100000 in
theorem c_Rows_hasChain (l : Launch) (dC : Nat → ClassId) (dI : Nat → Nat → Nat) (q : Nat → Nat) (cI cZ : ClassId) (sz : Nat) (r : RS) (v : Int32) : Met l yX2_hasChain (.code yX2_hasChain cX2_hasChain 2 (some .boolean) :: ALLG) ({ frames := 0, cells := 0, slots := 0, locals := 0 }) (va_Pc [.ref (q 0), .int v] (cP (dC, dI) vwCl [(cI, .int), (cZ, .boolean)] (wR q cI cZ r) eT sz)) (va_Qi (fun (x : Int32) (_ : Unit) => x = nI (hcN v r.c)) (fun (_ : Unit) => cB (dC, dI) vwCl [(cI, .int), (cZ, .boolean)] (wR q cI cZ r) (va_A (wR q cI cZ r) sz)) (va_A (wR q cI cZ r) sz)) 0 0 (va_A (wR q cI cZ r) sz) := by
  refine xm_of (cc := cX2_hasChain) (maxL := 2) (ret := some .boolean) (by decide) rfl (Nat.le_of_ble_eq_true rfl) ?_
  intro p e s m below meth c A hAe hx hb hr hml hts0 hown hlk hin hsz H locs hP hK hD hA hS hE ls hl
  have hts : ∀ w ∈ ALLG, w.before _ s = true := fun w h => hts0 w (List.mem_cons_of_mem _ h)
  rw [← hAe]
  have hl : lv_has ls 2 [(0, .ref (q 0)), (1, .int v)] := hl
  refine lv_iload_n hx hb dX2_hasChain_0 rfl (lv_at hl 1 rfl) ?_
  refine lv_if_lt (tgt := 16) hx hb dX2_hasChain_1 (by decide) (fun c_1 => ?_) (fun c_1 => ?_)
  · refine lv_iconst (v := nI 0) hx hb dX2_hasChain_16 (by decide) ?_
    exact xr_z hx hb hr hlk (by decide) (u := ()) (by unfold hcN; first | rw [if_pos ⟨by assumption, Int32.not_le.mp (by assumption)⟩] | rw [if_neg (fun h => h.1 (by assumption))] | rw [if_neg (fun h => absurd (by assumption) (Int32.not_le.mpr h.2))]) hP hK hD hS dX2_hasChain_17
  · refine lv_iload_n hx hb dX2_hasChain_4 rfl (lv_at hl 1 rfl) ?_
    refine lv_aload_n hx hb dX2_hasChain_5 rfl (lv_at hl 0 rfl) ?_
    refine va_get (D := (dC, dI)) (ci := 2) (v := .int (nI (RS.c r))) (C := RX2) (T := TX2) (N := 12) hx hb hts inX2 hown hK hP 0 rfl rfl 1 (by decide) (hts _ tw_29) (fun _ h9 => h9) rfl dX2_hasChain_6 ?_
    refine lv_icmp_ge (tgt := 16) hx hb dX2_hasChain_9 (by decide) (fun c_2 => ?_) (fun c_2 => ?_)
    · refine lv_iconst (v := nI 0) hx hb dX2_hasChain_16 (by decide) ?_
      exact xr_z hx hb hr hlk (by decide) (u := ()) (by unfold hcN; first | rw [if_pos ⟨by assumption, Int32.not_le.mp (by assumption)⟩] | rw [if_neg (fun h => h.1 (by assumption))] | rw [if_neg (fun h => absurd (by assumption) (Int32.not_le.mpr h.2))]) hP hK hD hS dX2_hasChain_17
    · refine lv_iconst (v := nI 1) hx hb dX2_hasChain_12 (by decide) ?_
      refine lv_goto (tgt := 17) hx hb dX2_hasChain_13 (by decide) ?_
      exact xr_z hx hb hr hlk (by decide) (u := ()) (by unfold hcN; first | rw [if_pos ⟨by assumption, Int32.not_le.mp (by assumption)⟩] | rw [if_neg (fun h => h.1 (by assumption))] | rw [if_neg (fun h => absurd (by assumption) (Int32.not_le.mpr h.2))]) hP hK hD hS dX2_hasChain_17
set_option maxHeartbeats 4000000 in
set_option maxRecDepth 100000 in
theorem c_Rows_lengthOf (l : Launch) (dC : Nat → ClassId) (dI : Nat → Nat → Nat) (q : Nat → Nat) (cI cZ : ClassId) (sz : Nat) (r : RS) (ch : Nat) (h1 : ch < 8) (h2 : r.st ch ≤ r.st (ch + 1)) : Met l yX2_lengthOf (.code yX2_lengthOf cX2_lengthOf 2 (some .int) :: ALLG) ({ frames := 0, cells := 0, slots := 0, locals := 0 }) (va_Pc [.ref (q 0), .int (nI ch)] (cP (dC, dI) vwCl [(cI, .int), (cZ, .boolean)] (wR q cI cZ r) eT sz)) (va_Qi (fun (x : Int32) (_ : Unit) => x = nI (r.st (ch + 1) - r.st ch)) (fun (_ : Unit) => cB (dC, dI) vwCl [(cI, .int), (cZ, .boolean)] (wR q cI cZ r) (va_A (wR q cI cZ r) sz)) (va_A (wR q cI cZ r) sz)) 0 0 (va_A (wR q cI cZ r) sz) := by
  refine xm_of (cc := cX2_lengthOf) (maxL := 2) (ret := some .int) (by decide) rfl (Nat.le_of_ble_eq_true rfl) ?_
  intro p e s m below meth c A hAe hx hb hr hml hts0 hown hlk hin hsz H locs hP hK hD hA hS hE ls hl
  have hts : ∀ w ∈ ALLG, w.before _ s = true := fun w h => hts0 w (List.mem_cons_of_mem _ h)
  rw [← hAe]
  have hl : lv_has ls 2 [(0, .ref (q 0)), (1, .int (nI ch))] := hl
  refine lv_aload_n hx hb dX2_lengthOf_0 rfl (lv_at hl 0 rfl) ?_
  refine va_get (D := (dC, dI)) (ci := 2) (v := .ref (q 9)) (C := RX2) (T := TX2) (N := 12) hx hb hts inX2 hown hK hP 0 rfl rfl 11 (by decide) (hts _ tw_42) (fun _ h9 => h9) rfl dX2_lengthOf_1 ?_
  refine lv_iload_n hx hb dX2_lengthOf_4 rfl (lv_at hl 1 rfl) ?_
  refine lv_iconst (v := nI 1) hx hb dX2_lengthOf_5 (by decide) ?_
  refine xn_add hx hb dX2_lengthOf_6 ?_
  refine xa_ild hx hb hK hP 9 0 rfl rfl (v := nI ((RS.st r) (ch + 1))) (by omega) (by decide) rfl dX2_lengthOf_7 ?_
  refine lv_aload_n hx hb dX2_lengthOf_8 rfl (lv_at hl 0 rfl) ?_
  refine va_get (D := (dC, dI)) (ci := 2) (v := .ref (q 9)) (C := RX2) (T := TX2) (N := 12) hx hb hts inX2 hown hK hP 0 rfl rfl 11 (by decide) (hts _ tw_42) (fun _ h9 => h9) rfl dX2_lengthOf_9 ?_
  refine lv_iload_n hx hb dX2_lengthOf_12 rfl (lv_at hl 1 rfl) ?_
  refine xa_ild hx hb hK hP 9 0 rfl rfl (v := nI ((RS.st r) ch)) (by omega) (by decide) rfl dX2_lengthOf_13 ?_
  refine xn_sub hx hb (by omega) dX2_lengthOf_14 ?_
  exact xr_i hx hb hr hlk (u := ()) rfl hP hK hD hS dX2_lengthOf_15
set_option maxHeartbeats 4000000 in
set_option maxRecDepth 100000 in
theorem c_Rows_latchAt (l : Launch) (dC : Nat → ClassId) (dI : Nat → Nat → Nat) (q : Nat → Nat) (cI cZ : ClassId) (sz : Nat) (r : RS) (ch k : Nat) (h1 : ch < 9) (h2 : r.st ch + k < 32) : Met l yX2_latchAt (.code yX2_latchAt cX2_latchAt 3 (some .int) :: ALLG) ({ frames := 0, cells := 0, slots := 0, locals := 0 }) (va_Pc [.ref (q 0), .int (nI ch), .int (nI k)] (cP (dC, dI) vwCl [(cI, .int), (cZ, .boolean)] (wR q cI cZ r) eT sz)) (va_Qi (fun (x : Int32) (_ : Unit) => x = nI (r.rw (r.st ch + k))) (fun (_ : Unit) => cB (dC, dI) vwCl [(cI, .int), (cZ, .boolean)] (wR q cI cZ r) (va_A (wR q cI cZ r) sz)) (va_A (wR q cI cZ r) sz)) 0 0 (va_A (wR q cI cZ r) sz) := by
  refine xm_of (cc := cX2_latchAt) (maxL := 3) (ret := some .int) (by decide) rfl (Nat.le_of_ble_eq_true rfl) ?_
  intro p e s m below meth c A hAe hx hb hr hml hts0 hown hlk hin hsz H locs hP hK hD hA hS hE ls hl
  have hts : ∀ w ∈ ALLG, w.before _ s = true := fun w h => hts0 w (List.mem_cons_of_mem _ h)
  rw [← hAe]
  have hl : lv_has ls 3 [(0, .ref (q 0)), (1, .int (nI ch)), (2, .int (nI k))] := hl
  refine lv_aload_n hx hb dX2_latchAt_0 rfl (lv_at hl 0 rfl) ?_
  refine va_get (D := (dC, dI)) (ci := 2) (v := .ref (q 7)) (C := RX2) (T := TX2) (N := 12) hx hb hts inX2 hown hK hP 0 rfl rfl 9 (by decide) (hts _ tw_40) (fun _ h9 => h9) rfl dX2_latchAt_1 ?_
  refine lv_aload_n hx hb dX2_latchAt_4 rfl (lv_at hl 0 rfl) ?_
  refine va_get (D := (dC, dI)) (ci := 2) (v := .ref (q 9)) (C := RX2) (T := TX2) (N := 12) hx hb hts inX2 hown hK hP 0 rfl rfl 11 (by decide) (hts _ tw_42) (fun _ h9 => h9) rfl dX2_latchAt_5 ?_
  refine lv_iload_n hx hb dX2_latchAt_8 rfl (lv_at hl 1 rfl) ?_
  refine xa_ild hx hb hK hP 9 0 rfl rfl (v := nI ((RS.st r) ch)) (by omega) (by decide) rfl dX2_latchAt_9 ?_
  refine lv_iload_n hx hb dX2_latchAt_10 rfl (lv_at hl 2 rfl) ?_
  refine xn_add hx hb dX2_latchAt_11 ?_
  refine xa_ild hx hb hK hP 7 0 rfl rfl (v := nI ((RS.rw r) (((RS.st r) ch) + k))) (by omega) (by decide) rfl dX2_latchAt_12 ?_
  exact xr_i hx hb hr hlk (u := ()) rfl hP hK hD hS dX2_latchAt_13
set_option maxHeartbeats 4000000 in
set_option maxRecDepth 100000 in
theorem c_Rows_hasNeighbourBehind (l : Launch) (dC : Nat → ClassId) (dI : Nat → Nat → Nat) (q : Nat → Nat) (cI cZ : ClassId) (sz : Nat) (r : RS) (k : Nat) (hB : RB r) (h1 : k < 32) : Met l yX2_hasNeighbourBehind (.code yX2_hasNeighbourBehind cX2_hasNeighbourBehind 2 (some .boolean) :: ALLG) ({ frames := 0, cells := 0, slots := 0, locals := 0 }) (va_Pc [.ref (q 0), .int (nI k)] (cP (dC, dI) vwCl [(cI, .int), (cZ, .boolean)] (wR q cI cZ r) eT sz)) (va_Qi (fun (x : Int32) (_ : Unit) => x = nI (hnb r k)) (fun (_ : Unit) => cB (dC, dI) vwCl [(cI, .int), (cZ, .boolean)] (wR q cI cZ r) (va_A (wR q cI cZ r) sz)) (va_A (wR q cI cZ r) sz)) 0 0 (va_A (wR q cI cZ r) sz) := by
  refine xm_of (cc := cX2_hasNeighbourBehind) (maxL := 2) (ret := some .boolean) (by decide) rfl (Nat.le_of_ble_eq_true rfl) ?_
  intro p e s m below meth c A hAe hx hb hr hml hts0 hown hlk hin hsz H locs hP hK hD hA hS hE ls hl
  have hts : ∀ w ∈ ALLG, w.before _ s = true := fun w h => hts0 w (List.mem_cons_of_mem _ h)
  rw [← hAe]
  obtain ⟨b_n, b_c, b_p, b_vb, b_ck, b_xx, b_yy, b_fl, b_po, b_rw, b_ch, b_st⟩ := hB
  have hl : lv_has ls 2 [(0, .ref (q 0)), (1, .int (nI k))] := hl
  refine lv_iload_n hx hb dX2_hasNeighbourBehind_0 rfl (lv_at hl 1 rfl) ?_
  refine xn_zlt (tgt := 35) hx hb (by omega) dX2_hasNeighbourBehind_1 (by decide) ?_
  refine lv_iload_n hx hb dX2_hasNeighbourBehind_4 rfl (lv_at hl 1 rfl) ?_
  refine lv_iconst (v := nI 1) hx hb dX2_hasNeighbourBehind_5 (by decide) ?_
  refine xn_add hx hb dX2_hasNeighbourBehind_6 ?_
  refine lv_aload_n hx hb dX2_hasNeighbourBehind_7 rfl (lv_at hl 0 rfl) ?_
  refine va_get (D := (dC, dI)) (ci := 2) (v := .int (nI (RS.p r))) (C := RX2) (T := TX2) (N := 12) hx hb hts inX2 hown hK hP 0 rfl rfl 2 (by decide) (hts _ tw_32) (fun _ h9 => h9) rfl dX2_hasNeighbourBehind_8 ?_
  refine xn_cge (tgt := 35) hx hb (by omega) (by omega) dX2_hasNeighbourBehind_11 (by decide) (fun c_2 => ?_) (fun c_2 => ?_)
  · refine lv_iconst (v := nI 0) hx hb dX2_hasNeighbourBehind_35 (by decide) ?_
    exact xr_z hx hb hr hlk (by decide) (u := ()) (by unfold hnb; first | rw [if_pos ⟨by omega, by omega⟩] | rw [if_neg (fun h => by omega)]) hP hK hD hS dX2_hasNeighbourBehind_36
  · have g1 := b_ch k
    have g2 := b_ch (k + 1)
    refine lv_aload_n hx hb dX2_hasNeighbourBehind_14 rfl (lv_at hl 0 rfl) ?_
    refine va_get (D := (dC, dI)) (ci := 2) (v := .ref (q 8)) (C := RX2) (T := TX2) (N := 12) hx hb hts inX2 hown hK hP 0 rfl rfl 10 (by decide) (hts _ tw_41) (fun _ h9 => h9) rfl dX2_hasNeighbourBehind_15 ?_
    refine lv_iload_n hx hb dX2_hasNeighbourBehind_18 rfl (lv_at hl 1 rfl) ?_
    refine xa_ild hx hb hK hP 8 0 rfl rfl (v := nI ((RS.ch r) k)) (by omega) (by decide) rfl dX2_hasNeighbourBehind_19 ?_
    refine lv_aload_n hx hb dX2_hasNeighbourBehind_20 rfl (lv_at hl 0 rfl) ?_
    refine va_get (D := (dC, dI)) (ci := 2) (v := .ref (q 8)) (C := RX2) (T := TX2) (N := 12) hx hb hts inX2 hown hK hP 0 rfl rfl 10 (by decide) (hts _ tw_41) (fun _ h9 => h9) rfl dX2_hasNeighbourBehind_21 ?_
    refine lv_iload_n hx hb dX2_hasNeighbourBehind_24 rfl (lv_at hl 1 rfl) ?_
    refine lv_iconst (v := nI 1) hx hb dX2_hasNeighbourBehind_25 (by decide) ?_
    refine xn_add hx hb dX2_hasNeighbourBehind_26 ?_
    refine xa_ild hx hb hK hP 8 0 rfl rfl (v := nI ((RS.ch r) (k + 1))) (by omega) (by decide) rfl dX2_hasNeighbourBehind_27 ?_
    refine xn_cne (tgt := 35) hx hb (by omega) (by omega) dX2_hasNeighbourBehind_28 (by decide) (fun c_3 => ?_) (fun c_3 => ?_)
    · refine lv_iconst (v := nI 0) hx hb dX2_hasNeighbourBehind_35 (by decide) ?_
      exact xr_z hx hb hr hlk (by decide) (u := ()) (by unfold hnb; first | rw [if_pos ⟨by omega, by omega⟩] | rw [if_neg (fun h => by omega)]) hP hK hD hS dX2_hasNeighbourBehind_36
    · refine lv_iconst (v := nI 1) hx hb dX2_hasNeighbourBehind_31 (by decide) ?_
      refine lv_goto (tgt := 36) hx hb dX2_hasNeighbourBehind_32 (by decide) ?_
      exact xr_z hx hb hr hlk (by decide) (u := ()) (by unfold hnb; first | rw [if_pos ⟨by omega, by omega⟩] | rw [if_neg (fun h => by omega)]) hP hK hD hS dX2_hasNeighbourBehind_36
set_option maxHeartbeats 4000000 in
set_option maxRecDepth 100000 in
theorem c_Rows_hnbM (l : Launch) (dC : Nat → ClassId) (dI : Nat → Nat → Nat) (q : Nat → Nat) (cI cZ : ClassId) (sz : Nat) (r : RS) : Met l yX2_hasNeighbourBehind (.code yX2_hasNeighbourBehind cX2_hasNeighbourBehind 2 (some .boolean) :: ALLG) ({ frames := 0, cells := 0, slots := 0, locals := 0 }) (va_Pc [.ref (q 0), .int (zI (-1))] (cP (dC, dI) vwCl [(cI, .int), (cZ, .boolean)] (wR q cI cZ r) eT sz)) (va_Qi (fun (x : Int32) (_ : Unit) => x = nI 0) (fun (_ : Unit) => cB (dC, dI) vwCl [(cI, .int), (cZ, .boolean)] (wR q cI cZ r) (va_A (wR q cI cZ r) sz)) (va_A (wR q cI cZ r) sz)) 0 0 (va_A (wR q cI cZ r) sz) := by
  refine xm_of (cc := cX2_hasNeighbourBehind) (maxL := 2) (ret := some .boolean) (by decide) rfl (Nat.le_of_ble_eq_true rfl) ?_
  intro p e s m below meth c A hAe hx hb hr hml hts0 hown hlk hin hsz H locs hP hK hD hA hS hE ls hl
  have hts : ∀ w ∈ ALLG, w.before _ s = true := fun w h => hts0 w (List.mem_cons_of_mem _ h)
  rw [← hAe]
  have hl : lv_has ls 2 [(0, .ref (q 0)), (1, .int (zI (-1)))] := hl
  refine lv_iload_n hx hb dX2_hasNeighbourBehind_0 rfl (lv_at hl 1 rfl) ?_
  refine lv_if_lt (tgt := 35) hx hb dX2_hasNeighbourBehind_1 (by decide) (fun c_1 => ?_) (fun c_1 => ?_)
  · refine lv_iconst (v := nI 0) hx hb dX2_hasNeighbourBehind_35 (by decide) ?_
    exact xr_z hx hb hr hlk (by decide) (u := ()) rfl hP hK hD hS dX2_hasNeighbourBehind_36
  · exact absurd (by decide : (zI (-1) : Int32) < 0) (by assumption)
set_option maxHeartbeats 4000000 in
set_option maxRecDepth 100000 in
theorem c_Rows_clockChangesBehind (l : Launch) (dC : Nat → ClassId) (dI : Nat → Nat → Nat) (q : Nat → Nat) (cI cZ : ClassId) (sz : Nat) (r : RS) (ch k : Nat) (hB : RB r) (h1 : ch < 9) (h2 : r.st ch + k < 32) : Met l yX2_clockChangesBehind (.code yX2_clockChangesBehind cX2_clockChangesBehind 4 (some .boolean) :: ALLG) ({ frames := 1, cells := 0, slots := 0, locals := 21 }) (va_Pc [.ref (q 0), .int (nI ch), .int (nI k)] (cP (dC, dI) vwCl [(cI, .int), (cZ, .boolean)] (wR q cI cZ r) eT sz)) (va_Qi (fun (x : Int32) (_ : Unit) => x = nI (ccb r (r.st ch + k))) (fun (_ : Unit) => cB (dC, dI) vwCl [(cI, .int), (cZ, .boolean)] (wR q cI cZ r) (va_A (wR q cI cZ r) sz)) (va_A (wR q cI cZ r) sz)) 0 0 (va_A (wR q cI cZ r) sz) := by
  refine xm_of (cc := cX2_clockChangesBehind) (maxL := 4) (ret := some .boolean) (by decide) rfl (Nat.le_of_ble_eq_true rfl) ?_
  intro p e s m below meth c A hAe hx hb hr hml hts0 hown hlk hin hsz H locs hP hK hD hA hS hE ls hl
  have hts : ∀ w ∈ ALLG, w.before _ s = true := fun w h => hts0 w (List.mem_cons_of_mem _ h)
  rw [← hAe]
  have hB0 := hB
  obtain ⟨b_n, b_c, b_p, b_vb, b_ck, b_xx, b_yy, b_fl, b_po, b_rw, b_ch, b_st⟩ := hB
  have g0 := hnb_le r (r.st ch + k)
  have hl : lv_has ls 4 [(0, .ref (q 0)), (1, .int (nI ch)), (2, .int (nI k))] := hl
  refine lv_aload_n hx hb dX2_clockChangesBehind_0 rfl (lv_at hl 0 rfl) ?_
  refine va_get (D := (dC, dI)) (ci := 2) (v := .ref (q 9)) (C := RX2) (T := TX2) (N := 12) hx hb hts inX2 hown hK hP 0 rfl rfl 11 (by decide) (hts _ tw_42) (fun _ h9 => h9) rfl dX2_clockChangesBehind_1 ?_
  refine lv_iload_n hx hb dX2_clockChangesBehind_4 rfl (lv_at hl 1 rfl) ?_
  refine xa_ild hx hb hK hP 9 0 rfl rfl (v := nI ((RS.st r) ch)) (by omega) (by decide) rfl dX2_clockChangesBehind_5 ?_
  refine lv_iload_n hx hb dX2_clockChangesBehind_6 rfl (lv_at hl 2 rfl) ?_
  refine xn_add hx hb dX2_clockChangesBehind_7 ?_
  refine lv_istore_n (lv' := [(3, .int (nI (((RS.st r) ch) + k))), (0, .ref (q 0)), (1, .int (nI ch)), (2, .int (nI k))]) hx hb dX2_clockChangesBehind_8 rfl hl (by decide) rfl (fun ls hl => ?_)
  refine lv_aload_n hx hb dX2_clockChangesBehind_9 rfl (lv_at hl 1 rfl) ?_
  refine lv_iload_n hx hb dX2_clockChangesBehind_10 rfl (lv_at hl 0 rfl) ?_
  refine xc_Vi (As := [.int (nI (((RS.st r) ch) + k))]) (wr := []) ⟨hx, hb, hml, hown, hts⟩ (c_Rows_hasNeighbourBehind l dC dI q cI cZ H.size r (((RS.st r) ch) + k) hB0 (by omega)) (cwV 1 hts (gV tw_153 tw_155 sw_1 tw_2 tw_156) rfl rfl rfl (by decide +kernel) ⟨Nat.le_of_ble_eq_true rfl, Nat.le_of_ble_eq_true rfl⟩) rfl hl.1 rfl (Nat.le_of_ble_eq_true rfl) dX2_clockChangesBehind_11 ⟨Nat.zero_le _, Nat.zero_le _⟩ hP hD hK hS hA [0, 1, 2, 3, 4, 5, 6, 7, 8, 9] [] rfl rfl (by decide) (by decide) (by decide) [0, 1] rfl (q0 := 0) rfl rfl rfl eT_M (trivial) (fun r_1 u_2 H locs w_3 hP hD hS => ?_)
  obtain rfl := w_3
  have hP : va_P (dC, dI) vwCl (wR q cI cZ r) H := hP
  have hD : va_D A (wR q cI cZ r) := hD
  refine xn_zeq (tgt := 48) hx hb (by omega) dX2_clockChangesBehind_14 (by decide) (fun c_4 => ?_) (fun c_4 => ?_)
  · refine lv_iconst (v := nI 0) hx hb dX2_clockChangesBehind_48 (by decide) ?_
    exact xr_z hx hb hr hlk (by decide) (u := ()) (by unfold ccb; rw [if_neg (fun h => by have := hnb_one h.1; omega)]) hP hK hD hS dX2_clockChangesBehind_49
  · have g1 := hnb_pos (by assumption)
    have g2 := b_ck (r.rw (r.st ch + k))
    have g3 := b_ck (r.rw (r.st ch + k + 1))
    refine lv_aload_n hx hb dX2_clockChangesBehind_17 rfl (lv_at hl 1 rfl) ?_
    refine va_get (D := (dC, dI)) (ci := 2) (v := .ref (q 2)) (C := RX2) (T := TX2) (N := 12) hx hb hts inX2 hown hK hP 0 rfl rfl 4 (by decide) (hts _ tw_35) (fun _ h9 => h9) rfl dX2_clockChangesBehind_18 ?_
    refine lv_aload_n hx hb dX2_clockChangesBehind_21 rfl (lv_at hl 1 rfl) ?_
    refine va_get (D := (dC, dI)) (ci := 2) (v := .ref (q 7)) (C := RX2) (T := TX2) (N := 12) hx hb hts inX2 hown hK hP 0 rfl rfl 9 (by decide) (hts _ tw_40) (fun _ h9 => h9) rfl dX2_clockChangesBehind_22 ?_
    refine lv_iload_n hx hb dX2_clockChangesBehind_25 rfl (lv_at hl 0 rfl) ?_
    refine xa_ild hx hb hK hP 7 0 rfl rfl (v := nI ((RS.rw r) (((RS.st r) ch) + k))) (by omega) (by decide) rfl dX2_clockChangesBehind_26 ?_
    refine xa_ild hx hb hK hP 2 0 rfl rfl (v := nI ((RS.ck r) ((RS.rw r) (((RS.st r) ch) + k)))) (b_rw _) (by decide) rfl dX2_clockChangesBehind_27 ?_
    refine lv_aload_n hx hb dX2_clockChangesBehind_28 rfl (lv_at hl 1 rfl) ?_
    refine va_get (D := (dC, dI)) (ci := 2) (v := .ref (q 2)) (C := RX2) (T := TX2) (N := 12) hx hb hts inX2 hown hK hP 0 rfl rfl 4 (by decide) (hts _ tw_35) (fun _ h9 => h9) rfl dX2_clockChangesBehind_29 ?_
    refine lv_aload_n hx hb dX2_clockChangesBehind_32 rfl (lv_at hl 1 rfl) ?_
    refine va_get (D := (dC, dI)) (ci := 2) (v := .ref (q 7)) (C := RX2) (T := TX2) (N := 12) hx hb hts inX2 hown hK hP 0 rfl rfl 9 (by decide) (hts _ tw_40) (fun _ h9 => h9) rfl dX2_clockChangesBehind_33 ?_
    refine lv_iload_n hx hb dX2_clockChangesBehind_36 rfl (lv_at hl 0 rfl) ?_
    refine lv_iconst (v := nI 1) hx hb dX2_clockChangesBehind_37 (by decide) ?_
    refine xn_add hx hb dX2_clockChangesBehind_38 ?_
    refine xa_ild hx hb hK hP 7 0 rfl rfl (v := nI ((RS.rw r) ((((RS.st r) ch) + k) + 1))) (by omega) (by decide) rfl dX2_clockChangesBehind_39 ?_
    refine xa_ild hx hb hK hP 2 0 rfl rfl (v := nI ((RS.ck r) ((RS.rw r) ((((RS.st r) ch) + k) + 1)))) (b_rw _) (by decide) rfl dX2_clockChangesBehind_40 ?_
    refine xn_ceq (tgt := 48) hx hb (by omega) (by omega) dX2_clockChangesBehind_41 (by decide) (fun c_5 => ?_) (fun c_5 => ?_)
    · refine lv_iconst (v := nI 0) hx hb dX2_clockChangesBehind_48 (by decide) ?_
      exact xr_z hx hb hr hlk (by decide) (u := ()) (by unfold ccb; rw [if_neg (fun h => h.2 (by assumption))]) hP hK hD hS dX2_clockChangesBehind_49
    · refine lv_iconst (v := nI 1) hx hb dX2_clockChangesBehind_44 (by decide) ?_
      refine lv_goto (tgt := 49) hx hb dX2_clockChangesBehind_45 (by decide) ?_
      exact xr_z hx hb hr hlk (by decide) (u := ()) (by unfold ccb; rw [if_pos ⟨g1, by assumption⟩]) hP hK hD hS dX2_clockChangesBehind_49
set_option maxHeartbeats 4000000 in
set_option maxRecDepth 100000 in
theorem c_Rows_wayBehind (l : Launch) (dC : Nat → ClassId) (dI : Nat → Nat → Nat) (q : Nat → Nat) (cI cZ : ClassId) (sz : Nat) (r : RS) (k : Nat) (hB : RB r) (h1 : k < 32) : Met l yX2_wayBehind (.code yX2_wayBehind cX2_wayBehind 4 (some .int) :: ALLG) ({ frames := 1, cells := 0, slots := 0, locals := 24 }) (va_Pc [.ref (q 0), .int (nI k)] (cP (dC, dI) vwCl [(cI, .int), (cZ, .boolean)] (wR q cI cZ r) eT sz)) (va_Qi (fun (x : Int32) (_ : Unit) => x = nI (wb r k)) (fun (_ : Unit) => cB (dC, dI) vwCl [(cI, .int), (cZ, .boolean)] (wR q cI cZ r) (va_A (wR q cI cZ r) sz)) (va_A (wR q cI cZ r) sz)) 0 0 (va_A (wR q cI cZ r) sz) := by
  refine xm_of (cc := cX2_wayBehind) (maxL := 4) (ret := some .int) (by decide) rfl (Nat.le_of_ble_eq_true rfl) ?_
  intro p e s m below meth c A hAe hx hb hr hml hts0 hown hlk hin hsz H locs hP hK hD hA hS hE ls hl
  have hts : ∀ w ∈ ALLG, w.before _ s = true := fun w h => hts0 w (List.mem_cons_of_mem _ h)
  rw [← hAe]
  have hB0 := hB
  obtain ⟨b_n, b_c, b_p, b_vb, b_ck, b_xx, b_yy, b_fl, b_po, b_rw, b_ch, b_st⟩ := hB
  have g0 := hnb_le r k
  have hl : lv_has ls 4 [(0, .ref (q 0)), (1, .int (nI k))] := hl
  refine lv_aload_n hx hb dX2_wayBehind_0 rfl (lv_at hl 0 rfl) ?_
  refine lv_iload_n hx hb dX2_wayBehind_1 rfl (lv_at hl 1 rfl) ?_
  refine xc_Vi (As := [.int (nI k)]) (wr := []) ⟨hx, hb, hml, hown, hts⟩ (c_Rows_hasNeighbourBehind l dC dI q cI cZ H.size r k hB0 (by omega)) (cwV 1 hts (gV tw_153 tw_155 sw_1 tw_2 tw_156) rfl rfl rfl (by decide +kernel) ⟨Nat.le_of_ble_eq_true rfl, Nat.le_of_ble_eq_true rfl⟩) rfl hl.1 rfl (Nat.le_of_ble_eq_true rfl) dX2_wayBehind_2 ⟨Nat.zero_le _, Nat.zero_le _⟩ hP hD hK hS hA [0, 1, 2, 3, 4, 5, 6, 7, 8, 9] [] rfl rfl (by decide) (by decide) (by decide) [0, 1] rfl (q0 := 0) rfl rfl rfl eT_M (trivial) (fun r_1 u_2 H locs w_3 hP hD hS => ?_)
  obtain rfl := w_3
  have hP : va_P (dC, dI) vwCl (wR q cI cZ r) H := hP
  have hD : va_D A (wR q cI cZ r) := hD
  refine xn_zne (tgt := 10) hx hb (by omega) dX2_wayBehind_5 (by decide) (fun c_4 => ?_) (fun c_4 => ?_)
  · have g1 := hnb_pos (by assumption)
    have g2 := b_xx (r.rw k)
    have g3 := b_xx (r.rw (k + 1))
    have g4 := b_yy (r.rw k)
    have g5 := b_yy (r.rw (k + 1))
    refine lv_aload_n hx hb dX2_wayBehind_10 rfl (lv_at hl 0 rfl) ?_
    refine va_get (D := (dC, dI)) (ci := 2) (v := .ref (q 7)) (C := RX2) (T := TX2) (N := 12) hx hb hts inX2 hown hK hP 0 rfl rfl 9 (by decide) (hts _ tw_40) (fun _ h9 => h9) rfl dX2_wayBehind_11 ?_
    refine lv_iload_n hx hb dX2_wayBehind_14 rfl (lv_at hl 1 rfl) ?_
    refine xa_ild hx hb hK hP 7 0 rfl rfl (v := nI ((RS.rw r) k)) (by omega) (by decide) rfl dX2_wayBehind_15 ?_
    refine lv_istore_n (lv' := [(2, .int (nI ((RS.rw r) k))), (0, .ref (q 0)), (1, .int (nI k))]) hx hb dX2_wayBehind_16 rfl hl (by decide) rfl (fun ls hl => ?_)
    refine lv_aload_n hx hb dX2_wayBehind_17 rfl (lv_at hl 1 rfl) ?_
    refine va_get (D := (dC, dI)) (ci := 2) (v := .ref (q 7)) (C := RX2) (T := TX2) (N := 12) hx hb hts inX2 hown hK hP 0 rfl rfl 9 (by decide) (hts _ tw_40) (fun _ h9 => h9) rfl dX2_wayBehind_18 ?_
    refine lv_iload_n hx hb dX2_wayBehind_21 rfl (lv_at hl 2 rfl) ?_
    refine lv_iconst (v := nI 1) hx hb dX2_wayBehind_22 (by decide) ?_
    refine xn_add hx hb dX2_wayBehind_23 ?_
    refine xa_ild hx hb hK hP 7 0 rfl rfl (v := nI ((RS.rw r) (k + 1))) (by omega) (by decide) rfl dX2_wayBehind_24 ?_
    refine lv_istore_n (lv' := [(3, .int (nI ((RS.rw r) (k + 1)))), (2, .int (nI ((RS.rw r) k))), (0, .ref (q 0)), (1, .int (nI k))]) hx hb dX2_wayBehind_25 rfl hl (by decide) rfl (fun ls hl => ?_)
    refine lv_aload_n hx hb dX2_wayBehind_26 rfl (lv_at hl 2 rfl) ?_
    refine va_get (D := (dC, dI)) (ci := 2) (v := .ref (q 3)) (C := RX2) (T := TX2) (N := 12) hx hb hts inX2 hown hK hP 0 rfl rfl 5 (by decide) (hts _ tw_36) (fun _ h9 => h9) rfl dX2_wayBehind_27 ?_
    refine lv_iload_n hx hb dX2_wayBehind_30 rfl (lv_at hl 1 rfl) ?_
    refine xa_ild hx hb hK hP 3 0 rfl rfl (v := zI ((RS.xx r) ((RS.rw r) k))) (b_rw _) (by decide) rfl dX2_wayBehind_31 ?_
    refine lv_aload_n hx hb dX2_wayBehind_32 rfl (lv_at hl 2 rfl) ?_
    refine va_get (D := (dC, dI)) (ci := 2) (v := .ref (q 3)) (C := RX2) (T := TX2) (N := 12) hx hb hts inX2 hown hK hP 0 rfl rfl 5 (by decide) (hts _ tw_36) (fun _ h9 => h9) rfl dX2_wayBehind_33 ?_
    refine lv_iload_n hx hb dX2_wayBehind_36 rfl (lv_at hl 0 rfl) ?_
    refine xa_ild hx hb hK hP 3 0 rfl rfl (v := zI ((RS.xx r) ((RS.rw r) (k + 1)))) (b_rw _) (by decide) rfl dX2_wayBehind_37 ?_
    refine xz_sub hx hb dX2_wayBehind_38 ?_
    refine va_mabs hx hb (hml.trans hl.1.symm) hown (hts _ tw_157) (hts _ tw_158) (hts _ tw_12) (hts _ tw_159) (Nat.le_of_ble_eq_true rfl) (Nat.le_of_ble_eq_true rfl) (Nat.zero_le _) (Nat.zero_le _) dX2_wayBehind_39 ?_
    refine xt_i (abs_zI (z := ((RS.xx r) ((RS.rw r) k)) - ((RS.xx r) ((RS.rw r) (k + 1)))) (by omega) (by omega)) ?_
    refine lv_aload_n hx hb dX2_wayBehind_42 rfl (lv_at hl 2 rfl) ?_
    refine va_get (D := (dC, dI)) (ci := 2) (v := .ref (q 4)) (C := RX2) (T := TX2) (N := 12) hx hb hts inX2 hown hK hP 0 rfl rfl 6 (by decide) (hts _ tw_37) (fun _ h9 => h9) rfl dX2_wayBehind_43 ?_
    refine lv_iload_n hx hb dX2_wayBehind_46 rfl (lv_at hl 1 rfl) ?_
    refine xa_ild hx hb hK hP 4 0 rfl rfl (v := zI ((RS.yy r) ((RS.rw r) k))) (b_rw _) (by decide) rfl dX2_wayBehind_47 ?_
    refine lv_aload_n hx hb dX2_wayBehind_48 rfl (lv_at hl 2 rfl) ?_
    refine va_get (D := (dC, dI)) (ci := 2) (v := .ref (q 4)) (C := RX2) (T := TX2) (N := 12) hx hb hts inX2 hown hK hP 0 rfl rfl 6 (by decide) (hts _ tw_37) (fun _ h9 => h9) rfl dX2_wayBehind_49 ?_
    refine lv_iload_n hx hb dX2_wayBehind_52 rfl (lv_at hl 0 rfl) ?_
    refine xa_ild hx hb hK hP 4 0 rfl rfl (v := zI ((RS.yy r) ((RS.rw r) (k + 1)))) (b_rw _) (by decide) rfl dX2_wayBehind_53 ?_
    refine xz_sub hx hb dX2_wayBehind_54 ?_
    refine va_mabs hx hb (hml.trans hl.1.symm) hown (hts _ tw_157) (hts _ tw_158) (hts _ tw_12) (hts _ tw_159) (Nat.le_of_ble_eq_true rfl) (Nat.le_of_ble_eq_true rfl) (Nat.zero_le _) (Nat.zero_le _) dX2_wayBehind_55 ?_
    refine xt_i (abs_zI (z := ((RS.yy r) ((RS.rw r) k)) - ((RS.yy r) ((RS.rw r) (k + 1)))) (by omega) (by omega)) ?_
    refine xn_add hx hb dX2_wayBehind_58 ?_
    exact xr_i hx hb hr hlk (u := ()) (by rw [wb_yes g1]) hP hK hD hS dX2_wayBehind_59
  · refine lv_iconst (v := nI 0) hx hb dX2_wayBehind_8 (by decide) ?_
    exact xr_i hx hb hr hlk (u := ()) (by rw [wb_no (by assumption)]) hP hK hD hS dX2_wayBehind_9
set_option maxHeartbeats 4000000 in
set_option maxRecDepth 100000 in
theorem c_Rows_wbM (l : Launch) (dC : Nat → ClassId) (dI : Nat → Nat → Nat) (q : Nat → Nat) (cI cZ : ClassId) (sz : Nat) (r : RS) : Met l yX2_wayBehind (.code yX2_wayBehind cX2_wayBehind 4 (some .int) :: ALLG) ({ frames := 1, cells := 0, slots := 0, locals := 24 }) (va_Pc [.ref (q 0), .int (zI (-1))] (cP (dC, dI) vwCl [(cI, .int), (cZ, .boolean)] (wR q cI cZ r) eT sz)) (va_Qi (fun (x : Int32) (_ : Unit) => x = nI 0) (fun (_ : Unit) => cB (dC, dI) vwCl [(cI, .int), (cZ, .boolean)] (wR q cI cZ r) (va_A (wR q cI cZ r) sz)) (va_A (wR q cI cZ r) sz)) 0 0 (va_A (wR q cI cZ r) sz) := by
  refine xm_of (cc := cX2_wayBehind) (maxL := 4) (ret := some .int) (by decide) rfl (Nat.le_of_ble_eq_true rfl) ?_
  intro p e s m below meth c A hAe hx hb hr hml hts0 hown hlk hin hsz H locs hP hK hD hA hS hE ls hl
  have hts : ∀ w ∈ ALLG, w.before _ s = true := fun w h => hts0 w (List.mem_cons_of_mem _ h)
  rw [← hAe]
  have hl : lv_has ls 4 [(0, .ref (q 0)), (1, .int (zI (-1)))] := hl
  refine lv_aload_n hx hb dX2_wayBehind_0 rfl (lv_at hl 0 rfl) ?_
  refine lv_iload_n hx hb dX2_wayBehind_1 rfl (lv_at hl 1 rfl) ?_
  refine xc_Vi (As := [.int (zI (-1))]) (wr := []) ⟨hx, hb, hml, hown, hts⟩ (c_Rows_hnbM l dC dI q cI cZ H.size r) (cwV 1 hts (gV tw_153 tw_155 sw_1 tw_2 tw_156) rfl rfl rfl (by decide +kernel) ⟨Nat.le_of_ble_eq_true rfl, Nat.le_of_ble_eq_true rfl⟩) rfl hl.1 rfl (Nat.le_of_ble_eq_true rfl) dX2_wayBehind_2 ⟨Nat.zero_le _, Nat.zero_le _⟩ hP hD hK hS hA [0, 1, 2, 3, 4, 5, 6, 7, 8, 9] [] rfl rfl (by decide) (by decide) (by decide) [0, 1] rfl (q0 := 0) rfl rfl rfl eT_M (trivial) (fun r_1 u_2 H locs w_3 hP hD hS => ?_)
  obtain rfl := w_3
  have hP : va_P (dC, dI) vwCl (wR q cI cZ r) H := hP
  have hD : va_D A (wR q cI cZ r) := hD
  refine xn_zne (tgt := 10) hx hb (by omega) dX2_wayBehind_5 (by decide) (fun c_4 => ?_) (fun c_4 => ?_)
  · exact absurd (by assumption : 0 < 0) (Nat.lt_irrefl 0)
  · refine lv_iconst (v := nI 0) hx hb dX2_wayBehind_8 (by decide) ?_
    exact xr_i hx hb hr hlk (u := ()) rfl hP hK hD hS dX2_wayBehind_9
set_option maxHeartbeats 4000000 in
set_option maxRecDepth 100000 in
theorem c_Rows_wayAround (l : Launch) (dC : Nat → ClassId) (dI : Nat → Nat → Nat) (q : Nat → Nat) (cI cZ : ClassId) (sz : Nat) (r : RS) (k : Nat) (hB : RB r) (h1 : k < 32) : Met l yX2_wayAround (.code yX2_wayAround cX2_wayAround 2 (some .int) :: ALLG) ({ frames := 2, cells := 0, slots := 0, locals := 47 }) (va_Pc [.ref (q 0), .int (nI k)] (cP (dC, dI) vwCl [(cI, .int), (cZ, .boolean)] (wR q cI cZ r) eT sz)) (va_Qi (fun (x : Int32) (_ : Unit) => x = nI (wa r k)) (fun (_ : Unit) => cB (dC, dI) vwCl [(cI, .int), (cZ, .boolean)] (wR q cI cZ r) (va_A (wR q cI cZ r) sz)) (va_A (wR q cI cZ r) sz)) 0 0 (va_A (wR q cI cZ r) sz) := by
  refine xm_of (cc := cX2_wayAround) (maxL := 2) (ret := some .int) (by decide) rfl (Nat.le_of_ble_eq_true rfl) ?_
  intro p e s m below meth c A hAe hx hb hr hml hts0 hown hlk hin hsz H locs hP hK hD hA hS hE ls hl
  have hts : ∀ w ∈ ALLG, w.before _ s = true := fun w h => hts0 w (List.mem_cons_of_mem _ h)
  rw [← hAe]
  have hl : lv_has ls 2 [(0, .ref (q 0)), (1, .int (nI k))] := hl
  refine lv_aload_n hx hb dX2_wayAround_0 rfl (lv_at hl 0 rfl) ?_
  refine lv_iload_n hx hb dX2_wayAround_1 rfl (lv_at hl 1 rfl) ?_
  refine lv_iconst (v := nI 1) hx hb dX2_wayAround_2 (by decide) ?_
  rcases Nat.eq_zero_or_pos k with h0 | h0
  · skip
    refine lv_isub hx hb dX2_wayAround_3 ?_
    refine xt_i (show nI k - nI 1 = zI (-1) by rw [h0]; decide) ?_
    refine xc_Vi (As := [.int (zI (-1))]) (wr := []) ⟨hx, hb, hml, hown, hts⟩ (c_Rows_wbM l dC dI q cI cZ H.size r) (cwV 1 hts (gV tw_149 tw_151 sw_0 tw_2 tw_152) rfl rfl rfl (by decide +kernel) ⟨Nat.le_of_ble_eq_true rfl, Nat.le_of_ble_eq_true rfl⟩) rfl hl.1 rfl (Nat.le_of_ble_eq_true rfl) dX2_wayAround_4 ⟨Nat.zero_le _, Nat.zero_le _⟩ hP hD hK hS hA [0, 1, 2, 3, 4, 5, 6, 7, 8, 9] [] rfl rfl (by decide) (by decide) (by decide) [0, 1] rfl (q0 := 0) rfl rfl rfl eT_M (trivial) (fun r_1 u_2 H locs w_3 hP hD hS => ?_)
    obtain rfl := w_3
    have hP : va_P (dC, dI) vwCl (wR q cI cZ r) H := hP
    have hD : va_D A (wR q cI cZ r) := hD
    refine lv_aload_n hx hb dX2_wayAround_7 rfl (lv_at hl 0 rfl) ?_
    refine lv_iload_n hx hb dX2_wayAround_8 rfl (lv_at hl 1 rfl) ?_
    refine xc_Vi (As := [.int (nI k)]) (wr := []) ⟨hx, hb, hml, hown, hts⟩ (c_Rows_wayBehind l dC dI q cI cZ H.size r k hB (by omega)) (cwV 1 hts (gV tw_149 tw_151 sw_0 tw_2 tw_152) rfl rfl rfl (by decide +kernel) ⟨Nat.le_of_ble_eq_true rfl, Nat.le_of_ble_eq_true rfl⟩) rfl hl.1 rfl (Nat.le_of_ble_eq_true rfl) dX2_wayAround_9 ⟨Nat.zero_le _, Nat.zero_le _⟩ hP hD hK hS hA [0, 1, 2, 3, 4, 5, 6, 7, 8, 9] [] rfl rfl (by decide) (by decide) (by decide) [0, 1] rfl (q0 := 0) rfl rfl rfl eT_M (trivial) (fun r_4 u_5 H locs w_6 hP hD hS => ?_)
    obtain rfl := w_6
    have hP : va_P (dC, dI) vwCl (wR q cI cZ r) H := hP
    have hD : va_D A (wR q cI cZ r) := hD
    refine xn_add hx hb dX2_wayAround_12 ?_
    exact xr_i hx hb hr hlk (u := ()) (by unfold wa; first | rw [if_pos h0] | rw [if_neg (by omega)]) hP hK hD hS dX2_wayAround_13
  · skip
    refine xn_sub hx hb (by omega) dX2_wayAround_3 ?_
    refine xc_Vi (As := [.int (nI (k - 1))]) (wr := []) ⟨hx, hb, hml, hown, hts⟩ (c_Rows_wayBehind l dC dI q cI cZ H.size r (k - 1) hB (by omega)) (cwV 1 hts (gV tw_149 tw_151 sw_0 tw_2 tw_152) rfl rfl rfl (by decide +kernel) ⟨Nat.le_of_ble_eq_true rfl, Nat.le_of_ble_eq_true rfl⟩) rfl hl.1 rfl (Nat.le_of_ble_eq_true rfl) dX2_wayAround_4 ⟨Nat.zero_le _, Nat.zero_le _⟩ hP hD hK hS hA [0, 1, 2, 3, 4, 5, 6, 7, 8, 9] [] rfl rfl (by decide) (by decide) (by decide) [0, 1] rfl (q0 := 0) rfl rfl rfl eT_M (trivial) (fun r_7 u_8 H locs w_9 hP hD hS => ?_)
    obtain rfl := w_9
    have hP : va_P (dC, dI) vwCl (wR q cI cZ r) H := hP
    have hD : va_D A (wR q cI cZ r) := hD
    refine lv_aload_n hx hb dX2_wayAround_7 rfl (lv_at hl 0 rfl) ?_
    refine lv_iload_n hx hb dX2_wayAround_8 rfl (lv_at hl 1 rfl) ?_
    refine xc_Vi (As := [.int (nI k)]) (wr := []) ⟨hx, hb, hml, hown, hts⟩ (c_Rows_wayBehind l dC dI q cI cZ H.size r k hB (by omega)) (cwV 1 hts (gV tw_149 tw_151 sw_0 tw_2 tw_152) rfl rfl rfl (by decide +kernel) ⟨Nat.le_of_ble_eq_true rfl, Nat.le_of_ble_eq_true rfl⟩) rfl hl.1 rfl (Nat.le_of_ble_eq_true rfl) dX2_wayAround_9 ⟨Nat.zero_le _, Nat.zero_le _⟩ hP hD hK hS hA [0, 1, 2, 3, 4, 5, 6, 7, 8, 9] [] rfl rfl (by decide) (by decide) (by decide) [0, 1] rfl (q0 := 0) rfl rfl rfl eT_M (trivial) (fun r_10 u_11 H locs w_12 hP hD hS => ?_)
    obtain rfl := w_12
    have hP : va_P (dC, dI) vwCl (wR q cI cZ r) H := hP
    have hD : va_D A (wR q cI cZ r) := hD
    refine xn_add hx hb dX2_wayAround_12 ?_
    exact xr_i hx hb hr hlk (u := ()) (by unfold wa; first | rw [if_pos h0] | rw [if_neg (by omega)]) hP hK hD hS dX2_wayAround_13
set_option maxHeartbeats 4000000 in
set_option maxRecDepth 100000 in
theorem c_Rows_mayExchange (l : Launch) (dC : Nat → ClassId) (dI : Nat → Nat → Nat) (q : Nat → Nat) (cI cZ : ClassId) (sz : Nat) (r : RS) (i j : Nat) (hB : RB r) (h1 : i < 32) (h2 : j < 32) : Met l yX2_mayExchange (.code yX2_mayExchange cX2_mayExchange 3 (some .boolean) :: ALLG) ({ frames := 0, cells := 0, slots := 0, locals := 0 }) (va_Pc [.ref (q 0), .int (nI i), .int (nI j)] (cP (dC, dI) vwCl [(cI, .int), (cZ, .boolean)] (wR q cI cZ r) eT sz)) (va_Qi (fun (x : Int32) (_ : Unit) => x = nI (mayN r i j)) (fun (_ : Unit) => cB (dC, dI) vwCl [(cI, .int), (cZ, .boolean)] (wR q cI cZ r) (va_A (wR q cI cZ r) sz)) (va_A (wR q cI cZ r) sz)) 0 0 (va_A (wR q cI cZ r) sz) := by
  refine xm_of (cc := cX2_mayExchange) (maxL := 3) (ret := some .boolean) (by decide) rfl (Nat.le_of_ble_eq_true rfl) ?_
  intro p e s m below meth c A hAe hx hb hr hml hts0 hown hlk hin hsz H locs hP hK hD hA hS hE ls hl
  have hts : ∀ w ∈ ALLG, w.before _ s = true := fun w h => hts0 w (List.mem_cons_of_mem _ h)
  rw [← hAe]
  obtain ⟨b_n, b_c, b_p, b_vb, b_ck, b_xx, b_yy, b_fl, b_po, b_rw, b_ch, b_st⟩ := hB
  have g1 := b_ck i
  have g2 := b_ck j
  have g3 := b_po i
  have g4 := b_po j
  have hl : lv_has ls 3 [(0, .ref (q 0)), (1, .int (nI i)), (2, .int (nI j))] := hl
  refine lv_aload_n hx hb dX2_mayExchange_0 rfl (lv_at hl 0 rfl) ?_
  refine va_get (D := (dC, dI)) (ci := 2) (v := .ref (q 2)) (C := RX2) (T := TX2) (N := 12) hx hb hts inX2 hown hK hP 0 rfl rfl 4 (by decide) (hts _ tw_35) (fun _ h9 => h9) rfl dX2_mayExchange_1 ?_
  refine lv_iload_n hx hb dX2_mayExchange_4 rfl (lv_at hl 1 rfl) ?_
  refine xa_ild hx hb hK hP 2 0 rfl rfl (v := nI ((RS.ck r) i)) (by omega) (by decide) rfl dX2_mayExchange_5 ?_
  refine lv_aload_n hx hb dX2_mayExchange_6 rfl (lv_at hl 0 rfl) ?_
  refine va_get (D := (dC, dI)) (ci := 2) (v := .ref (q 2)) (C := RX2) (T := TX2) (N := 12) hx hb hts inX2 hown hK hP 0 rfl rfl 4 (by decide) (hts _ tw_35) (fun _ h9 => h9) rfl dX2_mayExchange_7 ?_
  refine lv_iload_n hx hb dX2_mayExchange_10 rfl (lv_at hl 2 rfl) ?_
  refine xa_ild hx hb hK hP 2 0 rfl rfl (v := nI ((RS.ck r) j)) (by omega) (by decide) rfl dX2_mayExchange_11 ?_
  refine xn_cne (tgt := 39) hx hb (by omega) (by omega) dX2_mayExchange_12 (by decide) (fun c_1 => ?_) (fun c_1 => ?_)
  · refine lv_iconst (v := nI 0) hx hb dX2_mayExchange_39 (by decide) ?_
    exact xr_z hx hb hr hlk (by decide) (u := ()) (by unfold mayN; first | rw [if_pos ⟨by assumption, by assumption, by assumption⟩] | rw [if_neg (fun h => absurd h.1 (by assumption))] | rw [if_neg (fun h => h.2.1 (by assumption))] | rw [if_neg (fun h => h.2.2 (by assumption))]) hP hK hD hS dX2_mayExchange_40
  · refine lv_aload_n hx hb dX2_mayExchange_15 rfl (lv_at hl 0 rfl) ?_
    refine va_get (D := (dC, dI)) (ci := 2) (v := .ref (q 6)) (C := RX2) (T := TX2) (N := 12) hx hb hts inX2 hown hK hP 0 rfl rfl 8 (by decide) (hts _ tw_39) (fun _ h9 => h9) rfl dX2_mayExchange_16 ?_
    refine lv_iload_n hx hb dX2_mayExchange_19 rfl (lv_at hl 1 rfl) ?_
    refine xa_ild hx hb hK hP 6 0 rfl rfl (v := zI ((RS.po r) i)) (by omega) (by decide) rfl dX2_mayExchange_20 ?_
    refine lv_iconst (v := zI (-1)) hx hb dX2_mayExchange_21 (by decide) ?_
    refine xz_ceq (tgt := 39) hx hb (by omega) (by omega) (by omega) (by omega) dX2_mayExchange_22 (by decide) (fun c_2 => ?_) (fun c_2 => ?_)
    · refine lv_iconst (v := nI 0) hx hb dX2_mayExchange_39 (by decide) ?_
      exact xr_z hx hb hr hlk (by decide) (u := ()) (by unfold mayN; first | rw [if_pos ⟨by assumption, by assumption, by assumption⟩] | rw [if_neg (fun h => absurd h.1 (by assumption))] | rw [if_neg (fun h => h.2.1 (by assumption))] | rw [if_neg (fun h => h.2.2 (by assumption))]) hP hK hD hS dX2_mayExchange_40
    · refine lv_aload_n hx hb dX2_mayExchange_25 rfl (lv_at hl 0 rfl) ?_
      refine va_get (D := (dC, dI)) (ci := 2) (v := .ref (q 6)) (C := RX2) (T := TX2) (N := 12) hx hb hts inX2 hown hK hP 0 rfl rfl 8 (by decide) (hts _ tw_39) (fun _ h9 => h9) rfl dX2_mayExchange_26 ?_
      refine lv_iload_n hx hb dX2_mayExchange_29 rfl (lv_at hl 2 rfl) ?_
      refine xa_ild hx hb hK hP 6 0 rfl rfl (v := zI ((RS.po r) j)) (by omega) (by decide) rfl dX2_mayExchange_30 ?_
      refine lv_iconst (v := zI (-1)) hx hb dX2_mayExchange_31 (by decide) ?_
      refine xz_ceq (tgt := 39) hx hb (by omega) (by omega) (by omega) (by omega) dX2_mayExchange_32 (by decide) (fun c_3 => ?_) (fun c_3 => ?_)
      · refine lv_iconst (v := nI 0) hx hb dX2_mayExchange_39 (by decide) ?_
        exact xr_z hx hb hr hlk (by decide) (u := ()) (by unfold mayN; first | rw [if_pos ⟨by assumption, by assumption, by assumption⟩] | rw [if_neg (fun h => absurd h.1 (by assumption))] | rw [if_neg (fun h => h.2.1 (by assumption))] | rw [if_neg (fun h => h.2.2 (by assumption))]) hP hK hD hS dX2_mayExchange_40
      · refine lv_iconst (v := nI 1) hx hb dX2_mayExchange_35 (by decide) ?_
        refine lv_goto (tgt := 40) hx hb dX2_mayExchange_36 (by decide) ?_
        exact xr_z hx hb hr hlk (by decide) (u := ()) (by unfold mayN; first | rw [if_pos ⟨by assumption, by assumption, by assumption⟩] | rw [if_neg (fun h => absurd h.1 (by assumption))] | rw [if_neg (fun h => h.2.1 (by assumption))] | rw [if_neg (fun h => h.2.2 (by assumption))]) hP hK hD hS dX2_mayExchange_40
set_option maxHeartbeats 4000000 in
set_option maxRecDepth 100000 in
theorem c_Rows_exchange (l : Launch) (dC : Nat → ClassId) (dI : Nat → Nat → Nat) (q : Nat → Nat) (cI cZ : ClassId) (sz : Nat) (r : RS) (i j : Nat) (hB : RB r) (h1 : i < 32) (h2 : j < 32) : Met l yX2_exchange (.code yX2_exchange cX2_exchange 4 none :: ALLG) ({ frames := 0, cells := 0, slots := 0, locals := 0 }) (va_Pc [.ref (q 0), .int (nI i), .int (nI j)] (cP (dC, dI) vwCl [(cI, .int), (cZ, .boolean)] (wR q cI cZ r) eT sz)) (va_Qv (fun (u : RS) => u = exch r i j) (fun (u : RS) => cB (dC, dI) vwCl [(cI, .int), (cZ, .boolean)] (wR q cI cZ u) (va_A (wR q cI cZ r) sz)) (va_A (wR q cI cZ r) sz)) 0 0 (va_A (wR q cI cZ r) sz) := by
  refine xm_of (cc := cX2_exchange) (maxL := 4) (ret := none) (by decide) rfl (Nat.le_of_ble_eq_true rfl) ?_
  intro p e s m below meth c A hAe hx hb hr hml hts0 hown hlk hin hsz H locs hP hK hD hA hS hE ls hl
  have hts : ∀ w ∈ ALLG, w.before _ s = true := fun w h => hts0 w (List.mem_cons_of_mem _ h)
  rw [← hAe]
  obtain ⟨b_n, b_c, b_p, b_vb, b_ck, b_xx, b_yy, b_fl, b_po, b_rw, b_ch, b_st⟩ := hB
  have hl : lv_has ls 4 [(0, .ref (q 0)), (1, .int (nI i)), (2, .int (nI j))] := hl
  refine lv_aload_n hx hb dX2_exchange_0 rfl (lv_at hl 0 rfl) ?_
  refine va_get (D := (dC, dI)) (ci := 2) (v := .ref (q 7)) (C := RX2) (T := TX2) (N := 12) hx hb hts inX2 hown hK hP 0 rfl rfl 9 (by decide) (hts _ tw_40) (fun _ h9 => h9) rfl dX2_exchange_1 ?_
  refine lv_iload_n hx hb dX2_exchange_4 rfl (lv_at hl 1 rfl) ?_
  refine xa_ild hx hb hK hP 7 0 rfl rfl (v := nI ((RS.rw r) i)) (by omega) (by decide) rfl dX2_exchange_5 ?_
  refine lv_istore_n (lv' := [(3, .int (nI ((RS.rw r) i))), (0, .ref (q 0)), (1, .int (nI i)), (2, .int (nI j))]) hx hb dX2_exchange_6 rfl hl (by decide) rfl (fun ls hl => ?_)
  refine lv_aload_n hx hb dX2_exchange_7 rfl (lv_at hl 1 rfl) ?_
  refine va_get (D := (dC, dI)) (ci := 2) (v := .ref (q 7)) (C := RX2) (T := TX2) (N := 12) hx hb hts inX2 hown hK hP 0 rfl rfl 9 (by decide) (hts _ tw_40) (fun _ h9 => h9) rfl dX2_exchange_8 ?_
  refine lv_iload_n hx hb dX2_exchange_11 rfl (lv_at hl 2 rfl) ?_
  refine lv_aload_n hx hb dX2_exchange_12 rfl (lv_at hl 1 rfl) ?_
  refine va_get (D := (dC, dI)) (ci := 2) (v := .ref (q 7)) (C := RX2) (T := TX2) (N := 12) hx hb hts inX2 hown hK hP 0 rfl rfl 9 (by decide) (hts _ tw_40) (fun _ h9 => h9) rfl dX2_exchange_13 ?_
  refine lv_iload_n hx hb dX2_exchange_16 rfl (lv_at hl 3 rfl) ?_
  refine xa_ild hx hb hK hP 7 0 rfl rfl (v := nI ((RS.rw r) j)) (by omega) (by decide) rfl dX2_exchange_17 ?_
  refine xa_ist hx hb hK hP hD hS 7 0 rfl rfl (by omega) (by decide) (aN_up _ _ _) dX2_exchange_18 (fun H locs hP hD hS => ?_)
  have hP : va_P (dC, dI) vwCl (wR q cI cZ (RS.s_rw r (va_up (RS.rw r) i ((RS.rw r) j)))) H := hP
  have hD : va_D A (wR q cI cZ (RS.s_rw r (va_up (RS.rw r) i ((RS.rw r) j)))) := hD
  refine lv_aload_n hx hb dX2_exchange_19 rfl (lv_at hl 1 rfl) ?_
  refine va_get (D := (dC, dI)) (ci := 2) (v := .ref (q 7)) (C := RX2) (T := TX2) (N := 12) hx hb hts inX2 hown hK hP 0 rfl rfl 9 (by decide) (hts _ tw_40) (fun _ h9 => h9) rfl dX2_exchange_20 ?_
  refine lv_iload_n hx hb dX2_exchange_23 rfl (lv_at hl 3 rfl) ?_
  refine lv_iload_n hx hb dX2_exchange_24 rfl (lv_at hl 0 rfl) ?_
  refine xa_ist hx hb hK hP hD hS 7 0 rfl rfl (by omega) (by decide) (aN_up _ _ _) dX2_exchange_25 (fun H locs hP hD hS => ?_)
  have hP : va_P (dC, dI) vwCl (wR q cI cZ (RS.s_rw (RS.s_rw r (va_up (RS.rw r) i ((RS.rw r) j))) (va_up (va_up (RS.rw r) i ((RS.rw r) j)) j ((RS.rw r) i)))) H := hP
  have hD : va_D A (wR q cI cZ (RS.s_rw (RS.s_rw r (va_up (RS.rw r) i ((RS.rw r) j))) (va_up (va_up (RS.rw r) i ((RS.rw r) j)) j ((RS.rw r) i)))) := hD
  refine lv_aload_n hx hb dX2_exchange_26 rfl (lv_at hl 1 rfl) ?_
  refine va_get (D := (dC, dI)) (ci := 2) (v := .ref (q 6)) (C := RX2) (T := TX2) (N := 12) hx hb hts inX2 hown hK hP 0 rfl rfl 8 (by decide) (hts _ tw_39) (fun _ h9 => h9) rfl dX2_exchange_27 ?_
  refine lv_aload_n hx hb dX2_exchange_30 rfl (lv_at hl 1 rfl) ?_
  refine va_get (D := (dC, dI)) (ci := 2) (v := .ref (q 7)) (C := RX2) (T := TX2) (N := 12) hx hb hts inX2 hown hK hP 0 rfl rfl 9 (by decide) (hts _ tw_40) (fun _ h9 => h9) rfl dX2_exchange_31 ?_
  refine lv_iload_n hx hb dX2_exchange_34 rfl (lv_at hl 2 rfl) ?_
  refine xa_ild hx hb hK hP 7 0 rfl rfl (v := nI ((va_up (va_up (RS.rw r) i ((RS.rw r) j)) j ((RS.rw r) i)) i)) (by omega) (by decide) rfl dX2_exchange_35 ?_
  refine lv_iload_n hx hb dX2_exchange_36 rfl (lv_at hl 2 rfl) ?_
  refine xa_ist hx hb hK hP hD hS 6 0 rfl rfl (up_lt (up_lt b_rw (b_rw _) _) (b_rw _) _ _) (by decide) (aZ_upN _ _ _) dX2_exchange_37 (fun H locs hP hD hS => ?_)
  have hP : va_P (dC, dI) vwCl (wR q cI cZ (RS.s_po (RS.s_rw (RS.s_rw r (va_up (RS.rw r) i ((RS.rw r) j))) (va_up (va_up (RS.rw r) i ((RS.rw r) j)) j ((RS.rw r) i))) (va_up (RS.po r) ((va_up (va_up (RS.rw r) i ((RS.rw r) j)) j ((RS.rw r) i)) i) ((i : Nat) : Int)))) H := hP
  have hD : va_D A (wR q cI cZ (RS.s_po (RS.s_rw (RS.s_rw r (va_up (RS.rw r) i ((RS.rw r) j))) (va_up (va_up (RS.rw r) i ((RS.rw r) j)) j ((RS.rw r) i))) (va_up (RS.po r) ((va_up (va_up (RS.rw r) i ((RS.rw r) j)) j ((RS.rw r) i)) i) ((i : Nat) : Int)))) := hD
  refine lv_aload_n hx hb dX2_exchange_38 rfl (lv_at hl 1 rfl) ?_
  refine va_get (D := (dC, dI)) (ci := 2) (v := .ref (q 6)) (C := RX2) (T := TX2) (N := 12) hx hb hts inX2 hown hK hP 0 rfl rfl 8 (by decide) (hts _ tw_39) (fun _ h9 => h9) rfl dX2_exchange_39 ?_
  refine lv_aload_n hx hb dX2_exchange_42 rfl (lv_at hl 1 rfl) ?_
  refine va_get (D := (dC, dI)) (ci := 2) (v := .ref (q 7)) (C := RX2) (T := TX2) (N := 12) hx hb hts inX2 hown hK hP 0 rfl rfl 9 (by decide) (hts _ tw_40) (fun _ h9 => h9) rfl dX2_exchange_43 ?_
  refine lv_iload_n hx hb dX2_exchange_46 rfl (lv_at hl 3 rfl) ?_
  refine xa_ild hx hb hK hP 7 0 rfl rfl (v := nI ((va_up (va_up (RS.rw r) i ((RS.rw r) j)) j ((RS.rw r) i)) j)) (by omega) (by decide) rfl dX2_exchange_47 ?_
  refine lv_iload_n hx hb dX2_exchange_48 rfl (lv_at hl 3 rfl) ?_
  refine xa_ist hx hb hK hP hD hS 6 0 rfl rfl (up_lt (up_lt b_rw (b_rw _) _) (b_rw _) _ _) (by decide) (aZ_upN _ _ _) dX2_exchange_49 (fun H locs hP hD hS => ?_)
  have hP : va_P (dC, dI) vwCl (wR q cI cZ (RS.s_po (RS.s_po (RS.s_rw (RS.s_rw r (va_up (RS.rw r) i ((RS.rw r) j))) (va_up (va_up (RS.rw r) i ((RS.rw r) j)) j ((RS.rw r) i))) (va_up (RS.po r) ((va_up (va_up (RS.rw r) i ((RS.rw r) j)) j ((RS.rw r) i)) i) ((i : Nat) : Int))) (va_up (va_up (RS.po r) ((va_up (va_up (RS.rw r) i ((RS.rw r) j)) j ((RS.rw r) i)) i) ((i : Nat) : Int)) ((va_up (va_up (RS.rw r) i ((RS.rw r) j)) j ((RS.rw r) i)) j) ((j : Nat) : Int)))) H := hP
  have hD : va_D A (wR q cI cZ (RS.s_po (RS.s_po (RS.s_rw (RS.s_rw r (va_up (RS.rw r) i ((RS.rw r) j))) (va_up (va_up (RS.rw r) i ((RS.rw r) j)) j ((RS.rw r) i))) (va_up (RS.po r) ((va_up (va_up (RS.rw r) i ((RS.rw r) j)) j ((RS.rw r) i)) i) ((i : Nat) : Int))) (va_up (va_up (RS.po r) ((va_up (va_up (RS.rw r) i ((RS.rw r) j)) j ((RS.rw r) i)) i) ((i : Nat) : Int)) ((va_up (va_up (RS.rw r) i ((RS.rw r) j)) j ((RS.rw r) i)) j) ((j : Nat) : Int)))) := hD
  exact xr_v hx hb hr hlk (u := RS.s_po (RS.s_po (RS.s_rw (RS.s_rw r (va_up (RS.rw r) i ((RS.rw r) j))) (va_up (va_up (RS.rw r) i ((RS.rw r) j)) j ((RS.rw r) i))) (va_up (RS.po r) ((va_up (va_up (RS.rw r) i ((RS.rw r) j)) j ((RS.rw r) i)) i) ((i : Nat) : Int))) (va_up (va_up (RS.po r) ((va_up (va_up (RS.rw r) i ((RS.rw r) j)) j ((RS.rw r) i)) i) ((i : Nat) : Int)) ((va_up (va_up (RS.rw r) i ((RS.rw r) j)) j ((RS.rw r) i)) j) ((j : Nat) : Int))) rfl hP hK hD hS dX2_exchange_50
set_option maxHeartbeats 4000000 in
set_option maxRecDepth 100000 in
theorem c_Rows_breaks (l : Launch) (dC : Nat → ClassId) (dI : Nat → Nat → Nat) (q : Nat → Nat) (cI cZ : ClassId) (sz : Nat) (r : RS) (i j : Nat) (hB : RB r) (h1 : i < 32) (h2 : j < 2) : Met l yX2_breaks (.code yX2_breaks cX2_breaks 3 (some .boolean) :: ALLG) ({ frames := 0, cells := 0, slots := 0, locals := 0 }) (va_Pc [.ref (q 0), .int (nI i), .int (nI j)] (cP (dC, dI) vwCl [(cI, .int), (cZ, .boolean)] (wR q cI cZ r) eT sz)) (va_Qi (fun (x : Int32) (_ : Unit) => x = nI (brk r i j)) (fun (_ : Unit) => cB (dC, dI) vwCl [(cI, .int), (cZ, .boolean)] (wR q cI cZ r) (va_A (wR q cI cZ r) sz)) (va_A (wR q cI cZ r) sz)) 0 0 (va_A (wR q cI cZ r) sz) := by
  refine xm_of (cc := cX2_breaks) (maxL := 3) (ret := some .boolean) (by decide) rfl (Nat.le_of_ble_eq_true rfl) ?_
  intro p e s m below meth c A hAe hx hb hr hml hts0 hown hlk hin hsz H locs hP hK hD hA hS hE ls hl
  have hts : ∀ w ∈ ALLG, w.before _ s = true := fun w h => hts0 w (List.mem_cons_of_mem _ h)
  rw [← hAe]
  obtain ⟨b_n, b_c, b_p, b_vb, b_ck, b_xx, b_yy, b_fl, b_po, b_rw, b_ch, b_st⟩ := hB
  have g1 := b_fl i
  have g2 := b_po i
  have hl : lv_has ls 3 [(0, .ref (q 0)), (1, .int (nI i)), (2, .int (nI j))] := hl
  refine lv_iload_n hx hb dX2_breaks_0 rfl (lv_at hl 2 rfl) ?_
  refine xn_zne (tgt := 13) hx hb (by omega) dX2_breaks_1 (by decide) (fun c_1 => ?_) (fun c_1 => ?_)
  · refine lv_aload_n hx hb dX2_breaks_13 rfl (lv_at hl 0 rfl) ?_
    refine va_get (D := (dC, dI)) (ci := 2) (v := .ref (q 6)) (C := RX2) (T := TX2) (N := 12) hx hb hts inX2 hown hK hP 0 rfl rfl 8 (by decide) (hts _ tw_39) (fun _ h9 => h9) rfl dX2_breaks_14 ?_
    refine lv_iload_n hx hb dX2_breaks_17 rfl (lv_at hl 1 rfl) ?_
    refine xa_ild hx hb hK hP 6 0 rfl rfl (v := zI ((RS.po r) i)) (by omega) (by decide) rfl dX2_breaks_18 ?_
    refine lv_iconst (v := zI (-1)) hx hb dX2_breaks_19 (by decide) ?_
    refine xz_cne (tgt := 27) hx hb (by omega) (by omega) (by omega) (by omega) dX2_breaks_20 (by decide) (fun c_2 => ?_) (fun c_2 => ?_)
    · refine lv_iconst (v := nI 0) hx hb dX2_breaks_27 (by decide) ?_
      exact xr_z hx hb hr hlk (by decide) (u := ()) (by unfold brk; first | rw [if_pos (by assumption)] | rw [if_neg (by omega), if_pos (by assumption)] | rw [if_neg (by omega), if_neg (by assumption)]) hP hK hD hS dX2_breaks_28
    · refine lv_iconst (v := nI 1) hx hb dX2_breaks_23 (by decide) ?_
      refine lv_goto (tgt := 28) hx hb dX2_breaks_24 (by decide) ?_
      exact xr_z hx hb hr hlk (by decide) (u := ()) (by unfold brk; first | rw [if_pos (by assumption)] | rw [if_neg (by omega), if_pos (by assumption)] | rw [if_neg (by omega), if_neg (by assumption)]) hP hK hD hS dX2_breaks_28
  · refine lv_aload_n hx hb dX2_breaks_4 rfl (lv_at hl 0 rfl) ?_
    refine va_get (D := (dC, dI)) (ci := 2) (v := .ref (q 5)) (C := RX2) (T := TX2) (N := 12) hx hb hts inX2 hown hK hP 0 rfl rfl 7 (by decide) (hts _ tw_38) (fun _ h9 => h9) rfl dX2_breaks_5 ?_
    refine lv_iload_n hx hb dX2_breaks_8 rfl (lv_at hl 1 rfl) ?_
    refine xa_zld hx hb hK hP 5 1 rfl rfl (v := nI ((RS.fl r) i)) (by omega) (by decide) rfl dX2_breaks_9 ?_
    refine lv_goto (tgt := 28) hx hb dX2_breaks_10 (by decide) ?_
    exact xr_z hx hb hr hlk (nar01v (by omega)) (u := ()) (by unfold brk; first | rw [if_pos (by assumption)] | rw [if_neg (by omega), if_pos (by assumption)] | rw [if_neg (by omega), if_neg (by assumption)]) hP hK hD hS dX2_breaks_28
set_option maxHeartbeats 4000000 in
set_option maxRecDepth 100000 in
theorem c_Rows_changeSet (l : Launch) (dC : Nat → ClassId) (dI : Nat → Nat → Nat) (q : Nat → Nat) (cI cZ : ClassId) (sz : Nat) (r : RS) (i f : Nat) (hB : RB r) (h1 : i < 32) (h2 : f < 2) : Met l yX2_changeSet (.code yX2_changeSet cX2_changeSet 4 (some .boolean) :: ALLG) ({ frames := 0, cells := 0, slots := 0, locals := 0 }) (va_Pc [.ref (q 0), .int (nI i), .int (nI f)] (cP (dC, dI) vwCl [(cI, .int), (cZ, .boolean)] (wR q cI cZ r) eT sz)) (va_Qi (fun (x : Int32) (u : RS) => x = nI (if r.fl i = f then 0 else 1) ∧ u = r.s_fl (va_up r.fl i f)) (fun (u : RS) => cB (dC, dI) vwCl [(cI, .int), (cZ, .boolean)] (wR q cI cZ u) (va_A (wR q cI cZ r) sz)) (va_A (wR q cI cZ r) sz)) 0 0 (va_A (wR q cI cZ r) sz) := by
  refine xm_of (cc := cX2_changeSet) (maxL := 4) (ret := some .boolean) (by decide) rfl (Nat.le_of_ble_eq_true rfl) ?_
  intro p e s m below meth c A hAe hx hb hr hml hts0 hown hlk hin hsz H locs hP hK hD hA hS hE ls hl
  have hts : ∀ w ∈ ALLG, w.before _ s = true := fun w h => hts0 w (List.mem_cons_of_mem _ h)
  rw [← hAe]
  obtain ⟨b_n, b_c, b_p, b_vb, b_ck, b_xx, b_yy, b_fl, b_po, b_rw, b_ch, b_st⟩ := hB
  have g1 := b_fl i
  have hl : lv_has ls 4 [(0, .ref (q 0)), (1, .int (nI i)), (2, .int (nI f))] := hl
  refine lv_aload_n hx hb dX2_changeSet_0 rfl (lv_at hl 0 rfl) ?_
  refine va_get (D := (dC, dI)) (ci := 2) (v := .ref (q 5)) (C := RX2) (T := TX2) (N := 12) hx hb hts inX2 hown hK hP 0 rfl rfl 7 (by decide) (hts _ tw_38) (fun _ h9 => h9) rfl dX2_changeSet_1 ?_
  refine lv_iload_n hx hb dX2_changeSet_4 rfl (lv_at hl 1 rfl) ?_
  refine xa_zld hx hb hK hP 5 1 rfl rfl (v := nI ((RS.fl r) i)) (by omega) (by decide) rfl dX2_changeSet_5 ?_
  refine lv_iload_n hx hb dX2_changeSet_6 rfl (lv_at hl 2 rfl) ?_
  refine xn_ceq (tgt := 14) hx hb (by omega) (by omega) dX2_changeSet_7 (by decide) (fun c_1 => ?_) (fun c_1 => ?_)
  · refine lv_iconst (v := nI 0) hx hb dX2_changeSet_14 (by decide) ?_
    refine lv_istore_n (lv' := [(3, .int (nI 0)), (0, .ref (q 0)), (1, .int (nI i)), (2, .int (nI f))]) hx hb dX2_changeSet_15 rfl hl (by decide) rfl (fun ls hl => ?_)
    refine lv_aload_n hx hb dX2_changeSet_16 rfl (lv_at hl 1 rfl) ?_
    refine va_get (D := (dC, dI)) (ci := 2) (v := .ref (q 5)) (C := RX2) (T := TX2) (N := 12) hx hb hts inX2 hown hK hP 0 rfl rfl 7 (by decide) (hts _ tw_38) (fun _ h9 => h9) rfl dX2_changeSet_17 ?_
    refine lv_iload_n hx hb dX2_changeSet_20 rfl (lv_at hl 2 rfl) ?_
    refine lv_iload_n hx hb dX2_changeSet_21 rfl (lv_at hl 3 rfl) ?_
    refine xa_zst hx hb hK hP hD hS 5 1 rfl rfl (by omega) (by decide) (nar01 h2) (aN_up _ _ _) dX2_changeSet_22 (fun H locs hP hD hS => ?_)
    have hP : va_P (dC, dI) vwCl (wR q cI cZ (RS.s_fl r (va_up (RS.fl r) i f))) H := hP
    have hD : va_D A (wR q cI cZ (RS.s_fl r (va_up (RS.fl r) i f))) := hD
    refine lv_iload_n hx hb dX2_changeSet_23 rfl (lv_at hl 0 rfl) ?_
    exact xr_z hx hb hr hlk (by decide) (u := RS.s_fl r (va_up (RS.fl r) i f)) (⟨by first | rw [if_pos (by assumption)] | rw [if_neg (by assumption)], rfl⟩) hP hK hD hS dX2_changeSet_24
  · refine lv_iconst (v := nI 1) hx hb dX2_changeSet_10 (by decide) ?_
    refine lv_goto (tgt := 15) hx hb dX2_changeSet_11 (by decide) ?_
    refine lv_istore_n (lv' := [(3, .int (nI 1)), (0, .ref (q 0)), (1, .int (nI i)), (2, .int (nI f))]) hx hb dX2_changeSet_15 rfl hl (by decide) rfl (fun ls hl => ?_)
    refine lv_aload_n hx hb dX2_changeSet_16 rfl (lv_at hl 1 rfl) ?_
    refine va_get (D := (dC, dI)) (ci := 2) (v := .ref (q 5)) (C := RX2) (T := TX2) (N := 12) hx hb hts inX2 hown hK hP 0 rfl rfl 7 (by decide) (hts _ tw_38) (fun _ h9 => h9) rfl dX2_changeSet_17 ?_
    refine lv_iload_n hx hb dX2_changeSet_20 rfl (lv_at hl 2 rfl) ?_
    refine lv_iload_n hx hb dX2_changeSet_21 rfl (lv_at hl 3 rfl) ?_
    refine xa_zst hx hb hK hP hD hS 5 1 rfl rfl (by omega) (by decide) (nar01 h2) (aN_up _ _ _) dX2_changeSet_22 (fun H locs hP hD hS => ?_)
    have hP : va_P (dC, dI) vwCl (wR q cI cZ (RS.s_fl r (va_up (RS.fl r) i f))) H := hP
    have hD : va_D A (wR q cI cZ (RS.s_fl r (va_up (RS.fl r) i f))) := hD
    refine lv_iload_n hx hb dX2_changeSet_23 rfl (lv_at hl 0 rfl) ?_
    exact xr_z hx hb hr hlk (by decide) (u := RS.s_fl r (va_up (RS.fl r) i f)) (⟨by first | rw [if_pos (by assumption)] | rw [if_neg (by assumption)], rfl⟩) hP hK hD hS dX2_changeSet_24
set_option maxHeartbeats 4000000 in
set_option maxRecDepth 100000 in
theorem c_Rows_addLatch (l : Launch) (dC : Nat → ClassId) (dI : Nat → Nat → Nat) (q : Nat → Nat) (cI cZ : ClassId) (sz : Nat) (r : RS) (ck : Nat) (xx yy : Int) (h1 : r.n < 32) : Met l yX2_addLatch (.code yX2_addLatch cX2_addLatch 5 (some .int) :: ALLG) ({ frames := 0, cells := 0, slots := 0, locals := 0 }) (va_Pc [.ref (q 0), .int (nI ck), .int (zI xx), .int (zI yy)] (cP (dC, dI) vwCl [(cI, .int), (cZ, .boolean)] (wR q cI cZ r) eT sz)) (va_Qi (fun (x : Int32) (u : RS) => x = nI r.n ∧ u = addL r ck xx yy) (fun (u : RS) => cB (dC, dI) vwCl [(cI, .int), (cZ, .boolean)] (wR q cI cZ u) (va_A (wR q cI cZ r) sz)) (va_A (wR q cI cZ r) sz)) 0 0 (va_A (wR q cI cZ r) sz) := by
  refine xm_of (cc := cX2_addLatch) (maxL := 5) (ret := some .int) (by decide) rfl (Nat.le_of_ble_eq_true rfl) ?_
  intro p e s m below meth c A hAe hx hb hr hml hts0 hown hlk hin hsz H locs hP hK hD hA hS hE ls hl
  have hts : ∀ w ∈ ALLG, w.before _ s = true := fun w h => hts0 w (List.mem_cons_of_mem _ h)
  rw [← hAe]
  have hl : lv_has ls 5 [(0, .ref (q 0)), (1, .int (nI ck)), (2, .int (zI xx)), (3, .int (zI yy))] := hl
  refine lv_aload_n hx hb dX2_addLatch_0 rfl (lv_at hl 0 rfl) ?_
  refine va_get (D := (dC, dI)) (ci := 2) (v := .int (nI (RS.n r))) (C := RX2) (T := TX2) (N := 12) hx hb hts inX2 hown hK hP 0 rfl rfl 0 (by decide) (hts _ tw_27) (fun _ h9 => h9) rfl dX2_addLatch_1 ?_
  refine lv_istore (lv' := [(4, .int (nI (RS.n r))), (0, .ref (q 0)), (1, .int (nI ck)), (2, .int (zI xx)), (3, .int (zI yy))]) hx hb dX2_addLatch_4 hl (by decide) rfl (fun ls hl => ?_)
  refine lv_aload_n hx hb dX2_addLatch_6 rfl (lv_at hl 1 rfl) ?_
  refine va_get (D := (dC, dI)) (ci := 2) (v := .ref (q 2)) (C := RX2) (T := TX2) (N := 12) hx hb hts inX2 hown hK hP 0 rfl rfl 4 (by decide) (hts _ tw_35) (fun _ h9 => h9) rfl dX2_addLatch_7 ?_
  refine lv_iload hx hb dX2_addLatch_10 (lv_at hl 0 rfl) ?_
  refine lv_iload_n hx hb dX2_addLatch_12 rfl (lv_at hl 2 rfl) ?_
  refine xa_ist hx hb hK hP hD hS 2 0 rfl rfl (by omega) (by decide) (aN_up _ _ _) dX2_addLatch_13 (fun H locs hP hD hS => ?_)
  have hP : va_P (dC, dI) vwCl (wR q cI cZ (RS.s_ck r (va_up (RS.ck r) (RS.n r) ck))) H := hP
  have hD : va_D A (wR q cI cZ (RS.s_ck r (va_up (RS.ck r) (RS.n r) ck))) := hD
  refine lv_aload_n hx hb dX2_addLatch_14 rfl (lv_at hl 1 rfl) ?_
  refine va_get (D := (dC, dI)) (ci := 2) (v := .ref (q 3)) (C := RX2) (T := TX2) (N := 12) hx hb hts inX2 hown hK hP 0 rfl rfl 5 (by decide) (hts _ tw_36) (fun _ h9 => h9) rfl dX2_addLatch_15 ?_
  refine lv_iload hx hb dX2_addLatch_18 (lv_at hl 0 rfl) ?_
  refine lv_iload_n hx hb dX2_addLatch_20 rfl (lv_at hl 3 rfl) ?_
  refine xa_ist hx hb hK hP hD hS 3 0 rfl rfl (by omega) (by decide) (aZ_up _ _ _) dX2_addLatch_21 (fun H locs hP hD hS => ?_)
  have hP : va_P (dC, dI) vwCl (wR q cI cZ (RS.s_xx (RS.s_ck r (va_up (RS.ck r) (RS.n r) ck)) (va_up (RS.xx r) (RS.n r) xx))) H := hP
  have hD : va_D A (wR q cI cZ (RS.s_xx (RS.s_ck r (va_up (RS.ck r) (RS.n r) ck)) (va_up (RS.xx r) (RS.n r) xx))) := hD
  refine lv_aload_n hx hb dX2_addLatch_22 rfl (lv_at hl 1 rfl) ?_
  refine va_get (D := (dC, dI)) (ci := 2) (v := .ref (q 4)) (C := RX2) (T := TX2) (N := 12) hx hb hts inX2 hown hK hP 0 rfl rfl 6 (by decide) (hts _ tw_37) (fun _ h9 => h9) rfl dX2_addLatch_23 ?_
  refine lv_iload hx hb dX2_addLatch_26 (lv_at hl 0 rfl) ?_
  refine lv_iload_n hx hb dX2_addLatch_28 rfl (lv_at hl 4 rfl) ?_
  refine xa_ist hx hb hK hP hD hS 4 0 rfl rfl (by omega) (by decide) (aZ_up _ _ _) dX2_addLatch_29 (fun H locs hP hD hS => ?_)
  have hP : va_P (dC, dI) vwCl (wR q cI cZ (RS.s_yy (RS.s_xx (RS.s_ck r (va_up (RS.ck r) (RS.n r) ck)) (va_up (RS.xx r) (RS.n r) xx)) (va_up (RS.yy r) (RS.n r) yy))) H := hP
  have hD : va_D A (wR q cI cZ (RS.s_yy (RS.s_xx (RS.s_ck r (va_up (RS.ck r) (RS.n r) ck)) (va_up (RS.xx r) (RS.n r) xx)) (va_up (RS.yy r) (RS.n r) yy))) := hD
  refine lv_aload_n hx hb dX2_addLatch_30 rfl (lv_at hl 1 rfl) ?_
  refine va_get (D := (dC, dI)) (ci := 2) (v := .ref (q 6)) (C := RX2) (T := TX2) (N := 12) hx hb hts inX2 hown hK hP 0 rfl rfl 8 (by decide) (hts _ tw_39) (fun _ h9 => h9) rfl dX2_addLatch_31 ?_
  refine lv_iload hx hb dX2_addLatch_34 (lv_at hl 0 rfl) ?_
  refine lv_iconst (v := zI (-1)) hx hb dX2_addLatch_36 (by decide) ?_
  refine xa_ist hx hb hK hP hD hS 6 0 rfl rfl (by omega) (by decide) (aZ_up _ _ _) dX2_addLatch_37 (fun H locs hP hD hS => ?_)
  have hP : va_P (dC, dI) vwCl (wR q cI cZ (RS.s_po (RS.s_yy (RS.s_xx (RS.s_ck r (va_up (RS.ck r) (RS.n r) ck)) (va_up (RS.xx r) (RS.n r) xx)) (va_up (RS.yy r) (RS.n r) yy)) (va_up (RS.po r) (RS.n r) (-1)))) H := hP
  have hD : va_D A (wR q cI cZ (RS.s_po (RS.s_yy (RS.s_xx (RS.s_ck r (va_up (RS.ck r) (RS.n r) ck)) (va_up (RS.xx r) (RS.n r) xx)) (va_up (RS.yy r) (RS.n r) yy)) (va_up (RS.po r) (RS.n r) (-1)))) := hD
  refine lv_aload_n hx hb dX2_addLatch_38 rfl (lv_at hl 1 rfl) ?_
  refine lv_dup hx hb dX2_addLatch_39 rfl ?_
  refine va_get (D := (dC, dI)) (ci := 2) (v := .int (nI (RS.n r))) (C := RX2) (T := TX2) (N := 12) hx hb hts inX2 hown hK hP 0 rfl rfl 0 (by decide) (hts _ tw_27) (fun _ h9 => h9) rfl dX2_addLatch_40 ?_
  refine lv_iconst (v := nI 1) hx hb dX2_addLatch_43 (by decide) ?_
  refine xn_add hx hb dX2_addLatch_44 ?_
  refine va_put (D := (dC, dI)) (ci := 2) (v := .int (nI ((RS.n r) + 1))) (ty := .int) (C := RX2) (T := TX2) (N := 12) hx hb hts inX2 tyX2 tyX2_ok nmX2 hown hK hP hD hS 0 rfl rfl 0 (by decide) (hts _ tw_27) (fun _ h9 => h9) rfl (by decide +kernel) rfl rfl (Nat.le_of_ble_eq_true rfl) dX2_addLatch_45 (fun H locs hP hD hS => ?_)
  have hP : va_P (dC, dI) vwCl (wR q cI cZ (RS.s_n (RS.s_po (RS.s_yy (RS.s_xx (RS.s_ck r (va_up (RS.ck r) (RS.n r) ck)) (va_up (RS.xx r) (RS.n r) xx)) (va_up (RS.yy r) (RS.n r) yy)) (va_up (RS.po r) (RS.n r) (-1))) ((RS.n r) + 1))) H := hP
  have hD : va_D A (wR q cI cZ (RS.s_n (RS.s_po (RS.s_yy (RS.s_xx (RS.s_ck r (va_up (RS.ck r) (RS.n r) ck)) (va_up (RS.xx r) (RS.n r) xx)) (va_up (RS.yy r) (RS.n r) yy)) (va_up (RS.po r) (RS.n r) (-1))) ((RS.n r) + 1))) := hD
  refine lv_iload hx hb dX2_addLatch_48 (lv_at hl 0 rfl) ?_
  exact xr_i hx hb hr hlk (u := RS.s_n (RS.s_po (RS.s_yy (RS.s_xx (RS.s_ck r (va_up (RS.ck r) (RS.n r) ck)) (va_up (RS.xx r) (RS.n r) xx)) (va_up (RS.yy r) (RS.n r) yy)) (va_up (RS.po r) (RS.n r) (-1))) ((RS.n r) + 1)) (⟨rfl, rfl⟩) hP hK hD hS dX2_addLatch_50
set_option maxHeartbeats 4000000 in
set_option maxRecDepth 100000 in
theorem c_Rows_shiftPlaces (l : Launch) (dC : Nat → ClassId) (dI : Nat → Nat → Nat) (q : Nat → Nat) (cI cZ : ClassId) (sz : Nat) (r : RS) (f t b : Nat) (hB : RB r) (h1 : f ≤ 32) (h2 : t ≤ 32) : Met l yX2_shiftPlaces (.code yX2_shiftPlaces cX2_shiftPlaces 8 (some .int) :: ALLG) ({ frames := 0, cells := 0, slots := 0, locals := 0 }) (va_Pc [.ref (q 0), .int (nI f), .int (nI t), .int (nI b)] (cP (dC, dI) vwCl [(cI, .int), (cZ, .boolean)] (wR q cI cZ r) eT sz)) (va_Qi (fun (x : Int32) (u : RS) => x = nI (shO r f t b) ∧ u = r.s_vb (shV r f t b)) (fun (u : RS) => cB (dC, dI) vwCl [(cI, .int), (cZ, .boolean)] (wR q cI cZ u) (va_A (wR q cI cZ r) sz)) (va_A (wR q cI cZ r) sz)) 0 0 (va_A (wR q cI cZ r) sz) := by
  refine xm_of (cc := cX2_shiftPlaces) (maxL := 8) (ret := some .int) (by decide) rfl (Nat.le_of_ble_eq_true rfl) ?_
  intro p e s m below meth c A hAe hx hb hr hml hts0 hown hlk hin hsz H locs hP hK hD hA hS hE ls hl
  have hts : ∀ w ∈ ALLG, w.before _ s = true := fun w h => hts0 w (List.mem_cons_of_mem _ h)
  rw [← hAe]
  obtain ⟨b_n, b_c, b_p, b_vb, b_ck, b_xx, b_yy, b_fl, b_po, b_rw, b_ch, b_st⟩ := hB
  have hl : lv_has ls 8 [(0, .ref (q 0)), (1, .int (nI f)), (2, .int (nI t)), (3, .int (nI b))] := hl
  refine lv_iload_n hx hb dX2_shiftPlaces_0 rfl (lv_at hl 1 rfl) ?_
  refine lv_iload_n hx hb dX2_shiftPlaces_1 rfl (lv_at hl 2 rfl) ?_
  refine xn_clt (tgt := 7) hx hb (by omega) (by omega) dX2_shiftPlaces_2 (by decide) (fun c_1 => ?_) (fun c_1 => ?_)
  · have h0 : f < t := by omega
    refine lv_iload_n hx hb dX2_shiftPlaces_7 rfl (lv_at hl 3 rfl) ?_
    refine lv_istore (lv' := [(4, .int (nI b)), (0, .ref (q 0)), (1, .int (nI f)), (2, .int (nI t)), (3, .int (nI b))]) hx hb dX2_shiftPlaces_8 hl (by decide) rfl (fun ls hl => ?_)
    refine lv_iload_n hx hb dX2_shiftPlaces_10 rfl (lv_at hl 2 rfl) ?_
    refine lv_istore (lv' := [(5, .int (nI f)), (4, .int (nI b)), (0, .ref (q 0)), (1, .int (nI f)), (2, .int (nI t)), (3, .int (nI b))]) hx hb dX2_shiftPlaces_11 hl (by decide) rfl (fun ls hl => ?_)
    have L13 : ∀ (fuel : Nat) (i : Nat) (cy : Nat) (vb : Nat → Nat), (f ≤ i) → (i ≤ t) → (cy = (shL r f b (i - f)).1) → (vb = (shL r f b (i - f)).2) → t - i < fuel → ∀ (H : Heap) (locs : List Loc), va_P (dC, dI) vwCl (wR q cI cZ (RS.s_vb r vb)) H → va_D A (wR q cI cZ (RS.s_vb r vb)) → va_S A s.heap H locs → ∀ ls : Array Slot, lv_has ls 8 [(0, .ref (q 0)), (2, .int (nI t)), (4, .int (nI cy)), (5, .int (nI i))] → W p l e ({ frames := 0, cells := 0, slots := 0, locals := 0 } : Room) s m ([.ref (q 0), .int (nI f), .int (nI t), .int (nI b)] : List Value).toArray below meth c H locs 0 0 (MQ below (va_Qi (fun (x : Int32) (u : RS) => x = nI (shO r f t b) ∧ u = r.s_vb (shV r f t b)) (fun (u : RS) => cB (dC, dI) vwCl [(cI, .int), (cZ, .boolean)] (wR q cI cZ u) (A)) (A)) ([.ref (q 0), .int (nI f), .int (nI t), .int (nI b)] : List Value).toArray s 0 0 A) (F0 m 13 ls []) := by
      intro fuel
      induction fuel with
      | zero => intro i cy vb i1 i2 e1 e2 hm H locs hP hD hS ls hl; exact absurd hm (Nat.not_lt_zero _)
      | succ fuel ih13 =>
        intro i cy vb i1 i2 e1 e2 hm H locs hP hD hS ls hl
        refine lv_iload hx hb dX2_shiftPlaces_13 (lv_at hl 3 rfl) ?_
        refine lv_iload_n hx hb dX2_shiftPlaces_15 rfl (lv_at hl 1 rfl) ?_
        refine xn_cge (tgt := 56) hx hb (by omega) (by omega) dX2_shiftPlaces_16 (by decide) (fun c_2 => ?_) (fun c_2 => ?_)
        · refine lv_iload hx hb dX2_shiftPlaces_56 (lv_at hl 2 rfl) ?_
          exact xr_i hx hb hr hlk (u := RS.s_vb r vb) (⟨by rw [shO_yes h0, e1, show i = t by omega], by rw [shV_yes h0, e2, show i = t by omega]⟩) hP hK hD hS dX2_shiftPlaces_58
        · refine lv_aload_n hx hb dX2_shiftPlaces_19 rfl (lv_at hl 0 rfl) ?_
          refine va_get (D := (dC, dI)) (ci := 2) (v := .ref (q 7)) (C := RX2) (T := TX2) (N := 12) hx hb hts inX2 hown hK hP 0 rfl rfl 9 (by decide) (hts _ tw_40) (fun _ h9 => h9) rfl dX2_shiftPlaces_20 ?_
          refine lv_iload hx hb dX2_shiftPlaces_23 (lv_at hl 3 rfl) ?_
          refine xa_ild hx hb hK hP 7 0 rfl rfl (v := nI ((RS.rw r) i)) (by omega) (by decide) rfl dX2_shiftPlaces_25 ?_
          refine lv_istore (lv' := [(6, .int (nI ((RS.rw r) i))), (0, .ref (q 0)), (2, .int (nI t)), (4, .int (nI cy)), (5, .int (nI i))]) hx hb dX2_shiftPlaces_26 hl (by decide) rfl (fun ls hl => ?_)
          refine lv_aload_n hx hb dX2_shiftPlaces_28 rfl (lv_at hl 1 rfl) ?_
          refine va_get (D := (dC, dI)) (ci := 2) (v := .ref (q 1)) (C := RX2) (T := TX2) (N := 12) hx hb hts inX2 hown hK hP 0 rfl rfl 3 (by decide) (hts _ tw_33) (fun _ h9 => h9) rfl dX2_shiftPlaces_29 ?_
          refine lv_iload hx hb dX2_shiftPlaces_32 (lv_at hl 0 rfl) ?_
          refine xa_ild hx hb hK hP 1 0 rfl rfl (v := nI (vb ((RS.rw r) i))) (b_rw _) (by decide) rfl dX2_shiftPlaces_34 ?_
          refine lv_istore (lv' := [(7, .int (nI (vb ((RS.rw r) i)))), (6, .int (nI ((RS.rw r) i))), (0, .ref (q 0)), (2, .int (nI t)), (4, .int (nI cy)), (5, .int (nI i))]) hx hb dX2_shiftPlaces_35 hl (by decide) rfl (fun ls hl => ?_)
          refine lv_aload_n hx hb dX2_shiftPlaces_37 rfl (lv_at hl 2 rfl) ?_
          refine va_get (D := (dC, dI)) (ci := 2) (v := .ref (q 1)) (C := RX2) (T := TX2) (N := 12) hx hb hts inX2 hown hK hP 0 rfl rfl 3 (by decide) (hts _ tw_33) (fun _ h9 => h9) rfl dX2_shiftPlaces_38 ?_
          refine lv_iload hx hb dX2_shiftPlaces_41 (lv_at hl 1 rfl) ?_
          refine lv_iload hx hb dX2_shiftPlaces_43 (lv_at hl 4 rfl) ?_
          refine xa_ist hx hb hK hP hD hS 1 0 rfl rfl (b_rw _) (by decide) (aN_up _ _ _) dX2_shiftPlaces_45 (fun H locs hP hD hS => ?_)
          have hP : va_P (dC, dI) vwCl (wR q cI cZ (RS.s_vb (RS.s_vb r vb) (va_up vb ((RS.rw r) i) cy))) H := hP
          have hD : va_D A (wR q cI cZ (RS.s_vb (RS.s_vb r vb) (va_up vb ((RS.rw r) i) cy))) := hD
          refine lv_iload hx hb dX2_shiftPlaces_46 (lv_at hl 0 rfl) ?_
          refine lv_istore (lv' := [(4, .int (nI (vb ((RS.rw r) i)))), (7, .int (nI (vb ((RS.rw r) i)))), (6, .int (nI ((RS.rw r) i))), (0, .ref (q 0)), (2, .int (nI t)), (5, .int (nI i))]) hx hb dX2_shiftPlaces_48 hl (by decide) rfl (fun ls hl => ?_)
          refine lv_iinc (v := nI (i + 1)) (lv' := [(5, .int (nI (i + 1))), (4, .int (nI (vb ((RS.rw r) i)))), (7, .int (nI (vb ((RS.rw r) i)))), (6, .int (nI ((RS.rw r) i))), (0, .ref (q 0)), (2, .int (nI t))]) hx hb dX2_shiftPlaces_50 hl (k := 5) rfl (nI_1 _) (by decide) rfl (fun ls hl => ?_)
          refine lv_goto (tgt := 13) hx hb dX2_shiftPlaces_53 (by decide) ?_
          exact ih13 (i + 1) (vb ((RS.rw r) i)) (va_up vb ((RS.rw r) i) cy) (by omega) (by omega) (by rw [show i + 1 - f = (i - f) + 1 by omega, shL_s, ← e1, ← e2, show f + (i - f) = i by omega]) (by rw [show i + 1 - f = (i - f) + 1 by omega, shL_s, ← e1, ← e2, show f + (i - f) = i by omega]) (by omega) H locs hP hD hS ls (lv_sub hl [4, 5, 1, 0] rfl)
    exact L13 ((t - f) + 1) f b (RS.vb r) (Nat.le_refl f) (by omega) (by rw [Nat.sub_self]; rfl) (by rw [Nat.sub_self]; rfl) (Nat.lt_succ_self _) H locs hP hD hS ls (lv_sub hl [2, 4, 1, 0] rfl)
  · refine lv_iconst (v := nI 0) hx hb dX2_shiftPlaces_5 (by decide) ?_
    exact xr_i hx hb hr hlk (u := r) (⟨by rw [shO_no (by omega)], by rw [shV_no (by omega)]⟩) hP hK hD hS dX2_shiftPlaces_6
end
section
theorem tw_76 : (Cond.fieldLink "ScanRows$Cells" (24 : Nat) "ScanRows$Cells" "count" "I") ∈ ALLG := al_t (i := 76) (by decide +kernel) (by decide +kernel)
theorem tw_79 : (Cond.fieldLink "ScanRows$Cells" (9 : Nat) "ScanRows$Cells" "atPin" "[I") ∈ ALLG := al_t (i := 79) (by decide +kernel) (by decide +kernel)
theorem tw_81 : (Cond.fieldLink "ScanRows$Cells" (15 : Nat) "ScanRows$Cells" "kindOf" "[I") ∈ ALLG := al_t (i := 81) (by decide +kernel) (by decide +kernel)
theorem tw_82 : (Cond.fieldLink "ScanRows$Cells" (18 : Nat) "ScanRows$Cells" "held" "[I") ∈ ALLG := al_t (i := 82) (by decide +kernel) (by decide +kernel)
theorem tw_83 : (Cond.fieldLink "ScanRows$Cells" (21 : Nat) "ScanRows$Cells" "inRegister" "[I") ∈ ALLG := al_t (i := 83) (by decide +kernel) (by decide +kernel)
theorem dX1_addCell_0 : decode cX1_addCell 0 = .ok (.aload_n 0, 1) := by decide +kernel
theorem dX1_addCell_1 : decode cX1_addCell 1 = .ok (.getfield 24, 3) := by decide +kernel
theorem dX1_addCell_4 : decode cX1_addCell 4 = .ok (.istore_n 2, 1) := by decide +kernel
theorem dX1_addCell_5 : decode cX1_addCell 5 = .ok (.aload_n 0, 1) := by decide +kernel
theorem dX1_addCell_6 : decode cX1_addCell 6 = .ok (.getfield 15, 3) := by decide +kernel
theorem dX1_addCell_9 : decode cX1_addCell 9 = .ok (.iload_n 2, 1) := by decide +kernel
theorem dX1_addCell_10 : decode cX1_addCell 10 = .ok (.iload_n 1, 1) := by decide +kernel
theorem dX1_addCell_11 : decode cX1_addCell 11 = .ok (.iastore, 1) := by decide +kernel
theorem dX1_addCell_12 : decode cX1_addCell 12 = .ok (.aload_n 0, 1) := by decide +kernel
theorem dX1_addCell_13 : decode cX1_addCell 13 = .ok (.dup, 1) := by decide +kernel
theorem dX1_addCell_14 : decode cX1_addCell 14 = .ok (.getfield 24, 3) := by decide +kernel
theorem dX1_addCell_17 : decode cX1_addCell 17 = .ok (.iconst 1, 1) := by decide +kernel
theorem dX1_addCell_18 : decode cX1_addCell 18 = .ok (.iadd, 1) := by decide +kernel
theorem dX1_addCell_19 : decode cX1_addCell 19 = .ok (.putfield 24, 3) := by decide +kernel
theorem dX1_addCell_22 : decode cX1_addCell 22 = .ok (.iload_n 2, 1) := by decide +kernel
theorem dX1_addCell_23 : decode cX1_addCell 23 = .ok (.ireturn, 1) := by decide +kernel
theorem dX1_capture_0 : decode cX1_capture 0 = .ok (.iconst 0, 1) := by decide +kernel
theorem dX1_capture_1 : decode cX1_capture 1 = .ok (.istore_n 1, 1) := by decide +kernel
theorem dX1_capture_2 : decode cX1_capture 2 = .ok (.iload_n 1, 1) := by decide +kernel
theorem dX1_capture_3 : decode cX1_capture 3 = .ok (.aload_n 0, 1) := by decide +kernel
theorem dX1_capture_4 : decode cX1_capture 4 = .ok (.getfield 24, 3) := by decide +kernel
theorem dX1_capture_7 : decode cX1_capture 7 = .ok (.if_icmp .ge 21, 3) := by decide +kernel
theorem dX1_capture_10 : decode cX1_capture 10 = .ok (.aload_n 0, 1) := by decide +kernel
theorem dX1_capture_11 : decode cX1_capture 11 = .ok (.getfield 21, 3) := by decide +kernel
theorem dX1_capture_14 : decode cX1_capture 14 = .ok (.iload_n 1, 1) := by decide +kernel
theorem dX1_capture_15 : decode cX1_capture 15 = .ok (.aload_n 0, 1) := by decide +kernel
theorem dX1_capture_16 : decode cX1_capture 16 = .ok (.getfield 9, 3) := by decide +kernel
theorem dX1_capture_19 : decode cX1_capture 19 = .ok (.iload_n 1, 1) := by decide +kernel
theorem dX1_capture_20 : decode cX1_capture 20 = .ok (.iaload, 1) := by decide +kernel
theorem dX1_capture_21 : decode cX1_capture 21 = .ok (.iastore, 1) := by decide +kernel
theorem dX1_capture_22 : decode cX1_capture 22 = .ok (.iinc 1 1, 3) := by decide +kernel
theorem dX1_capture_25 : decode cX1_capture 25 = .ok (.goto (-23), 3) := by decide +kernel
theorem dX1_capture_28 : decode cX1_capture 28 = .ok (.return_, 1) := by decide +kernel
theorem dX1_update_0 : decode cX1_update 0 = .ok (.iconst 0, 1) := by decide +kernel
theorem dX1_update_1 : decode cX1_update 1 = .ok (.istore_n 1, 1) := by decide +kernel
theorem dX1_update_2 : decode cX1_update 2 = .ok (.iload_n 1, 1) := by decide +kernel
theorem dX1_update_3 : decode cX1_update 3 = .ok (.aload_n 0, 1) := by decide +kernel
theorem dX1_update_4 : decode cX1_update 4 = .ok (.getfield 24, 3) := by decide +kernel
theorem dX1_update_7 : decode cX1_update 7 = .ok (.if_icmp .ge 21, 3) := by decide +kernel
theorem dX1_update_10 : decode cX1_update 10 = .ok (.aload_n 0, 1) := by decide +kernel
theorem dX1_update_11 : decode cX1_update 11 = .ok (.getfield 18, 3) := by decide +kernel
theorem dX1_update_14 : decode cX1_update 14 = .ok (.iload_n 1, 1) := by decide +kernel
theorem dX1_update_15 : decode cX1_update 15 = .ok (.aload_n 0, 1) := by decide +kernel
theorem dX1_update_16 : decode cX1_update 16 = .ok (.getfield 21, 3) := by decide +kernel
theorem dX1_update_19 : decode cX1_update 19 = .ok (.iload_n 1, 1) := by decide +kernel
theorem dX1_update_20 : decode cX1_update 20 = .ok (.iaload, 1) := by decide +kernel
theorem dX1_update_21 : decode cX1_update 21 = .ok (.iastore, 1) := by decide +kernel
theorem dX1_update_22 : decode cX1_update 22 = .ok (.iinc 1 1, 3) := by decide +kernel
theorem dX1_update_25 : decode cX1_update 25 = .ok (.goto (-23), 3) := by decide +kernel
theorem dX1_update_28 : decode cX1_update 28 = .ok (.return_, 1) := by decide +kernel
theorem dX1_shiftRegister_0 : decode cX1_shiftRegister 0 = .ok (.iload_n 1, 1) := by decide +kernel
theorem dX1_shiftRegister_1 : decode cX1_shiftRegister 1 = .ok (.istore_n 2, 1) := by decide +kernel
theorem dX1_shiftRegister_2 : decode cX1_shiftRegister 2 = .ok (.iconst 0, 1) := by decide +kernel
theorem dX1_shiftRegister_3 : decode cX1_shiftRegister 3 = .ok (.istore_n 3, 1) := by decide +kernel
theorem dX1_shiftRegister_4 : decode cX1_shiftRegister 4 = .ok (.iload_n 3, 1) := by decide +kernel
theorem dX1_shiftRegister_5 : decode cX1_shiftRegister 5 = .ok (.aload_n 0, 1) := by decide +kernel
theorem dX1_shiftRegister_6 : decode cX1_shiftRegister 6 = .ok (.getfield 24, 3) := by decide +kernel
theorem dX1_shiftRegister_9 : decode cX1_shiftRegister 9 = .ok (.if_icmp .ge 27, 3) := by decide +kernel
theorem dX1_shiftRegister_12 : decode cX1_shiftRegister 12 = .ok (.aload_n 0, 1) := by decide +kernel
theorem dX1_shiftRegister_13 : decode cX1_shiftRegister 13 = .ok (.getfield 21, 3) := by decide +kernel
theorem dX1_shiftRegister_16 : decode cX1_shiftRegister 16 = .ok (.iload_n 3, 1) := by decide +kernel
theorem dX1_shiftRegister_17 : decode cX1_shiftRegister 17 = .ok (.iaload, 1) := by decide +kernel
theorem dX1_shiftRegister_18 : decode cX1_shiftRegister 18 = .ok (.istore 4, 2) := by decide +kernel
theorem dX1_shiftRegister_20 : decode cX1_shiftRegister 20 = .ok (.aload_n 0, 1) := by decide +kernel
theorem dX1_shiftRegister_21 : decode cX1_shiftRegister 21 = .ok (.getfield 21, 3) := by decide +kernel
theorem dX1_shiftRegister_24 : decode cX1_shiftRegister 24 = .ok (.iload_n 3, 1) := by decide +kernel
theorem dX1_shiftRegister_25 : decode cX1_shiftRegister 25 = .ok (.iload_n 2, 1) := by decide +kernel
theorem dX1_shiftRegister_26 : decode cX1_shiftRegister 26 = .ok (.iastore, 1) := by decide +kernel
theorem dX1_shiftRegister_27 : decode cX1_shiftRegister 27 = .ok (.iload 4, 2) := by decide +kernel
theorem dX1_shiftRegister_29 : decode cX1_shiftRegister 29 = .ok (.istore_n 2, 1) := by decide +kernel
theorem dX1_shiftRegister_30 : decode cX1_shiftRegister 30 = .ok (.iinc 3 1, 3) := by decide +kernel
theorem dX1_shiftRegister_33 : decode cX1_shiftRegister 33 = .ok (.goto (-29), 3) := by decide +kernel
theorem dX1_shiftRegister_36 : decode cX1_shiftRegister 36 = .ok (.iload_n 2, 1) := by decide +kernel
theorem dX1_shiftRegister_37 : decode cX1_shiftRegister 37 = .ok (.ireturn, 1) := by decide +kernel
theorem dX1_drivenAt_0 : decode cX1_drivenAt 0 = .ok (.iload_n 2, 1) := by decide +kernel
theorem dX1_drivenAt_1 : decode cX1_drivenAt 1 = .ok (.ifCond .eq 22, 3) := by decide +kernel
theorem dX1_drivenAt_4 : decode cX1_drivenAt 4 = .ok (.aload_n 0, 1) := by decide +kernel
theorem dX1_drivenAt_5 : decode cX1_drivenAt 5 = .ok (.getfield 15, 3) := by decide +kernel
theorem dX1_drivenAt_8 : decode cX1_drivenAt 8 = .ok (.iload_n 1, 1) := by decide +kernel
theorem dX1_drivenAt_9 : decode cX1_drivenAt 9 = .ok (.iaload, 1) := by decide +kernel
theorem dX1_drivenAt_10 : decode cX1_drivenAt 10 = .ok (.iconst 1, 1) := by decide +kernel
theorem dX1_drivenAt_11 : decode cX1_drivenAt 11 = .ok (.if_icmp .ne 12, 3) := by decide +kernel
theorem dX1_drivenAt_14 : decode cX1_drivenAt 14 = .ok (.aload_n 0, 1) := by decide +kernel
theorem dX1_drivenAt_15 : decode cX1_drivenAt 15 = .ok (.getfield 18, 3) := by decide +kernel
theorem dX1_drivenAt_18 : decode cX1_drivenAt 18 = .ok (.iload_n 1, 1) := by decide +kernel
theorem dX1_drivenAt_19 : decode cX1_drivenAt 19 = .ok (.iaload, 1) := by decide +kernel
theorem dX1_drivenAt_20 : decode cX1_drivenAt 20 = .ok (.goto 9, 3) := by decide +kernel
theorem dX1_drivenAt_23 : decode cX1_drivenAt 23 = .ok (.aload_n 0, 1) := by decide +kernel
theorem dX1_drivenAt_24 : decode cX1_drivenAt 24 = .ok (.getfield 9, 3) := by decide +kernel
theorem dX1_drivenAt_27 : decode cX1_drivenAt 27 = .ok (.iload_n 1, 1) := by decide +kernel
theorem dX1_drivenAt_28 : decode cX1_drivenAt 28 = .ok (.iaload, 1) := by decide +kernel
theorem dX1_drivenAt_29 : decode cX1_drivenAt 29 = .ok (.ireturn, 1) := by decide +kernel
set_option maxHeartbeats 4000000 in
set_option maxRecDepth 100000 in
theorem c_Cells_addCell (l : Launch) (dC : Nat → ClassId) (dI : Nat → Nat → Nat) (q : Nat → Nat) (cI cZ : ClassId) (sz : Nat) (k : CS) (kd : Nat) (h1 : k.n < 20) : Met l yX1_addCell (.code yX1_addCell cX1_addCell 3 (some .int) :: ALLG) ({ frames := 0, cells := 0, slots := 0, locals := 0 }) (va_Pc [.ref (q 10), .int (nI kd)] (cP (dC, dI) vwCl [(cI, .int), (cZ, .boolean)] (wC q cI k) eT sz)) (va_Qi (fun (x : Int32) (u : CS) => x = nI k.n ∧ u = (k.s_ki (va_up k.ki k.n kd)).s_n (k.n + 1)) (fun (u : CS) => cB (dC, dI) vwCl [(cI, .int), (cZ, .boolean)] (wC q cI u) (va_A (wC q cI k) sz)) (va_A (wC q cI k) sz)) 0 0 (va_A (wC q cI k) sz) := by
  refine xm_of (cc := cX1_addCell) (maxL := 3) (ret := some .int) (by decide) rfl (Nat.le_of_ble_eq_true rfl) ?_
  intro p e s m below meth c A hAe hx hb hr hml hts0 hown hlk hin hsz H locs hP hK hD hA hS hE ls hl
  have hts : ∀ w ∈ ALLG, w.before _ s = true := fun w h => hts0 w (List.mem_cons_of_mem _ h)
  rw [← hAe]
  have hl : lv_has ls 3 [(0, .ref (q 10)), (1, .int (nI kd))] := hl
  refine lv_aload_n hx hb dX1_addCell_0 rfl (lv_at hl 0 rfl) ?_
  refine va_get (D := (dC, dI)) (ci := 1) (v := .int (nI (CS.n k))) (C := RX1) (T := TX1) (N := 5) hx hb hts inX1 hown hK hP 0 rfl rfl 0 (by decide) (hts _ tw_76) (fun _ h9 => h9) rfl dX1_addCell_1 ?_
  refine lv_istore_n (lv' := [(2, .int (nI (CS.n k))), (0, .ref (q 10)), (1, .int (nI kd))]) hx hb dX1_addCell_4 rfl hl (by decide) rfl (fun ls hl => ?_)
  refine lv_aload_n hx hb dX1_addCell_5 rfl (lv_at hl 1 rfl) ?_
  refine va_get (D := (dC, dI)) (ci := 1) (v := .ref (q 12)) (C := RX1) (T := TX1) (N := 5) hx hb hts inX1 hown hK hP 0 rfl rfl 2 (by decide) (hts _ tw_81) (fun _ h9 => h9) rfl dX1_addCell_6 ?_
  refine lv_iload_n hx hb dX1_addCell_9 rfl (lv_at hl 0 rfl) ?_
  refine lv_iload_n hx hb dX1_addCell_10 rfl (lv_at hl 2 rfl) ?_
  refine xa_ist hx hb hK hP hD hS 2 0 rfl rfl (by omega) (by decide) (aN_up _ _ _) dX1_addCell_11 (fun H locs hP hD hS => ?_)
  have hP : va_P (dC, dI) vwCl (wC q cI (CS.s_ki k (va_up (CS.ki k) (CS.n k) kd))) H := hP
  have hD : va_D A (wC q cI (CS.s_ki k (va_up (CS.ki k) (CS.n k) kd))) := hD
  refine lv_aload_n hx hb dX1_addCell_12 rfl (lv_at hl 1 rfl) ?_
  refine lv_dup hx hb dX1_addCell_13 rfl ?_
  refine va_get (D := (dC, dI)) (ci := 1) (v := .int (nI (CS.n k))) (C := RX1) (T := TX1) (N := 5) hx hb hts inX1 hown hK hP 0 rfl rfl 0 (by decide) (hts _ tw_76) (fun _ h9 => h9) rfl dX1_addCell_14 ?_
  refine lv_iconst (v := nI 1) hx hb dX1_addCell_17 (by decide) ?_
  refine xn_add hx hb dX1_addCell_18 ?_
  refine va_put (D := (dC, dI)) (ci := 1) (v := .int (nI ((CS.n k) + 1))) (ty := .int) (C := RX1) (T := TX1) (N := 5) hx hb hts inX1 tyX1 tyX1_ok nmX1 hown hK hP hD hS 0 rfl rfl 0 (by decide) (hts _ tw_76) (fun _ h9 => h9) rfl (by decide +kernel) rfl rfl (Nat.le_of_ble_eq_true rfl) dX1_addCell_19 (fun H locs hP hD hS => ?_)
  have hP : va_P (dC, dI) vwCl (wC q cI (CS.s_n (CS.s_ki k (va_up (CS.ki k) (CS.n k) kd)) ((CS.n k) + 1))) H := hP
  have hD : va_D A (wC q cI (CS.s_n (CS.s_ki k (va_up (CS.ki k) (CS.n k) kd)) ((CS.n k) + 1))) := hD
  refine lv_iload_n hx hb dX1_addCell_22 rfl (lv_at hl 0 rfl) ?_
  exact xr_i hx hb hr hlk (u := CS.s_n (CS.s_ki k (va_up (CS.ki k) (CS.n k) kd)) ((CS.n k) + 1)) (⟨rfl, rfl⟩) hP hK hD hS dX1_addCell_23
set_option maxHeartbeats 4000000 in
set_option maxRecDepth 100000 in
theorem c_Cells_capture (l : Launch) (dC : Nat → ClassId) (dI : Nat → Nat → Nat) (q : Nat → Nat) (cI cZ : ClassId) (sz : Nat) (k : CS) (h1 : k.n ≤ 20) : Met l yX1_capture (.code yX1_capture cX1_capture 2 none :: ALLG) ({ frames := 0, cells := 0, slots := 0, locals := 0 }) (va_Pc [.ref (q 10)] (cP (dC, dI) vwCl [(cI, .int), (cZ, .boolean)] (wC q cI k) eT sz)) (va_Qv (fun (u : CS) => u = k.s_ir (cpN k.pin k.ir k.n)) (fun (u : CS) => cB (dC, dI) vwCl [(cI, .int), (cZ, .boolean)] (wC q cI u) (va_A (wC q cI k) sz)) (va_A (wC q cI k) sz)) 0 0 (va_A (wC q cI k) sz) := by
  refine xm_of (cc := cX1_capture) (maxL := 2) (ret := none) (by decide) rfl (Nat.le_of_ble_eq_true rfl) ?_
  intro p e s m below meth c A hAe hx hb hr hml hts0 hown hlk hin hsz H locs hP hK hD hA hS hE ls hl
  have hts : ∀ w ∈ ALLG, w.before _ s = true := fun w h => hts0 w (List.mem_cons_of_mem _ h)
  rw [← hAe]
  have hl : lv_has ls 2 [(0, .ref (q 10))] := hl
  refine lv_iconst (v := nI 0) hx hb dX1_capture_0 (by decide) ?_
  refine lv_istore_n (lv' := [(1, .int (nI 0)), (0, .ref (q 10))]) hx hb dX1_capture_1 rfl hl (by decide) rfl (fun ls hl => ?_)
  have L2 : ∀ (fuel : Nat) (i : Nat) (g : Nat → Nat), (i ≤ k.n) → (g = cpN k.pin k.ir i) → k.n - i < fuel → ∀ (H : Heap) (locs : List Loc), va_P (dC, dI) vwCl (wC q cI (CS.s_ir k g)) H → va_D A (wC q cI (CS.s_ir k g)) → va_S A s.heap H locs → ∀ ls : Array Slot, lv_has ls 2 [(0, .ref (q 10)), (1, .int (nI i))] → W p l e ({ frames := 0, cells := 0, slots := 0, locals := 0 } : Room) s m ([.ref (q 10)] : List Value).toArray below meth c H locs 0 0 (MQ below (va_Qv (fun (u : CS) => u = k.s_ir (cpN k.pin k.ir k.n)) (fun (u : CS) => cB (dC, dI) vwCl [(cI, .int), (cZ, .boolean)] (wC q cI u) (A)) (A)) ([.ref (q 10)] : List Value).toArray s 0 0 A) (F0 m 2 ls []) := by
    intro fuel
    induction fuel with
    | zero => intro i g i1 e1 hm H locs hP hD hS ls hl; exact absurd hm (Nat.not_lt_zero _)
    | succ fuel ih2 =>
      intro i g i1 e1 hm H locs hP hD hS ls hl
      refine lv_iload_n hx hb dX1_capture_2 rfl (lv_at hl 1 rfl) ?_
      refine lv_aload_n hx hb dX1_capture_3 rfl (lv_at hl 0 rfl) ?_
      refine va_get (D := (dC, dI)) (ci := 1) (v := .int (nI (CS.n k))) (C := RX1) (T := TX1) (N := 5) hx hb hts inX1 hown hK hP 0 rfl rfl 0 (by decide) (hts _ tw_76) (fun _ h9 => h9) rfl dX1_capture_4 ?_
      refine xn_cge (tgt := 28) hx hb (by omega) (by omega) dX1_capture_7 (by decide) (fun c_1 => ?_) (fun c_1 => ?_)
      · exact xr_v hx hb hr hlk (u := CS.s_ir k g) (by rw [e1, show i = k.n by omega]) hP hK hD hS dX1_capture_28
      · refine lv_aload_n hx hb dX1_capture_10 rfl (lv_at hl 0 rfl) ?_
        refine va_get (D := (dC, dI)) (ci := 1) (v := .ref (q 14)) (C := RX1) (T := TX1) (N := 5) hx hb hts inX1 hown hK hP 0 rfl rfl 4 (by decide) (hts _ tw_83) (fun _ h9 => h9) rfl dX1_capture_11 ?_
        refine lv_iload_n hx hb dX1_capture_14 rfl (lv_at hl 1 rfl) ?_
        refine lv_aload_n hx hb dX1_capture_15 rfl (lv_at hl 0 rfl) ?_
        refine va_get (D := (dC, dI)) (ci := 1) (v := .ref (q 11)) (C := RX1) (T := TX1) (N := 5) hx hb hts inX1 hown hK hP 0 rfl rfl 1 (by decide) (hts _ tw_79) (fun _ h9 => h9) rfl dX1_capture_16 ?_
        refine lv_iload_n hx hb dX1_capture_19 rfl (lv_at hl 1 rfl) ?_
        refine xa_ild hx hb hK hP 1 0 rfl rfl (v := nI ((CS.pin k) i)) (by omega) (by decide) rfl dX1_capture_20 ?_
        refine xa_ist hx hb hK hP hD hS 4 0 rfl rfl (by omega) (by decide) (aN_up _ _ _) dX1_capture_21 (fun H locs hP hD hS => ?_)
        have hP : va_P (dC, dI) vwCl (wC q cI (CS.s_ir (CS.s_ir k g) (va_up g i ((CS.pin k) i)))) H := hP
        have hD : va_D A (wC q cI (CS.s_ir (CS.s_ir k g) (va_up g i ((CS.pin k) i)))) := hD
        refine lv_iinc (v := nI (i + 1)) (lv' := [(1, .int (nI (i + 1))), (0, .ref (q 10))]) hx hb dX1_capture_22 hl (k := 1) rfl (nI_1 _) (by decide) rfl (fun ls hl => ?_)
        refine lv_goto (tgt := 2) hx hb dX1_capture_25 (by decide) ?_
        exact ih2 (i + 1) (va_up g i ((CS.pin k) i)) (by omega) (by rw [e1]; exact cpN_s _ _ _) (by omega) H locs hP hD hS ls (lv_sub hl [1, 0] rfl)
  exact L2 ((k.n - 0) + 1) 0 (CS.ir k) (Nat.zero_le _) ((cpN_0 _ _).symm) (Nat.lt_succ_self _) H locs hP hD hS ls (lv_sub hl [1, 0] rfl)
set_option maxHeartbeats 4000000 in
set_option maxRecDepth 100000 in
theorem c_Cells_update (l : Launch) (dC : Nat → ClassId) (dI : Nat → Nat → Nat) (q : Nat → Nat) (cI cZ : ClassId) (sz : Nat) (k : CS) (h1 : k.n ≤ 20) : Met l yX1_update (.code yX1_update cX1_update 2 none :: ALLG) ({ frames := 0, cells := 0, slots := 0, locals := 0 }) (va_Pc [.ref (q 10)] (cP (dC, dI) vwCl [(cI, .int), (cZ, .boolean)] (wC q cI k) eT sz)) (va_Qv (fun (u : CS) => u = k.s_he (cpN k.ir k.he k.n)) (fun (u : CS) => cB (dC, dI) vwCl [(cI, .int), (cZ, .boolean)] (wC q cI u) (va_A (wC q cI k) sz)) (va_A (wC q cI k) sz)) 0 0 (va_A (wC q cI k) sz) := by
  refine xm_of (cc := cX1_update) (maxL := 2) (ret := none) (by decide) rfl (Nat.le_of_ble_eq_true rfl) ?_
  intro p e s m below meth c A hAe hx hb hr hml hts0 hown hlk hin hsz H locs hP hK hD hA hS hE ls hl
  have hts : ∀ w ∈ ALLG, w.before _ s = true := fun w h => hts0 w (List.mem_cons_of_mem _ h)
  rw [← hAe]
  have hl : lv_has ls 2 [(0, .ref (q 10))] := hl
  refine lv_iconst (v := nI 0) hx hb dX1_update_0 (by decide) ?_
  refine lv_istore_n (lv' := [(1, .int (nI 0)), (0, .ref (q 10))]) hx hb dX1_update_1 rfl hl (by decide) rfl (fun ls hl => ?_)
  have L2 : ∀ (fuel : Nat) (i : Nat) (g : Nat → Nat), (i ≤ k.n) → (g = cpN k.ir k.he i) → k.n - i < fuel → ∀ (H : Heap) (locs : List Loc), va_P (dC, dI) vwCl (wC q cI (CS.s_he k g)) H → va_D A (wC q cI (CS.s_he k g)) → va_S A s.heap H locs → ∀ ls : Array Slot, lv_has ls 2 [(0, .ref (q 10)), (1, .int (nI i))] → W p l e ({ frames := 0, cells := 0, slots := 0, locals := 0 } : Room) s m ([.ref (q 10)] : List Value).toArray below meth c H locs 0 0 (MQ below (va_Qv (fun (u : CS) => u = k.s_he (cpN k.ir k.he k.n)) (fun (u : CS) => cB (dC, dI) vwCl [(cI, .int), (cZ, .boolean)] (wC q cI u) (A)) (A)) ([.ref (q 10)] : List Value).toArray s 0 0 A) (F0 m 2 ls []) := by
    intro fuel
    induction fuel with
    | zero => intro i g i1 e1 hm H locs hP hD hS ls hl; exact absurd hm (Nat.not_lt_zero _)
    | succ fuel ih2 =>
      intro i g i1 e1 hm H locs hP hD hS ls hl
      refine lv_iload_n hx hb dX1_update_2 rfl (lv_at hl 1 rfl) ?_
      refine lv_aload_n hx hb dX1_update_3 rfl (lv_at hl 0 rfl) ?_
      refine va_get (D := (dC, dI)) (ci := 1) (v := .int (nI (CS.n k))) (C := RX1) (T := TX1) (N := 5) hx hb hts inX1 hown hK hP 0 rfl rfl 0 (by decide) (hts _ tw_76) (fun _ h9 => h9) rfl dX1_update_4 ?_
      refine xn_cge (tgt := 28) hx hb (by omega) (by omega) dX1_update_7 (by decide) (fun c_1 => ?_) (fun c_1 => ?_)
      · exact xr_v hx hb hr hlk (u := CS.s_he k g) (by rw [e1, show i = k.n by omega]) hP hK hD hS dX1_update_28
      · refine lv_aload_n hx hb dX1_update_10 rfl (lv_at hl 0 rfl) ?_
        refine va_get (D := (dC, dI)) (ci := 1) (v := .ref (q 13)) (C := RX1) (T := TX1) (N := 5) hx hb hts inX1 hown hK hP 0 rfl rfl 3 (by decide) (hts _ tw_82) (fun _ h9 => h9) rfl dX1_update_11 ?_
        refine lv_iload_n hx hb dX1_update_14 rfl (lv_at hl 1 rfl) ?_
        refine lv_aload_n hx hb dX1_update_15 rfl (lv_at hl 0 rfl) ?_
        refine va_get (D := (dC, dI)) (ci := 1) (v := .ref (q 14)) (C := RX1) (T := TX1) (N := 5) hx hb hts inX1 hown hK hP 0 rfl rfl 4 (by decide) (hts _ tw_83) (fun _ h9 => h9) rfl dX1_update_16 ?_
        refine lv_iload_n hx hb dX1_update_19 rfl (lv_at hl 1 rfl) ?_
        refine xa_ild hx hb hK hP 4 0 rfl rfl (v := nI ((CS.ir k) i)) (by omega) (by decide) rfl dX1_update_20 ?_
        refine xa_ist hx hb hK hP hD hS 3 0 rfl rfl (by omega) (by decide) (aN_up _ _ _) dX1_update_21 (fun H locs hP hD hS => ?_)
        have hP : va_P (dC, dI) vwCl (wC q cI (CS.s_he (CS.s_he k g) (va_up g i ((CS.ir k) i)))) H := hP
        have hD : va_D A (wC q cI (CS.s_he (CS.s_he k g) (va_up g i ((CS.ir k) i)))) := hD
        refine lv_iinc (v := nI (i + 1)) (lv' := [(1, .int (nI (i + 1))), (0, .ref (q 10))]) hx hb dX1_update_22 hl (k := 1) rfl (nI_1 _) (by decide) rfl (fun ls hl => ?_)
        refine lv_goto (tgt := 2) hx hb dX1_update_25 (by decide) ?_
        exact ih2 (i + 1) (va_up g i ((CS.ir k) i)) (by omega) (by rw [e1]; exact cpN_s _ _ _) (by omega) H locs hP hD hS ls (lv_sub hl [1, 0] rfl)
  exact L2 ((k.n - 0) + 1) 0 (CS.he k) (Nat.zero_le _) ((cpN_0 _ _).symm) (Nat.lt_succ_self _) H locs hP hD hS ls (lv_sub hl [1, 0] rfl)
set_option maxHeartbeats 4000000 in
set_option maxRecDepth 100000 in
theorem c_Cells_shiftRegister (l : Launch) (dC : Nat → ClassId) (dI : Nat → Nat → Nat) (q : Nat → Nat) (cI cZ : ClassId) (sz : Nat) (k : CS) (b : Nat) (h1 : k.n ≤ 20) : Met l yX1_shiftRegister (.code yX1_shiftRegister cX1_shiftRegister 5 (some .int) :: ALLG) ({ frames := 0, cells := 0, slots := 0, locals := 0 }) (va_Pc [.ref (q 10), .int (nI b)] (cP (dC, dI) vwCl [(cI, .int), (cZ, .boolean)] (wC q cI k) eT sz)) (va_Qi (fun (x : Int32) (u : CS) => x = nI (srO k.ir b k.n) ∧ u = k.s_ir (srV k.ir b k.n)) (fun (u : CS) => cB (dC, dI) vwCl [(cI, .int), (cZ, .boolean)] (wC q cI u) (va_A (wC q cI k) sz)) (va_A (wC q cI k) sz)) 0 0 (va_A (wC q cI k) sz) := by
  refine xm_of (cc := cX1_shiftRegister) (maxL := 5) (ret := some .int) (by decide) rfl (Nat.le_of_ble_eq_true rfl) ?_
  intro p e s m below meth c A hAe hx hb hr hml hts0 hown hlk hin hsz H locs hP hK hD hA hS hE ls hl
  have hts : ∀ w ∈ ALLG, w.before _ s = true := fun w h => hts0 w (List.mem_cons_of_mem _ h)
  rw [← hAe]
  have hl : lv_has ls 5 [(0, .ref (q 10)), (1, .int (nI b))] := hl
  refine lv_iload_n hx hb dX1_shiftRegister_0 rfl (lv_at hl 1 rfl) ?_
  refine lv_istore_n (lv' := [(2, .int (nI b)), (0, .ref (q 10)), (1, .int (nI b))]) hx hb dX1_shiftRegister_1 rfl hl (by decide) rfl (fun ls hl => ?_)
  refine lv_iconst (v := nI 0) hx hb dX1_shiftRegister_2 (by decide) ?_
  refine lv_istore_n (lv' := [(3, .int (nI 0)), (2, .int (nI b)), (0, .ref (q 10)), (1, .int (nI b))]) hx hb dX1_shiftRegister_3 rfl hl (by decide) rfl (fun ls hl => ?_)
  have L4 : ∀ (fuel : Nat) (i : Nat) (cy : Nat) (g : Nat → Nat), (i ≤ k.n) → (cy = srO k.ir b i) → (g = srV k.ir b i) → k.n - i < fuel → ∀ (H : Heap) (locs : List Loc), va_P (dC, dI) vwCl (wC q cI (CS.s_ir k g)) H → va_D A (wC q cI (CS.s_ir k g)) → va_S A s.heap H locs → ∀ ls : Array Slot, lv_has ls 5 [(0, .ref (q 10)), (2, .int (nI cy)), (3, .int (nI i))] → W p l e ({ frames := 0, cells := 0, slots := 0, locals := 0 } : Room) s m ([.ref (q 10), .int (nI b)] : List Value).toArray below meth c H locs 0 0 (MQ below (va_Qi (fun (x : Int32) (u : CS) => x = nI (srO k.ir b k.n) ∧ u = k.s_ir (srV k.ir b k.n)) (fun (u : CS) => cB (dC, dI) vwCl [(cI, .int), (cZ, .boolean)] (wC q cI u) (A)) (A)) ([.ref (q 10), .int (nI b)] : List Value).toArray s 0 0 A) (F0 m 4 ls []) := by
    intro fuel
    induction fuel with
    | zero => intro i cy g i1 e1 e2 hm H locs hP hD hS ls hl; exact absurd hm (Nat.not_lt_zero _)
    | succ fuel ih4 =>
      intro i cy g i1 e1 e2 hm H locs hP hD hS ls hl
      refine lv_iload_n hx hb dX1_shiftRegister_4 rfl (lv_at hl 2 rfl) ?_
      refine lv_aload_n hx hb dX1_shiftRegister_5 rfl (lv_at hl 0 rfl) ?_
      refine va_get (D := (dC, dI)) (ci := 1) (v := .int (nI (CS.n k))) (C := RX1) (T := TX1) (N := 5) hx hb hts inX1 hown hK hP 0 rfl rfl 0 (by decide) (hts _ tw_76) (fun _ h9 => h9) rfl dX1_shiftRegister_6 ?_
      refine xn_cge (tgt := 36) hx hb (by omega) (by omega) dX1_shiftRegister_9 (by decide) (fun c_1 => ?_) (fun c_1 => ?_)
      · refine lv_iload_n hx hb dX1_shiftRegister_36 rfl (lv_at hl 1 rfl) ?_
        exact xr_i hx hb hr hlk (u := CS.s_ir k g) (⟨by rw [e1, show i = k.n by omega], by rw [e2, show i = k.n by omega]⟩) hP hK hD hS dX1_shiftRegister_37
      · refine lv_aload_n hx hb dX1_shiftRegister_12 rfl (lv_at hl 0 rfl) ?_
        refine va_get (D := (dC, dI)) (ci := 1) (v := .ref (q 14)) (C := RX1) (T := TX1) (N := 5) hx hb hts inX1 hown hK hP 0 rfl rfl 4 (by decide) (hts _ tw_83) (fun _ h9 => h9) rfl dX1_shiftRegister_13 ?_
        refine lv_iload_n hx hb dX1_shiftRegister_16 rfl (lv_at hl 2 rfl) ?_
        refine xa_ild hx hb hK hP 4 0 rfl rfl (v := nI (g i)) (by omega) (by decide) rfl dX1_shiftRegister_17 ?_
        refine lv_istore (lv' := [(4, .int (nI (g i))), (0, .ref (q 10)), (2, .int (nI cy)), (3, .int (nI i))]) hx hb dX1_shiftRegister_18 hl (by decide) rfl (fun ls hl => ?_)
        refine lv_aload_n hx hb dX1_shiftRegister_20 rfl (lv_at hl 1 rfl) ?_
        refine va_get (D := (dC, dI)) (ci := 1) (v := .ref (q 14)) (C := RX1) (T := TX1) (N := 5) hx hb hts inX1 hown hK hP 0 rfl rfl 4 (by decide) (hts _ tw_83) (fun _ h9 => h9) rfl dX1_shiftRegister_21 ?_
        refine lv_iload_n hx hb dX1_shiftRegister_24 rfl (lv_at hl 3 rfl) ?_
        refine lv_iload_n hx hb dX1_shiftRegister_25 rfl (lv_at hl 2 rfl) ?_
        refine xa_ist hx hb hK hP hD hS 4 0 rfl rfl (by omega) (by decide) (aN_up _ _ _) dX1_shiftRegister_26 (fun H locs hP hD hS => ?_)
        have hP : va_P (dC, dI) vwCl (wC q cI (CS.s_ir (CS.s_ir k g) (va_up g i cy))) H := hP
        have hD : va_D A (wC q cI (CS.s_ir (CS.s_ir k g) (va_up g i cy))) := hD
        refine lv_iload hx hb dX1_shiftRegister_27 (lv_at hl 0 rfl) ?_
        refine lv_istore_n (lv' := [(2, .int (nI (g i))), (4, .int (nI (g i))), (0, .ref (q 10)), (3, .int (nI i))]) hx hb dX1_shiftRegister_29 rfl hl (by decide) rfl (fun ls hl => ?_)
        refine lv_iinc (v := nI (i + 1)) (lv' := [(3, .int (nI (i + 1))), (2, .int (nI (g i))), (4, .int (nI (g i))), (0, .ref (q 10))]) hx hb dX1_shiftRegister_30 hl (k := 3) rfl (nI_1 _) (by decide) rfl (fun ls hl => ?_)
        refine lv_goto (tgt := 4) hx hb dX1_shiftRegister_33 (by decide) ?_
        exact ih4 (i + 1) (g i) (va_up g i cy) (by omega) (by rw [e2]; exact srV_at _ _ _) (by rw [e1, e2]; exact srV_s _ _ _) (by omega) H locs hP hD hS ls (lv_sub hl [3, 1, 0] rfl)
  exact L4 ((k.n - 0) + 1) 0 b (CS.ir k) (Nat.zero_le _) rfl ((srV_0 _ _).symm) (Nat.lt_succ_self _) H locs hP hD hS ls (lv_sub hl [2, 1, 0] rfl)
set_option maxHeartbeats 4000000 in
set_option maxRecDepth 100000 in
theorem c_Cells_drivenAt (l : Launch) (dC : Nat → ClassId) (dI : Nat → Nat → Nat) (q : Nat → Nat) (cI cZ : ClassId) (sz : Nat) (k : CS) (i h : Nat) (h1 : i < 20) (h2 : h < 2) (h3 : k.ki i < 2) : Met l yX1_drivenAt (.code yX1_drivenAt cX1_drivenAt 3 (some .int) :: ALLG) ({ frames := 0, cells := 0, slots := 0, locals := 0 }) (va_Pc [.ref (q 10), .int (nI i), .int (nI h)] (cP (dC, dI) vwCl [(cI, .int), (cZ, .boolean)] (wC q cI k) eT sz)) (va_Qi (fun (x : Int32) (_ : Unit) => x = nI (drv k i h)) (fun (_ : Unit) => cB (dC, dI) vwCl [(cI, .int), (cZ, .boolean)] (wC q cI k) (va_A (wC q cI k) sz)) (va_A (wC q cI k) sz)) 0 0 (va_A (wC q cI k) sz) := by
  refine xm_of (cc := cX1_drivenAt) (maxL := 3) (ret := some .int) (by decide) rfl (Nat.le_of_ble_eq_true rfl) ?_
  intro p e s m below meth c A hAe hx hb hr hml hts0 hown hlk hin hsz H locs hP hK hD hA hS hE ls hl
  have hts : ∀ w ∈ ALLG, w.before _ s = true := fun w h => hts0 w (List.mem_cons_of_mem _ h)
  rw [← hAe]
  have hl : lv_has ls 3 [(0, .ref (q 10)), (1, .int (nI i)), (2, .int (nI h))] := hl
  refine lv_iload_n hx hb dX1_drivenAt_0 rfl (lv_at hl 2 rfl) ?_
  refine xn_zeq (tgt := 23) hx hb (by omega) dX1_drivenAt_1 (by decide) (fun c_1 => ?_) (fun c_1 => ?_)
  · refine lv_aload_n hx hb dX1_drivenAt_23 rfl (lv_at hl 0 rfl) ?_
    refine va_get (D := (dC, dI)) (ci := 1) (v := .ref (q 11)) (C := RX1) (T := TX1) (N := 5) hx hb hts inX1 hown hK hP 0 rfl rfl 1 (by decide) (hts _ tw_79) (fun _ h9 => h9) rfl dX1_drivenAt_24 ?_
    refine lv_iload_n hx hb dX1_drivenAt_27 rfl (lv_at hl 1 rfl) ?_
    refine xa_ild hx hb hK hP 1 0 rfl rfl (v := nI ((CS.pin k) i)) (by omega) (by decide) rfl dX1_drivenAt_28 ?_
    exact xr_i hx hb hr hlk (u := ()) (by unfold drv; first | rw [if_pos ⟨by omega, by assumption⟩] | rw [if_neg (fun z => by omega)]) hP hK hD hS dX1_drivenAt_29
  · refine lv_aload_n hx hb dX1_drivenAt_4 rfl (lv_at hl 0 rfl) ?_
    refine va_get (D := (dC, dI)) (ci := 1) (v := .ref (q 12)) (C := RX1) (T := TX1) (N := 5) hx hb hts inX1 hown hK hP 0 rfl rfl 2 (by decide) (hts _ tw_81) (fun _ h9 => h9) rfl dX1_drivenAt_5 ?_
    refine lv_iload_n hx hb dX1_drivenAt_8 rfl (lv_at hl 1 rfl) ?_
    refine xa_ild hx hb hK hP 2 0 rfl rfl (v := nI ((CS.ki k) i)) (by omega) (by decide) rfl dX1_drivenAt_9 ?_
    refine lv_iconst (v := nI 1) hx hb dX1_drivenAt_10 (by decide) ?_
    refine xn_cne (tgt := 23) hx hb (by omega) (by omega) dX1_drivenAt_11 (by decide) (fun c_2 => ?_) (fun c_2 => ?_)
    · refine lv_aload_n hx hb dX1_drivenAt_23 rfl (lv_at hl 0 rfl) ?_
      refine va_get (D := (dC, dI)) (ci := 1) (v := .ref (q 11)) (C := RX1) (T := TX1) (N := 5) hx hb hts inX1 hown hK hP 0 rfl rfl 1 (by decide) (hts _ tw_79) (fun _ h9 => h9) rfl dX1_drivenAt_24 ?_
      refine lv_iload_n hx hb dX1_drivenAt_27 rfl (lv_at hl 1 rfl) ?_
      refine xa_ild hx hb hK hP 1 0 rfl rfl (v := nI ((CS.pin k) i)) (by omega) (by decide) rfl dX1_drivenAt_28 ?_
      exact xr_i hx hb hr hlk (u := ()) (by unfold drv; first | rw [if_pos ⟨by omega, by assumption⟩] | rw [if_neg (fun z => by omega)]) hP hK hD hS dX1_drivenAt_29
    · refine lv_aload_n hx hb dX1_drivenAt_14 rfl (lv_at hl 0 rfl) ?_
      refine va_get (D := (dC, dI)) (ci := 1) (v := .ref (q 13)) (C := RX1) (T := TX1) (N := 5) hx hb hts inX1 hown hK hP 0 rfl rfl 3 (by decide) (hts _ tw_82) (fun _ h9 => h9) rfl dX1_drivenAt_15 ?_
      refine lv_iload_n hx hb dX1_drivenAt_18 rfl (lv_at hl 1 rfl) ?_
      refine xa_ild hx hb hK hP 3 0 rfl rfl (v := nI ((CS.he k) i)) (by omega) (by decide) rfl dX1_drivenAt_19 ?_
      refine lv_goto (tgt := 29) hx hb dX1_drivenAt_20 (by decide) ?_
      exact xr_i hx hb hr hlk (u := ()) (by unfold drv; first | rw [if_pos ⟨by omega, by assumption⟩] | rw [if_neg (fun z => by omega)]) hP hK hD hS dX1_drivenAt_29
end
section
theorem sw_2 : Cond.selects "ScanRows$Rows" (⟨"ScanRows$Rows", "shiftPlaces", "(III)I"⟩ : MethodName) (⟨"ScanRows$Rows", "shiftPlaces", "(III)I"⟩ : MethodName) ∈ ALLG := al_s (i := 2) (by decide +kernel) (by decide +kernel)
theorem sw_15 : Cond.selects "ScanRows$Access" (⟨"ScanRows$Access", "act", "(I)I"⟩ : MethodName) (⟨"ScanRows$Access", "act", "(I)I"⟩ : MethodName) ∈ ALLG := al_s (i := 15) (by decide +kernel) (by decide +kernel)
theorem sw_16 : Cond.selects "ScanRows$Access" (⟨"ScanRows$Access", "captureData", "()V"⟩ : MethodName) (⟨"ScanRows$Access", "captureData", "()V"⟩ : MethodName) ∈ ALLG := al_s (i := 16) (by decide +kernel) (by decide +kernel)
theorem sw_17 : Cond.selects "ScanRows$Access" (⟨"ScanRows$Access", "register", "()I"⟩ : MethodName) (⟨"ScanRows$Access", "register", "()I"⟩ : MethodName) ∈ ALLG := al_s (i := 17) (by decide +kernel) (by decide +kernel)
theorem sw_18 : Cond.selects "ScanRows$Access" (⟨"ScanRows$Access", "shiftData", "(I)I"⟩ : MethodName) (⟨"ScanRows$Access", "shiftData", "(I)I"⟩ : MethodName) ∈ ALLG := al_s (i := 18) (by decide +kernel) (by decide +kernel)
theorem sw_19 : Cond.selects "ScanRows$Access" (⟨"ScanRows$Access", "shiftNumber", "(I)I"⟩ : MethodName) (⟨"ScanRows$Access", "shiftNumber", "(I)I"⟩ : MethodName) ∈ ALLG := al_s (i := 19) (by decide +kernel) (by decide +kernel)
theorem sw_20 : Cond.selects "ScanRows$Access" (⟨"ScanRows$Access", "shiftBypass", "(I)I"⟩ : MethodName) (⟨"ScanRows$Access", "shiftBypass", "(I)I"⟩ : MethodName) ∈ ALLG := al_s (i := 20) (by decide +kernel) (by decide +kernel)
theorem sw_21 : Cond.selects "ScanRows$Access" (⟨"ScanRows$Access", "updateData", "()V"⟩ : MethodName) (⟨"ScanRows$Access", "updateData", "()V"⟩ : MethodName) ∈ ALLG := al_s (i := 21) (by decide +kernel) (by decide +kernel)
theorem sw_22 : Cond.selects "ScanRows$Access" (⟨"ScanRows$Access", "shiftCode", "(I)I"⟩ : MethodName) (⟨"ScanRows$Access", "shiftCode", "(I)I"⟩ : MethodName) ∈ ALLG := al_s (i := 22) (by decide +kernel) (by decide +kernel)
theorem tw_3 : (Cond.initialized "ScanRows$Cells") ∈ ALLG := al_t (i := 3) (by decide +kernel) (by decide +kernel)
theorem tw_4 : (Cond.initialized "ScanRows$Access") ∈ ALLG := al_t (i := 4) (by decide +kernel) (by decide +kernel)
theorem tw_31 : (Cond.fieldLink "ScanRows$Access" (60 : Nat) "ScanRows$Rows" "placed" "I") ∈ ALLG := al_t (i := 31) (by decide +kernel) (by decide +kernel)
theorem tw_77 : (Cond.fieldLink "ScanRows$Access" (55 : Nat) "ScanRows$Cells" "count" "I") ∈ ALLG := al_t (i := 77) (by decide +kernel) (by decide +kernel)
theorem tw_101 : (Cond.fieldLink "ScanRows$Access" (23 : Nat) "ScanRows$Access" "state" "I") ∈ ALLG := al_t (i := 101) (by decide +kernel) (by decide +kernel)
theorem tw_103 : (Cond.fieldLink "ScanRows$Access" (26 : Nat) "ScanRows$Access" "code" "I") ∈ ALLG := al_t (i := 103) (by decide +kernel) (by decide +kernel)
theorem tw_105 : (Cond.fieldLink "ScanRows$Access" (9 : Nat) "ScanRows$Access" "number" "I") ∈ ALLG := al_t (i := 105) (by decide +kernel) (by decide +kernel)
theorem tw_106 : (Cond.fieldLink "ScanRows$Access" (15 : Nat) "ScanRows$Access" "rows" "LScanRows$Rows;") ∈ ALLG := al_t (i := 106) (by decide +kernel) (by decide +kernel)
theorem tw_107 : (Cond.fieldLink "ScanRows$Access" (19 : Nat) "ScanRows$Access" "cells" "LScanRows$Cells;") ∈ ALLG := al_t (i := 107) (by decide +kernel) (by decide +kernel)
theorem tw_108 : (Cond.fieldLink "ScanRows$Access" (49 : Nat) "ScanRows$Access" "codeInRegister" "I") ∈ ALLG := al_t (i := 108) (by decide +kernel) (by decide +kernel)
theorem tw_109 : (Cond.fieldLink "ScanRows$Access" (72 : Nat) "ScanRows$Access" "numberInRegister" "I") ∈ ALLG := al_t (i := 109) (by decide +kernel) (by decide +kernel)
theorem tw_110 : (Cond.fieldLink "ScanRows$Access" (75 : Nat) "ScanRows$Access" "bypassBit" "I") ∈ ALLG := al_t (i := 110) (by decide +kernel) (by decide +kernel)
theorem tw_168 : (Cond.methodLink "ScanRows$Rows" (97 : Nat) ({ cls := "ScanRows$Rows", name := "shiftPlaces", desc := "(III)I" } : Jvm.MethodName)) ∈ ALLG := al_t (i := 168) (by decide +kernel) (by decide +kernel)
theorem tw_170 : (Cond.instanceMethod ({ cls := "ScanRows$Rows", name := "shiftPlaces", desc := "(III)I" } : Jvm.MethodName)) ∈ ALLG := al_t (i := 170) (by decide +kernel) (by decide +kernel)
theorem tw_171 : (Cond.code ({ cls := "ScanRows$Rows", name := "shiftPlaces", desc := "(III)I" } : Jvm.MethodName) prog_4_method_25_code (8 : Nat) (Option.some FieldType.int)) ∈ ALLG := al_t (i := 171) (by decide +kernel) (by decide +kernel)
theorem tw_469 : (Cond.methodLink "ScanRows$Access" (33 : Nat) ({ cls := "ScanRows$Access", name := "act", desc := "(I)I" } : Jvm.MethodName)) ∈ ALLG := al_t (i := 469) (by decide +kernel) (by decide +kernel)
theorem tw_471 : (Cond.instanceMethod ({ cls := "ScanRows$Access", name := "act", desc := "(I)I" } : Jvm.MethodName)) ∈ ALLG := al_t (i := 471) (by decide +kernel) (by decide +kernel)
theorem tw_472 : (Cond.code ({ cls := "ScanRows$Access", name := "act", desc := "(I)I" } : Jvm.MethodName) prog_2_method_3_code (2 : Nat) (Option.some FieldType.int)) ∈ ALLG := al_t (i := 472) (by decide +kernel) (by decide +kernel)
theorem tw_473 : (Cond.methodLink "ScanRows$Access" (40 : Nat) ({ cls := "ScanRows$Access", name := "captureData", desc := "()V" } : Jvm.MethodName)) ∈ ALLG := al_t (i := 473) (by decide +kernel) (by decide +kernel)
theorem tw_475 : (Cond.instanceMethod ({ cls := "ScanRows$Access", name := "captureData", desc := "()V" } : Jvm.MethodName)) ∈ ALLG := al_t (i := 475) (by decide +kernel) (by decide +kernel)
theorem tw_476 : (Cond.code ({ cls := "ScanRows$Access", name := "captureData", desc := "()V" } : Jvm.MethodName) prog_2_method_6_code (1 : Nat) (Option.none : Option Jvm.ClassFile.FieldType)) ∈ ALLG := al_t (i := 476) (by decide +kernel) (by decide +kernel)
theorem tw_477 : (Cond.methodLink "ScanRows$Access" (65 : Nat) ({ cls := "ScanRows$Access", name := "register", desc := "()I" } : Jvm.MethodName)) ∈ ALLG := al_t (i := 477) (by decide +kernel) (by decide +kernel)
theorem tw_479 : (Cond.instanceMethod ({ cls := "ScanRows$Access", name := "register", desc := "()I" } : Jvm.MethodName)) ∈ ALLG := al_t (i := 479) (by decide +kernel) (by decide +kernel)
theorem tw_480 : (Cond.code ({ cls := "ScanRows$Access", name := "register", desc := "()I" } : Jvm.MethodName) prog_2_method_4_code (1 : Nat) (Option.some FieldType.int)) ∈ ALLG := al_t (i := 480) (by decide +kernel) (by decide +kernel)
theorem tw_481 : (Cond.methodLink "ScanRows$Access" (69 : Nat) ({ cls := "ScanRows$Cells", name := "capture", desc := "()V" } : Jvm.MethodName)) ∈ ALLG := al_t (i := 481) (by decide +kernel) (by decide +kernel)
theorem tw_482 : (Cond.instanceMethod ({ cls := "ScanRows$Cells", name := "capture", desc := "()V" } : Jvm.MethodName)) ∈ ALLG := al_t (i := 482) (by decide +kernel) (by decide +kernel)
theorem tw_483 : (Cond.selects "ScanRows$Cells" ({ cls := "ScanRows$Cells", name := "capture", desc := "()V" } : Jvm.MethodName) ({ cls := "ScanRows$Cells", name := "capture", desc := "()V" } : Jvm.MethodName)) ∈ ALLG := al_t (i := 483) (by decide +kernel) (by decide +kernel)
theorem tw_484 : (Cond.code ({ cls := "ScanRows$Cells", name := "capture", desc := "()V" } : Jvm.MethodName) prog_3_method_3_code (2 : Nat) (Option.none : Option Jvm.ClassFile.FieldType)) ∈ ALLG := al_t (i := 484) (by decide +kernel) (by decide +kernel)
theorem tw_485 : (Cond.methodLink "ScanRows$Access" (43 : Nat) ({ cls := "ScanRows$Access", name := "shiftData", desc := "(I)I" } : Jvm.MethodName)) ∈ ALLG := al_t (i := 485) (by decide +kernel) (by decide +kernel)
theorem tw_487 : (Cond.instanceMethod ({ cls := "ScanRows$Access", name := "shiftData", desc := "(I)I" } : Jvm.MethodName)) ∈ ALLG := al_t (i := 487) (by decide +kernel) (by decide +kernel)
theorem tw_488 : (Cond.code ({ cls := "ScanRows$Access", name := "shiftData", desc := "(I)I" } : Jvm.MethodName) prog_2_method_7_code (2 : Nat) (Option.some FieldType.int)) ∈ ALLG := al_t (i := 488) (by decide +kernel) (by decide +kernel)
theorem tw_489 : (Cond.methodLink "ScanRows$Access" (78 : Nat) ({ cls := "ScanRows$Cells", name := "shiftRegister", desc := "(I)I" } : Jvm.MethodName)) ∈ ALLG := al_t (i := 489) (by decide +kernel) (by decide +kernel)
theorem tw_490 : (Cond.instanceMethod ({ cls := "ScanRows$Cells", name := "shiftRegister", desc := "(I)I" } : Jvm.MethodName)) ∈ ALLG := al_t (i := 490) (by decide +kernel) (by decide +kernel)
theorem tw_491 : (Cond.selects "ScanRows$Cells" ({ cls := "ScanRows$Cells", name := "shiftRegister", desc := "(I)I" } : Jvm.MethodName) ({ cls := "ScanRows$Cells", name := "shiftRegister", desc := "(I)I" } : Jvm.MethodName)) ∈ ALLG := al_t (i := 491) (by decide +kernel) (by decide +kernel)
theorem tw_492 : (Cond.code ({ cls := "ScanRows$Cells", name := "shiftRegister", desc := "(I)I" } : Jvm.MethodName) prog_3_method_4_code (5 : Nat) (Option.some FieldType.int)) ∈ ALLG := al_t (i := 492) (by decide +kernel) (by decide +kernel)
theorem tw_493 : (Cond.methodLink "ScanRows$Access" (81 : Nat) ({ cls := "ScanRows$Access", name := "shiftNumber", desc := "(I)I" } : Jvm.MethodName)) ∈ ALLG := al_t (i := 493) (by decide +kernel) (by decide +kernel)
theorem tw_495 : (Cond.instanceMethod ({ cls := "ScanRows$Access", name := "shiftNumber", desc := "(I)I" } : Jvm.MethodName)) ∈ ALLG := al_t (i := 495) (by decide +kernel) (by decide +kernel)
theorem tw_496 : (Cond.code ({ cls := "ScanRows$Access", name := "shiftNumber", desc := "(I)I" } : Jvm.MethodName) prog_2_method_8_code (3 : Nat) (Option.some FieldType.int)) ∈ ALLG := al_t (i := 496) (by decide +kernel) (by decide +kernel)
theorem tw_497 : (Cond.methodLink "ScanRows$Access" (84 : Nat) ({ cls := "ScanRows$Rows", name := "shiftWholeRow", desc := "(I)I" } : Jvm.MethodName)) ∈ ALLG := al_t (i := 497) (by decide +kernel) (by decide +kernel)
theorem tw_498 : (Cond.instanceMethod ({ cls := "ScanRows$Rows", name := "shiftWholeRow", desc := "(I)I" } : Jvm.MethodName)) ∈ ALLG := al_t (i := 498) (by decide +kernel) (by decide +kernel)
theorem tw_499 : (Cond.selects "ScanRows$Rows" ({ cls := "ScanRows$Rows", name := "shiftWholeRow", desc := "(I)I" } : Jvm.MethodName) ({ cls := "ScanRows$Rows", name := "shiftWholeRow", desc := "(I)I" } : Jvm.MethodName)) ∈ ALLG := al_t (i := 499) (by decide +kernel) (by decide +kernel)
theorem tw_500 : (Cond.code ({ cls := "ScanRows$Rows", name := "shiftWholeRow", desc := "(I)I" } : Jvm.MethodName) prog_4_method_24_code (2 : Nat) (Option.some FieldType.int)) ∈ ALLG := al_t (i := 500) (by decide +kernel) (by decide +kernel)
theorem tw_501 : (Cond.methodLink "ScanRows$Access" (87 : Nat) ({ cls := "ScanRows$Access", name := "shiftBypass", desc := "(I)I" } : Jvm.MethodName)) ∈ ALLG := al_t (i := 501) (by decide +kernel) (by decide +kernel)
theorem tw_503 : (Cond.instanceMethod ({ cls := "ScanRows$Access", name := "shiftBypass", desc := "(I)I" } : Jvm.MethodName)) ∈ ALLG := al_t (i := 503) (by decide +kernel) (by decide +kernel)
theorem tw_504 : (Cond.code ({ cls := "ScanRows$Access", name := "shiftBypass", desc := "(I)I" } : Jvm.MethodName) prog_2_method_9_code (3 : Nat) (Option.some FieldType.int)) ∈ ALLG := al_t (i := 504) (by decide +kernel) (by decide +kernel)
theorem tw_505 : (Cond.methodLink "ScanRows$Access" (46 : Nat) ({ cls := "ScanRows$Access", name := "updateData", desc := "()V" } : Jvm.MethodName)) ∈ ALLG := al_t (i := 505) (by decide +kernel) (by decide +kernel)
theorem tw_507 : (Cond.instanceMethod ({ cls := "ScanRows$Access", name := "updateData", desc := "()V" } : Jvm.MethodName)) ∈ ALLG := al_t (i := 507) (by decide +kernel) (by decide +kernel)
theorem tw_508 : (Cond.code ({ cls := "ScanRows$Access", name := "updateData", desc := "()V" } : Jvm.MethodName) prog_2_method_11_code (1 : Nat) (Option.none : Option Jvm.ClassFile.FieldType)) ∈ ALLG := al_t (i := 508) (by decide +kernel) (by decide +kernel)
theorem tw_509 : (Cond.methodLink "ScanRows$Access" (90 : Nat) ({ cls := "ScanRows$Cells", name := "update", desc := "()V" } : Jvm.MethodName)) ∈ ALLG := al_t (i := 509) (by decide +kernel) (by decide +kernel)
theorem tw_510 : (Cond.instanceMethod ({ cls := "ScanRows$Cells", name := "update", desc := "()V" } : Jvm.MethodName)) ∈ ALLG := al_t (i := 510) (by decide +kernel) (by decide +kernel)
theorem tw_511 : (Cond.selects "ScanRows$Cells" ({ cls := "ScanRows$Cells", name := "update", desc := "()V" } : Jvm.MethodName) ({ cls := "ScanRows$Cells", name := "update", desc := "()V" } : Jvm.MethodName)) ∈ ALLG := al_t (i := 511) (by decide +kernel) (by decide +kernel)
theorem tw_512 : (Cond.code ({ cls := "ScanRows$Cells", name := "update", desc := "()V" } : Jvm.MethodName) prog_3_method_5_code (2 : Nat) (Option.none : Option Jvm.ClassFile.FieldType)) ∈ ALLG := al_t (i := 512) (by decide +kernel) (by decide +kernel)
theorem tw_513 : (Cond.methodLink "ScanRows$Access" (52 : Nat) ({ cls := "ScanRows$Access", name := "shiftCode", desc := "(I)I" } : Jvm.MethodName)) ∈ ALLG := al_t (i := 513) (by decide +kernel) (by decide +kernel)
theorem tw_515 : (Cond.instanceMethod ({ cls := "ScanRows$Access", name := "shiftCode", desc := "(I)I" } : Jvm.MethodName)) ∈ ALLG := al_t (i := 515) (by decide +kernel) (by decide +kernel)
theorem tw_516 : (Cond.code ({ cls := "ScanRows$Access", name := "shiftCode", desc := "(I)I" } : Jvm.MethodName) prog_2_method_10_code (3 : Nat) (Option.some FieldType.int)) ∈ ALLG := al_t (i := 516) (by decide +kernel) (by decide +kernel)
theorem tw_517 : (Cond.fieldLink "ScanRows$Access" (37 : Nat) "ScanRows$Access" "NEXT" "[I") ∈ ALLG := al_t (i := 517) (by decide +kernel) (by decide +kernel)
theorem dX0_register_0 : decode cX0_register 0 = .ok (.aload_n 0, 1) := by decide +kernel
theorem dX0_register_1 : decode cX0_register 1 = .ok (.getfield 26, 3) := by decide +kernel
theorem dX0_register_4 : decode cX0_register 4 = .ok (.ifCond .eq 11, 3) := by decide +kernel
theorem dX0_register_7 : decode cX0_register 7 = .ok (.aload_n 0, 1) := by decide +kernel
theorem dX0_register_8 : decode cX0_register 8 = .ok (.getfield 26, 3) := by decide +kernel
theorem dX0_register_11 : decode cX0_register 11 = .ok (.iconst 1, 1) := by decide +kernel
theorem dX0_register_12 : decode cX0_register 12 = .ok (.if_icmp .ne 19, 3) := by decide +kernel
theorem dX0_register_15 : decode cX0_register 15 = .ok (.aload_n 0, 1) := by decide +kernel
theorem dX0_register_16 : decode cX0_register 16 = .ok (.getfield 19, 3) := by decide +kernel
theorem dX0_register_19 : decode cX0_register 19 = .ok (.getfield 55, 3) := by decide +kernel
theorem dX0_register_22 : decode cX0_register 22 = .ok (.ifCond .le 7, 3) := by decide +kernel
theorem dX0_register_25 : decode cX0_register 25 = .ok (.iconst 1, 1) := by decide +kernel
theorem dX0_register_26 : decode cX0_register 26 = .ok (.goto 4, 3) := by decide +kernel
theorem dX0_register_29 : decode cX0_register 29 = .ok (.iconst 0, 1) := by decide +kernel
theorem dX0_register_30 : decode cX0_register 30 = .ok (.ireturn, 1) := by decide +kernel
theorem dX0_register_31 : decode cX0_register 31 = .ok (.aload_n 0, 1) := by decide +kernel
theorem dX0_register_32 : decode cX0_register 32 = .ok (.getfield 26, 3) := by decide +kernel
theorem dX0_register_35 : decode cX0_register 35 = .ok (.iconst 2, 1) := by decide +kernel
theorem dX0_register_36 : decode cX0_register 36 = .ok (.if_icmp .ne 5, 3) := by decide +kernel
theorem dX0_register_39 : decode cX0_register 39 = .ok (.iconst 2, 1) := by decide +kernel
theorem dX0_register_40 : decode cX0_register 40 = .ok (.ireturn, 1) := by decide +kernel
theorem dX0_register_41 : decode cX0_register 41 = .ok (.aload_n 0, 1) := by decide +kernel
theorem dX0_register_42 : decode cX0_register 42 = .ok (.getfield 26, 3) := by decide +kernel
theorem dX0_register_45 : decode cX0_register 45 = .ok (.iconst 3, 1) := by decide +kernel
theorem dX0_register_46 : decode cX0_register 46 = .ok (.if_icmp .ne 17, 3) := by decide +kernel
theorem dX0_register_49 : decode cX0_register 49 = .ok (.aload_n 0, 1) := by decide +kernel
theorem dX0_register_50 : decode cX0_register 50 = .ok (.getfield 15, 3) := by decide +kernel
theorem dX0_register_53 : decode cX0_register 53 = .ok (.getfield 60, 3) := by decide +kernel
theorem dX0_register_56 : decode cX0_register 56 = .ok (.ifCond .le 7, 3) := by decide +kernel
theorem dX0_register_59 : decode cX0_register 59 = .ok (.iconst 3, 1) := by decide +kernel
theorem dX0_register_60 : decode cX0_register 60 = .ok (.goto 4, 3) := by decide +kernel
theorem dX0_register_63 : decode cX0_register 63 = .ok (.iconst 0, 1) := by decide +kernel
theorem dX0_register_64 : decode cX0_register 64 = .ok (.ireturn, 1) := by decide +kernel
theorem dX0_registerLength_0 : decode cX0_registerLength 0 = .ok (.aload_n 0, 1) := by decide +kernel
theorem dX0_registerLength_1 : decode cX0_registerLength 1 = .ok (.invokevirtual 65, 3) := by decide +kernel
theorem dX0_registerLength_4 : decode cX0_registerLength 4 = .ok (.tableswitch 47 1 3 #[28, 36, 39], 28) := by decide +kernel
theorem dX0_registerLength_32 : decode cX0_registerLength 32 = .ok (.aload_n 0, 1) := by decide +kernel
theorem dX0_registerLength_33 : decode cX0_registerLength 33 = .ok (.getfield 19, 3) := by decide +kernel
theorem dX0_registerLength_36 : decode cX0_registerLength 36 = .ok (.getfield 55, 3) := by decide +kernel
theorem dX0_registerLength_39 : decode cX0_registerLength 39 = .ok (.ireturn, 1) := by decide +kernel
theorem dX0_registerLength_40 : decode cX0_registerLength 40 = .ok (.bipush 32, 2) := by decide +kernel
theorem dX0_registerLength_42 : decode cX0_registerLength 42 = .ok (.ireturn, 1) := by decide +kernel
theorem dX0_registerLength_43 : decode cX0_registerLength 43 = .ok (.aload_n 0, 1) := by decide +kernel
theorem dX0_registerLength_44 : decode cX0_registerLength 44 = .ok (.getfield 15, 3) := by decide +kernel
theorem dX0_registerLength_47 : decode cX0_registerLength 47 = .ok (.getfield 60, 3) := by decide +kernel
theorem dX0_registerLength_50 : decode cX0_registerLength 50 = .ok (.ireturn, 1) := by decide +kernel
theorem dX0_registerLength_51 : decode cX0_registerLength 51 = .ok (.iconst 1, 1) := by decide +kernel
theorem dX0_registerLength_52 : decode cX0_registerLength 52 = .ok (.ireturn, 1) := by decide +kernel
theorem dX0_shiftBypass_0 : decode cX0_shiftBypass 0 = .ok (.aload_n 0, 1) := by decide +kernel
theorem dX0_shiftBypass_1 : decode cX0_shiftBypass 1 = .ok (.getfield 75, 3) := by decide +kernel
theorem dX0_shiftBypass_4 : decode cX0_shiftBypass 4 = .ok (.istore_n 2, 1) := by decide +kernel
theorem dX0_shiftBypass_5 : decode cX0_shiftBypass 5 = .ok (.aload_n 0, 1) := by decide +kernel
theorem dX0_shiftBypass_6 : decode cX0_shiftBypass 6 = .ok (.iload_n 1, 1) := by decide +kernel
theorem dX0_shiftBypass_7 : decode cX0_shiftBypass 7 = .ok (.putfield 75, 3) := by decide +kernel
theorem dX0_shiftBypass_10 : decode cX0_shiftBypass 10 = .ok (.iload_n 2, 1) := by decide +kernel
theorem dX0_shiftBypass_11 : decode cX0_shiftBypass 11 = .ok (.ireturn, 1) := by decide +kernel
theorem dX0_shiftNumber_0 : decode cX0_shiftNumber 0 = .ok (.aload_n 0, 1) := by decide +kernel
theorem dX0_shiftNumber_1 : decode cX0_shiftNumber 1 = .ok (.getfield 72, 3) := by decide +kernel
theorem dX0_shiftNumber_4 : decode cX0_shiftNumber 4 = .ok (.iconst 1, 1) := by decide +kernel
theorem dX0_shiftNumber_5 : decode cX0_shiftNumber 5 = .ok (.iand, 1) := by decide +kernel
theorem dX0_shiftNumber_6 : decode cX0_shiftNumber 6 = .ok (.istore_n 2, 1) := by decide +kernel
theorem dX0_shiftNumber_7 : decode cX0_shiftNumber 7 = .ok (.aload_n 0, 1) := by decide +kernel
theorem dX0_shiftNumber_8 : decode cX0_shiftNumber 8 = .ok (.aload_n 0, 1) := by decide +kernel
theorem dX0_shiftNumber_9 : decode cX0_shiftNumber 9 = .ok (.getfield 72, 3) := by decide +kernel
theorem dX0_shiftNumber_12 : decode cX0_shiftNumber 12 = .ok (.iconst 1, 1) := by decide +kernel
theorem dX0_shiftNumber_13 : decode cX0_shiftNumber 13 = .ok (.iushr, 1) := by decide +kernel
theorem dX0_shiftNumber_14 : decode cX0_shiftNumber 14 = .ok (.iload_n 1, 1) := by decide +kernel
theorem dX0_shiftNumber_15 : decode cX0_shiftNumber 15 = .ok (.bipush 31, 2) := by decide +kernel
theorem dX0_shiftNumber_17 : decode cX0_shiftNumber 17 = .ok (.ishl, 1) := by decide +kernel
theorem dX0_shiftNumber_18 : decode cX0_shiftNumber 18 = .ok (.ior, 1) := by decide +kernel
theorem dX0_shiftNumber_19 : decode cX0_shiftNumber 19 = .ok (.putfield 72, 3) := by decide +kernel
theorem dX0_shiftNumber_22 : decode cX0_shiftNumber 22 = .ok (.iload_n 2, 1) := by decide +kernel
theorem dX0_shiftNumber_23 : decode cX0_shiftNumber 23 = .ok (.ireturn, 1) := by decide +kernel
theorem dX0_shiftCode_0 : decode cX0_shiftCode 0 = .ok (.aload_n 0, 1) := by decide +kernel
theorem dX0_shiftCode_1 : decode cX0_shiftCode 1 = .ok (.getfield 49, 3) := by decide +kernel
theorem dX0_shiftCode_4 : decode cX0_shiftCode 4 = .ok (.iconst 1, 1) := by decide +kernel
theorem dX0_shiftCode_5 : decode cX0_shiftCode 5 = .ok (.iand, 1) := by decide +kernel
theorem dX0_shiftCode_6 : decode cX0_shiftCode 6 = .ok (.istore_n 2, 1) := by decide +kernel
theorem dX0_shiftCode_7 : decode cX0_shiftCode 7 = .ok (.aload_n 0, 1) := by decide +kernel
theorem dX0_shiftCode_8 : decode cX0_shiftCode 8 = .ok (.aload_n 0, 1) := by decide +kernel
theorem dX0_shiftCode_9 : decode cX0_shiftCode 9 = .ok (.getfield 49, 3) := by decide +kernel
theorem dX0_shiftCode_12 : decode cX0_shiftCode 12 = .ok (.iconst 1, 1) := by decide +kernel
theorem dX0_shiftCode_13 : decode cX0_shiftCode 13 = .ok (.iushr, 1) := by decide +kernel
theorem dX0_shiftCode_14 : decode cX0_shiftCode 14 = .ok (.iload_n 1, 1) := by decide +kernel
theorem dX0_shiftCode_15 : decode cX0_shiftCode 15 = .ok (.iconst 3, 1) := by decide +kernel
theorem dX0_shiftCode_16 : decode cX0_shiftCode 16 = .ok (.ishl, 1) := by decide +kernel
theorem dX0_shiftCode_17 : decode cX0_shiftCode 17 = .ok (.ior, 1) := by decide +kernel
theorem dX0_shiftCode_18 : decode cX0_shiftCode 18 = .ok (.putfield 49, 3) := by decide +kernel
theorem dX0_shiftCode_21 : decode cX0_shiftCode 21 = .ok (.iload_n 2, 1) := by decide +kernel
theorem dX0_shiftCode_22 : decode cX0_shiftCode 22 = .ok (.ireturn, 1) := by decide +kernel
theorem dX0_captureData_0 : decode cX0_captureData 0 = .ok (.aload_n 0, 1) := by decide +kernel
theorem dX0_captureData_1 : decode cX0_captureData 1 = .ok (.invokevirtual 65, 3) := by decide +kernel
theorem dX0_captureData_4 : decode cX0_captureData 4 = .ok (.tableswitch 52 1 3 #[28, 38, 49], 28) := by decide +kernel
theorem dX0_captureData_32 : decode cX0_captureData 32 = .ok (.aload_n 0, 1) := by decide +kernel
theorem dX0_captureData_33 : decode cX0_captureData 33 = .ok (.getfield 19, 3) := by decide +kernel
theorem dX0_captureData_36 : decode cX0_captureData 36 = .ok (.invokevirtual 69, 3) := by decide +kernel
theorem dX0_captureData_39 : decode cX0_captureData 39 = .ok (.goto 22, 3) := by decide +kernel
theorem dX0_captureData_42 : decode cX0_captureData 42 = .ok (.aload_n 0, 1) := by decide +kernel
theorem dX0_captureData_43 : decode cX0_captureData 43 = .ok (.aload_n 0, 1) := by decide +kernel
theorem dX0_captureData_44 : decode cX0_captureData 44 = .ok (.getfield 9, 3) := by decide +kernel
theorem dX0_captureData_47 : decode cX0_captureData 47 = .ok (.putfield 72, 3) := by decide +kernel
theorem dX0_captureData_50 : decode cX0_captureData 50 = .ok (.goto 11, 3) := by decide +kernel
theorem dX0_captureData_53 : decode cX0_captureData 53 = .ok (.goto 8, 3) := by decide +kernel
theorem dX0_captureData_56 : decode cX0_captureData 56 = .ok (.aload_n 0, 1) := by decide +kernel
theorem dX0_captureData_57 : decode cX0_captureData 57 = .ok (.iconst 0, 1) := by decide +kernel
theorem dX0_captureData_58 : decode cX0_captureData 58 = .ok (.putfield 75, 3) := by decide +kernel
theorem dX0_captureData_61 : decode cX0_captureData 61 = .ok (.return_, 1) := by decide +kernel
theorem dX2_shiftWholeRow_0 : decode cX2_shiftWholeRow 0 = .ok (.aload_n 0, 1) := by decide +kernel
theorem dX2_shiftWholeRow_1 : decode cX2_shiftWholeRow 1 = .ok (.iconst 0, 1) := by decide +kernel
theorem dX2_shiftWholeRow_2 : decode cX2_shiftWholeRow 2 = .ok (.aload_n 0, 1) := by decide +kernel
theorem dX2_shiftWholeRow_3 : decode cX2_shiftWholeRow 3 = .ok (.getfield 59, 3) := by decide +kernel
theorem dX2_shiftWholeRow_6 : decode cX2_shiftWholeRow 6 = .ok (.iload_n 1, 1) := by decide +kernel
theorem dX2_shiftWholeRow_7 : decode cX2_shiftWholeRow 7 = .ok (.invokevirtual 97, 3) := by decide +kernel
theorem dX2_shiftWholeRow_10 : decode cX2_shiftWholeRow 10 = .ok (.ireturn, 1) := by decide +kernel
theorem dX0_shiftData_0 : decode cX0_shiftData 0 = .ok (.aload_n 0, 1) := by decide +kernel
theorem dX0_shiftData_1 : decode cX0_shiftData 1 = .ok (.invokevirtual 65, 3) := by decide +kernel
theorem dX0_shiftData_4 : decode cX0_shiftData 4 = .ok (.tableswitch 52 1 3 #[28, 37, 43], 28) := by decide +kernel
theorem dX0_shiftData_32 : decode cX0_shiftData 32 = .ok (.aload_n 0, 1) := by decide +kernel
theorem dX0_shiftData_33 : decode cX0_shiftData 33 = .ok (.getfield 19, 3) := by decide +kernel
theorem dX0_shiftData_36 : decode cX0_shiftData 36 = .ok (.iload_n 1, 1) := by decide +kernel
theorem dX0_shiftData_37 : decode cX0_shiftData 37 = .ok (.invokevirtual 78, 3) := by decide +kernel
theorem dX0_shiftData_40 : decode cX0_shiftData 40 = .ok (.ireturn, 1) := by decide +kernel
theorem dX0_shiftData_41 : decode cX0_shiftData 41 = .ok (.aload_n 0, 1) := by decide +kernel
theorem dX0_shiftData_42 : decode cX0_shiftData 42 = .ok (.iload_n 1, 1) := by decide +kernel
theorem dX0_shiftData_43 : decode cX0_shiftData 43 = .ok (.invokevirtual 81, 3) := by decide +kernel
theorem dX0_shiftData_46 : decode cX0_shiftData 46 = .ok (.ireturn, 1) := by decide +kernel
theorem dX0_shiftData_47 : decode cX0_shiftData 47 = .ok (.aload_n 0, 1) := by decide +kernel
theorem dX0_shiftData_48 : decode cX0_shiftData 48 = .ok (.getfield 15, 3) := by decide +kernel
theorem dX0_shiftData_51 : decode cX0_shiftData 51 = .ok (.iload_n 1, 1) := by decide +kernel
theorem dX0_shiftData_52 : decode cX0_shiftData 52 = .ok (.invokevirtual 84, 3) := by decide +kernel
theorem dX0_shiftData_55 : decode cX0_shiftData 55 = .ok (.ireturn, 1) := by decide +kernel
theorem dX0_shiftData_56 : decode cX0_shiftData 56 = .ok (.aload_n 0, 1) := by decide +kernel
theorem dX0_shiftData_57 : decode cX0_shiftData 57 = .ok (.iload_n 1, 1) := by decide +kernel
theorem dX0_shiftData_58 : decode cX0_shiftData 58 = .ok (.invokevirtual 87, 3) := by decide +kernel
theorem dX0_shiftData_61 : decode cX0_shiftData 61 = .ok (.ireturn, 1) := by decide +kernel
theorem dX0_updateData_0 : decode cX0_updateData 0 = .ok (.aload_n 0, 1) := by decide +kernel
theorem dX0_updateData_1 : decode cX0_updateData 1 = .ok (.invokevirtual 65, 3) := by decide +kernel
theorem dX0_updateData_4 : decode cX0_updateData 4 = .ok (.iconst 1, 1) := by decide +kernel
theorem dX0_updateData_5 : decode cX0_updateData 5 = .ok (.if_icmp .ne 10, 3) := by decide +kernel
theorem dX0_updateData_8 : decode cX0_updateData 8 = .ok (.aload_n 0, 1) := by decide +kernel
theorem dX0_updateData_9 : decode cX0_updateData 9 = .ok (.getfield 19, 3) := by decide +kernel
theorem dX0_updateData_12 : decode cX0_updateData 12 = .ok (.invokevirtual 90, 3) := by decide +kernel
theorem dX0_updateData_15 : decode cX0_updateData 15 = .ok (.return_, 1) := by decide +kernel
theorem dX0_act_0 : decode cX0_act 0 = .ok (.aload_n 0, 1) := by decide +kernel
theorem dX0_act_1 : decode cX0_act 1 = .ok (.getfield 23, 3) := by decide +kernel
theorem dX0_act_4 : decode cX0_act 4 = .ok (.tableswitch 109 3 15 #[68, 74, 109, 109, 109, 80, 109, 86, 93, 109, 109, 109, 99], 68) := by decide +kernel
theorem dX0_act_72 : decode cX0_act 72 = .ok (.aload_n 0, 1) := by decide +kernel
theorem dX0_act_73 : decode cX0_act 73 = .ok (.invokevirtual 40, 3) := by decide +kernel
theorem dX0_act_76 : decode cX0_act 76 = .ok (.iconst (-1), 1) := by decide +kernel
theorem dX0_act_77 : decode cX0_act 77 = .ok (.ireturn, 1) := by decide +kernel
theorem dX0_act_78 : decode cX0_act 78 = .ok (.aload_n 0, 1) := by decide +kernel
theorem dX0_act_79 : decode cX0_act 79 = .ok (.iload_n 1, 1) := by decide +kernel
theorem dX0_act_80 : decode cX0_act 80 = .ok (.invokevirtual 43, 3) := by decide +kernel
theorem dX0_act_83 : decode cX0_act 83 = .ok (.ireturn, 1) := by decide +kernel
theorem dX0_act_84 : decode cX0_act 84 = .ok (.aload_n 0, 1) := by decide +kernel
theorem dX0_act_85 : decode cX0_act 85 = .ok (.invokevirtual 46, 3) := by decide +kernel
theorem dX0_act_88 : decode cX0_act 88 = .ok (.iconst (-1), 1) := by decide +kernel
theorem dX0_act_89 : decode cX0_act 89 = .ok (.ireturn, 1) := by decide +kernel
theorem dX0_act_90 : decode cX0_act 90 = .ok (.aload_n 0, 1) := by decide +kernel
theorem dX0_act_91 : decode cX0_act 91 = .ok (.iconst 1, 1) := by decide +kernel
theorem dX0_act_92 : decode cX0_act 92 = .ok (.putfield 49, 3) := by decide +kernel
theorem dX0_act_95 : decode cX0_act 95 = .ok (.iconst (-1), 1) := by decide +kernel
theorem dX0_act_96 : decode cX0_act 96 = .ok (.ireturn, 1) := by decide +kernel
theorem dX0_act_97 : decode cX0_act 97 = .ok (.aload_n 0, 1) := by decide +kernel
theorem dX0_act_98 : decode cX0_act 98 = .ok (.iload_n 1, 1) := by decide +kernel
theorem dX0_act_99 : decode cX0_act 99 = .ok (.invokevirtual 52, 3) := by decide +kernel
theorem dX0_act_102 : decode cX0_act 102 = .ok (.ireturn, 1) := by decide +kernel
theorem dX0_act_103 : decode cX0_act 103 = .ok (.aload_n 0, 1) := by decide +kernel
theorem dX0_act_104 : decode cX0_act 104 = .ok (.aload_n 0, 1) := by decide +kernel
theorem dX0_act_105 : decode cX0_act 105 = .ok (.getfield 49, 3) := by decide +kernel
theorem dX0_act_108 : decode cX0_act 108 = .ok (.putfield 26, 3) := by decide +kernel
theorem dX0_act_111 : decode cX0_act 111 = .ok (.iconst (-1), 1) := by decide +kernel
theorem dX0_act_112 : decode cX0_act 112 = .ok (.ireturn, 1) := by decide +kernel
theorem dX0_act_113 : decode cX0_act 113 = .ok (.iconst (-1), 1) := by decide +kernel
theorem dX0_act_114 : decode cX0_act 114 = .ok (.ireturn, 1) := by decide +kernel
theorem dX0_step_0 : decode cX0_step 0 = .ok (.aload_n 0, 1) := by decide +kernel
theorem dX0_step_1 : decode cX0_step 1 = .ok (.iload_n 2, 1) := by decide +kernel
theorem dX0_step_2 : decode cX0_step 2 = .ok (.invokevirtual 33, 3) := by decide +kernel
theorem dX0_step_5 : decode cX0_step 5 = .ok (.istore_n 3, 1) := by decide +kernel
theorem dX0_step_6 : decode cX0_step 6 = .ok (.aload_n 0, 1) := by decide +kernel
theorem dX0_step_7 : decode cX0_step 7 = .ok (.getstatic 37, 3) := by decide +kernel
theorem dX0_step_10 : decode cX0_step 10 = .ok (.iconst 2, 1) := by decide +kernel
theorem dX0_step_11 : decode cX0_step 11 = .ok (.aload_n 0, 1) := by decide +kernel
theorem dX0_step_12 : decode cX0_step 12 = .ok (.getfield 23, 3) := by decide +kernel
theorem dX0_step_15 : decode cX0_step 15 = .ok (.imul, 1) := by decide +kernel
theorem dX0_step_16 : decode cX0_step 16 = .ok (.iload_n 1, 1) := by decide +kernel
theorem dX0_step_17 : decode cX0_step 17 = .ok (.iadd, 1) := by decide +kernel
theorem dX0_step_18 : decode cX0_step 18 = .ok (.iaload, 1) := by decide +kernel
theorem dX0_step_19 : decode cX0_step 19 = .ok (.putfield 23, 3) := by decide +kernel
theorem dX0_step_22 : decode cX0_step 22 = .ok (.aload_n 0, 1) := by decide +kernel
theorem dX0_step_23 : decode cX0_step 23 = .ok (.getfield 23, 3) := by decide +kernel
theorem dX0_step_26 : decode cX0_step 26 = .ok (.ifCond .ne 8, 3) := by decide +kernel
theorem dX0_step_29 : decode cX0_step 29 = .ok (.aload_n 0, 1) := by decide +kernel
theorem dX0_step_30 : decode cX0_step 30 = .ok (.iconst 2, 1) := by decide +kernel
theorem dX0_step_31 : decode cX0_step 31 = .ok (.putfield 26, 3) := by decide +kernel
theorem dX0_step_34 : decode cX0_step 34 = .ok (.iload_n 3, 1) := by decide +kernel
theorem dX0_step_35 : decode cX0_step 35 = .ok (.ireturn, 1) := by decide +kernel
set_option maxHeartbeats 4000000 in
set_option maxRecDepth 100000 in
theorem c_Access_register (l : Launch) (dC : Nat → ClassId) (dI : Nat → Nat → Nat) (q : Nat → Nat) (cI cZ : ClassId) (sz : Nat) (r : RS) (k : CS) (a : AS) (h1 : a.co < 16) (h2 : k.n ≤ 20) (h3 : r.p ≤ 32) : Met l yX0_register (.code yX0_register cX0_register 1 (some .int) :: ALLG) ({ frames := 0, cells := 0, slots := 0, locals := 0 }) (va_Pc [.ref (q 15)] (cP (dC, dI) vwCl [(cI, .int), (cZ, .boolean)] (wY q cI cZ r k a) eT sz)) (va_Qi (fun (x : Int32) (_ : Unit) => x = nI (reg a.co k.n r.p)) (fun (_ : Unit) => cB (dC, dI) vwCl [(cI, .int), (cZ, .boolean)] (wY q cI cZ r k a) (va_A (wY q cI cZ r k a) sz)) (va_A (wY q cI cZ r k a) sz)) 0 0 (va_A (wY q cI cZ r k a) sz) := by
  refine xm_of (cc := cX0_register) (maxL := 1) (ret := some .int) (by decide) rfl (Nat.le_of_ble_eq_true rfl) ?_
  intro p e s m below meth c A hAe hx hb hr hml hts0 hown hlk hin hsz H locs hP hK hD hA hS hE ls hl
  have hts : ∀ w ∈ ALLG, w.before _ s = true := fun w h => hts0 w (List.mem_cons_of_mem _ h)
  rw [← hAe]
  have hl : lv_has ls 1 [(0, .ref (q 15))] := hl
  refine lv_aload_n hx hb dX0_register_0 rfl (lv_at hl 0 rfl) ?_
  refine va_get (D := (dC, dI)) (ci := 0) (v := .int (nI (AS.co a))) (C := RX0) (T := TX0) (N := 9) hx hb hts inX0 hown hK hP 15 rfl rfl 1 (by decide) (hts _ tw_103) (fun _ h9 => h9) rfl dX0_register_1 ?_
  refine xn_zeq (tgt := 15) hx hb (by omega) dX0_register_4 (by decide) (fun c_1 => ?_) (fun c_1 => ?_)
  · refine lv_aload_n hx hb dX0_register_15 rfl (lv_at hl 0 rfl) ?_
    refine va_get (D := (dC, dI)) (ci := 0) (v := .ref (q 10)) (C := RX0) (T := TX0) (N := 9) hx hb hts inX0 hown hK hP 15 rfl rfl 4 (by decide) (hts _ tw_107) (fun _ h9 => h9) rfl dX0_register_16 ?_
    refine va_get (D := (dC, dI)) (ci := 1) (v := .int (nI (CS.n k))) (C := RX1) (T := TX1) (N := 5) hx hb hts inX1 hown hK hP 10 rfl rfl 0 (by decide) (hts _ tw_77) (fun _ h9 => h9) rfl dX0_register_19 ?_
    refine xn_zle (tgt := 29) hx hb (by omega) dX0_register_22 (by decide) (fun c_2 => ?_) (fun c_2 => ?_)
    · refine lv_iconst (v := nI 0) hx hb dX0_register_29 (by decide) ?_
      exact xr_i hx hb hr hlk (u := ()) (by unfold reg; split <;> (try split) <;> (try split) <;> first | rfl | omega) hP hK hD hS dX0_register_30
    · refine lv_iconst (v := nI 1) hx hb dX0_register_25 (by decide) ?_
      refine lv_goto (tgt := 30) hx hb dX0_register_26 (by decide) ?_
      exact xr_i hx hb hr hlk (u := ()) (by unfold reg; split <;> (try split) <;> (try split) <;> first | rfl | omega) hP hK hD hS dX0_register_30
  · refine lv_aload_n hx hb dX0_register_7 rfl (lv_at hl 0 rfl) ?_
    refine va_get (D := (dC, dI)) (ci := 0) (v := .int (nI (AS.co a))) (C := RX0) (T := TX0) (N := 9) hx hb hts inX0 hown hK hP 15 rfl rfl 1 (by decide) (hts _ tw_103) (fun _ h9 => h9) rfl dX0_register_8 ?_
    refine lv_iconst (v := nI 1) hx hb dX0_register_11 (by decide) ?_
    refine xn_cne (tgt := 31) hx hb (by omega) (by omega) dX0_register_12 (by decide) (fun c_3 => ?_) (fun c_3 => ?_)
    · refine lv_aload_n hx hb dX0_register_31 rfl (lv_at hl 0 rfl) ?_
      refine va_get (D := (dC, dI)) (ci := 0) (v := .int (nI (AS.co a))) (C := RX0) (T := TX0) (N := 9) hx hb hts inX0 hown hK hP 15 rfl rfl 1 (by decide) (hts _ tw_103) (fun _ h9 => h9) rfl dX0_register_32 ?_
      refine lv_iconst (v := nI 2) hx hb dX0_register_35 (by decide) ?_
      refine xn_cne (tgt := 41) hx hb (by omega) (by omega) dX0_register_36 (by decide) (fun c_4 => ?_) (fun c_4 => ?_)
      · refine lv_aload_n hx hb dX0_register_41 rfl (lv_at hl 0 rfl) ?_
        refine va_get (D := (dC, dI)) (ci := 0) (v := .int (nI (AS.co a))) (C := RX0) (T := TX0) (N := 9) hx hb hts inX0 hown hK hP 15 rfl rfl 1 (by decide) (hts _ tw_103) (fun _ h9 => h9) rfl dX0_register_42 ?_
        refine lv_iconst (v := nI 3) hx hb dX0_register_45 (by decide) ?_
        refine xn_cne (tgt := 63) hx hb (by omega) (by omega) dX0_register_46 (by decide) (fun c_5 => ?_) (fun c_5 => ?_)
        · refine lv_iconst (v := nI 0) hx hb dX0_register_63 (by decide) ?_
          exact xr_i hx hb hr hlk (u := ()) (by unfold reg; split <;> (try split) <;> (try split) <;> first | rfl | omega) hP hK hD hS dX0_register_64
        · refine lv_aload_n hx hb dX0_register_49 rfl (lv_at hl 0 rfl) ?_
          refine va_get (D := (dC, dI)) (ci := 0) (v := .ref (q 0)) (C := RX0) (T := TX0) (N := 9) hx hb hts inX0 hown hK hP 15 rfl rfl 3 (by decide) (hts _ tw_106) (fun _ h9 => h9) rfl dX0_register_50 ?_
          refine va_get (D := (dC, dI)) (ci := 2) (v := .int (nI (RS.p r))) (C := RX2) (T := TX2) (N := 12) hx hb hts inX2 hown hK hP 0 rfl rfl 2 (by decide) (hts _ tw_31) (fun _ h9 => h9) rfl dX0_register_53 ?_
          refine xn_zle (tgt := 63) hx hb (by omega) dX0_register_56 (by decide) (fun c_6 => ?_) (fun c_6 => ?_)
          · refine lv_iconst (v := nI 0) hx hb dX0_register_63 (by decide) ?_
            exact xr_i hx hb hr hlk (u := ()) (by unfold reg; split <;> (try split) <;> (try split) <;> first | rfl | omega) hP hK hD hS dX0_register_64
          · refine lv_iconst (v := nI 3) hx hb dX0_register_59 (by decide) ?_
            refine lv_goto (tgt := 64) hx hb dX0_register_60 (by decide) ?_
            exact xr_i hx hb hr hlk (u := ()) (by unfold reg; split <;> (try split) <;> (try split) <;> first | rfl | omega) hP hK hD hS dX0_register_64
      · refine lv_iconst (v := nI 2) hx hb dX0_register_39 (by decide) ?_
        exact xr_i hx hb hr hlk (u := ()) (by unfold reg; split <;> (try split) <;> (try split) <;> first | rfl | omega) hP hK hD hS dX0_register_40
    · refine lv_aload_n hx hb dX0_register_15 rfl (lv_at hl 0 rfl) ?_
      refine va_get (D := (dC, dI)) (ci := 0) (v := .ref (q 10)) (C := RX0) (T := TX0) (N := 9) hx hb hts inX0 hown hK hP 15 rfl rfl 4 (by decide) (hts _ tw_107) (fun _ h9 => h9) rfl dX0_register_16 ?_
      refine va_get (D := (dC, dI)) (ci := 1) (v := .int (nI (CS.n k))) (C := RX1) (T := TX1) (N := 5) hx hb hts inX1 hown hK hP 10 rfl rfl 0 (by decide) (hts _ tw_77) (fun _ h9 => h9) rfl dX0_register_19 ?_
      refine xn_zle (tgt := 29) hx hb (by omega) dX0_register_22 (by decide) (fun c_7 => ?_) (fun c_7 => ?_)
      · refine lv_iconst (v := nI 0) hx hb dX0_register_29 (by decide) ?_
        exact xr_i hx hb hr hlk (u := ()) (by unfold reg; split <;> (try split) <;> (try split) <;> first | rfl | omega) hP hK hD hS dX0_register_30
      · refine lv_iconst (v := nI 1) hx hb dX0_register_25 (by decide) ?_
        refine lv_goto (tgt := 30) hx hb dX0_register_26 (by decide) ?_
        exact xr_i hx hb hr hlk (u := ()) (by unfold reg; split <;> (try split) <;> (try split) <;> first | rfl | omega) hP hK hD hS dX0_register_30
set_option maxHeartbeats 4000000 in
set_option maxRecDepth 100000 in
theorem c_Access_registerLength (l : Launch) (dC : Nat → ClassId) (dI : Nat → Nat → Nat) (q : Nat → Nat) (cI cZ : ClassId) (sz : Nat) (r : RS) (k : CS) (a : AS) (h1 : a.co < 16) (h2 : k.n ≤ 20) (h3 : r.p ≤ 32) : Met l yX0_registerLength (.code yX0_registerLength cX0_registerLength 1 (some .int) :: ALLG) ({ frames := 1, cells := 0, slots := 0, locals := 20 }) (va_Pc [.ref (q 15)] (cP (dC, dI) vwCl [(cI, .int), (cZ, .boolean)] (wY q cI cZ r k a) eT sz)) (va_Qi (fun (x : Int32) (_ : Unit) => x = nI (regLen a.co k.n r.p)) (fun (_ : Unit) => cB (dC, dI) vwCl [(cI, .int), (cZ, .boolean)] (wY q cI cZ r k a) (va_A (wY q cI cZ r k a) sz)) (va_A (wY q cI cZ r k a) sz)) 0 0 (va_A (wY q cI cZ r k a) sz) := by
  refine xm_of (cc := cX0_registerLength) (maxL := 1) (ret := some .int) (by decide) rfl (Nat.le_of_ble_eq_true rfl) ?_
  intro p e s m below meth c A hAe hx hb hr hml hts0 hown hlk hin hsz H locs hP hK hD hA hS hE ls hl
  have hts : ∀ w ∈ ALLG, w.before _ s = true := fun w h => hts0 w (List.mem_cons_of_mem _ h)
  rw [← hAe]
  have g0 := reg_lt a.co k.n r.p
  have hl : lv_has ls 1 [(0, .ref (q 15))] := hl
  refine lv_aload_n hx hb dX0_registerLength_0 rfl (lv_at hl 0 rfl) ?_
  refine xc_Vi (As := []) (wr := []) ⟨hx, hb, hml, hown, hts⟩ (c_Access_register l dC dI q cI cZ H.size r k a (by omega) (by omega) (by omega)) (cwV 0 hts (gV tw_477 tw_479 sw_17 tw_4 tw_480) rfl rfl rfl (by decide +kernel) ⟨Nat.le_of_ble_eq_true rfl, Nat.le_of_ble_eq_true rfl⟩) rfl hl.1 rfl (Nat.le_of_ble_eq_true rfl) dX0_registerLength_1 ⟨Nat.zero_le _, Nat.zero_le _⟩ hP hD hK hS hA [0, 1, 2, 3, 4, 5, 6, 7, 8, 9, 10, 11, 12, 13, 14, 15, 16] [] rfl rfl (by decide) (by decide) (by decide) [0, 1] rfl (q0 := 15) rfl rfl rfl eT_M (trivial) (fun r_1 u_2 H locs w_3 hP hD hS => ?_)
  obtain rfl := w_3
  have hP : va_P (dC, dI) vwCl (wY q cI cZ r k a) H := hP
  have hD : va_D A (wY q cI cZ r k a) := hD
  by_cases k_4 : (reg a.co k.n r.p) = 1
  · refine lv_tableIn (tgt := 32) hx hb dX0_registerLength_4 (by rw [k_4]; decide) (by rw [k_4]; decide) (by rw [k_4]; rfl) (by decide) ?_
    refine lv_aload_n hx hb dX0_registerLength_32 rfl (lv_at hl 0 rfl) ?_
    refine va_get (D := (dC, dI)) (ci := 0) (v := .ref (q 10)) (C := RX0) (T := TX0) (N := 9) hx hb hts inX0 hown hK hP 15 rfl rfl 4 (by decide) (hts _ tw_107) (fun _ h9 => h9) rfl dX0_registerLength_33 ?_
    refine va_get (D := (dC, dI)) (ci := 1) (v := .int (nI (CS.n k))) (C := RX1) (T := TX1) (N := 5) hx hb hts inX1 hown hK hP 10 rfl rfl 0 (by decide) (hts _ tw_77) (fun _ h9 => h9) rfl dX0_registerLength_36 ?_
    exact xr_i hx hb hr hlk (u := ()) (by unfold regLen; first | rw [if_pos (by assumption)] | (rw [if_neg (by omega), if_pos (by assumption)]) | (rw [if_neg (by omega), if_neg (by omega), if_pos (by assumption)]) | (rw [if_neg (by omega), if_neg (by omega), if_neg (by omega)])) hP hK hD hS dX0_registerLength_39
  · by_cases k_5 : (reg a.co k.n r.p) = 2
    · refine lv_tableIn (tgt := 40) hx hb dX0_registerLength_4 (by rw [k_5]; decide) (by rw [k_5]; decide) (by rw [k_5]; rfl) (by decide) ?_
      refine lv_bipush (v := nI 32) hx hb dX0_registerLength_40 (by decide) ?_
      exact xr_i hx hb hr hlk (u := ()) (by unfold regLen; first | rw [if_pos (by assumption)] | (rw [if_neg (by omega), if_pos (by assumption)]) | (rw [if_neg (by omega), if_neg (by omega), if_pos (by assumption)]) | (rw [if_neg (by omega), if_neg (by omega), if_neg (by omega)])) hP hK hD hS dX0_registerLength_42
    · by_cases k_6 : (reg a.co k.n r.p) = 3
      · refine lv_tableIn (tgt := 43) hx hb dX0_registerLength_4 (by rw [k_6]; decide) (by rw [k_6]; decide) (by rw [k_6]; rfl) (by decide) ?_
        refine lv_aload_n hx hb dX0_registerLength_43 rfl (lv_at hl 0 rfl) ?_
        refine va_get (D := (dC, dI)) (ci := 0) (v := .ref (q 0)) (C := RX0) (T := TX0) (N := 9) hx hb hts inX0 hown hK hP 15 rfl rfl 3 (by decide) (hts _ tw_106) (fun _ h9 => h9) rfl dX0_registerLength_44 ?_
        refine va_get (D := (dC, dI)) (ci := 2) (v := .int (nI (RS.p r))) (C := RX2) (T := TX2) (N := 12) hx hb hts inX2 hown hK hP 0 rfl rfl 2 (by decide) (hts _ tw_31) (fun _ h9 => h9) rfl dX0_registerLength_47 ?_
        exact xr_i hx hb hr hlk (u := ()) (by unfold regLen; first | rw [if_pos (by assumption)] | (rw [if_neg (by omega), if_pos (by assumption)]) | (rw [if_neg (by omega), if_neg (by omega), if_pos (by assumption)]) | (rw [if_neg (by omega), if_neg (by omega), if_neg (by omega)])) hP hK hD hS dX0_registerLength_50
      · refine lv_tableOut (tgt := 51) hx hb dX0_registerLength_4 (by rw [nI_toInt (by omega)]; omega) (by decide) ?_
        refine lv_iconst (v := nI 1) hx hb dX0_registerLength_51 (by decide) ?_
        exact xr_i hx hb hr hlk (u := ()) (by unfold regLen; first | rw [if_pos (by assumption)] | (rw [if_neg (by omega), if_pos (by assumption)]) | (rw [if_neg (by omega), if_neg (by omega), if_pos (by assumption)]) | (rw [if_neg (by omega), if_neg (by omega), if_neg (by omega)])) hP hK hD hS dX0_registerLength_52
set_option maxHeartbeats 4000000 in
set_option maxRecDepth 100000 in
theorem c_Access_shiftBypass (l : Launch) (dC : Nat → ClassId) (dI : Nat → Nat → Nat) (q : Nat → Nat) (cI cZ : ClassId) (sz : Nat) (r : RS) (k : CS) (a : AS) (b : Nat) : Met l yX0_shiftBypass (.code yX0_shiftBypass cX0_shiftBypass 3 (some .int) :: ALLG) ({ frames := 0, cells := 0, slots := 0, locals := 0 }) (va_Pc [.ref (q 15), .int (nI b)] (cP (dC, dI) vwCl [(cI, .int), (cZ, .boolean)] (wY q cI cZ r k a) eT sz)) (va_Qi (fun (x : Int32) (u : RS × CS × AS) => x = nI a.by_ ∧ u = (r, k, a.s_by_ b)) (fun (u : RS × CS × AS) => cB (dC, dI) vwCl [(cI, .int), (cZ, .boolean)] (wY q cI cZ u.1 u.2.1 u.2.2) (va_A (wY q cI cZ r k a) sz)) (va_A (wY q cI cZ r k a) sz)) 0 0 (va_A (wY q cI cZ r k a) sz) := by
  refine xm_of (cc := cX0_shiftBypass) (maxL := 3) (ret := some .int) (by decide) rfl (Nat.le_of_ble_eq_true rfl) ?_
  intro p e s m below meth c A hAe hx hb hr hml hts0 hown hlk hin hsz H locs hP hK hD hA hS hE ls hl
  have hts : ∀ w ∈ ALLG, w.before _ s = true := fun w h => hts0 w (List.mem_cons_of_mem _ h)
  rw [← hAe]
  have hl : lv_has ls 3 [(0, .ref (q 15)), (1, .int (nI b))] := hl
  refine lv_aload_n hx hb dX0_shiftBypass_0 rfl (lv_at hl 0 rfl) ?_
  refine va_get (D := (dC, dI)) (ci := 0) (v := .int (nI (AS.by_ a))) (C := RX0) (T := TX0) (N := 9) hx hb hts inX0 hown hK hP 15 rfl rfl 7 (by decide) (hts _ tw_110) (fun _ h9 => h9) rfl dX0_shiftBypass_1 ?_
  refine lv_istore_n (lv' := [(2, .int (nI (AS.by_ a))), (0, .ref (q 15)), (1, .int (nI b))]) hx hb dX0_shiftBypass_4 rfl hl (by decide) rfl (fun ls hl => ?_)
  refine lv_aload_n hx hb dX0_shiftBypass_5 rfl (lv_at hl 1 rfl) ?_
  refine lv_iload_n hx hb dX0_shiftBypass_6 rfl (lv_at hl 2 rfl) ?_
  refine va_put (D := (dC, dI)) (ci := 0) (v := .int (nI b)) (ty := .int) (C := RX0) (T := TX0) (N := 9) hx hb hts inX0 tyX0 tyX0_ok nmX0 hown hK hP hD hS 15 rfl rfl 7 (by decide) (hts _ tw_110) (fun _ h9 => h9) rfl (by decide +kernel) rfl rfl (Nat.le_of_ble_eq_true rfl) dX0_shiftBypass_7 (fun H locs hP hD hS => ?_)
  have hP : va_P (dC, dI) vwCl (wY q cI cZ r k (AS.s_by_ a b)) H := hP
  have hD : va_D A (wY q cI cZ r k (AS.s_by_ a b)) := hD
  refine lv_iload_n hx hb dX0_shiftBypass_10 rfl (lv_at hl 0 rfl) ?_
  exact xr_i hx hb hr hlk (u := (r, k, AS.s_by_ a b)) (⟨rfl, rfl⟩) hP hK hD hS dX0_shiftBypass_11
set_option maxHeartbeats 4000000 in
set_option maxRecDepth 100000 in
theorem c_Access_shiftNumber (l : Launch) (dC : Nat → ClassId) (dI : Nat → Nat → Nat) (q : Nat → Nat) (cI cZ : ClassId) (sz : Nat) (r : RS) (k : CS) (a : AS) (b : Nat) : Met l yX0_shiftNumber (.code yX0_shiftNumber cX0_shiftNumber 3 (some .int) :: ALLG) ({ frames := 0, cells := 0, slots := 0, locals := 0 }) (va_Pc [.ref (q 15), .int (nI b)] (cP (dC, dI) vwCl [(cI, .int), (cZ, .boolean)] (wY q cI cZ r k a) eT sz)) (va_Qi (fun (x : Int32) (u : RS × CS × AS) => x = nI (nbit a.nr) ∧ u = (r, k, a.s_nr (nrS a.nr b))) (fun (u : RS × CS × AS) => cB (dC, dI) vwCl [(cI, .int), (cZ, .boolean)] (wY q cI cZ u.1 u.2.1 u.2.2) (va_A (wY q cI cZ r k a) sz)) (va_A (wY q cI cZ r k a) sz)) 0 0 (va_A (wY q cI cZ r k a) sz) := by
  refine xm_of (cc := cX0_shiftNumber) (maxL := 3) (ret := some .int) (by decide) rfl (Nat.le_of_ble_eq_true rfl) ?_
  intro p e s m below meth c A hAe hx hb hr hml hts0 hown hlk hin hsz H locs hP hK hD hA hS hE ls hl
  have hts : ∀ w ∈ ALLG, w.before _ s = true := fun w h => hts0 w (List.mem_cons_of_mem _ h)
  rw [← hAe]
  have hl : lv_has ls 3 [(0, .ref (q 15)), (1, .int (nI b))] := hl
  refine lv_aload_n hx hb dX0_shiftNumber_0 rfl (lv_at hl 0 rfl) ?_
  refine va_get (D := (dC, dI)) (ci := 0) (v := .int (AS.nr a)) (C := RX0) (T := TX0) (N := 9) hx hb hts inX0 hown hK hP 15 rfl rfl 6 (by decide) (hts _ tw_109) (fun _ h9 => h9) rfl dX0_shiftNumber_1 ?_
  refine lv_iconst (v := nI 1) hx hb dX0_shiftNumber_4 (by decide) ?_
  refine lv_iand hx hb dX0_shiftNumber_5 ?_
  refine xt_i (show ((AS.nr a) &&& (nI 1)) = nI (nbit a.nr) from nbit_and _) ?_
  refine lv_istore_n (lv' := [(2, .int (nI (nbit a.nr))), (0, .ref (q 15)), (1, .int (nI b))]) hx hb dX0_shiftNumber_6 rfl hl (by decide) rfl (fun ls hl => ?_)
  refine lv_aload_n hx hb dX0_shiftNumber_7 rfl (lv_at hl 1 rfl) ?_
  refine lv_aload_n hx hb dX0_shiftNumber_8 rfl (lv_at hl 1 rfl) ?_
  refine va_get (D := (dC, dI)) (ci := 0) (v := .int (AS.nr a)) (C := RX0) (T := TX0) (N := 9) hx hb hts inX0 hown hK hP 15 rfl rfl 6 (by decide) (hts _ tw_109) (fun _ h9 => h9) rfl dX0_shiftNumber_9 ?_
  refine lv_iconst (v := nI 1) hx hb dX0_shiftNumber_12 (by decide) ?_
  refine lv_iushr hx hb dX0_shiftNumber_13 rfl ?_
  refine lv_iload_n hx hb dX0_shiftNumber_14 rfl (lv_at hl 2 rfl) ?_
  refine lv_bipush (v := nI 31) hx hb dX0_shiftNumber_15 (by decide) ?_
  refine lv_ishl hx hb dX0_shiftNumber_17 ?_
  refine lv_ior hx hb dX0_shiftNumber_18 ?_
  refine va_put (D := (dC, dI)) (ci := 0) (v := .int ((((AS.nr a).toUInt32 >>> ((nI 1).toUInt32 &&& Int32.toUInt32 31)).toInt32) ||| ((nI b) <<< ((nI 31) &&& 31)))) (ty := .int) (C := RX0) (T := TX0) (N := 9) hx hb hts inX0 tyX0 tyX0_ok nmX0 hown hK hP hD hS 15 rfl rfl 6 (by decide) (hts _ tw_109) (fun _ h9 => h9) rfl (by decide +kernel) rfl rfl (Nat.le_of_ble_eq_true rfl) dX0_shiftNumber_19 (fun H locs hP hD hS => ?_)
  have hP : va_P (dC, dI) vwCl (wY q cI cZ r k (AS.s_nr a ((((AS.nr a).toUInt32 >>> ((nI 1).toUInt32 &&& Int32.toUInt32 31)).toInt32) ||| ((nI b) <<< ((nI 31) &&& 31))))) H := hP
  have hD : va_D A (wY q cI cZ r k (AS.s_nr a ((((AS.nr a).toUInt32 >>> ((nI 1).toUInt32 &&& Int32.toUInt32 31)).toInt32) ||| ((nI b) <<< ((nI 31) &&& 31))))) := hD
  refine lv_iload_n hx hb dX0_shiftNumber_22 rfl (lv_at hl 0 rfl) ?_
  exact xr_i hx hb hr hlk (u := (r, k, AS.s_nr a ((((AS.nr a).toUInt32 >>> ((nI 1).toUInt32 &&& Int32.toUInt32 31)).toInt32) ||| ((nI b) <<< ((nI 31) &&& 31))))) (⟨rfl, rfl⟩) hP hK hD hS dX0_shiftNumber_23
set_option maxHeartbeats 4000000 in
set_option maxRecDepth 100000 in
theorem c_Access_shiftCode (l : Launch) (dC : Nat → ClassId) (dI : Nat → Nat → Nat) (q : Nat → Nat) (cI cZ : ClassId) (sz : Nat) (r : RS) (k : CS) (a : AS) (b : Nat) (h1 : a.cr < 16) (h2 : b < 2) : Met l yX0_shiftCode (.code yX0_shiftCode cX0_shiftCode 3 (some .int) :: ALLG) ({ frames := 0, cells := 0, slots := 0, locals := 0 }) (va_Pc [.ref (q 15), .int (nI b)] (cP (dC, dI) vwCl [(cI, .int), (cZ, .boolean)] (wY q cI cZ r k a) eT sz)) (va_Qi (fun (x : Int32) (u : RS × CS × AS) => x = nI (a.cr % 2) ∧ u = (r, k, a.s_cr (a.cr / 2 + b * 8))) (fun (u : RS × CS × AS) => cB (dC, dI) vwCl [(cI, .int), (cZ, .boolean)] (wY q cI cZ u.1 u.2.1 u.2.2) (va_A (wY q cI cZ r k a) sz)) (va_A (wY q cI cZ r k a) sz)) 0 0 (va_A (wY q cI cZ r k a) sz) := by
  refine xm_of (cc := cX0_shiftCode) (maxL := 3) (ret := some .int) (by decide) rfl (Nat.le_of_ble_eq_true rfl) ?_
  intro p e s m below meth c A hAe hx hb hr hml hts0 hown hlk hin hsz H locs hP hK hD hA hS hE ls hl
  have hts : ∀ w ∈ ALLG, w.before _ s = true := fun w h => hts0 w (List.mem_cons_of_mem _ h)
  rw [← hAe]
  have hl : lv_has ls 3 [(0, .ref (q 15)), (1, .int (nI b))] := hl
  refine lv_aload_n hx hb dX0_shiftCode_0 rfl (lv_at hl 0 rfl) ?_
  refine va_get (D := (dC, dI)) (ci := 0) (v := .int (nI (AS.cr a))) (C := RX0) (T := TX0) (N := 9) hx hb hts inX0 hown hK hP 15 rfl rfl 5 (by decide) (hts _ tw_108) (fun _ h9 => h9) rfl dX0_shiftCode_1 ?_
  refine lv_iconst (v := nI 1) hx hb dX0_shiftCode_4 (by decide) ?_
  refine lv_iand hx hb dX0_shiftCode_5 ?_
  refine xt_i (show ((nI (AS.cr a)) &&& (nI 1)) = nI (a.cr % 2) from cr_and h1) ?_
  refine lv_istore_n (lv' := [(2, .int (nI (a.cr % 2))), (0, .ref (q 15)), (1, .int (nI b))]) hx hb dX0_shiftCode_6 rfl hl (by decide) rfl (fun ls hl => ?_)
  refine lv_aload_n hx hb dX0_shiftCode_7 rfl (lv_at hl 1 rfl) ?_
  refine lv_aload_n hx hb dX0_shiftCode_8 rfl (lv_at hl 1 rfl) ?_
  refine va_get (D := (dC, dI)) (ci := 0) (v := .int (nI (AS.cr a))) (C := RX0) (T := TX0) (N := 9) hx hb hts inX0 hown hK hP 15 rfl rfl 5 (by decide) (hts _ tw_108) (fun _ h9 => h9) rfl dX0_shiftCode_9 ?_
  refine lv_iconst (v := nI 1) hx hb dX0_shiftCode_12 (by decide) ?_
  refine lv_iushr hx hb dX0_shiftCode_13 rfl ?_
  refine lv_iload_n hx hb dX0_shiftCode_14 rfl (lv_at hl 2 rfl) ?_
  refine lv_iconst (v := nI 3) hx hb dX0_shiftCode_15 (by decide) ?_
  refine lv_ishl hx hb dX0_shiftCode_16 ?_
  refine lv_ior hx hb dX0_shiftCode_17 ?_
  refine xt_i (show ((((nI (AS.cr a)).toUInt32 >>> ((nI 1).toUInt32 &&& Int32.toUInt32 31)).toInt32) ||| ((nI b) <<< ((nI 3) &&& 31))) = nI (a.cr / 2 + b * 8) from cr_sh h1 h2) ?_
  refine va_put (D := (dC, dI)) (ci := 0) (v := .int (nI (a.cr / 2 + b * 8))) (ty := .int) (C := RX0) (T := TX0) (N := 9) hx hb hts inX0 tyX0 tyX0_ok nmX0 hown hK hP hD hS 15 rfl rfl 5 (by decide) (hts _ tw_108) (fun _ h9 => h9) rfl (by decide +kernel) rfl rfl (Nat.le_of_ble_eq_true rfl) dX0_shiftCode_18 (fun H locs hP hD hS => ?_)
  have hP : va_P (dC, dI) vwCl (wY q cI cZ r k (AS.s_cr a (a.cr / 2 + b * 8))) H := hP
  have hD : va_D A (wY q cI cZ r k (AS.s_cr a (a.cr / 2 + b * 8))) := hD
  refine lv_iload_n hx hb dX0_shiftCode_21 rfl (lv_at hl 0 rfl) ?_
  exact xr_i hx hb hr hlk (u := (r, k, AS.s_cr a (a.cr / 2 + b * 8))) (⟨rfl, rfl⟩) hP hK hD hS dX0_shiftCode_22
set_option maxHeartbeats 4000000 in
set_option maxRecDepth 100000 in
theorem c_Access_captureData (l : Launch) (dC : Nat → ClassId) (dI : Nat → Nat → Nat) (q : Nat → Nat) (cI cZ : ClassId) (sz : Nat) (r : RS) (k : CS) (a : AS) (hY : YB (r, k, a)) : Met l yX0_captureData (.code yX0_captureData cX0_captureData 1 none :: ALLG) ({ frames := 1, cells := 0, slots := 0, locals := 21 }) (va_Pc [.ref (q 15)] (cP (dC, dI) vwCl [(cI, .int), (cZ, .boolean)] (wY q cI cZ r k a) eT sz)) (va_Qv (fun (u : RS × CS × AS) => u = capD r k a) (fun (u : RS × CS × AS) => cB (dC, dI) vwCl [(cI, .int), (cZ, .boolean)] (wY q cI cZ u.1 u.2.1 u.2.2) (va_A (wY q cI cZ r k a) sz)) (va_A (wY q cI cZ r k a) sz)) 0 0 (va_A (wY q cI cZ r k a) sz) := by
  refine xm_of (cc := cX0_captureData) (maxL := 1) (ret := none) (by decide) rfl (Nat.le_of_ble_eq_true rfl) ?_
  intro p e s m below meth c A hAe hx hb hr hml hts0 hown hlk hin hsz H locs hP hK hD hA hS hE ls hl
  have hts : ∀ w ∈ ALLG, w.before _ s = true := fun w h => hts0 w (List.mem_cons_of_mem _ h)
  rw [← hAe]
  have hY0 := hY
  have hR0 : RB r := hY.1
  have hA0 : AB a := hY.2.2
  obtain ⟨⟨b_n, b_c, b_p, b_vb, b_ck, b_xx, b_yy, b_fl, b_po, b_rw, b_ch, b_st⟩, ⟨k_n, k_pin, k_ki, k_he, k_ir⟩, a_st, a_co, a_cr, a_by, a_tk⟩ : RB r ∧ CB k ∧ AB a := hY
  have g0 := reg_lt a.co k.n r.p
  have hl : lv_has ls 1 [(0, .ref (q 15))] := hl
  refine lv_aload_n hx hb dX0_captureData_0 rfl (lv_at hl 0 rfl) ?_
  refine xc_Vi (As := []) (wr := []) ⟨hx, hb, hml, hown, hts⟩ (c_Access_register l dC dI q cI cZ H.size r k a (by omega) (by omega) (by omega)) (cwV 0 hts (gV tw_477 tw_479 sw_17 tw_4 tw_480) rfl rfl rfl (by decide +kernel) ⟨Nat.le_of_ble_eq_true rfl, Nat.le_of_ble_eq_true rfl⟩) rfl hl.1 rfl (Nat.le_of_ble_eq_true rfl) dX0_captureData_1 ⟨Nat.zero_le _, Nat.zero_le _⟩ hP hD hK hS hA [0, 1, 2, 3, 4, 5, 6, 7, 8, 9, 10, 11, 12, 13, 14, 15, 16] [] rfl rfl (by decide) (by decide) (by decide) [0, 1] rfl (q0 := 15) rfl rfl rfl eT_M (trivial) (fun r_1 u_2 H locs w_3 hP hD hS => ?_)
  obtain rfl := w_3
  have hP : va_P (dC, dI) vwCl (wY q cI cZ r k a) H := hP
  have hD : va_D A (wY q cI cZ r k a) := hD
  by_cases k_4 : (reg a.co k.n r.p) = 1
  · refine lv_tableIn (tgt := 32) hx hb dX0_captureData_4 (by rw [k_4]; decide) (by rw [k_4]; decide) (by rw [k_4]; rfl) (by decide) ?_
    refine lv_aload_n hx hb dX0_captureData_32 rfl (lv_at hl 0 rfl) ?_
    refine va_get (D := (dC, dI)) (ci := 0) (v := .ref (q 10)) (C := RX0) (T := TX0) (N := 9) hx hb hts inX0 hown hK hP 15 rfl rfl 4 (by decide) (hts _ tw_107) (fun _ h9 => h9) rfl dX0_captureData_33 ?_
    refine xc_Vv (As := []) (wr := wR q cI cZ r ++ wA q cI a) ⟨hx, hb, hml, hown, hts⟩ (c_Cells_capture l dC dI q cI cZ H.size k (by omega)) (cwV 0 hts (gV tw_481 tw_482 tw_483 tw_3 tw_484) rfl rfl rfl (by decide +kernel) ⟨Nat.le_of_ble_eq_true rfl, Nat.le_of_ble_eq_true rfl⟩) rfl hl.1 rfl (Nat.le_of_ble_eq_true rfl) dX0_captureData_36 ⟨Nat.zero_le _, Nat.zero_le _⟩ hP hD hK hS hA [10, 11, 12, 13, 14] [0, 1, 2, 3, 4, 5, 6, 7, 8, 9, 15, 16] rfl rfl (by decide) (by decide) (by decide) [0, 1] rfl (q0 := 0) rfl rfl rfl eT_M (trivial) (fun u_6 H locs w_7 hP hD hS => ?_)
    obtain rfl := w_7
    have hP : va_P (dC, dI) vwCl (wY q cI cZ r (CS.s_ir k (cpN (CS.pin k) (CS.ir k) (CS.n k))) a) H := hP.sub [0, 1, 2, 3, 4, 5, 6, 7, 8, 9, 12, 13, 14, 15, 16, 10, 11] rfl
    have hD : va_D A (wY q cI cZ r (CS.s_ir k (cpN (CS.pin k) (CS.ir k) (CS.n k))) a) := hD.sub [0, 1, 2, 3, 4, 5, 6, 7, 8, 9, 12, 13, 14, 15, 16, 10, 11] (by decide) rfl
    refine lv_goto (tgt := 61) hx hb dX0_captureData_39 (by decide) ?_
    exact xr_v hx hb hr hlk (u := (r, CS.s_ir k (cpN (CS.pin k) (CS.ir k) (CS.n k)), a)) (by unfold capD; simp [k_4]) hP hK hD hS dX0_captureData_61
  · by_cases k_8 : (reg a.co k.n r.p) = 2
    · refine lv_tableIn (tgt := 42) hx hb dX0_captureData_4 (by rw [k_8]; decide) (by rw [k_8]; decide) (by rw [k_8]; rfl) (by decide) ?_
      refine lv_aload_n hx hb dX0_captureData_42 rfl (lv_at hl 0 rfl) ?_
      refine lv_aload_n hx hb dX0_captureData_43 rfl (lv_at hl 0 rfl) ?_
      refine va_get (D := (dC, dI)) (ci := 0) (v := .int (AS.nu a)) (C := RX0) (T := TX0) (N := 9) hx hb hts inX0 hown hK hP 15 rfl rfl 2 (by decide) (hts _ tw_105) (fun _ h9 => h9) rfl dX0_captureData_44 ?_
      refine va_put (D := (dC, dI)) (ci := 0) (v := .int (AS.nu a)) (ty := .int) (C := RX0) (T := TX0) (N := 9) hx hb hts inX0 tyX0 tyX0_ok nmX0 hown hK hP hD hS 15 rfl rfl 6 (by decide) (hts _ tw_109) (fun _ h9 => h9) rfl (by decide +kernel) rfl rfl (Nat.le_of_ble_eq_true rfl) dX0_captureData_47 (fun H locs hP hD hS => ?_)
      have hP : va_P (dC, dI) vwCl (wY q cI cZ r k (AS.s_nr a (AS.nu a))) H := hP
      have hD : va_D A (wY q cI cZ r k (AS.s_nr a (AS.nu a))) := hD
      refine lv_goto (tgt := 61) hx hb dX0_captureData_50 (by decide) ?_
      exact xr_v hx hb hr hlk (u := (r, k, AS.s_nr a (AS.nu a))) (by unfold capD; simp [k_8]) hP hK hD hS dX0_captureData_61
    · by_cases k_9 : (reg a.co k.n r.p) = 3
      · refine lv_tableIn (tgt := 53) hx hb dX0_captureData_4 (by rw [k_9]; decide) (by rw [k_9]; decide) (by rw [k_9]; rfl) (by decide) ?_
        refine lv_goto (tgt := 61) hx hb dX0_captureData_53 (by decide) ?_
        exact xr_v hx hb hr hlk (u := (r, k, a)) (by unfold capD; simp [k_9]) hP hK hD hS dX0_captureData_61
      · refine lv_tableOut (tgt := 56) hx hb dX0_captureData_4 (by rw [nI_toInt (by omega)]; omega) (by decide) ?_
        refine lv_aload_n hx hb dX0_captureData_56 rfl (lv_at hl 0 rfl) ?_
        refine lv_iconst (v := nI 0) hx hb dX0_captureData_57 (by decide) ?_
        refine va_put (D := (dC, dI)) (ci := 0) (v := .int (nI 0)) (ty := .int) (C := RX0) (T := TX0) (N := 9) hx hb hts inX0 tyX0 tyX0_ok nmX0 hown hK hP hD hS 15 rfl rfl 7 (by decide) (hts _ tw_110) (fun _ h9 => h9) rfl (by decide +kernel) rfl rfl (Nat.le_of_ble_eq_true rfl) dX0_captureData_58 (fun H locs hP hD hS => ?_)
        have hP : va_P (dC, dI) vwCl (wY q cI cZ r k (AS.s_by_ a 0)) H := hP
        have hD : va_D A (wY q cI cZ r k (AS.s_by_ a 0)) := hD
        exact xr_v hx hb hr hlk (u := (r, k, AS.s_by_ a 0)) (by unfold capD; simp [k_4, k_8, k_9]) hP hK hD hS dX0_captureData_61
set_option maxHeartbeats 4000000 in
set_option maxRecDepth 100000 in
theorem c_Rows_shiftWholeRow (l : Launch) (dC : Nat → ClassId) (dI : Nat → Nat → Nat) (q : Nat → Nat) (cI cZ : ClassId) (sz : Nat) (r : RS) (b : Nat) (hB : RB r) : Met l yX2_shiftWholeRow (.code yX2_shiftWholeRow cX2_shiftWholeRow 2 (some .int) :: ALLG) ({ frames := 1, cells := 0, slots := 0, locals := 27 }) (va_Pc [.ref (q 0), .int (nI b)] (cP (dC, dI) vwCl [(cI, .int), (cZ, .boolean)] (wR q cI cZ r) eT sz)) (va_Qi (fun (x : Int32) (u : RS) => x = nI (shO r 0 r.p b) ∧ u = r.s_vb (shV r 0 r.p b)) (fun (u : RS) => cB (dC, dI) vwCl [(cI, .int), (cZ, .boolean)] (wR q cI cZ u) (va_A (wR q cI cZ r) sz)) (va_A (wR q cI cZ r) sz)) 0 0 (va_A (wR q cI cZ r) sz) := by
  refine xm_of (cc := cX2_shiftWholeRow) (maxL := 2) (ret := some .int) (by decide) rfl (Nat.le_of_ble_eq_true rfl) ?_
  intro p e s m below meth c A hAe hx hb hr hml hts0 hown hlk hin hsz H locs hP hK hD hA hS hE ls hl
  have hts : ∀ w ∈ ALLG, w.before _ s = true := fun w h => hts0 w (List.mem_cons_of_mem _ h)
  rw [← hAe]
  have g1 := hB.1
  have g2 := hB.2.2.1
  have hl : lv_has ls 2 [(0, .ref (q 0)), (1, .int (nI b))] := hl
  refine lv_aload_n hx hb dX2_shiftWholeRow_0 rfl (lv_at hl 0 rfl) ?_
  refine lv_iconst (v := nI 0) hx hb dX2_shiftWholeRow_1 (by decide) ?_
  refine lv_aload_n hx hb dX2_shiftWholeRow_2 rfl (lv_at hl 0 rfl) ?_
  refine va_get (D := (dC, dI)) (ci := 2) (v := .int (nI (RS.p r))) (C := RX2) (T := TX2) (N := 12) hx hb hts inX2 hown hK hP 0 rfl rfl 2 (by decide) (hts _ tw_32) (fun _ h9 => h9) rfl dX2_shiftWholeRow_3 ?_
  refine lv_iload_n hx hb dX2_shiftWholeRow_6 rfl (lv_at hl 1 rfl) ?_
  refine xc_Vi (As := [.int (nI 0), .int (nI (RS.p r)), .int (nI b)]) (wr := []) ⟨hx, hb, hml, hown, hts⟩ (c_Rows_shiftPlaces l dC dI q cI cZ H.size r 0 (RS.p r) b hB (by omega) (by omega)) (cwV 3 hts (gV tw_168 tw_170 sw_2 tw_2 tw_171) rfl rfl rfl (by decide +kernel) ⟨Nat.le_of_ble_eq_true rfl, Nat.le_of_ble_eq_true rfl⟩) rfl hl.1 rfl (Nat.le_of_ble_eq_true rfl) dX2_shiftWholeRow_7 ⟨Nat.zero_le _, Nat.zero_le _⟩ hP hD hK hS hA [0, 1, 2, 3, 4, 5, 6, 7, 8, 9] [] rfl rfl (by decide) (by decide) (by decide) [0, 1] rfl (q0 := 0) rfl rfl rfl eT_M (trivial) (fun r_1 u_2 H locs w_3 hP hD hS => ?_)
  obtain ⟨rfl, rfl⟩ := w_3
  have hP : va_P (dC, dI) vwCl (wR q cI cZ (RS.s_vb r (shV r 0 (RS.p r) b))) H := hP
  have hD : va_D A (wR q cI cZ (RS.s_vb r (shV r 0 (RS.p r) b))) := hD
  exact xr_i hx hb hr hlk (u := RS.s_vb r (shV r 0 (RS.p r) b)) (⟨rfl, rfl⟩) hP hK hD hS dX2_shiftWholeRow_10
set_option maxHeartbeats 4000000 in
set_option maxRecDepth 100000 in
theorem c_Access_shiftData (l : Launch) (dC : Nat → ClassId) (dI : Nat → Nat → Nat) (q : Nat → Nat) (cI cZ : ClassId) (sz : Nat) (r : RS) (k : CS) (a : AS) (b : Nat) (hY : YB (r, k, a)) : Met l yX0_shiftData (.code yX0_shiftData cX0_shiftData 2 (some .int) :: ALLG) ({ frames := 2, cells := 0, slots := 0, locals := 48 }) (va_Pc [.ref (q 15), .int (nI b)] (cP (dC, dI) vwCl [(cI, .int), (cZ, .boolean)] (wY q cI cZ r k a) eT sz)) (va_Qi (fun (x : Int32) (u : RS × CS × AS) => x = nI (shfD r k a b).1 ∧ u = (shfD r k a b).2) (fun (u : RS × CS × AS) => cB (dC, dI) vwCl [(cI, .int), (cZ, .boolean)] (wY q cI cZ u.1 u.2.1 u.2.2) (va_A (wY q cI cZ r k a) sz)) (va_A (wY q cI cZ r k a) sz)) 0 0 (va_A (wY q cI cZ r k a) sz) := by
  refine xm_of (cc := cX0_shiftData) (maxL := 2) (ret := some .int) (by decide) rfl (Nat.le_of_ble_eq_true rfl) ?_
  intro p e s m below meth c A hAe hx hb hr hml hts0 hown hlk hin hsz H locs hP hK hD hA hS hE ls hl
  have hts : ∀ w ∈ ALLG, w.before _ s = true := fun w h => hts0 w (List.mem_cons_of_mem _ h)
  rw [← hAe]
  have hY0 := hY
  have hR0 : RB r := hY.1
  have hA0 : AB a := hY.2.2
  obtain ⟨⟨b_n, b_c, b_p, b_vb, b_ck, b_xx, b_yy, b_fl, b_po, b_rw, b_ch, b_st⟩, ⟨k_n, k_pin, k_ki, k_he, k_ir⟩, a_st, a_co, a_cr, a_by, a_tk⟩ : RB r ∧ CB k ∧ AB a := hY
  have g0 := reg_lt a.co k.n r.p
  have hl : lv_has ls 2 [(0, .ref (q 15)), (1, .int (nI b))] := hl
  refine lv_aload_n hx hb dX0_shiftData_0 rfl (lv_at hl 0 rfl) ?_
  refine xc_Vi (As := []) (wr := []) ⟨hx, hb, hml, hown, hts⟩ (c_Access_register l dC dI q cI cZ H.size r k a (by omega) (by omega) (by omega)) (cwV 0 hts (gV tw_477 tw_479 sw_17 tw_4 tw_480) rfl rfl rfl (by decide +kernel) ⟨Nat.le_of_ble_eq_true rfl, Nat.le_of_ble_eq_true rfl⟩) rfl hl.1 rfl (Nat.le_of_ble_eq_true rfl) dX0_shiftData_1 ⟨Nat.zero_le _, Nat.zero_le _⟩ hP hD hK hS hA [0, 1, 2, 3, 4, 5, 6, 7, 8, 9, 10, 11, 12, 13, 14, 15, 16] [] rfl rfl (by decide) (by decide) (by decide) [0, 1] rfl (q0 := 15) rfl rfl rfl eT_M (trivial) (fun r_1 u_2 H locs w_3 hP hD hS => ?_)
  obtain rfl := w_3
  have hP : va_P (dC, dI) vwCl (wY q cI cZ r k a) H := hP
  have hD : va_D A (wY q cI cZ r k a) := hD
  by_cases k_4 : (reg a.co k.n r.p) = 1
  · refine lv_tableIn (tgt := 32) hx hb dX0_shiftData_4 (by rw [k_4]; decide) (by rw [k_4]; decide) (by rw [k_4]; rfl) (by decide) ?_
    refine lv_aload_n hx hb dX0_shiftData_32 rfl (lv_at hl 0 rfl) ?_
    refine va_get (D := (dC, dI)) (ci := 0) (v := .ref (q 10)) (C := RX0) (T := TX0) (N := 9) hx hb hts inX0 hown hK hP 15 rfl rfl 4 (by decide) (hts _ tw_107) (fun _ h9 => h9) rfl dX0_shiftData_33 ?_
    refine lv_iload_n hx hb dX0_shiftData_36 rfl (lv_at hl 1 rfl) ?_
    refine xc_Vi (As := [.int (nI b)]) (wr := wR q cI cZ r ++ wA q cI a) ⟨hx, hb, hml, hown, hts⟩ (c_Cells_shiftRegister l dC dI q cI cZ H.size k b (by omega)) (cwV 1 hts (gV tw_489 tw_490 tw_491 tw_3 tw_492) rfl rfl rfl (by decide +kernel) ⟨Nat.le_of_ble_eq_true rfl, Nat.le_of_ble_eq_true rfl⟩) rfl hl.1 rfl (Nat.le_of_ble_eq_true rfl) dX0_shiftData_37 ⟨Nat.zero_le _, Nat.zero_le _⟩ hP hD hK hS hA [10, 11, 12, 13, 14] [0, 1, 2, 3, 4, 5, 6, 7, 8, 9, 15, 16] rfl rfl (by decide) (by decide) (by decide) [0, 1] rfl (q0 := 0) rfl rfl rfl eT_M (trivial) (fun r_5 u_6 H locs w_7 hP hD hS => ?_)
    obtain ⟨rfl, rfl⟩ := w_7
    have hP : va_P (dC, dI) vwCl (wY q cI cZ r (CS.s_ir k (srV k.ir b k.n)) a) H := hP.sub [0, 1, 2, 3, 4, 5, 6, 7, 8, 9, 12, 13, 14, 15, 16, 10, 11] rfl
    have hD : va_D A (wY q cI cZ r (CS.s_ir k (srV k.ir b k.n)) a) := hD.sub [0, 1, 2, 3, 4, 5, 6, 7, 8, 9, 12, 13, 14, 15, 16, 10, 11] (by decide) rfl
    exact xr_i hx hb hr hlk (u := (r, CS.s_ir k (srV k.ir b k.n), a)) (⟨by unfold shfD; simp [k_4], by unfold shfD; simp [k_4]⟩) hP hK hD hS dX0_shiftData_40
  · by_cases k_8 : (reg a.co k.n r.p) = 2
    · refine lv_tableIn (tgt := 41) hx hb dX0_shiftData_4 (by rw [k_8]; decide) (by rw [k_8]; decide) (by rw [k_8]; rfl) (by decide) ?_
      refine lv_aload_n hx hb dX0_shiftData_41 rfl (lv_at hl 0 rfl) ?_
      refine lv_iload_n hx hb dX0_shiftData_42 rfl (lv_at hl 1 rfl) ?_
      refine xc_Vi (As := [.int (nI b)]) (wr := []) ⟨hx, hb, hml, hown, hts⟩ (c_Access_shiftNumber l dC dI q cI cZ H.size r k a b) (cwV 1 hts (gV tw_493 tw_495 sw_19 tw_4 tw_496) rfl rfl rfl (by decide +kernel) ⟨Nat.le_of_ble_eq_true rfl, Nat.le_of_ble_eq_true rfl⟩) rfl hl.1 rfl (Nat.le_of_ble_eq_true rfl) dX0_shiftData_43 ⟨Nat.zero_le _, Nat.zero_le _⟩ hP hD hK hS hA [0, 1, 2, 3, 4, 5, 6, 7, 8, 9, 10, 11, 12, 13, 14, 15, 16] [] rfl rfl (by decide) (by decide) (by decide) [0, 1] rfl (q0 := 15) rfl rfl rfl eT_M (trivial) (fun r_9 u_10 H locs w_11 hP hD hS => ?_)
      obtain ⟨rfl, rfl⟩ := w_11
      have hP : va_P (dC, dI) vwCl (wY q cI cZ r k (AS.s_nr a (nrS a.nr b))) H := hP
      have hD : va_D A (wY q cI cZ r k (AS.s_nr a (nrS a.nr b))) := hD
      exact xr_i hx hb hr hlk (u := (r, k, AS.s_nr a (nrS a.nr b))) (⟨by unfold shfD; simp [k_8], by unfold shfD; simp [k_8]⟩) hP hK hD hS dX0_shiftData_46
    · by_cases k_12 : (reg a.co k.n r.p) = 3
      · refine lv_tableIn (tgt := 47) hx hb dX0_shiftData_4 (by rw [k_12]; decide) (by rw [k_12]; decide) (by rw [k_12]; rfl) (by decide) ?_
        refine lv_aload_n hx hb dX0_shiftData_47 rfl (lv_at hl 0 rfl) ?_
        refine va_get (D := (dC, dI)) (ci := 0) (v := .ref (q 0)) (C := RX0) (T := TX0) (N := 9) hx hb hts inX0 hown hK hP 15 rfl rfl 3 (by decide) (hts _ tw_106) (fun _ h9 => h9) rfl dX0_shiftData_48 ?_
        refine lv_iload_n hx hb dX0_shiftData_51 rfl (lv_at hl 1 rfl) ?_
        refine xc_Vi (As := [.int (nI b)]) (wr := wC q cI k ++ wA q cI a) ⟨hx, hb, hml, hown, hts⟩ (c_Rows_shiftWholeRow l dC dI q cI cZ H.size r b hR0) (cwV 1 hts (gV tw_497 tw_498 tw_499 tw_2 tw_500) rfl rfl rfl (by decide +kernel) ⟨Nat.le_of_ble_eq_true rfl, Nat.le_of_ble_eq_true rfl⟩) rfl hl.1 rfl (Nat.le_of_ble_eq_true rfl) dX0_shiftData_52 ⟨Nat.zero_le _, Nat.zero_le _⟩ hP hD hK hS hA [0, 1, 2, 3, 4, 5, 6, 7, 8, 9] [10, 11, 12, 13, 14, 15, 16] rfl rfl (by decide) (by decide) (by decide) [0, 1] rfl (q0 := 0) rfl rfl rfl eT_M (trivial) (fun r_13 u_14 H locs w_15 hP hD hS => ?_)
        obtain ⟨rfl, rfl⟩ := w_15
        have hP : va_P (dC, dI) vwCl (wY q cI cZ (RS.s_vb r (shV r 0 r.p b)) k a) H := hP.sub [7, 8, 9, 10, 11, 12, 13, 14, 15, 16, 0, 1, 2, 3, 4, 5, 6] rfl
        have hD : va_D A (wY q cI cZ (RS.s_vb r (shV r 0 r.p b)) k a) := hD.sub [7, 8, 9, 10, 11, 12, 13, 14, 15, 16, 0, 1, 2, 3, 4, 5, 6] (by decide) rfl
        exact xr_i hx hb hr hlk (u := (RS.s_vb r (shV r 0 r.p b), k, a)) (⟨by unfold shfD; simp [k_12], by unfold shfD; simp [k_12]⟩) hP hK hD hS dX0_shiftData_55
      · refine lv_tableOut (tgt := 56) hx hb dX0_shiftData_4 (by rw [nI_toInt (by omega)]; omega) (by decide) ?_
        refine lv_aload_n hx hb dX0_shiftData_56 rfl (lv_at hl 0 rfl) ?_
        refine lv_iload_n hx hb dX0_shiftData_57 rfl (lv_at hl 1 rfl) ?_
        refine xc_Vi (As := [.int (nI b)]) (wr := []) ⟨hx, hb, hml, hown, hts⟩ (c_Access_shiftBypass l dC dI q cI cZ H.size r k a b) (cwV 1 hts (gV tw_501 tw_503 sw_20 tw_4 tw_504) rfl rfl rfl (by decide +kernel) ⟨Nat.le_of_ble_eq_true rfl, Nat.le_of_ble_eq_true rfl⟩) rfl hl.1 rfl (Nat.le_of_ble_eq_true rfl) dX0_shiftData_58 ⟨Nat.zero_le _, Nat.zero_le _⟩ hP hD hK hS hA [0, 1, 2, 3, 4, 5, 6, 7, 8, 9, 10, 11, 12, 13, 14, 15, 16] [] rfl rfl (by decide) (by decide) (by decide) [0, 1] rfl (q0 := 15) rfl rfl rfl eT_M (trivial) (fun r_16 u_17 H locs w_18 hP hD hS => ?_)
        obtain ⟨rfl, rfl⟩ := w_18
        have hP : va_P (dC, dI) vwCl (wY q cI cZ r k (AS.s_by_ a b)) H := hP
        have hD : va_D A (wY q cI cZ r k (AS.s_by_ a b)) := hD
        exact xr_i hx hb hr hlk (u := (r, k, AS.s_by_ a b)) (⟨by unfold shfD; simp [k_4, k_8, k_12], by unfold shfD; simp [k_4, k_8, k_12]⟩) hP hK hD hS dX0_shiftData_61
set_option maxHeartbeats 4000000 in
set_option maxRecDepth 100000 in
theorem c_Access_updateData (l : Launch) (dC : Nat → ClassId) (dI : Nat → Nat → Nat) (q : Nat → Nat) (cI cZ : ClassId) (sz : Nat) (r : RS) (k : CS) (a : AS) (hY : YB (r, k, a)) : Met l yX0_updateData (.code yX0_updateData cX0_updateData 1 none :: ALLG) ({ frames := 1, cells := 0, slots := 0, locals := 21 }) (va_Pc [.ref (q 15)] (cP (dC, dI) vwCl [(cI, .int), (cZ, .boolean)] (wY q cI cZ r k a) eT sz)) (va_Qv (fun (u : RS × CS × AS) => u = updD r k a) (fun (u : RS × CS × AS) => cB (dC, dI) vwCl [(cI, .int), (cZ, .boolean)] (wY q cI cZ u.1 u.2.1 u.2.2) (va_A (wY q cI cZ r k a) sz)) (va_A (wY q cI cZ r k a) sz)) 0 0 (va_A (wY q cI cZ r k a) sz) := by
  refine xm_of (cc := cX0_updateData) (maxL := 1) (ret := none) (by decide) rfl (Nat.le_of_ble_eq_true rfl) ?_
  intro p e s m below meth c A hAe hx hb hr hml hts0 hown hlk hin hsz H locs hP hK hD hA hS hE ls hl
  have hts : ∀ w ∈ ALLG, w.before _ s = true := fun w h => hts0 w (List.mem_cons_of_mem _ h)
  rw [← hAe]
  have hY0 := hY
  have hR0 : RB r := hY.1
  have hA0 : AB a := hY.2.2
  obtain ⟨⟨b_n, b_c, b_p, b_vb, b_ck, b_xx, b_yy, b_fl, b_po, b_rw, b_ch, b_st⟩, ⟨k_n, k_pin, k_ki, k_he, k_ir⟩, a_st, a_co, a_cr, a_by, a_tk⟩ : RB r ∧ CB k ∧ AB a := hY
  have g0 := reg_lt a.co k.n r.p
  have hl : lv_has ls 1 [(0, .ref (q 15))] := hl
  refine lv_aload_n hx hb dX0_updateData_0 rfl (lv_at hl 0 rfl) ?_
  refine xc_Vi (As := []) (wr := []) ⟨hx, hb, hml, hown, hts⟩ (c_Access_register l dC dI q cI cZ H.size r k a (by omega) (by omega) (by omega)) (cwV 0 hts (gV tw_477 tw_479 sw_17 tw_4 tw_480) rfl rfl rfl (by decide +kernel) ⟨Nat.le_of_ble_eq_true rfl, Nat.le_of_ble_eq_true rfl⟩) rfl hl.1 rfl (Nat.le_of_ble_eq_true rfl) dX0_updateData_1 ⟨Nat.zero_le _, Nat.zero_le _⟩ hP hD hK hS hA [0, 1, 2, 3, 4, 5, 6, 7, 8, 9, 10, 11, 12, 13, 14, 15, 16] [] rfl rfl (by decide) (by decide) (by decide) [0, 1] rfl (q0 := 15) rfl rfl rfl eT_M (trivial) (fun r_1 u_2 H locs w_3 hP hD hS => ?_)
  obtain rfl := w_3
  have hP : va_P (dC, dI) vwCl (wY q cI cZ r k a) H := hP
  have hD : va_D A (wY q cI cZ r k a) := hD
  refine lv_iconst (v := nI 1) hx hb dX0_updateData_4 (by decide) ?_
  refine xn_cne (tgt := 15) hx hb (by omega) (by omega) dX0_updateData_5 (by decide) (fun c_4 => ?_) (fun c_4 => ?_)
  · exact xr_v hx hb hr hlk (u := (r, k, a)) (by unfold updD; first | rw [if_pos (by assumption)] | rw [if_neg (by assumption)]) hP hK hD hS dX0_updateData_15
  · refine lv_aload_n hx hb dX0_updateData_8 rfl (lv_at hl 0 rfl) ?_
    refine va_get (D := (dC, dI)) (ci := 0) (v := .ref (q 10)) (C := RX0) (T := TX0) (N := 9) hx hb hts inX0 hown hK hP 15 rfl rfl 4 (by decide) (hts _ tw_107) (fun _ h9 => h9) rfl dX0_updateData_9 ?_
    refine xc_Vv (As := []) (wr := wR q cI cZ r ++ wA q cI a) ⟨hx, hb, hml, hown, hts⟩ (c_Cells_update l dC dI q cI cZ H.size k (by omega)) (cwV 0 hts (gV tw_509 tw_510 tw_511 tw_3 tw_512) rfl rfl rfl (by decide +kernel) ⟨Nat.le_of_ble_eq_true rfl, Nat.le_of_ble_eq_true rfl⟩) rfl hl.1 rfl (Nat.le_of_ble_eq_true rfl) dX0_updateData_12 ⟨Nat.zero_le _, Nat.zero_le _⟩ hP hD hK hS hA [10, 11, 12, 13, 14] [0, 1, 2, 3, 4, 5, 6, 7, 8, 9, 15, 16] rfl rfl (by decide) (by decide) (by decide) [0, 1] rfl (q0 := 0) rfl rfl rfl eT_M (trivial) (fun u_6 H locs w_7 hP hD hS => ?_)
    obtain rfl := w_7
    have hP : va_P (dC, dI) vwCl (wY q cI cZ r (CS.s_he k (cpN k.ir k.he k.n)) a) H := hP.sub [0, 1, 2, 3, 4, 5, 6, 7, 8, 9, 12, 13, 14, 15, 16, 10, 11] rfl
    have hD : va_D A (wY q cI cZ r (CS.s_he k (cpN k.ir k.he k.n)) a) := hD.sub [0, 1, 2, 3, 4, 5, 6, 7, 8, 9, 12, 13, 14, 15, 16, 10, 11] (by decide) rfl
    exact xr_v hx hb hr hlk (u := (r, CS.s_he k (cpN k.ir k.he k.n), a)) (by unfold updD; first | rw [if_pos (by assumption)] | rw [if_neg (by assumption)]) hP hK hD hS dX0_updateData_15
set_option maxHeartbeats 4000000 in
set_option maxRecDepth 100000 in
theorem c_Access_act (l : Launch) (dC : Nat → ClassId) (dI : Nat → Nat → Nat) (q : Nat → Nat) (cI cZ : ClassId) (sz : Nat) (r : RS) (k : CS) (a : AS) (b : Nat) (hY : YB (r, k, a)) (hb2 : b < 2) : Met l yX0_act (.code yX0_act cX0_act 2 (some .int) :: ALLG) ({ frames := 3, cells := 0, slots := 0, locals := 69 }) (va_Pc [.ref (q 15), .int (nI b)] (cP (dC, dI) vwCl [(cI, .int), (cZ, .boolean)] (wY q cI cZ r k a) eT sz)) (va_Qi (fun (x : Int32) (u : RS × CS × AS) => x = zI (actF r k a b).1 ∧ u = (actF r k a b).2) (fun (u : RS × CS × AS) => cB (dC, dI) vwCl [(cI, .int), (cZ, .boolean)] (wY q cI cZ u.1 u.2.1 u.2.2) (va_A (wY q cI cZ r k a) sz)) (va_A (wY q cI cZ r k a) sz)) 0 0 (va_A (wY q cI cZ r k a) sz) := by
  refine xm_of (cc := cX0_act) (maxL := 2) (ret := some .int) (by decide) rfl (Nat.le_of_ble_eq_true rfl) ?_
  intro p e s m below meth c A hAe hx hb hr hml hts0 hown hlk hin hsz H locs hP hK hD hA hS hE ls hl
  have hts : ∀ w ∈ ALLG, w.before _ s = true := fun w h => hts0 w (List.mem_cons_of_mem _ h)
  rw [← hAe]
  have hY0 := hY
  have hR0 : RB r := hY.1
  have hA0 : AB a := hY.2.2
  obtain ⟨⟨b_n, b_c, b_p, b_vb, b_ck, b_xx, b_yy, b_fl, b_po, b_rw, b_ch, b_st⟩, ⟨k_n, k_pin, k_ki, k_he, k_ir⟩, a_st, a_co, a_cr, a_by, a_tk⟩ : RB r ∧ CB k ∧ AB a := hY
  have g0 := reg_lt a.co k.n r.p
  have hl : lv_has ls 2 [(0, .ref (q 15)), (1, .int (nI b))] := hl
  refine lv_aload_n hx hb dX0_act_0 rfl (lv_at hl 0 rfl) ?_
  refine va_get (D := (dC, dI)) (ci := 0) (v := .int (nI (AS.st a))) (C := RX0) (T := TX0) (N := 9) hx hb hts inX0 hown hK hP 15 rfl rfl 0 (by decide) (hts _ tw_101) (fun _ h9 => h9) rfl dX0_act_1 ?_
  by_cases k_1 : (AS.st a) = 3
  · refine lv_tableIn (tgt := 72) hx hb dX0_act_4 (by rw [k_1]; decide) (by rw [k_1]; decide) (by rw [k_1]; rfl) (by decide) ?_
    refine lv_aload_n hx hb dX0_act_72 rfl (lv_at hl 0 rfl) ?_
    refine xc_Vv (As := []) (wr := []) ⟨hx, hb, hml, hown, hts⟩ (c_Access_captureData l dC dI q cI cZ H.size r k a hY0) (cwV 0 hts (gV tw_473 tw_475 sw_16 tw_4 tw_476) rfl rfl rfl (by decide +kernel) ⟨Nat.le_of_ble_eq_true rfl, Nat.le_of_ble_eq_true rfl⟩) rfl hl.1 rfl (Nat.le_of_ble_eq_true rfl) dX0_act_73 ⟨Nat.zero_le _, Nat.zero_le _⟩ hP hD hK hS hA [0, 1, 2, 3, 4, 5, 6, 7, 8, 9, 10, 11, 12, 13, 14, 15, 16] [] rfl rfl (by decide) (by decide) (by decide) [0, 1] rfl (q0 := 15) rfl rfl rfl eT_M (trivial) (fun u_3 H locs w_4 hP hD hS => ?_)
    obtain rfl := w_4
    have hP : va_P (dC, dI) vwCl (wY q cI cZ ((capD r k a).1) ((capD r k a).2.1) ((capD r k a).2.2)) H := hP
    have hD : va_D A (wY q cI cZ ((capD r k a).1) ((capD r k a).2.1) ((capD r k a).2.2)) := hD
    refine lv_iconst (v := zI (-1)) hx hb dX0_act_76 (by decide) ?_
    exact xr_i hx hb hr hlk (u := ((capD r k a).1, (capD r k a).2.1, (capD r k a).2.2)) (⟨by unfold actF; simp [k_1], by unfold actF; simp [k_1]⟩) hP hK hD hS dX0_act_77
  · by_cases k_5 : (AS.st a) = 4
    · refine lv_tableIn (tgt := 78) hx hb dX0_act_4 (by rw [k_5]; decide) (by rw [k_5]; decide) (by rw [k_5]; rfl) (by decide) ?_
      refine lv_aload_n hx hb dX0_act_78 rfl (lv_at hl 0 rfl) ?_
      refine lv_iload_n hx hb dX0_act_79 rfl (lv_at hl 1 rfl) ?_
      refine xc_Vi (As := [.int (nI b)]) (wr := []) ⟨hx, hb, hml, hown, hts⟩ (c_Access_shiftData l dC dI q cI cZ H.size r k a b hY0) (cwV 1 hts (gV tw_485 tw_487 sw_18 tw_4 tw_488) rfl rfl rfl (by decide +kernel) ⟨Nat.le_of_ble_eq_true rfl, Nat.le_of_ble_eq_true rfl⟩) rfl hl.1 rfl (Nat.le_of_ble_eq_true rfl) dX0_act_80 ⟨Nat.zero_le _, Nat.zero_le _⟩ hP hD hK hS hA [0, 1, 2, 3, 4, 5, 6, 7, 8, 9, 10, 11, 12, 13, 14, 15, 16] [] rfl rfl (by decide) (by decide) (by decide) [0, 1] rfl (q0 := 15) rfl rfl rfl eT_M (trivial) (fun r_6 u_7 H locs w_8 hP hD hS => ?_)
      obtain ⟨rfl, rfl⟩ := w_8
      have hP : va_P (dC, dI) vwCl (wY q cI cZ (((shfD r k a b).2).1) (((shfD r k a b).2).2.1) (((shfD r k a b).2).2.2)) H := hP
      have hD : va_D A (wY q cI cZ (((shfD r k a b).2).1) (((shfD r k a b).2).2.1) (((shfD r k a b).2).2.2)) := hD
      refine xt_i (show nI ((shfD r k a b).1) = zI (((shfD r k a b).1 : Nat) : Int) from (zI_nI _).symm) ?_
      exact xr_i hx hb hr hlk (u := (((shfD r k a b).2).1, ((shfD r k a b).2).2.1, ((shfD r k a b).2).2.2)) (⟨by unfold actF; simp [k_5], by unfold actF; simp [k_5]⟩) hP hK hD hS dX0_act_83
    · by_cases k_9 : (AS.st a) = 5
      · refine lv_tableIn (tgt := 113) hx hb dX0_act_4 (by rw [k_9]; decide) (by rw [k_9]; decide) (by rw [k_9]; rfl) (by decide) ?_
        refine lv_iconst (v := zI (-1)) hx hb dX0_act_113 (by decide) ?_
        exact xr_i hx hb hr hlk (u := (r, k, a)) (⟨by unfold actF; simp [k_9], by unfold actF; simp [k_9]⟩) hP hK hD hS dX0_act_114
      · by_cases k_10 : (AS.st a) = 6
        · refine lv_tableIn (tgt := 113) hx hb dX0_act_4 (by rw [k_10]; decide) (by rw [k_10]; decide) (by rw [k_10]; rfl) (by decide) ?_
          refine lv_iconst (v := zI (-1)) hx hb dX0_act_113 (by decide) ?_
          exact xr_i hx hb hr hlk (u := (r, k, a)) (⟨by unfold actF; simp [k_10], by unfold actF; simp [k_10]⟩) hP hK hD hS dX0_act_114
        · by_cases k_11 : (AS.st a) = 7
          · refine lv_tableIn (tgt := 113) hx hb dX0_act_4 (by rw [k_11]; decide) (by rw [k_11]; decide) (by rw [k_11]; rfl) (by decide) ?_
            refine lv_iconst (v := zI (-1)) hx hb dX0_act_113 (by decide) ?_
            exact xr_i hx hb hr hlk (u := (r, k, a)) (⟨by unfold actF; simp [k_11], by unfold actF; simp [k_11]⟩) hP hK hD hS dX0_act_114
          · by_cases k_12 : (AS.st a) = 8
            · refine lv_tableIn (tgt := 84) hx hb dX0_act_4 (by rw [k_12]; decide) (by rw [k_12]; decide) (by rw [k_12]; rfl) (by decide) ?_
              refine lv_aload_n hx hb dX0_act_84 rfl (lv_at hl 0 rfl) ?_
              refine xc_Vv (As := []) (wr := []) ⟨hx, hb, hml, hown, hts⟩ (c_Access_updateData l dC dI q cI cZ H.size r k a hY0) (cwV 0 hts (gV tw_505 tw_507 sw_21 tw_4 tw_508) rfl rfl rfl (by decide +kernel) ⟨Nat.le_of_ble_eq_true rfl, Nat.le_of_ble_eq_true rfl⟩) rfl hl.1 rfl (Nat.le_of_ble_eq_true rfl) dX0_act_85 ⟨Nat.zero_le _, Nat.zero_le _⟩ hP hD hK hS hA [0, 1, 2, 3, 4, 5, 6, 7, 8, 9, 10, 11, 12, 13, 14, 15, 16] [] rfl rfl (by decide) (by decide) (by decide) [0, 1] rfl (q0 := 15) rfl rfl rfl eT_M (trivial) (fun u_14 H locs w_15 hP hD hS => ?_)
              obtain rfl := w_15
              have hP : va_P (dC, dI) vwCl (wY q cI cZ ((updD r k a).1) ((updD r k a).2.1) ((updD r k a).2.2)) H := hP
              have hD : va_D A (wY q cI cZ ((updD r k a).1) ((updD r k a).2.1) ((updD r k a).2.2)) := hD
              refine lv_iconst (v := zI (-1)) hx hb dX0_act_88 (by decide) ?_
              exact xr_i hx hb hr hlk (u := ((updD r k a).1, (updD r k a).2.1, (updD r k a).2.2)) (⟨by unfold actF; simp [k_12], by unfold actF; simp [k_12]⟩) hP hK hD hS dX0_act_89
            · by_cases k_16 : (AS.st a) = 9
              · refine lv_tableIn (tgt := 113) hx hb dX0_act_4 (by rw [k_16]; decide) (by rw [k_16]; decide) (by rw [k_16]; rfl) (by decide) ?_
                refine lv_iconst (v := zI (-1)) hx hb dX0_act_113 (by decide) ?_
                exact xr_i hx hb hr hlk (u := (r, k, a)) (⟨by unfold actF; simp [k_16], by unfold actF; simp [k_16]⟩) hP hK hD hS dX0_act_114
              · by_cases k_17 : (AS.st a) = 10
                · refine lv_tableIn (tgt := 90) hx hb dX0_act_4 (by rw [k_17]; decide) (by rw [k_17]; decide) (by rw [k_17]; rfl) (by decide) ?_
                  refine lv_aload_n hx hb dX0_act_90 rfl (lv_at hl 0 rfl) ?_
                  refine lv_iconst (v := nI 1) hx hb dX0_act_91 (by decide) ?_
                  refine va_put (D := (dC, dI)) (ci := 0) (v := .int (nI 1)) (ty := .int) (C := RX0) (T := TX0) (N := 9) hx hb hts inX0 tyX0 tyX0_ok nmX0 hown hK hP hD hS 15 rfl rfl 5 (by decide) (hts _ tw_108) (fun _ h9 => h9) rfl (by decide +kernel) rfl rfl (Nat.le_of_ble_eq_true rfl) dX0_act_92 (fun H locs hP hD hS => ?_)
                  have hP : va_P (dC, dI) vwCl (wY q cI cZ r k (AS.s_cr a 1)) H := hP
                  have hD : va_D A (wY q cI cZ r k (AS.s_cr a 1)) := hD
                  refine lv_iconst (v := zI (-1)) hx hb dX0_act_95 (by decide) ?_
                  exact xr_i hx hb hr hlk (u := (r, k, AS.s_cr a 1)) (⟨by unfold actF; simp [k_17], by unfold actF; simp [k_17]⟩) hP hK hD hS dX0_act_96
                · by_cases k_18 : (AS.st a) = 11
                  · refine lv_tableIn (tgt := 97) hx hb dX0_act_4 (by rw [k_18]; decide) (by rw [k_18]; decide) (by rw [k_18]; rfl) (by decide) ?_
                    refine lv_aload_n hx hb dX0_act_97 rfl (lv_at hl 0 rfl) ?_
                    refine lv_iload_n hx hb dX0_act_98 rfl (lv_at hl 1 rfl) ?_
                    refine xc_Vi (As := [.int (nI b)]) (wr := []) ⟨hx, hb, hml, hown, hts⟩ (c_Access_shiftCode l dC dI q cI cZ H.size r k a b a_cr hb2) (cwV 1 hts (gV tw_513 tw_515 sw_22 tw_4 tw_516) rfl rfl rfl (by decide +kernel) ⟨Nat.le_of_ble_eq_true rfl, Nat.le_of_ble_eq_true rfl⟩) rfl hl.1 rfl (Nat.le_of_ble_eq_true rfl) dX0_act_99 ⟨Nat.zero_le _, Nat.zero_le _⟩ hP hD hK hS hA [0, 1, 2, 3, 4, 5, 6, 7, 8, 9, 10, 11, 12, 13, 14, 15, 16] [] rfl rfl (by decide) (by decide) (by decide) [0, 1] rfl (q0 := 15) rfl rfl rfl eT_M (trivial) (fun r_19 u_20 H locs w_21 hP hD hS => ?_)
                    obtain ⟨rfl, rfl⟩ := w_21
                    have hP : va_P (dC, dI) vwCl (wY q cI cZ r k (AS.s_cr a (a.cr / 2 + b * 8))) H := hP
                    have hD : va_D A (wY q cI cZ r k (AS.s_cr a (a.cr / 2 + b * 8))) := hD
                    refine xt_i (show nI (a.cr % 2) = zI ((a.cr % 2 : Nat) : Int) from (zI_nI _).symm) ?_
                    exact xr_i hx hb hr hlk (u := (r, k, AS.s_cr a (a.cr / 2 + b * 8))) (⟨by unfold actF; simp [k_18], by unfold actF; simp [k_18]⟩) hP hK hD hS dX0_act_102
                  · by_cases k_22 : (AS.st a) = 12
                    · refine lv_tableIn (tgt := 113) hx hb dX0_act_4 (by rw [k_22]; decide) (by rw [k_22]; decide) (by rw [k_22]; rfl) (by decide) ?_
                      refine lv_iconst (v := zI (-1)) hx hb dX0_act_113 (by decide) ?_
                      exact xr_i hx hb hr hlk (u := (r, k, a)) (⟨by unfold actF; simp [k_22], by unfold actF; simp [k_22]⟩) hP hK hD hS dX0_act_114
                    · by_cases k_23 : (AS.st a) = 13
                      · refine lv_tableIn (tgt := 113) hx hb dX0_act_4 (by rw [k_23]; decide) (by rw [k_23]; decide) (by rw [k_23]; rfl) (by decide) ?_
                        refine lv_iconst (v := zI (-1)) hx hb dX0_act_113 (by decide) ?_
                        exact xr_i hx hb hr hlk (u := (r, k, a)) (⟨by unfold actF; simp [k_23], by unfold actF; simp [k_23]⟩) hP hK hD hS dX0_act_114
                      · by_cases k_24 : (AS.st a) = 14
                        · refine lv_tableIn (tgt := 113) hx hb dX0_act_4 (by rw [k_24]; decide) (by rw [k_24]; decide) (by rw [k_24]; rfl) (by decide) ?_
                          refine lv_iconst (v := zI (-1)) hx hb dX0_act_113 (by decide) ?_
                          exact xr_i hx hb hr hlk (u := (r, k, a)) (⟨by unfold actF; simp [k_24], by unfold actF; simp [k_24]⟩) hP hK hD hS dX0_act_114
                        · by_cases k_25 : (AS.st a) = 15
                          · refine lv_tableIn (tgt := 103) hx hb dX0_act_4 (by rw [k_25]; decide) (by rw [k_25]; decide) (by rw [k_25]; rfl) (by decide) ?_
                            refine lv_aload_n hx hb dX0_act_103 rfl (lv_at hl 0 rfl) ?_
                            refine lv_aload_n hx hb dX0_act_104 rfl (lv_at hl 0 rfl) ?_
                            refine va_get (D := (dC, dI)) (ci := 0) (v := .int (nI (AS.cr a))) (C := RX0) (T := TX0) (N := 9) hx hb hts inX0 hown hK hP 15 rfl rfl 5 (by decide) (hts _ tw_108) (fun _ h9 => h9) rfl dX0_act_105 ?_
                            refine va_put (D := (dC, dI)) (ci := 0) (v := .int (nI (AS.cr a))) (ty := .int) (C := RX0) (T := TX0) (N := 9) hx hb hts inX0 tyX0 tyX0_ok nmX0 hown hK hP hD hS 15 rfl rfl 1 (by decide) (hts _ tw_103) (fun _ h9 => h9) rfl (by decide +kernel) rfl rfl (Nat.le_of_ble_eq_true rfl) dX0_act_108 (fun H locs hP hD hS => ?_)
                            have hP : va_P (dC, dI) vwCl (wY q cI cZ r k (AS.s_co a (AS.cr a))) H := hP
                            have hD : va_D A (wY q cI cZ r k (AS.s_co a (AS.cr a))) := hD
                            refine lv_iconst (v := zI (-1)) hx hb dX0_act_111 (by decide) ?_
                            exact xr_i hx hb hr hlk (u := (r, k, AS.s_co a (AS.cr a))) (⟨by unfold actF; simp [k_25], by unfold actF; simp [k_25]⟩) hP hK hD hS dX0_act_112
                          · refine lv_tableOut (tgt := 113) hx hb dX0_act_4 (by rw [nI_toInt (by omega)]; omega) (by decide) ?_
                            refine lv_iconst (v := zI (-1)) hx hb dX0_act_113 (by decide) ?_
                            exact xr_i hx hb hr hlk (u := (r, k, a)) (⟨by unfold actF; simp [k_1, k_5, k_9, k_10, k_11, k_12, k_16, k_17, k_18, k_22, k_23, k_24, k_25], by unfold actF; simp [k_1, k_5, k_9, k_10, k_11, k_12, k_16, k_17, k_18, k_22, k_23, k_24, k_25]⟩) hP hK hD hS dX0_act_114
set_option maxHeartbeats 4000000 in
set_option maxRecDepth 100000 in
theorem c_Access_step (l : Launch) (dC : Nat → ClassId) (dI : Nat → Nat → Nat) (q : Nat → Nat) (cI cZ : ClassId) (sz : Nat) (r : RS) (k : CS) (a : AS) (tN m0 b : Nat) (hY : YB (r, k, a)) (hm2 : m0 < 2) (hb2 : b < 2) : Met l yX0_step (.code yX0_step cX0_step 4 (some .int) :: ALLG) ({ frames := 4, cells := 0, slots := 0, locals := 90 }) (va_Pc [.ref (q 15), .int (nI m0), .int (nI b)] (cP (dC, dI) vwCl [(cI, .int), (cZ, .boolean)] (wY q cI cZ r k a) (eN tN (va_A (wY q cI cZ r k a) sz)) sz)) (va_Qi (fun (x : Int32) (u : RS × CS × AS) => x = zI (stepF r k a m0 b).1 ∧ u = (stepF r k a m0 b).2) (fun (u : RS × CS × AS) => cB (dC, dI) vwCl [(cI, .int), (cZ, .boolean)] (wY q cI cZ u.1 u.2.1 u.2.2) (va_A (wY q cI cZ r k a) sz)) (va_A (wY q cI cZ r k a) sz)) 0 0 (va_A (wY q cI cZ r k a) sz) := by
  refine xm_of (cc := cX0_step) (maxL := 4) (ret := some .int) (by decide) rfl (Nat.le_of_ble_eq_true rfl) ?_
  intro p e s m below meth c A hAe hx hb hr hml hts0 hown hlk hin hsz H locs hP hK hD hA hS hE ls hl
  have hts : ∀ w ∈ ALLG, w.before _ s = true := fun w h => hts0 w (List.mem_cons_of_mem _ h)
  rw [← hAe]
  rw [← hAe] at hE
  have hY0 := hY
  have hR0 : RB r := hY.1
  have hA0 : AB a := hY.2.2
  obtain ⟨⟨b_n, b_c, b_p, b_vb, b_ck, b_xx, b_yy, b_fl, b_po, b_rw, b_ch, b_st⟩, ⟨k_n, k_pin, k_ki, k_he, k_ir⟩, a_st, a_co, a_cr, a_by, a_tk⟩ : RB r ∧ CB k ∧ AB a := hY
  have g0 := reg_lt a.co k.n r.p
  have g1 : (actF r k a b).2.2.2.st < 16 := by rw [actF_st]; exact a_st
  have g2 := NX_lt (2 * (actF r k a b).2.2.2.st + m0)
  have hl : lv_has ls 4 [(0, .ref (q 15)), (1, .int (nI m0)), (2, .int (nI b))] := hl
  refine lv_aload_n hx hb dX0_step_0 rfl (lv_at hl 0 rfl) ?_
  refine lv_iload_n hx hb dX0_step_1 rfl (lv_at hl 2 rfl) ?_
  refine xc_Vi (As := [.int (nI b)]) (wr := []) ⟨hx, hb, hml, hown, hts⟩ (c_Access_act l dC dI q cI cZ H.size r k a b hY0 hb2) (cwV 1 hts (gV tw_469 tw_471 sw_15 tw_4 tw_472) rfl rfl rfl (by decide +kernel) ⟨Nat.le_of_ble_eq_true rfl, Nat.le_of_ble_eq_true rfl⟩) rfl hl.1 rfl (Nat.le_of_ble_eq_true rfl) dX0_step_2 ⟨Nat.zero_le _, Nat.zero_le _⟩ hP hD hK hS hA [0, 1, 2, 3, 4, 5, 6, 7, 8, 9, 10, 11, 12, 13, 14, 15, 16] [] rfl rfl (by decide) (by decide) (by decide) [0, 1] rfl (q0 := 15) rfl rfl rfl eT_M (trivial) (fun r_1 u_2 H locs w_3 hP hD hS => ?_)
  obtain ⟨rfl, rfl⟩ := w_3
  have hP : va_P (dC, dI) vwCl (wY q cI cZ (((actF r k a b).2).1) (((actF r k a b).2).2.1) (((actF r k a b).2).2.2)) H := hP
  have hD : va_D A (wY q cI cZ (((actF r k a b).2).1) (((actF r k a b).2).2.1) (((actF r k a b).2).2.2)) := hD
  refine lv_istore_n (lv' := [(3, .int (zI ((actF r k a b).1))), (0, .ref (q 15)), (1, .int (nI m0)), (2, .int (nI b))]) hx hb dX0_step_5 rfl hl (by decide) rfl (fun ls hl => ?_)
  refine lv_aload_n hx hb dX0_step_6 rfl (lv_at hl 1 rfl) ?_
  refine va_gets hx hb hE.1 hS hown (hts _ tw_517) (fun _ h9 => h9) dX0_step_7 ?_
  refine lv_iconst (v := nI 2) hx hb dX0_step_10 (by decide) ?_
  refine lv_aload_n hx hb dX0_step_11 rfl (lv_at hl 1 rfl) ?_
  refine va_get (D := (dC, dI)) (ci := 0) (v := .int (nI (AS.st (((actF r k a b).2).2.2)))) (C := RX0) (T := TX0) (N := 9) hx hb hts inX0 hown hK hP 15 rfl rfl 0 (by decide) (hts _ tw_101) (fun _ h9 => h9) rfl dX0_step_12 ?_
  refine xn_mul hx hb dX0_step_15 ?_
  refine lv_iload_n hx hb dX0_step_16 rfl (lv_at hl 2 rfl) ?_
  refine xn_add hx hb dX0_step_17 ?_
  refine va_ti hx hb hE.2 hS (vp_in_nI (show ((2 * (AS.st (((actF r k a b).2).2.2))) + m0) < 32 by omega) (by decide)) (v := .int (nI (NX ((2 * (AS.st (((actF r k a b).2).2.2))) + m0)))) (by show Value.int (nI (NX (nI ((2 * (AS.st (((actF r k a b).2).2.2))) + m0)).toNatClampNeg)) = _; rw [nI_clamp (by omega)]) dX0_step_18 ?_
  refine va_put (D := (dC, dI)) (ci := 0) (v := .int (nI (NX ((2 * (AS.st (((actF r k a b).2).2.2))) + m0)))) (ty := .int) (C := RX0) (T := TX0) (N := 9) hx hb hts inX0 tyX0 tyX0_ok nmX0 hown hK hP hD hS 15 rfl rfl 0 (by decide) (hts _ tw_101) (fun _ h9 => h9) rfl (by decide +kernel) rfl rfl (Nat.le_of_ble_eq_true rfl) dX0_step_19 (fun H locs hP hD hS => ?_)
  have hP : va_P (dC, dI) vwCl (wY q cI cZ (((actF r k a b).2).1) (((actF r k a b).2).2.1) (AS.s_st (((actF r k a b).2).2.2) (NX ((2 * (AS.st (((actF r k a b).2).2.2))) + m0)))) H := hP
  have hD : va_D A (wY q cI cZ (((actF r k a b).2).1) (((actF r k a b).2).2.1) (AS.s_st (((actF r k a b).2).2.2) (NX ((2 * (AS.st (((actF r k a b).2).2.2))) + m0)))) := hD
  refine lv_aload_n hx hb dX0_step_22 rfl (lv_at hl 1 rfl) ?_
  refine va_get (D := (dC, dI)) (ci := 0) (v := .int (nI (NX ((2 * (AS.st (((actF r k a b).2).2.2))) + m0)))) (C := RX0) (T := TX0) (N := 9) hx hb hts inX0 hown hK hP 15 rfl rfl 0 (by decide) (hts _ tw_101) (fun _ h9 => h9) rfl dX0_step_23 ?_
  refine xn_zne (tgt := 34) hx hb (by omega) dX0_step_26 (by decide) (fun c_4 => ?_) (fun c_4 => ?_)
  · refine lv_iload_n hx hb dX0_step_34 rfl (lv_at hl 0 rfl) ?_
    exact xr_i hx hb hr hlk (u := (((actF r k a b).2).1, ((actF r k a b).2).2.1, AS.s_st (((actF r k a b).2).2.2) (NX ((2 * (AS.st (((actF r k a b).2).2.2))) + m0)))) (⟨rfl, by unfold stepF stepA; rw [if_neg (show ¬ NX (2 * (actF r k a b).2.2.2.st + m0) = 0 by omega)]⟩) hP hK hD hS dX0_step_35
  · refine lv_aload_n hx hb dX0_step_29 rfl (lv_at hl 1 rfl) ?_
    refine lv_iconst (v := nI 2) hx hb dX0_step_30 (by decide) ?_
    refine va_put (D := (dC, dI)) (ci := 0) (v := .int (nI 2)) (ty := .int) (C := RX0) (T := TX0) (N := 9) hx hb hts inX0 tyX0 tyX0_ok nmX0 hown hK hP hD hS 15 rfl rfl 1 (by decide) (hts _ tw_103) (fun _ h9 => h9) rfl (by decide +kernel) rfl rfl (Nat.le_of_ble_eq_true rfl) dX0_step_31 (fun H locs hP hD hS => ?_)
    have hP : va_P (dC, dI) vwCl (wY q cI cZ (((actF r k a b).2).1) (((actF r k a b).2).2.1) (AS.s_co (AS.s_st (((actF r k a b).2).2.2) (NX ((2 * (AS.st (((actF r k a b).2).2.2))) + m0))) 2)) H := hP
    have hD : va_D A (wY q cI cZ (((actF r k a b).2).1) (((actF r k a b).2).2.1) (AS.s_co (AS.s_st (((actF r k a b).2).2.2) (NX ((2 * (AS.st (((actF r k a b).2).2.2))) + m0))) 2)) := hD
    refine lv_iload_n hx hb dX0_step_34 rfl (lv_at hl 0 rfl) ?_
    exact xr_i hx hb hr hlk (u := (((actF r k a b).2).1, ((actF r k a b).2).2.1, AS.s_co (AS.s_st (((actF r k a b).2).2.2) (NX ((2 * (AS.st (((actF r k a b).2).2.2))) + m0))) 2)) (⟨rfl, by unfold stepF stepA; rw [if_pos (show NX (2 * (actF r k a b).2.2.2.st + m0) = 0 by omega)]⟩) hP hK hD hS dX0_step_35
end
section
/-! bounds stay -/
theorem mtF_le (goal : Nat) {g : Nat → Nat} (h : ∀ j, g j ≤ 16) : ∀ j, mtF goal g j ≤ 16 := mtO_le (cpN_le (tk0_le goal) h 16) 16
theorem smode_lt (a : AS) : smode a < 2 := by unfold smode; split <;> omega
theorem YB_mt {r : RS} {k : CS} {a : AS} (goal : Nat) (h : YB (r, k, a)) : YB (r, k, a.s_tk (mtF goal a.tk)) := ⟨h.1, h.2.1, h.2.2.1, h.2.2.2.1, h.2.2.2.2.1, h.2.2.2.2.2.1, mtF_le goal h.2.2.2.2.2.2⟩
theorem cpN_lt {f g : Nat → Nat} {m : Nat} (hf : ∀ j, f j < m) (hg : ∀ j, g j < m) (n : Nat) : ∀ j, cpN f g n j < m := by
  intro j; unfold cpN; split
  · exact hf j
  · exact hg j
theorem srV_lt {g : Nat → Nat} {m b : Nat} (hg : ∀ j, g j < m) (hb : b < m) (n : Nat) : ∀ j, srV g b n j < m := by
  intro j; unfold srV; split
  · split
    · exact hb
    · exact hg _
  · exact hg j
theorem shL_lt {r : RS} {f b : Nat} (hv : ∀ j, r.vb j < 2) (hb : b < 2) (n : Nat) : (shL r f b n).1 < 2 ∧ ∀ j, (shL r f b n).2 j < 2 := by
  induction n with
  | zero => exact ⟨hb, hv⟩
  | succ n ih => exact ⟨ih.2 _, up_lt ih.2 ih.1 _⟩
theorem shV_lt {r : RS} {f t b : Nat} (hv : ∀ j, r.vb j < 2) (hb : b < 2) : ∀ j, shV r f t b j < 2 := by
  intro j; unfold shV; split
  · exact (shL_lt hv hb _).2 j
  · exact hv j
theorem shO_lt {r : RS} {f t b : Nat} (hv : ∀ j, r.vb j < 2) (hb : b < 2) : shO r f t b < 2 := by
  unfold shO; split
  · exact (shL_lt hv hb _).1
  · decide
theorem RB_vb {r : RS} {v : Nat → Nat} (h : RB r) (hv : ∀ j, v j < 2) : RB (r.s_vb v) := ⟨h.1, h.2.1, h.2.2.1, hv, h.2.2.2.2⟩
theorem capD_YB {r : RS} {k : CS} {a : AS} (h : YB (r, k, a)) : YB (capD r k a) := by
  obtain ⟨hr, ⟨k1, k2, k3, k4, k5⟩, a1, a2, a3, a4, a5⟩ : RB r ∧ CB k ∧ AB a := h
  unfold capD
  split
  · exact ⟨hr, ⟨k1, k2, k3, k4, cpN_lt k2 k5 _⟩, a1, a2, a3, a4, a5⟩
  · split
    · exact ⟨hr, ⟨k1, k2, k3, k4, k5⟩, a1, a2, a3, a4, a5⟩
    · split
      · exact ⟨hr, ⟨k1, k2, k3, k4, k5⟩, a1, a2, a3, a4, a5⟩
      · exact ⟨hr, ⟨k1, k2, k3, k4, k5⟩, a1, a2, a3, by show (0 : Nat) < 2; decide, a5⟩
theorem shfD_YB {r : RS} {k : CS} {a : AS} {b : Nat} (hb : b < 2) (h : YB (r, k, a)) : YB (shfD r k a b).2 ∧ (shfD r k a b).1 < 2 := by
  obtain ⟨hr, ⟨k1, k2, k3, k4, k5⟩, a1, a2, a3, a4, a5⟩ : RB r ∧ CB k ∧ AB a := h
  unfold shfD
  split
  · refine ⟨⟨hr, ⟨k1, k2, k3, k4, srV_lt k5 hb _⟩, a1, a2, a3, a4, a5⟩, ?_⟩
    show srO k.ir b k.n < 2
    unfold srO; split
    · exact hb
    · exact k5 _
  · split
    · exact ⟨⟨hr, ⟨k1, k2, k3, k4, k5⟩, a1, a2, a3, a4, a5⟩, nbit_lt _⟩
    · split
      · exact ⟨⟨RB_vb hr (shV_lt hr.2.2.2.1 hb), ⟨k1, k2, k3, k4, k5⟩, a1, a2, a3, a4, a5⟩, shO_lt hr.2.2.2.1 hb⟩
      · exact ⟨⟨hr, ⟨k1, k2, k3, k4, k5⟩, a1, a2, a3, hb, a5⟩, a4⟩
theorem updD_YB {r : RS} {k : CS} {a : AS} (h : YB (r, k, a)) : YB (updD r k a) := by
  obtain ⟨hr, ⟨k1, k2, k3, k4, k5⟩, a1, a2, a3, a4, a5⟩ : RB r ∧ CB k ∧ AB a := h
  unfold updD
  split
  · exact ⟨hr, ⟨k1, k2, k3, cpN_lt k5 k4 _, k5⟩, a1, a2, a3, a4, a5⟩
  · exact ⟨hr, ⟨k1, k2, k3, k4, k5⟩, a1, a2, a3, a4, a5⟩
theorem actF_YB {r : RS} {k : CS} {a : AS} {b : Nat} (hb : b < 2) (h : YB (r, k, a)) : YB (actF r k a b).2 := by
  have h0 := h
  obtain ⟨hr, hk, a1, a2, a3, a4, a5⟩ : RB r ∧ CB k ∧ AB a := h
  unfold actF
  split
  · exact capD_YB h0
  · split
    · exact (shfD_YB hb h0).1
    · split
      · exact updD_YB h0
      · split
        · exact ⟨hr, hk, a1, a2, by show (1 : Nat) < 16; decide, a4, a5⟩
        · split
          · exact ⟨hr, hk, a1, a2, by show a.cr / 2 + b * 8 < 16; omega, a4, a5⟩
          · split
            · exact ⟨hr, hk, a1, a3, a3, a4, a5⟩
            · exact ⟨hr, hk, a1, a2, a3, a4, a5⟩
theorem stepF_YB {r : RS} {k : CS} {a : AS} {m b : Nat} (hb : b < 2) (h : YB (r, k, a)) : YB (stepF r k a m b).2 := by
  obtain ⟨hr, hk, a1, a2, a3, a4, a5⟩ := actF_YB hb h
  refine ⟨hr, hk, ?_⟩
  show AB (stepA (actF r k a b).2.2.2 m)
  unfold stepA
  split
  · exact ⟨NX_lt _, by show (2 : Nat) < 16; decide, a3, a4, a5⟩
  · exact ⟨NX_lt _, a2, a3, a4, a5⟩
theorem goIt_YB {y : RS × CS × AS} (h : YB y) (i : Nat) : YB (goIt y i) := by
  induction i with
  | zero => exact h
  | succ i ih => exact stepF_YB (by decide) ih
theorem sw_23 : Cond.selects "ScanRows$Access" (⟨"ScanRows$Access", "measureTicks", "(I)V"⟩ : MethodName) (⟨"ScanRows$Access", "measureTicks", "(I)V"⟩ : MethodName) ∈ ALLG := al_s (i := 23) (by decide +kernel) (by decide +kernel)
theorem sw_24 : Cond.selects "ScanRows$Access" (⟨"ScanRows$Access", "shortestMode", "()I"⟩ : MethodName) (⟨"ScanRows$Access", "shortestMode", "()I"⟩ : MethodName) ∈ ALLG := al_s (i := 24) (by decide +kernel) (by decide +kernel)
theorem tw_111 : (Cond.fieldLink "ScanRows$Access" (29 : Nat) "ScanRows$Access" "ticksFrom" "[I") ∈ ALLG := al_t (i := 111) (by decide +kernel) (by decide +kernel)
theorem tw_466 : (Cond.instanceMethod ({ cls := "ScanRows$Access", name := "step", desc := "(II)I" } : Jvm.MethodName)) ∈ ALLG := al_t (i := 466) (by decide +kernel) (by decide +kernel)
theorem tw_467 : (Cond.selects "ScanRows$Access" ({ cls := "ScanRows$Access", name := "step", desc := "(II)I" } : Jvm.MethodName) ({ cls := "ScanRows$Access", name := "step", desc := "(II)I" } : Jvm.MethodName)) ∈ ALLG := al_t (i := 467) (by decide +kernel) (by decide +kernel)
theorem tw_468 : (Cond.code ({ cls := "ScanRows$Access", name := "step", desc := "(II)I" } : Jvm.MethodName) prog_2_method_2_code (4 : Nat) (Option.some FieldType.int)) ∈ ALLG := al_t (i := 468) (by decide +kernel) (by decide +kernel)
theorem tw_531 : (Cond.methodLink "ScanRows$Access" (93 : Nat) ({ cls := "ScanRows$Access", name := "measureTicks", desc := "(I)V" } : Jvm.MethodName)) ∈ ALLG := al_t (i := 531) (by decide +kernel) (by decide +kernel)
theorem tw_533 : (Cond.instanceMethod ({ cls := "ScanRows$Access", name := "measureTicks", desc := "(I)V" } : Jvm.MethodName)) ∈ ALLG := al_t (i := 533) (by decide +kernel) (by decide +kernel)
theorem tw_534 : (Cond.code ({ cls := "ScanRows$Access", name := "measureTicks", desc := "(I)V" } : Jvm.MethodName) prog_2_method_14_code (5 : Nat) (Option.none : Option Jvm.ClassFile.FieldType)) ∈ ALLG := al_t (i := 534) (by decide +kernel) (by decide +kernel)
theorem tw_535 : (Cond.methodLink "ScanRows$Access" (104 : Nat) ({ cls := "java/lang/Math", name := "min", desc := "(II)I" } : Jvm.MethodName)) ∈ ALLG := al_t (i := 535) (by decide +kernel) (by decide +kernel)
theorem tw_536 : (Cond.static ({ cls := "java/lang/Math", name := "min", desc := "(II)I" } : Jvm.MethodName)) ∈ ALLG := al_t (i := 536) (by decide +kernel) (by decide +kernel)
theorem tw_537 : (Cond.code ({ cls := "java/lang/Math", name := "min", desc := "(II)I" } : Jvm.MethodName) prog_10_method_69_code (2 : Nat) (Option.some FieldType.int)) ∈ ALLG := al_t (i := 537) (by decide +kernel) (by decide +kernel)
theorem tw_538 : (Cond.methodLink "ScanRows$Access" (97 : Nat) ({ cls := "ScanRows$Access", name := "shortestMode", desc := "()I" } : Jvm.MethodName)) ∈ ALLG := al_t (i := 538) (by decide +kernel) (by decide +kernel)
theorem tw_540 : (Cond.instanceMethod ({ cls := "ScanRows$Access", name := "shortestMode", desc := "()I" } : Jvm.MethodName)) ∈ ALLG := al_t (i := 540) (by decide +kernel) (by decide +kernel)
theorem tw_541 : (Cond.code ({ cls := "ScanRows$Access", name := "shortestMode", desc := "()I" } : Jvm.MethodName) prog_2_method_13_code (1 : Nat) (Option.some FieldType.int)) ∈ ALLG := al_t (i := 541) (by decide +kernel) (by decide +kernel)
theorem tw_542 : (Cond.methodLink "ScanRows$Access" (100 : Nat) ({ cls := "ScanRows$Access", name := "step", desc := "(II)I" } : Jvm.MethodName)) ∈ ALLG := al_t (i := 542) (by decide +kernel) (by decide +kernel)
theorem dX0_shortestMode_0 : decode cX0_shortestMode 0 = .ok (.aload_n 0, 1) := by decide +kernel
theorem dX0_shortestMode_1 : decode cX0_shortestMode 1 = .ok (.getfield 29, 3) := by decide +kernel
theorem dX0_shortestMode_4 : decode cX0_shortestMode 4 = .ok (.getstatic 37, 3) := by decide +kernel
theorem dX0_shortestMode_7 : decode cX0_shortestMode 7 = .ok (.iconst 2, 1) := by decide +kernel
theorem dX0_shortestMode_8 : decode cX0_shortestMode 8 = .ok (.aload_n 0, 1) := by decide +kernel
theorem dX0_shortestMode_9 : decode cX0_shortestMode 9 = .ok (.getfield 23, 3) := by decide +kernel
theorem dX0_shortestMode_12 : decode cX0_shortestMode 12 = .ok (.imul, 1) := by decide +kernel
theorem dX0_shortestMode_13 : decode cX0_shortestMode 13 = .ok (.iaload, 1) := by decide +kernel
theorem dX0_shortestMode_14 : decode cX0_shortestMode 14 = .ok (.iaload, 1) := by decide +kernel
theorem dX0_shortestMode_15 : decode cX0_shortestMode 15 = .ok (.aload_n 0, 1) := by decide +kernel
theorem dX0_shortestMode_16 : decode cX0_shortestMode 16 = .ok (.getfield 29, 3) := by decide +kernel
theorem dX0_shortestMode_19 : decode cX0_shortestMode 19 = .ok (.aload_n 0, 1) := by decide +kernel
theorem dX0_shortestMode_20 : decode cX0_shortestMode 20 = .ok (.getfield 23, 3) := by decide +kernel
theorem dX0_shortestMode_23 : decode cX0_shortestMode 23 = .ok (.iaload, 1) := by decide +kernel
theorem dX0_shortestMode_24 : decode cX0_shortestMode 24 = .ok (.if_icmp .ge 7, 3) := by decide +kernel
theorem dX0_shortestMode_27 : decode cX0_shortestMode 27 = .ok (.iconst 0, 1) := by decide +kernel
theorem dX0_shortestMode_28 : decode cX0_shortestMode 28 = .ok (.goto 4, 3) := by decide +kernel
theorem dX0_shortestMode_31 : decode cX0_shortestMode 31 = .ok (.iconst 1, 1) := by decide +kernel
theorem dX0_shortestMode_32 : decode cX0_shortestMode 32 = .ok (.ireturn, 1) := by decide +kernel
theorem dX0_measureTicks_0 : decode cX0_measureTicks 0 = .ok (.iconst 0, 1) := by decide +kernel
theorem dX0_measureTicks_1 : decode cX0_measureTicks 1 = .ok (.istore_n 2, 1) := by decide +kernel
theorem dX0_measureTicks_2 : decode cX0_measureTicks 2 = .ok (.iload_n 2, 1) := by decide +kernel
theorem dX0_measureTicks_3 : decode cX0_measureTicks 3 = .ok (.bipush 16, 2) := by decide +kernel
theorem dX0_measureTicks_5 : decode cX0_measureTicks 5 = .ok (.if_icmp .ge 26, 3) := by decide +kernel
theorem dX0_measureTicks_8 : decode cX0_measureTicks 8 = .ok (.aload_n 0, 1) := by decide +kernel
theorem dX0_measureTicks_9 : decode cX0_measureTicks 9 = .ok (.getfield 29, 3) := by decide +kernel
theorem dX0_measureTicks_12 : decode cX0_measureTicks 12 = .ok (.iload_n 2, 1) := by decide +kernel
theorem dX0_measureTicks_13 : decode cX0_measureTicks 13 = .ok (.iload_n 2, 1) := by decide +kernel
theorem dX0_measureTicks_14 : decode cX0_measureTicks 14 = .ok (.iload_n 1, 1) := by decide +kernel
theorem dX0_measureTicks_15 : decode cX0_measureTicks 15 = .ok (.if_icmp .ne 7, 3) := by decide +kernel
theorem dX0_measureTicks_18 : decode cX0_measureTicks 18 = .ok (.iconst 0, 1) := by decide +kernel
theorem dX0_measureTicks_19 : decode cX0_measureTicks 19 = .ok (.goto 5, 3) := by decide +kernel
theorem dX0_measureTicks_22 : decode cX0_measureTicks 22 = .ok (.bipush 16, 2) := by decide +kernel
theorem dX0_measureTicks_24 : decode cX0_measureTicks 24 = .ok (.iastore, 1) := by decide +kernel
theorem dX0_measureTicks_25 : decode cX0_measureTicks 25 = .ok (.iinc 2 1, 3) := by decide +kernel
theorem dX0_measureTicks_28 : decode cX0_measureTicks 28 = .ok (.goto (-26), 3) := by decide +kernel
theorem dX0_measureTicks_31 : decode cX0_measureTicks 31 = .ok (.iconst 0, 1) := by decide +kernel
theorem dX0_measureTicks_32 : decode cX0_measureTicks 32 = .ok (.istore_n 2, 1) := by decide +kernel
theorem dX0_measureTicks_33 : decode cX0_measureTicks 33 = .ok (.iload_n 2, 1) := by decide +kernel
theorem dX0_measureTicks_34 : decode cX0_measureTicks 34 = .ok (.bipush 16, 2) := by decide +kernel
theorem dX0_measureTicks_36 : decode cX0_measureTicks 36 = .ok (.if_icmp .ge 73, 3) := by decide +kernel
theorem dX0_measureTicks_39 : decode cX0_measureTicks 39 = .ok (.iconst 0, 1) := by decide +kernel
theorem dX0_measureTicks_40 : decode cX0_measureTicks 40 = .ok (.istore_n 3, 1) := by decide +kernel
theorem dX0_measureTicks_41 : decode cX0_measureTicks 41 = .ok (.iload_n 3, 1) := by decide +kernel
theorem dX0_measureTicks_42 : decode cX0_measureTicks 42 = .ok (.bipush 16, 2) := by decide +kernel
theorem dX0_measureTicks_44 : decode cX0_measureTicks 44 = .ok (.if_icmp .ge 59, 3) := by decide +kernel
theorem dX0_measureTicks_47 : decode cX0_measureTicks 47 = .ok (.aload_n 0, 1) := by decide +kernel
theorem dX0_measureTicks_48 : decode cX0_measureTicks 48 = .ok (.getfield 29, 3) := by decide +kernel
theorem dX0_measureTicks_51 : decode cX0_measureTicks 51 = .ok (.getstatic 37, 3) := by decide +kernel
theorem dX0_measureTicks_54 : decode cX0_measureTicks 54 = .ok (.iconst 2, 1) := by decide +kernel
theorem dX0_measureTicks_55 : decode cX0_measureTicks 55 = .ok (.iload_n 3, 1) := by decide +kernel
theorem dX0_measureTicks_56 : decode cX0_measureTicks 56 = .ok (.imul, 1) := by decide +kernel
theorem dX0_measureTicks_57 : decode cX0_measureTicks 57 = .ok (.iaload, 1) := by decide +kernel
theorem dX0_measureTicks_58 : decode cX0_measureTicks 58 = .ok (.iaload, 1) := by decide +kernel
theorem dX0_measureTicks_59 : decode cX0_measureTicks 59 = .ok (.aload_n 0, 1) := by decide +kernel
theorem dX0_measureTicks_60 : decode cX0_measureTicks 60 = .ok (.getfield 29, 3) := by decide +kernel
theorem dX0_measureTicks_63 : decode cX0_measureTicks 63 = .ok (.getstatic 37, 3) := by decide +kernel
theorem dX0_measureTicks_66 : decode cX0_measureTicks 66 = .ok (.iconst 2, 1) := by decide +kernel
theorem dX0_measureTicks_67 : decode cX0_measureTicks 67 = .ok (.iload_n 3, 1) := by decide +kernel
theorem dX0_measureTicks_68 : decode cX0_measureTicks 68 = .ok (.imul, 1) := by decide +kernel
theorem dX0_measureTicks_69 : decode cX0_measureTicks 69 = .ok (.iconst 1, 1) := by decide +kernel
theorem dX0_measureTicks_70 : decode cX0_measureTicks 70 = .ok (.iadd, 1) := by decide +kernel
theorem dX0_measureTicks_71 : decode cX0_measureTicks 71 = .ok (.iaload, 1) := by decide +kernel
theorem dX0_measureTicks_72 : decode cX0_measureTicks 72 = .ok (.iaload, 1) := by decide +kernel
theorem dX0_measureTicks_73 : decode cX0_measureTicks 73 = .ok (.invokestatic 104, 3) := by decide +kernel
theorem dX0_measureTicks_76 : decode cX0_measureTicks 76 = .ok (.istore 4, 2) := by decide +kernel
theorem dX0_measureTicks_78 : decode cX0_measureTicks 78 = .ok (.aload_n 0, 1) := by decide +kernel
theorem dX0_measureTicks_79 : decode cX0_measureTicks 79 = .ok (.getfield 29, 3) := by decide +kernel
theorem dX0_measureTicks_82 : decode cX0_measureTicks 82 = .ok (.iload_n 3, 1) := by decide +kernel
theorem dX0_measureTicks_83 : decode cX0_measureTicks 83 = .ok (.aload_n 0, 1) := by decide +kernel
theorem dX0_measureTicks_84 : decode cX0_measureTicks 84 = .ok (.getfield 29, 3) := by decide +kernel
theorem dX0_measureTicks_87 : decode cX0_measureTicks 87 = .ok (.iload_n 3, 1) := by decide +kernel
theorem dX0_measureTicks_88 : decode cX0_measureTicks 88 = .ok (.iaload, 1) := by decide +kernel
theorem dX0_measureTicks_89 : decode cX0_measureTicks 89 = .ok (.iload 4, 2) := by decide +kernel
theorem dX0_measureTicks_91 : decode cX0_measureTicks 91 = .ok (.iconst 1, 1) := by decide +kernel
theorem dX0_measureTicks_92 : decode cX0_measureTicks 92 = .ok (.iadd, 1) := by decide +kernel
theorem dX0_measureTicks_93 : decode cX0_measureTicks 93 = .ok (.invokestatic 104, 3) := by decide +kernel
theorem dX0_measureTicks_96 : decode cX0_measureTicks 96 = .ok (.iastore, 1) := by decide +kernel
theorem dX0_measureTicks_97 : decode cX0_measureTicks 97 = .ok (.iinc 3 1, 3) := by decide +kernel
theorem dX0_measureTicks_100 : decode cX0_measureTicks 100 = .ok (.goto (-59), 3) := by decide +kernel
theorem dX0_measureTicks_103 : decode cX0_measureTicks 103 = .ok (.iinc 2 1, 3) := by decide +kernel
theorem dX0_measureTicks_106 : decode cX0_measureTicks 106 = .ok (.goto (-73), 3) := by decide +kernel
theorem dX0_measureTicks_109 : decode cX0_measureTicks 109 = .ok (.return_, 1) := by decide +kernel
theorem dX0_stepUntil_0 : decode cX0_stepUntil 0 = .ok (.aload_n 0, 1) := by decide +kernel
theorem dX0_stepUntil_1 : decode cX0_stepUntil 1 = .ok (.iload_n 1, 1) := by decide +kernel
theorem dX0_stepUntil_2 : decode cX0_stepUntil 2 = .ok (.invokevirtual 93, 3) := by decide +kernel
theorem dX0_stepUntil_5 : decode cX0_stepUntil 5 = .ok (.aload_n 0, 1) := by decide +kernel
theorem dX0_stepUntil_6 : decode cX0_stepUntil 6 = .ok (.getfield 29, 3) := by decide +kernel
theorem dX0_stepUntil_9 : decode cX0_stepUntil 9 = .ok (.aload_n 0, 1) := by decide +kernel
theorem dX0_stepUntil_10 : decode cX0_stepUntil 10 = .ok (.getfield 23, 3) := by decide +kernel
theorem dX0_stepUntil_13 : decode cX0_stepUntil 13 = .ok (.iaload, 1) := by decide +kernel
theorem dX0_stepUntil_14 : decode cX0_stepUntil 14 = .ok (.istore_n 2, 1) := by decide +kernel
theorem dX0_stepUntil_15 : decode cX0_stepUntil 15 = .ok (.iconst 0, 1) := by decide +kernel
theorem dX0_stepUntil_16 : decode cX0_stepUntil 16 = .ok (.istore_n 3, 1) := by decide +kernel
theorem dX0_stepUntil_17 : decode cX0_stepUntil 17 = .ok (.iload_n 3, 1) := by decide +kernel
theorem dX0_stepUntil_18 : decode cX0_stepUntil 18 = .ok (.iload_n 2, 1) := by decide +kernel
theorem dX0_stepUntil_19 : decode cX0_stepUntil 19 = .ok (.if_icmp .ge 19, 3) := by decide +kernel
theorem dX0_stepUntil_22 : decode cX0_stepUntil 22 = .ok (.aload_n 0, 1) := by decide +kernel
theorem dX0_stepUntil_23 : decode cX0_stepUntil 23 = .ok (.aload_n 0, 1) := by decide +kernel
theorem dX0_stepUntil_24 : decode cX0_stepUntil 24 = .ok (.invokevirtual 97, 3) := by decide +kernel
theorem dX0_stepUntil_27 : decode cX0_stepUntil 27 = .ok (.iconst 0, 1) := by decide +kernel
theorem dX0_stepUntil_28 : decode cX0_stepUntil 28 = .ok (.invokevirtual 100, 3) := by decide +kernel
theorem dX0_stepUntil_31 : decode cX0_stepUntil 31 = .ok (.pop, 1) := by decide +kernel
theorem dX0_stepUntil_32 : decode cX0_stepUntil 32 = .ok (.iinc 3 1, 3) := by decide +kernel
theorem dX0_stepUntil_35 : decode cX0_stepUntil 35 = .ok (.goto (-18), 3) := by decide +kernel
theorem dX0_stepUntil_38 : decode cX0_stepUntil 38 = .ok (.iload_n 2, 1) := by decide +kernel
theorem dX0_stepUntil_39 : decode cX0_stepUntil 39 = .ok (.ireturn, 1) := by decide +kernel
set_option maxHeartbeats 4000000 in
set_option maxRecDepth 100000 in
theorem c_Access_shortestMode (l : Launch) (dC : Nat → ClassId) (dI : Nat → Nat → Nat) (q : Nat → Nat) (cI cZ : ClassId) (sz : Nat) (r : RS) (k : CS) (a : AS) (tN : Nat) (hA0 : AB a) : Met l yX0_shortestMode (.code yX0_shortestMode cX0_shortestMode 1 (some .int) :: ALLG) ({ frames := 0, cells := 0, slots := 0, locals := 0 }) (va_Pc [.ref (q 15)] (cP (dC, dI) vwCl [(cI, .int), (cZ, .boolean)] (wY q cI cZ r k a) (eN tN (va_A (wY q cI cZ r k a) sz)) sz)) (va_Qi (fun (x : Int32) (_ : Unit) => x = nI (smode a)) (fun (_ : Unit) => cB (dC, dI) vwCl [(cI, .int), (cZ, .boolean)] (wY q cI cZ r k a) (va_A (wY q cI cZ r k a) sz)) (va_A (wY q cI cZ r k a) sz)) 0 0 (va_A (wY q cI cZ r k a) sz) := by
  refine xm_of (cc := cX0_shortestMode) (maxL := 1) (ret := some .int) (by decide) rfl (Nat.le_of_ble_eq_true rfl) ?_
  intro p e s m below meth c A hAe hx hb hr hml hts0 hown hlk hin hsz H locs hP hK hD hA hS hE ls hl
  have hts : ∀ w ∈ ALLG, w.before _ s = true := fun w h => hts0 w (List.mem_cons_of_mem _ h)
  rw [← hAe]
  rw [← hAe] at hE
  obtain ⟨a_st, a_co, a_cr, a_by, a_tk⟩ := hA0
  have g1 := NX_lt (2 * a.st)
  have g2 := a_tk (NX (2 * a.st))
  have g3 := a_tk a.st
  have hl : lv_has ls 1 [(0, .ref (q 15))] := hl
  refine lv_aload_n hx hb dX0_shortestMode_0 rfl (lv_at hl 0 rfl) ?_
  refine va_get (D := (dC, dI)) (ci := 0) (v := .ref (q 16)) (C := RX0) (T := TX0) (N := 9) hx hb hts inX0 hown hK hP 15 rfl rfl 8 (by decide) (hts _ tw_111) (fun _ h9 => h9) rfl dX0_shortestMode_1 ?_
  refine va_gets hx hb hE.1 hS hown (hts _ tw_517) (fun _ h9 => h9) dX0_shortestMode_4 ?_
  refine lv_iconst (v := nI 2) hx hb dX0_shortestMode_7 (by decide) ?_
  refine lv_aload_n hx hb dX0_shortestMode_8 rfl (lv_at hl 0 rfl) ?_
  refine va_get (D := (dC, dI)) (ci := 0) (v := .int (nI (AS.st a))) (C := RX0) (T := TX0) (N := 9) hx hb hts inX0 hown hK hP 15 rfl rfl 0 (by decide) (hts _ tw_101) (fun _ h9 => h9) rfl dX0_shortestMode_9 ?_
  refine xn_mul hx hb dX0_shortestMode_12 ?_
  refine va_ti hx hb hE.2 hS (vp_in_nI (show (2 * (AS.st a)) < 32 by omega) (by decide)) (v := .int (nI (NX (2 * (AS.st a))))) (by show Value.int (nI (NX (nI (2 * (AS.st a))).toNatClampNeg)) = _; rw [nI_clamp (by omega)]) dX0_shortestMode_13 ?_
  refine xa_ild hx hb hK hP 16 0 rfl rfl (v := nI ((AS.tk a) (NX (2 * (AS.st a))))) (by omega) (by decide) rfl dX0_shortestMode_14 ?_
  refine lv_aload_n hx hb dX0_shortestMode_15 rfl (lv_at hl 0 rfl) ?_
  refine va_get (D := (dC, dI)) (ci := 0) (v := .ref (q 16)) (C := RX0) (T := TX0) (N := 9) hx hb hts inX0 hown hK hP 15 rfl rfl 8 (by decide) (hts _ tw_111) (fun _ h9 => h9) rfl dX0_shortestMode_16 ?_
  refine lv_aload_n hx hb dX0_shortestMode_19 rfl (lv_at hl 0 rfl) ?_
  refine va_get (D := (dC, dI)) (ci := 0) (v := .int (nI (AS.st a))) (C := RX0) (T := TX0) (N := 9) hx hb hts inX0 hown hK hP 15 rfl rfl 0 (by decide) (hts _ tw_101) (fun _ h9 => h9) rfl dX0_shortestMode_20 ?_
  refine xa_ild hx hb hK hP 16 0 rfl rfl (v := nI ((AS.tk a) (AS.st a))) (by omega) (by decide) rfl dX0_shortestMode_23 ?_
  refine xn_cge (tgt := 31) hx hb (by omega) (by omega) dX0_shortestMode_24 (by decide) (fun c_1 => ?_) (fun c_1 => ?_)
  · refine lv_iconst (v := nI 1) hx hb dX0_shortestMode_31 (by decide) ?_
    exact xr_i hx hb hr hlk (u := ()) (by unfold smode; rw [if_neg (by omega)]) hP hK hD hS dX0_shortestMode_32
  · refine lv_iconst (v := nI 0) hx hb dX0_shortestMode_27 (by decide) ?_
    refine lv_goto (tgt := 32) hx hb dX0_shortestMode_28 (by decide) ?_
    exact xr_i hx hb hr hlk (u := ()) (by unfold smode; rw [if_pos (by assumption)]) hP hK hD hS dX0_shortestMode_32
set_option maxHeartbeats 4000000 in
set_option maxRecDepth 100000 in
theorem c_Access_measureTicks (l : Launch) (dC : Nat → ClassId) (dI : Nat → Nat → Nat) (q : Nat → Nat) (cI cZ : ClassId) (sz : Nat) (r : RS) (k : CS) (a : AS) (tN goal : Nat) (hA0 : AB a) (hg : goal < 16) : Met l yX0_measureTicks (.code yX0_measureTicks cX0_measureTicks 5 none :: ALLG) ({ frames := 1, cells := 0, slots := 0, locals := 24 }) (va_Pc [.ref (q 15), .int (nI goal)] (cP (dC, dI) vwCl [(cI, .int), (cZ, .boolean)] (wY q cI cZ r k a) (eN tN (va_A (wY q cI cZ r k a) sz)) sz)) (va_Qv (fun (u : RS × CS × AS) => u = (r, k, a.s_tk (mtF goal a.tk))) (fun (u : RS × CS × AS) => cB (dC, dI) vwCl [(cI, .int), (cZ, .boolean)] (wY q cI cZ u.1 u.2.1 u.2.2) (va_A (wY q cI cZ r k a) sz)) (va_A (wY q cI cZ r k a) sz)) 0 0 (va_A (wY q cI cZ r k a) sz) := by
  refine xm_of (cc := cX0_measureTicks) (maxL := 5) (ret := none) (by decide) rfl (Nat.le_of_ble_eq_true rfl) ?_
  intro p e s m below meth c A hAe hx hb hr hml hts0 hown hlk hin hsz H locs hP hK hD hA hS hE ls hl
  have hts : ∀ w ∈ ALLG, w.before _ s = true := fun w h => hts0 w (List.mem_cons_of_mem _ h)
  rw [← hAe]
  rw [← hAe] at hE
  obtain ⟨a_st, a_co, a_cr, a_by, a_tk⟩ := hA0
  have hl : lv_has ls 5 [(0, .ref (q 15)), (1, .int (nI goal))] := hl
  refine lv_iconst (v := nI 0) hx hb dX0_measureTicks_0 (by decide) ?_
  refine lv_istore_n (lv' := [(2, .int (nI 0)), (0, .ref (q 15)), (1, .int (nI goal))]) hx hb dX0_measureTicks_1 rfl hl (by decide) rfl (fun ls hl => ?_)
  have L2 : ∀ (fuel : Nat) (i : Nat) (g : Nat → Nat), (i ≤ 16) → (g = cpN (tk0 goal) a.tk i) → 16 - i < fuel → ∀ (H : Heap) (locs : List Loc), va_P (dC, dI) vwCl (wY q cI cZ r k (AS.s_tk a g)) H → va_D A (wY q cI cZ r k (AS.s_tk a g)) → va_S A s.heap H locs → ∀ ls : Array Slot, lv_has ls 5 [(0, .ref (q 15)), (1, .int (nI goal)), (2, .int (nI i))] → W p l e ({ frames := 1, cells := 0, slots := 0, locals := 24 } : Room) s m ([.ref (q 15), .int (nI goal)] : List Value).toArray below meth c H locs 0 0 (MQ below (va_Qv (fun (u : RS × CS × AS) => u = (r, k, a.s_tk (mtF goal a.tk))) (fun (u : RS × CS × AS) => cB (dC, dI) vwCl [(cI, .int), (cZ, .boolean)] (wY q cI cZ u.1 u.2.1 u.2.2) (A)) (A)) ([.ref (q 15), .int (nI goal)] : List Value).toArray s 0 0 A) (F0 m 2 ls []) := by
    intro fuel
    induction fuel with
    | zero => intro i g i1 e1 hm H locs hP hD hS ls hl; exact absurd hm (Nat.not_lt_zero _)
    | succ fuel ih2 =>
      intro i g i1 e1 hm H locs hP hD hS ls hl
      refine lv_iload_n hx hb dX0_measureTicks_2 rfl (lv_at hl 2 rfl) ?_
      refine lv_bipush (v := nI 16) hx hb dX0_measureTicks_3 (by decide) ?_
      refine xn_cge (tgt := 31) hx hb (by omega) (by omega) dX0_measureTicks_5 (by decide) (fun c_1 => ?_) (fun c_1 => ?_)
      · refine lv_iconst (v := nI 0) hx hb dX0_measureTicks_31 (by decide) ?_
        refine lv_istore_n (lv' := [(2, .int (nI 0)), (0, .ref (q 15)), (1, .int (nI goal))]) hx hb dX0_measureTicks_32 rfl hl (by decide) rfl (fun ls hl => ?_)
        have L33 : ∀ (fuel : Nat) (i : Nat) (g : Nat → Nat), (i ≤ 16) → (g = mtO (cpN (tk0 goal) a.tk 16) i) → 16 - i < fuel → ∀ (H : Heap) (locs : List Loc), va_P (dC, dI) vwCl (wY q cI cZ r k (AS.s_tk a g)) H → va_D A (wY q cI cZ r k (AS.s_tk a g)) → va_S A s.heap H locs → ∀ ls : Array Slot, lv_has ls 5 [(0, .ref (q 15)), (2, .int (nI i))] → W p l e ({ frames := 1, cells := 0, slots := 0, locals := 24 } : Room) s m ([.ref (q 15), .int (nI goal)] : List Value).toArray below meth c H locs 0 0 (MQ below (va_Qv (fun (u : RS × CS × AS) => u = (r, k, a.s_tk (mtF goal a.tk))) (fun (u : RS × CS × AS) => cB (dC, dI) vwCl [(cI, .int), (cZ, .boolean)] (wY q cI cZ u.1 u.2.1 u.2.2) (A)) (A)) ([.ref (q 15), .int (nI goal)] : List Value).toArray s 0 0 A) (F0 m 33 ls []) := by
          intro fuel
          induction fuel with
          | zero => intro i g i1 e1 hm H locs hP hD hS ls hl; exact absurd hm (Nat.not_lt_zero _)
          | succ fuel ih33 =>
            intro i g i1 e1 hm H locs hP hD hS ls hl
            refine lv_iload_n hx hb dX0_measureTicks_33 rfl (lv_at hl 1 rfl) ?_
            refine lv_bipush (v := nI 16) hx hb dX0_measureTicks_34 (by decide) ?_
            refine xn_cge (tgt := 109) hx hb (by omega) (by omega) dX0_measureTicks_36 (by decide) (fun c_2 => ?_) (fun c_2 => ?_)
            · exact xr_v hx hb hr hlk (u := (r, k, AS.s_tk a g)) (by rw [e1, show i = 16 by omega]; rfl) hP hK hD hS dX0_measureTicks_109
            · refine lv_iconst (v := nI 0) hx hb dX0_measureTicks_39 (by decide) ?_
              refine lv_istore_n (lv' := [(3, .int (nI 0)), (0, .ref (q 15)), (2, .int (nI i))]) hx hb dX0_measureTicks_40 rfl hl (by decide) rfl (fun ls hl => ?_)
              have L41 : ∀ (fuel : Nat) (j : Nat) (g : Nat → Nat), (j ≤ 16) → (g = mtI (mtO (cpN (tk0 goal) a.tk 16) i) j) → 16 - j < fuel → ∀ (H : Heap) (locs : List Loc), va_P (dC, dI) vwCl (wY q cI cZ r k (AS.s_tk a g)) H → va_D A (wY q cI cZ r k (AS.s_tk a g)) → va_S A s.heap H locs → ∀ ls : Array Slot, lv_has ls 5 [(0, .ref (q 15)), (2, .int (nI i)), (3, .int (nI j))] → W p l e ({ frames := 1, cells := 0, slots := 0, locals := 24 } : Room) s m ([.ref (q 15), .int (nI goal)] : List Value).toArray below meth c H locs 0 0 (MQ below (va_Qv (fun (u : RS × CS × AS) => u = (r, k, a.s_tk (mtF goal a.tk))) (fun (u : RS × CS × AS) => cB (dC, dI) vwCl [(cI, .int), (cZ, .boolean)] (wY q cI cZ u.1 u.2.1 u.2.2) (A)) (A)) ([.ref (q 15), .int (nI goal)] : List Value).toArray s 0 0 A) (F0 m 41 ls []) := by
                intro fuel
                induction fuel with
                | zero => intro j g j1 e2 hm H locs hP hD hS ls hl; exact absurd hm (Nat.not_lt_zero _)
                | succ fuel ih41 =>
                  intro j g j1 e2 hm H locs hP hD hS ls hl
                  refine lv_iload_n hx hb dX0_measureTicks_41 rfl (lv_at hl 2 rfl) ?_
                  refine lv_bipush (v := nI 16) hx hb dX0_measureTicks_42 (by decide) ?_
                  refine xn_cge (tgt := 103) hx hb (by omega) (by omega) dX0_measureTicks_44 (by decide) (fun c_3 => ?_) (fun c_3 => ?_)
                  · refine lv_iinc (v := nI (i + 1)) (lv' := [(2, .int (nI (i + 1))), (0, .ref (q 15)), (3, .int (nI j))]) hx hb dX0_measureTicks_103 hl (k := 1) rfl (nI_1 _) (by decide) rfl (fun ls hl => ?_)
                    refine lv_goto (tgt := 33) hx hb dX0_measureTicks_106 (by decide) ?_
                    exact ih33 (i + 1) g (by omega) (by rw [e2, show j = 16 by omega]; rfl) (by omega) H locs hP hD hS ls (lv_sub hl [1, 0] rfl)
                  · have g1 := NX_lt (2 * j)
                    have g2 := NX_lt (2 * j + 1)
                    have b_g : ∀ z, g z ≤ 16 := fun z => by rw [e2]; exact mtI_le (mtO_le (cpN_le (tk0_le goal) a_tk 16) i) j z
                    have g3 := b_g (NX (2 * j))
                    have g4 := b_g (NX (2 * j + 1))
                    have g5 := b_g j
                    refine lv_aload_n hx hb dX0_measureTicks_47 rfl (lv_at hl 0 rfl) ?_
                    refine va_get (D := (dC, dI)) (ci := 0) (v := .ref (q 16)) (C := RX0) (T := TX0) (N := 9) hx hb hts inX0 hown hK hP 15 rfl rfl 8 (by decide) (hts _ tw_111) (fun _ h9 => h9) rfl dX0_measureTicks_48 ?_
                    refine va_gets hx hb hE.1 hS hown (hts _ tw_517) (fun _ h9 => h9) dX0_measureTicks_51 ?_
                    refine lv_iconst (v := nI 2) hx hb dX0_measureTicks_54 (by decide) ?_
                    refine lv_iload_n hx hb dX0_measureTicks_55 rfl (lv_at hl 2 rfl) ?_
                    refine xn_mul hx hb dX0_measureTicks_56 ?_
                    refine va_ti hx hb hE.2 hS (vp_in_nI (show (2 * j) < 32 by omega) (by decide)) (v := .int (nI (NX (2 * j)))) (by show Value.int (nI (NX (nI (2 * j)).toNatClampNeg)) = _; rw [nI_clamp (by omega)]) dX0_measureTicks_57 ?_
                    refine xa_ild hx hb hK hP 16 0 rfl rfl (v := nI (g (NX (2 * j)))) (by omega) (by decide) rfl dX0_measureTicks_58 ?_
                    refine lv_aload_n hx hb dX0_measureTicks_59 rfl (lv_at hl 0 rfl) ?_
                    refine va_get (D := (dC, dI)) (ci := 0) (v := .ref (q 16)) (C := RX0) (T := TX0) (N := 9) hx hb hts inX0 hown hK hP 15 rfl rfl 8 (by decide) (hts _ tw_111) (fun _ h9 => h9) rfl dX0_measureTicks_60 ?_
                    refine va_gets hx hb hE.1 hS hown (hts _ tw_517) (fun _ h9 => h9) dX0_measureTicks_63 ?_
                    refine lv_iconst (v := nI 2) hx hb dX0_measureTicks_66 (by decide) ?_
                    refine lv_iload_n hx hb dX0_measureTicks_67 rfl (lv_at hl 2 rfl) ?_
                    refine xn_mul hx hb dX0_measureTicks_68 ?_
                    refine lv_iconst (v := nI 1) hx hb dX0_measureTicks_69 (by decide) ?_
                    refine xn_add hx hb dX0_measureTicks_70 ?_
                    refine va_ti hx hb hE.2 hS (vp_in_nI (show ((2 * j) + 1) < 32 by omega) (by decide)) (v := .int (nI (NX ((2 * j) + 1)))) (by show Value.int (nI (NX (nI ((2 * j) + 1)).toNatClampNeg)) = _; rw [nI_clamp (by omega)]) dX0_measureTicks_71 ?_
                    refine xa_ild hx hb hK hP 16 0 rfl rfl (v := nI (g (NX ((2 * j) + 1)))) (by omega) (by decide) rfl dX0_measureTicks_72 ?_
                    refine va_mmin hx hb (hml.trans hl.1.symm) hown (hts _ tw_535) (hts _ tw_536) (hts _ tw_12) (hts _ tw_537) (Nat.le_of_ble_eq_true rfl) (Nat.le_of_ble_eq_true rfl) (Nat.zero_le _) (Nat.zero_le _) dX0_measureTicks_73 ?_
                    refine xt_i (min_nI (x := g (NX (2 * j))) (y := g (NX ((2 * j) + 1))) (by omega) (by omega)) ?_
                    refine lv_istore (lv' := [(4, .int (nI (min (g (NX (2 * j))) (g (NX ((2 * j) + 1)))))), (0, .ref (q 15)), (2, .int (nI i)), (3, .int (nI j))]) hx hb dX0_measureTicks_76 hl (by decide) rfl (fun ls hl => ?_)
                    refine lv_aload_n hx hb dX0_measureTicks_78 rfl (lv_at hl 1 rfl) ?_
                    refine va_get (D := (dC, dI)) (ci := 0) (v := .ref (q 16)) (C := RX0) (T := TX0) (N := 9) hx hb hts inX0 hown hK hP 15 rfl rfl 8 (by decide) (hts _ tw_111) (fun _ h9 => h9) rfl dX0_measureTicks_79 ?_
                    refine lv_iload_n hx hb dX0_measureTicks_82 rfl (lv_at hl 3 rfl) ?_
                    refine lv_aload_n hx hb dX0_measureTicks_83 rfl (lv_at hl 1 rfl) ?_
                    refine va_get (D := (dC, dI)) (ci := 0) (v := .ref (q 16)) (C := RX0) (T := TX0) (N := 9) hx hb hts inX0 hown hK hP 15 rfl rfl 8 (by decide) (hts _ tw_111) (fun _ h9 => h9) rfl dX0_measureTicks_84 ?_
                    refine lv_iload_n hx hb dX0_measureTicks_87 rfl (lv_at hl 3 rfl) ?_
                    refine xa_ild hx hb hK hP 16 0 rfl rfl (v := nI (g j)) (by omega) (by decide) rfl dX0_measureTicks_88 ?_
                    refine lv_iload hx hb dX0_measureTicks_89 (lv_at hl 0 rfl) ?_
                    refine lv_iconst (v := nI 1) hx hb dX0_measureTicks_91 (by decide) ?_
                    refine xn_add hx hb dX0_measureTicks_92 ?_
                    refine va_mmin hx hb (hml.trans hl.1.symm) hown (hts _ tw_535) (hts _ tw_536) (hts _ tw_12) (hts _ tw_537) (Nat.le_of_ble_eq_true rfl) (Nat.le_of_ble_eq_true rfl) (Nat.zero_le _) (Nat.zero_le _) dX0_measureTicks_93 ?_
                    refine xt_i (min_nI (x := g j) (y := (min (g (NX (2 * j))) (g (NX ((2 * j) + 1)))) + 1) (by omega) (by omega)) ?_
                    refine xa_ist hx hb hK hP hD hS 16 0 rfl rfl (by omega) (by decide) (aN_up _ _ _) dX0_measureTicks_96 (fun H locs hP hD hS => ?_)
                    have hP : va_P (dC, dI) vwCl (wY q cI cZ r k (AS.s_tk (AS.s_tk a g) (va_up g j (min (g j) ((min (g (NX (2 * j))) (g (NX ((2 * j) + 1)))) + 1))))) H := hP
                    have hD : va_D A (wY q cI cZ r k (AS.s_tk (AS.s_tk a g) (va_up g j (min (g j) ((min (g (NX (2 * j))) (g (NX ((2 * j) + 1)))) + 1))))) := hD
                    refine lv_iinc (v := nI (j + 1)) (lv' := [(3, .int (nI (j + 1))), (4, .int (nI (min (g (NX (2 * j))) (g (NX ((2 * j) + 1)))))), (0, .ref (q 15)), (2, .int (nI i))]) hx hb dX0_measureTicks_97 hl (k := 3) rfl (nI_1 _) (by decide) rfl (fun ls hl => ?_)
                    refine lv_goto (tgt := 41) hx hb dX0_measureTicks_100 (by decide) ?_
                    exact ih41 (j + 1) (va_up g j (min (g j) ((min (g (NX (2 * j))) (g (NX ((2 * j) + 1)))) + 1))) (by omega) (by rw [show mtI (mtO (cpN (tk0 goal) a.tk 16) i) (j + 1) = mtS (mtI (mtO (cpN (tk0 goal) a.tk 16) i) j) j from rfl, ← e2]; rfl) (by omega) H locs hP hD hS ls (lv_sub hl [2, 3, 0] rfl)
              exact L41 ((16 - 0) + 1) 0 g (Nat.zero_le _) e1 (Nat.lt_succ_self _) H locs hP hD hS ls (lv_sub hl [1, 2, 0] rfl)
        exact L33 ((16 - 0) + 1) 0 g (Nat.zero_le _) (by rw [e1, show i = 16 by omega]; rfl) (Nat.lt_succ_self _) H locs hP hD hS ls (lv_sub hl [1, 0] rfl)
      · refine lv_aload_n hx hb dX0_measureTicks_8 rfl (lv_at hl 0 rfl) ?_
        refine va_get (D := (dC, dI)) (ci := 0) (v := .ref (q 16)) (C := RX0) (T := TX0) (N := 9) hx hb hts inX0 hown hK hP 15 rfl rfl 8 (by decide) (hts _ tw_111) (fun _ h9 => h9) rfl dX0_measureTicks_9 ?_
        refine lv_iload_n hx hb dX0_measureTicks_12 rfl (lv_at hl 2 rfl) ?_
        refine lv_iload_n hx hb dX0_measureTicks_13 rfl (lv_at hl 2 rfl) ?_
        refine lv_iload_n hx hb dX0_measureTicks_14 rfl (lv_at hl 1 rfl) ?_
        refine xn_cne (tgt := 22) hx hb (by omega) (by omega) dX0_measureTicks_15 (by decide) (fun c_4 => ?_) (fun c_4 => ?_)
        · refine lv_bipush (v := nI 16) hx hb dX0_measureTicks_22 (by decide) ?_
          refine xa_ist hx hb hK hP hD hS 16 0 rfl rfl (by omega) (by decide) (aN_up _ _ _) dX0_measureTicks_24 (fun H locs hP hD hS => ?_)
          have hP : va_P (dC, dI) vwCl (wY q cI cZ r k (AS.s_tk (AS.s_tk a g) (va_up g i 16))) H := hP
          have hD : va_D A (wY q cI cZ r k (AS.s_tk (AS.s_tk a g) (va_up g i 16))) := hD
          refine lv_iinc (v := nI (i + 1)) (lv' := [(2, .int (nI (i + 1))), (0, .ref (q 15)), (1, .int (nI goal))]) hx hb dX0_measureTicks_25 hl (k := 2) rfl (nI_1 _) (by decide) rfl (fun ls hl => ?_)
          refine lv_goto (tgt := 2) hx hb dX0_measureTicks_28 (by decide) ?_
          exact ih2 (i + 1) (va_up g i 16) (by omega) (by rw [e1, ← cpN_s]; unfold tk0; rw [if_neg (by assumption)]) (by omega) H locs hP hD hS ls (lv_sub hl [1, 2, 0] rfl)
        · refine lv_iconst (v := nI 0) hx hb dX0_measureTicks_18 (by decide) ?_
          refine lv_goto (tgt := 24) hx hb dX0_measureTicks_19 (by decide) ?_
          refine xa_ist hx hb hK hP hD hS 16 0 rfl rfl (by omega) (by decide) (aN_up _ _ _) dX0_measureTicks_24 (fun H locs hP hD hS => ?_)
          have hP : va_P (dC, dI) vwCl (wY q cI cZ r k (AS.s_tk (AS.s_tk a g) (va_up g i 0))) H := hP
          have hD : va_D A (wY q cI cZ r k (AS.s_tk (AS.s_tk a g) (va_up g i 0))) := hD
          refine lv_iinc (v := nI (i + 1)) (lv' := [(2, .int (nI (i + 1))), (0, .ref (q 15)), (1, .int (nI goal))]) hx hb dX0_measureTicks_25 hl (k := 2) rfl (nI_1 _) (by decide) rfl (fun ls hl => ?_)
          refine lv_goto (tgt := 2) hx hb dX0_measureTicks_28 (by decide) ?_
          exact ih2 (i + 1) (va_up g i 0) (by omega) (by rw [e1, ← cpN_s]; unfold tk0; rw [if_pos (by assumption)]) (by omega) H locs hP hD hS ls (lv_sub hl [1, 2, 0] rfl)
  exact L2 ((16 - 0) + 1) 0 (AS.tk a) (Nat.zero_le _) ((cpN_0 _ _).symm) (Nat.lt_succ_self _) H locs hP hD hS ls (lv_sub hl [1, 2, 0] rfl)
set_option maxHeartbeats 4000000 in
set_option maxRecDepth 100000 in
theorem c_Access_stepUntil (l : Launch) (dC : Nat → ClassId) (dI : Nat → Nat → Nat) (q : Nat → Nat) (cI cZ : ClassId) (sz : Nat) (r : RS) (k : CS) (a : AS) (tN goal : Nat) (hY : YB (r, k, a)) (hg : goal < 16) : Met l yX0_stepUntil (.code yX0_stepUntil cX0_stepUntil 4 (some .int) :: ALLG) ({ frames := 5, cells := 0, slots := 0, locals := 113 }) (va_Pc [.ref (q 15), .int (nI goal)] (cP (dC, dI) vwCl [(cI, .int), (cZ, .boolean)] (wY q cI cZ r k a) (eN tN (va_A (wY q cI cZ r k a) sz)) sz)) (va_Qi (fun (x : Int32) (u : RS × CS × AS) => x = nI (mtF goal a.tk a.st) ∧ u = goIt (r, k, a.s_tk (mtF goal a.tk)) (mtF goal a.tk a.st)) (fun (u : RS × CS × AS) => cB (dC, dI) vwCl [(cI, .int), (cZ, .boolean)] (wY q cI cZ u.1 u.2.1 u.2.2) (va_A (wY q cI cZ r k a) sz)) (va_A (wY q cI cZ r k a) sz)) 0 0 (va_A (wY q cI cZ r k a) sz) := by
  refine xm_of (cc := cX0_stepUntil) (maxL := 4) (ret := some .int) (by decide) rfl (Nat.le_of_ble_eq_true rfl) ?_
  intro p e s m below meth c A hAe hx hb hr hml hts0 hown hlk hin hsz H locs hP hK hD hA hS hE ls hl
  have hts : ∀ w ∈ ALLG, w.before _ s = true := fun w h => hts0 w (List.mem_cons_of_mem _ h)
  rw [← hAe]
  rw [← hAe] at hE
  have hA0 : AB a := hY.2.2
  obtain ⟨a_st, a_co, a_cr, a_by, a_tk⟩ := id hA0
  have g1 := mtF_le goal a_tk a.st
  have hY1 := YB_mt goal hY
  have hl : lv_has ls 4 [(0, .ref (q 15)), (1, .int (nI goal))] := hl
  refine lv_aload_n hx hb dX0_stepUntil_0 rfl (lv_at hl 0 rfl) ?_
  refine lv_iload_n hx hb dX0_stepUntil_1 rfl (lv_at hl 1 rfl) ?_
  refine xc_Vv (As := [.int (nI goal)]) (wr := []) ⟨hx, hb, hml, hown, hts⟩ (c_Access_measureTicks l dC dI q cI cZ H.size r k a tN goal hA0 hg) (cwV 1 hts (gV tw_531 tw_533 sw_23 tw_4 tw_534) rfl rfl rfl (by decide +kernel) ⟨Nat.le_of_ble_eq_true rfl, Nat.le_of_ble_eq_true rfl⟩) rfl hl.1 rfl (Nat.le_of_ble_eq_true rfl) dX0_stepUntil_2 ⟨Nat.zero_le _, Nat.zero_le _⟩ hP hD hK hS hA [0, 1, 2, 3, 4, 5, 6, 7, 8, 9, 10, 11, 12, 13, 14, 15, 16] [] rfl rfl (by decide) (by decide) (by decide) [0, 1] rfl (q0 := 15) rfl rfl rfl (eN_M _ _) (eN_kn hE hS (va_free (wc := wY q cI cZ r k a) hD hS hA [0, 1, 2, 3, 4, 5, 6, 7, 8, 9, 10, 11, 12, 13, 14, 15, 16] rfl)) (fun u_2 H locs w_3 hP hD hS => ?_)
  obtain rfl := w_3
  have hP : va_P (dC, dI) vwCl (wY q cI cZ r k (AS.s_tk a (mtF goal a.tk))) H := hP
  have hD : va_D A (wY q cI cZ r k (AS.s_tk a (mtF goal a.tk))) := hD
  refine lv_aload_n hx hb dX0_stepUntil_5 rfl (lv_at hl 0 rfl) ?_
  refine va_get (D := (dC, dI)) (ci := 0) (v := .ref (q 16)) (C := RX0) (T := TX0) (N := 9) hx hb hts inX0 hown hK hP 15 rfl rfl 8 (by decide) (hts _ tw_111) (fun _ h9 => h9) rfl dX0_stepUntil_6 ?_
  refine lv_aload_n hx hb dX0_stepUntil_9 rfl (lv_at hl 0 rfl) ?_
  refine va_get (D := (dC, dI)) (ci := 0) (v := .int (nI (AS.st a))) (C := RX0) (T := TX0) (N := 9) hx hb hts inX0 hown hK hP 15 rfl rfl 0 (by decide) (hts _ tw_101) (fun _ h9 => h9) rfl dX0_stepUntil_10 ?_
  refine xa_ild hx hb hK hP 16 0 rfl rfl (v := nI ((mtF goal a.tk) (AS.st a))) (by omega) (by decide) rfl dX0_stepUntil_13 ?_
  refine lv_istore_n (lv' := [(2, .int (nI ((mtF goal a.tk) (AS.st a)))), (0, .ref (q 15)), (1, .int (nI goal))]) hx hb dX0_stepUntil_14 rfl hl (by decide) rfl (fun ls hl => ?_)
  refine lv_iconst (v := nI 0) hx hb dX0_stepUntil_15 (by decide) ?_
  refine lv_istore_n (lv' := [(3, .int (nI 0)), (2, .int (nI ((mtF goal a.tk) (AS.st a)))), (0, .ref (q 15)), (1, .int (nI goal))]) hx hb dX0_stepUntil_16 rfl hl (by decide) rfl (fun ls hl => ?_)
  have L17 : ∀ (fuel : Nat) (i : Nat), (i ≤ mtF goal a.tk a.st) → mtF goal a.tk a.st - i < fuel → ∀ (H : Heap) (locs : List Loc), va_P (dC, dI) vwCl (wY q cI cZ ((goIt (r, k, a.s_tk (mtF goal a.tk)) i).1) ((goIt (r, k, a.s_tk (mtF goal a.tk)) i).2.1) ((goIt (r, k, a.s_tk (mtF goal a.tk)) i).2.2)) H → va_D A (wY q cI cZ ((goIt (r, k, a.s_tk (mtF goal a.tk)) i).1) ((goIt (r, k, a.s_tk (mtF goal a.tk)) i).2.1) ((goIt (r, k, a.s_tk (mtF goal a.tk)) i).2.2)) → va_S A s.heap H locs → ∀ ls : Array Slot, lv_has ls 4 [(0, .ref (q 15)), (2, .int (nI (mtF goal a.tk a.st))), (3, .int (nI i))] → W p l e ({ frames := 5, cells := 0, slots := 0, locals := 113 } : Room) s m ([.ref (q 15), .int (nI goal)] : List Value).toArray below meth c H locs 0 0 (MQ below (va_Qi (fun (x : Int32) (u : RS × CS × AS) => x = nI (mtF goal a.tk a.st) ∧ u = goIt (r, k, a.s_tk (mtF goal a.tk)) (mtF goal a.tk a.st)) (fun (u : RS × CS × AS) => cB (dC, dI) vwCl [(cI, .int), (cZ, .boolean)] (wY q cI cZ u.1 u.2.1 u.2.2) (A)) (A)) ([.ref (q 15), .int (nI goal)] : List Value).toArray s 0 0 A) (F0 m 17 ls []) := by
    intro fuel
    induction fuel with
    | zero => intro i i1 hm H locs hP hD hS ls hl; exact absurd hm (Nat.not_lt_zero _)
    | succ fuel ih17 =>
      intro i i1 hm H locs hP hD hS ls hl
      have hyi := goIt_YB hY1 i
      refine lv_iload_n hx hb dX0_stepUntil_17 rfl (lv_at hl 2 rfl) ?_
      refine lv_iload_n hx hb dX0_stepUntil_18 rfl (lv_at hl 1 rfl) ?_
      refine xn_cge (tgt := 38) hx hb (by omega) (by omega) dX0_stepUntil_19 (by decide) (fun c_4 => ?_) (fun c_4 => ?_)
      · refine lv_iload_n hx hb dX0_stepUntil_38 rfl (lv_at hl 1 rfl) ?_
        exact xr_i hx hb hr hlk (u := ((goIt (r, k, a.s_tk (mtF goal a.tk)) i).1, (goIt (r, k, a.s_tk (mtF goal a.tk)) i).2.1, (goIt (r, k, a.s_tk (mtF goal a.tk)) i).2.2)) (⟨rfl, by rw [show mtF goal a.tk a.st = i by omega]⟩) hP hK hD hS dX0_stepUntil_39
      · refine lv_aload_n hx hb dX0_stepUntil_22 rfl (lv_at hl 0 rfl) ?_
        refine lv_aload_n hx hb dX0_stepUntil_23 rfl (lv_at hl 0 rfl) ?_
        refine xc_Vi (As := []) (wr := []) ⟨hx, hb, hml, hown, hts⟩ (c_Access_shortestMode l dC dI q cI cZ H.size ((goIt (r, k, a.s_tk (mtF goal a.tk)) i).1) ((goIt (r, k, a.s_tk (mtF goal a.tk)) i).2.1) ((goIt (r, k, a.s_tk (mtF goal a.tk)) i).2.2) tN hyi.2.2) (cwV 0 hts (gV tw_538 tw_540 sw_24 tw_4 tw_541) rfl rfl rfl (by decide +kernel) ⟨Nat.le_of_ble_eq_true rfl, Nat.le_of_ble_eq_true rfl⟩) rfl hl.1 rfl (Nat.le_of_ble_eq_true rfl) dX0_stepUntil_24 ⟨Nat.zero_le _, Nat.zero_le _⟩ hP hD hK hS hA [0, 1, 2, 3, 4, 5, 6, 7, 8, 9, 10, 11, 12, 13, 14, 15, 16] [] rfl rfl (by decide) (by decide) (by decide) [0, 1] rfl (q0 := 15) rfl rfl rfl (eN_M _ _) (eN_kn hE hS (va_free (wc := wY q cI cZ ((goIt (r, k, a.s_tk (mtF goal a.tk)) i).1) ((goIt (r, k, a.s_tk (mtF goal a.tk)) i).2.1) ((goIt (r, k, a.s_tk (mtF goal a.tk)) i).2.2)) hD hS hA [0, 1, 2, 3, 4, 5, 6, 7, 8, 9, 10, 11, 12, 13, 14, 15, 16] rfl)) (fun r_5 u_6 H locs w_7 hP hD hS => ?_)
        obtain rfl := w_7
        have hP : va_P (dC, dI) vwCl (wY q cI cZ ((goIt (r, k, a.s_tk (mtF goal a.tk)) i).1) ((goIt (r, k, a.s_tk (mtF goal a.tk)) i).2.1) ((goIt (r, k, a.s_tk (mtF goal a.tk)) i).2.2)) H := hP
        have hD : va_D A (wY q cI cZ ((goIt (r, k, a.s_tk (mtF goal a.tk)) i).1) ((goIt (r, k, a.s_tk (mtF goal a.tk)) i).2.1) ((goIt (r, k, a.s_tk (mtF goal a.tk)) i).2.2)) := hD
        refine lv_iconst (v := nI 0) hx hb dX0_stepUntil_27 (by decide) ?_
        refine xc_Vi (As := [.int (nI (smode ((goIt (r, k, a.s_tk (mtF goal a.tk)) i).2.2))), .int (nI 0)]) (wr := []) ⟨hx, hb, hml, hown, hts⟩ (c_Access_step l dC dI q cI cZ H.size ((goIt (r, k, a.s_tk (mtF goal a.tk)) i).1) ((goIt (r, k, a.s_tk (mtF goal a.tk)) i).2.1) ((goIt (r, k, a.s_tk (mtF goal a.tk)) i).2.2) tN (smode ((goIt (r, k, a.s_tk (mtF goal a.tk)) i).2.2)) 0 hyi (smode_lt _) (by decide)) (cwV 2 hts (gV tw_542 tw_466 tw_467 tw_4 tw_468) rfl rfl rfl (by decide +kernel) ⟨Nat.le_of_ble_eq_true rfl, Nat.le_of_ble_eq_true rfl⟩) rfl hl.1 rfl (Nat.le_of_ble_eq_true rfl) dX0_stepUntil_28 ⟨Nat.zero_le _, Nat.zero_le _⟩ hP hD hK hS hA [0, 1, 2, 3, 4, 5, 6, 7, 8, 9, 10, 11, 12, 13, 14, 15, 16] [] rfl rfl (by decide) (by decide) (by decide) [0, 1] rfl (q0 := 15) rfl rfl rfl (eN_M _ _) (eN_kn hE hS (va_free (wc := wY q cI cZ ((goIt (r, k, a.s_tk (mtF goal a.tk)) i).1) ((goIt (r, k, a.s_tk (mtF goal a.tk)) i).2.1) ((goIt (r, k, a.s_tk (mtF goal a.tk)) i).2.2)) hD hS hA [0, 1, 2, 3, 4, 5, 6, 7, 8, 9, 10, 11, 12, 13, 14, 15, 16] rfl)) (fun r_8 u_9 H locs w_10 hP hD hS => ?_)
        obtain ⟨rfl, rfl⟩ := w_10
        have hP : va_P (dC, dI) vwCl (wY q cI cZ (((stepF ((goIt (r, k, a.s_tk (mtF goal a.tk)) i).1) ((goIt (r, k, a.s_tk (mtF goal a.tk)) i).2.1) ((goIt (r, k, a.s_tk (mtF goal a.tk)) i).2.2) (smode ((goIt (r, k, a.s_tk (mtF goal a.tk)) i).2.2)) 0).2).1) (((stepF ((goIt (r, k, a.s_tk (mtF goal a.tk)) i).1) ((goIt (r, k, a.s_tk (mtF goal a.tk)) i).2.1) ((goIt (r, k, a.s_tk (mtF goal a.tk)) i).2.2) (smode ((goIt (r, k, a.s_tk (mtF goal a.tk)) i).2.2)) 0).2).2.1) (((stepF ((goIt (r, k, a.s_tk (mtF goal a.tk)) i).1) ((goIt (r, k, a.s_tk (mtF goal a.tk)) i).2.1) ((goIt (r, k, a.s_tk (mtF goal a.tk)) i).2.2) (smode ((goIt (r, k, a.s_tk (mtF goal a.tk)) i).2.2)) 0).2).2.2)) H := hP
        have hD : va_D A (wY q cI cZ (((stepF ((goIt (r, k, a.s_tk (mtF goal a.tk)) i).1) ((goIt (r, k, a.s_tk (mtF goal a.tk)) i).2.1) ((goIt (r, k, a.s_tk (mtF goal a.tk)) i).2.2) (smode ((goIt (r, k, a.s_tk (mtF goal a.tk)) i).2.2)) 0).2).1) (((stepF ((goIt (r, k, a.s_tk (mtF goal a.tk)) i).1) ((goIt (r, k, a.s_tk (mtF goal a.tk)) i).2.1) ((goIt (r, k, a.s_tk (mtF goal a.tk)) i).2.2) (smode ((goIt (r, k, a.s_tk (mtF goal a.tk)) i).2.2)) 0).2).2.1) (((stepF ((goIt (r, k, a.s_tk (mtF goal a.tk)) i).1) ((goIt (r, k, a.s_tk (mtF goal a.tk)) i).2.1) ((goIt (r, k, a.s_tk (mtF goal a.tk)) i).2.2) (smode ((goIt (r, k, a.s_tk (mtF goal a.tk)) i).2.2)) 0).2).2.2)) := hD
        refine lv_pop hx hb dX0_stepUntil_31 rfl ?_
        refine lv_iinc (v := nI (i + 1)) (lv' := [(3, .int (nI (i + 1))), (0, .ref (q 15)), (2, .int (nI (mtF goal a.tk a.st)))]) hx hb dX0_stepUntil_32 hl (k := 2) rfl (nI_1 _) (by decide) rfl (fun ls hl => ?_)
        refine lv_goto (tgt := 17) hx hb dX0_stepUntil_35 (by decide) ?_
        exact ih17 (i + 1) (by omega) (by omega) H locs hP hD hS ls (lv_sub hl [1, 2, 0] rfl)
  exact L17 ((mtF goal a.tk a.st - 0) + 1) 0 (by omega) (Nat.lt_succ_self _) H locs hP hD hS ls (lv_sub hl [2, 1, 0] rfl)
end
section
/-! exchanges, rules, chains: what the rows' methods do -/
theorem wb_le {r : RS} (hB : RB r) (k : Nat) : wb r k ≤ 4000 := by
  obtain ⟨b_n, b_c, b_p, b_vb, b_ck, b_xx, b_yy, b_fl, b_po, b_rw, b_ch, b_st⟩ := hB
  unfold wb; split
  · have g2 := b_xx (r.rw k)
    have g3 := b_xx (r.rw (k + 1))
    have g4 := b_yy (r.rw k)
    have g5 := b_yy (r.rw (k + 1))
    omega
  · omega
theorem wa_le {r : RS} (hB : RB r) (k : Nat) : wa r k ≤ 8000 := by
  have h1 := wb_le hB k
  have h2 := wb_le hB (k - 1)
  unfold wa; split <;> omega
theorem sumN_le {f : Nat → Nat} {m : Nat} (h : ∀ k, f k ≤ m) (n : Nat) : sumN f n ≤ n * m := by
  induction n with
  | zero => simp [sumN]
  | succ n ih => have := h n; simp only [sumN, Nat.add_mul]; omega
theorem up_lti {g : Nat → Int} {lo hi : Int} (h : ∀ k, lo ≤ g k ∧ g k < hi) {v : Int} (hv : lo ≤ v ∧ v < hi) (i : Nat) : ∀ k, lo ≤ va_up g i v k ∧ va_up g i v k < hi := by
  intro k; unfold va_up; split
  · exact hv
  · exact h k
theorem RB_exch {r : RS} (hB : RB r) {i j : Nat} (hi : i < 32) (hj : j < 32) : RB (exch r i j) := by
  obtain ⟨b_n, b_c, b_p, b_vb, b_ck, b_xx, b_yy, b_fl, b_po, b_rw, b_ch, b_st⟩ := hB
  refine ⟨b_n, b_c, b_p, b_vb, b_ck, b_xx, b_yy, b_fl, ?_, ?_, b_ch, b_st⟩
  · exact up_lti (up_lti b_po ⟨by omega, by omega⟩ _) ⟨by omega, by omega⟩ _
  · exact up_lt (up_lt b_rw (b_rw _) _) (b_rw _) _
/-- where a latch stands, it stands -/
def RC (r : RS) : Prop := ∀ t, t < r.n → r.po t ≠ -1 → r.rw (r.po t).toNat = t ∧ (r.po t).toNat < r.p
theorem va_up2 {α : Type} (f : Nat → α) (k : Nat) (v : α) (h : f k = v) : va_up f k v = f := by
  funext j; unfold va_up; split
  · rename_i e; rw [e, h]
  · rfl
theorem exch_rw (r : RS) (i j : Nat) : (exch r i j).rw = va_up (va_up r.rw i (r.rw j)) j (r.rw i) := rfl
theorem exch_at1 (r : RS) (i j : Nat) : (exch r i j).rw i = r.rw j := by
  rw [exch_rw]; unfold va_up; by_cases h : i = j <;> simp [h]
theorem exch_at2 (r : RS) (i j : Nat) : (exch r i j).rw j = r.rw i := by
  rw [exch_rw]; unfold va_up; simp
theorem exch_at3 (r : RS) {i j k : Nat} (h1 : k ≠ i) (h2 : k ≠ j) : (exch r i j).rw k = r.rw k := by
  rw [exch_rw]; unfold va_up; simp [h1, h2]
theorem exch2 {r : RS} {i j : Nat} (hi : r.po (r.rw i) = (i : Int)) (hj : r.po (r.rw j) = (j : Int)) : exch (exch r i j) i j = r := by
  have e1 : va_up (va_up (exch r i j).rw i ((exch r i j).rw j)) j ((exch r i j).rw i) = r.rw := by
    funext k; unfold va_up
    by_cases h2 : k = j
    · rw [if_pos h2, exch_at1, h2]
    · rw [if_neg h2]
      by_cases h1 : k = i
      · rw [if_pos h1, exch_at2, h1]
      · rw [if_neg h1, exch_at3 r h1 h2]
  have e2 : va_up (va_up (exch r i j).po (r.rw i) (i : Int)) (r.rw j) (j : Int) = r.po := by
    have e0 : (exch r i j).po = va_up (va_up r.po ((exch r i j).rw i) (i : Int)) ((exch r i j).rw j) (j : Int) := rfl
    rw [e0, exch_at1, exch_at2]
    funext k; unfold va_up
    by_cases h2 : k = r.rw j
    · rw [if_pos h2, h2, hj]
    · rw [if_neg h2]
      by_cases h1 : k = r.rw i
      · rw [if_pos h1, h1, hi]
      · rw [if_neg h1, if_neg h1, if_neg h2]
  unfold exch at e1 e2 ⊢
  dsimp only at e1 e2 ⊢
  rw [e1, e2]
def eis (r : RS) (i j : Nat) : Nat × RS := if wa (exch r i j) i + wa (exch r i j) j < wa r i + wa r j then (1, exch r i j) else (0, exch (exch r i j) i j)
def pl (r : RS) (t : Nat) : Nat := (r.po t).toNat
def good (r : RS) (a b : Nat) : Prop := mayN r a b = 1 ∧ wa (exch r (pl r a) (pl r b)) (pl r a) + wa (exch r (pl r a) (pl r b)) (pl r b) < wa r (pl r a) + wa r (pl r b)
def pairMin (r : RS) (a b : Nat) : Prop := a < b ∧ b < r.n ∧ good r a b ∧ ∀ a' b', a' < b' → b' < r.n → (a' < a ∨ (a' = a ∧ b' < b)) → ¬ good r a' b'
def noPair (r : RS) : Prop := ∀ a b, a < b → b < r.n → ¬ good r a b
def stepR (r u : RS) : Prop := ∃ a b, pairMin r a b ∧ u = exch r (pl r a) (pl r b)
def onceR (r : RS) (x : Int32) (u : RS) : Prop := (x = nI 1 ∧ stepR r u) ∨ (x = nI 0 ∧ u = r ∧ noPair r)
def impR : Nat → RS → Nat → RS → Prop
  | 0, r, k, u => k = 0 ∧ u = r
  | s + 1, r, k, u => (noPair r ∧ k = 0 ∧ u = r) ∨ ∃ r1 k1, stepR r r1 ∧ impR s r1 k1 u ∧ k = k1 + 1
theorem impR_no {s : Nat} {r : RS} (h : noPair r) : impR s r 0 r := by
  cases s with
  | zero => exact ⟨rfl, rfl⟩
  | succ s => exact Or.inl ⟨h, rfl, rfl⟩
theorem mayN_1 {r : RS} {a b : Nat} (h : 0 < mayN r a b) : mayN r a b = 1 ∧ r.ck a = r.ck b ∧ r.po a ≠ -1 ∧ r.po b ≠ -1 := by
  unfold mayN at h ⊢
  split at h
  · rename_i q; exact ⟨if_pos q, q⟩
  · exact absurd h (Nat.lt_irrefl 0)
theorem mayN_le (r : RS) (a b : Nat) : mayN r a b ≤ 1 := by unfold mayN; split <;> omega
theorem eis_le (r : RS) (a b : Nat) : (eis r a b).1 ≤ 1 := by unfold eis; split <;> simp
theorem pl_z {r : RS} (hB : RB r) {t : Nat} (h : r.po t ≠ -1) : r.po t = (pl r t : Int) ∧ pl r t < 32 := by
  have h1 := hB.2.2.2.2.2.2.2.2.1 t
  unfold pl; omega
theorem RC_pl {r : RS} (hB : RB r) (hC : RC r) {t : Nat} (ht : t < r.n) (h : r.po t ≠ -1) : r.po (r.rw (pl r t)) = (pl r t : Int) := by
  rw [show r.rw (pl r t) = t from (hC t ht h).1]; exact (pl_z hB h).1
theorem RC_exch {r : RS} (hB : RB r) (hC : RC r) {a b : Nat} (ha : a < r.n) (hb : b < r.n) (h1 : r.po a ≠ -1) (h2 : r.po b ≠ -1) : RC (exch r (pl r a) (pl r b)) := by
  have ea := (hC a ha h1).1
  have eb := (hC b hb h2).1
  have la := (hC a ha h1).2
  have lb := (hC b hb h2).2
  have e0 : (exch r (pl r a) (pl r b)).po = va_up (va_up r.po b (pl r a : Int)) a (pl r b : Int) := by
    have : (exch r (pl r a) (pl r b)).po = va_up (va_up r.po ((exch r (pl r a) (pl r b)).rw (pl r a)) (pl r a : Int)) ((exch r (pl r a) (pl r b)).rw (pl r b)) (pl r b : Int) := rfl
    rw [this, exch_at1, exch_at2]
    unfold pl
    rw [ea, eb]
  intro t ht hp
  rw [e0] at hp ⊢
  unfold va_up at hp ⊢
  by_cases q1 : t = a
  · rw [if_pos q1]
    refine ⟨?_, by show pl r b < r.p; exact lb⟩
    show (exch r (pl r a) (pl r b)).rw (pl r b) = t
    rw [exch_at2]; unfold pl; rw [ea, q1]
  · rw [if_neg q1] at hp ⊢
    by_cases q2 : t = b
    · rw [if_pos q2]
      refine ⟨?_, by show pl r a < r.p; exact la⟩
      show (exch r (pl r a) (pl r b)).rw (pl r a) = t
      rw [exch_at1]; unfold pl; rw [eb, q2]
    · rw [if_neg q2] at hp ⊢
      obtain ⟨e3, l3⟩ := hC t ht hp
      refine ⟨?_, l3⟩
      have n1 : (r.po t).toNat ≠ pl r a := fun z => q1 (by rw [← e3, z]; exact ea)
      have n2 : (r.po t).toNat ≠ pl r b := fun z => q2 (by rw [← e3, z]; exact eb)
      rw [exch_at3 r n1 n2]; exact e3
theorem stepR_ok {r u : RS} (hB : RB r) (hC : RC r) (h : stepR r u) : RB u ∧ RC u := by
  obtain ⟨a, b, ⟨h1, h2, h3, -⟩, rfl⟩ := h
  obtain ⟨-, -, p1, p2⟩ := mayN_1 (by rw [h3.1]; decide : 0 < mayN r a b)
  exact ⟨RB_exch hB (pl_z hB p1).2 (pl_z hB p2).2, RC_exch hB hC (by omega) h2 p1 p2⟩
/-- the k-th broken rule among the first n, B a rule's being broken -/
def rulR (B : Nat → Nat) (n k w : Nat) (x : Int32) : Prop := (∃ t, t < n ∧ B t = 1 ∧ sumN B t = k ∧ x = nI (if w = 0 then t % 2 else t / 2)) ∨ ((∀ t, t < n → ¬ (B t = 1 ∧ sumN B t = k)) ∧ x = zI (-1))
def brT (r : RS) (t : Nat) : Nat := brk r (t / 2) (t % 2)
theorem brk_le {r : RS} (hB : RB r) (i j : Nat) : brk r i j ≤ 1 := by
  have h := hB.2.2.2.2.2.2.2.1 i
  unfold brk; split
  · omega
  · split <;> omega
/-- one shift of each of the first chains -/
def sbit (bits : Int32) (i : Nat) : Nat := (bits >>> (nI i &&& 31)).toBitVec.toNat % 2
theorem sbit_and (bits : Int32) (i : Nat) : (bits >>> (nI i &&& 31)) &&& nI 1 = nI (sbit bits i) := pk_and _ 1 (by decide)
theorem sbit_lt (bits : Int32) (i : Nat) : sbit bits i < 2 := Nat.mod_lt _ (by decide)
def shC (r : RS) (bits : Int32) : Nat → Int32 × (Nat → Nat)
  | 0 => (nI 0, r.vb)
  | i + 1 => ((shC r bits i).1 ||| (nI (shO (r.s_vb (shC r bits i).2) (r.st i) (r.st (i + 1)) (sbit bits i)) <<< (nI i &&& 31)), shV (r.s_vb (shC r bits i).2) (r.st i) (r.st (i + 1)) (sbit bits i))
theorem shC_lt {r : RS} (hv : ∀ j, r.vb j < 2) (bits : Int32) (i : Nat) : ∀ j, (shC r bits i).2 j < 2 := by
  induction i with
  | zero => exact hv
  | succ i ih => exact shV_lt (r := r.s_vb (shC r bits i).2) ih (sbit_lt bits i)
def sbN (r : RS) (a b : Nat) : Nat := if r.ck a = r.ck b then (if r.xx a = r.xx b then (if r.yy a < r.yy b then 1 else 0) else (if r.xx a < r.xx b then 1 else 0)) else (if r.ck a < r.ck b then 1 else 0)
theorem sbN_le (r : RS) (a b : Nat) : sbN r a b ≤ 1 := by unfold sbN; split <;> (try split) <;> (try split) <;> omega
theorem brk_le' {r : RS} (hB : RB r) (t : Nat) : brT r t ≤ 1 := brk_le hB _ _
theorem sw_7 : Cond.selects "ScanRows$Rows" (⟨"ScanRows$Rows", "exchangeOnce", "()Z"⟩ : MethodName) (⟨"ScanRows$Rows", "exchangeOnce", "()Z"⟩ : MethodName) ∈ ALLG := al_s (i := 7) (by decide +kernel) (by decide +kernel)
theorem sw_8 : Cond.selects "ScanRows$Rows" (⟨"ScanRows$Rows", "mayExchange", "(II)Z"⟩ : MethodName) (⟨"ScanRows$Rows", "mayExchange", "(II)Z"⟩ : MethodName) ∈ ALLG := al_s (i := 8) (by decide +kernel) (by decide +kernel)
theorem sw_9 : Cond.selects "ScanRows$Rows" (⟨"ScanRows$Rows", "exchangeIfShorter", "(II)Z"⟩ : MethodName) (⟨"ScanRows$Rows", "exchangeIfShorter", "(II)Z"⟩ : MethodName) ∈ ALLG := al_s (i := 9) (by decide +kernel) (by decide +kernel)
theorem sw_10 : Cond.selects "ScanRows$Rows" (⟨"ScanRows$Rows", "wayAround", "(I)I"⟩ : MethodName) (⟨"ScanRows$Rows", "wayAround", "(I)I"⟩ : MethodName) ∈ ALLG := al_s (i := 10) (by decide +kernel) (by decide +kernel)
theorem sw_11 : Cond.selects "ScanRows$Rows" (⟨"ScanRows$Rows", "exchange", "(II)V"⟩ : MethodName) (⟨"ScanRows$Rows", "exchange", "(II)V"⟩ : MethodName) ∈ ALLG := al_s (i := 11) (by decide +kernel) (by decide +kernel)
theorem sw_12 : Cond.selects "ScanRows$Rows" (⟨"ScanRows$Rows", "breaks", "(II)Z"⟩ : MethodName) (⟨"ScanRows$Rows", "breaks", "(II)Z"⟩ : MethodName) ∈ ALLG := al_s (i := 12) (by decide +kernel) (by decide +kernel)
theorem tw_363 : (Cond.methodLink "ScanRows$Rows" (77 : Nat) ({ cls := "ScanRows$Rows", name := "exchangeOnce", desc := "()Z" } : Jvm.MethodName)) ∈ ALLG := al_t (i := 363) (by decide +kernel) (by decide +kernel)
theorem tw_365 : (Cond.instanceMethod ({ cls := "ScanRows$Rows", name := "exchangeOnce", desc := "()Z" } : Jvm.MethodName)) ∈ ALLG := al_t (i := 365) (by decide +kernel) (by decide +kernel)
theorem tw_366 : (Cond.code ({ cls := "ScanRows$Rows", name := "exchangeOnce", desc := "()Z" } : Jvm.MethodName) prog_4_method_16_code (3 : Nat) (Option.some FieldType.boolean)) ∈ ALLG := al_t (i := 366) (by decide +kernel) (by decide +kernel)
theorem tw_367 : (Cond.methodLink "ScanRows$Rows" (81 : Nat) ({ cls := "ScanRows$Rows", name := "mayExchange", desc := "(II)Z" } : Jvm.MethodName)) ∈ ALLG := al_t (i := 367) (by decide +kernel) (by decide +kernel)
theorem tw_369 : (Cond.instanceMethod ({ cls := "ScanRows$Rows", name := "mayExchange", desc := "(II)Z" } : Jvm.MethodName)) ∈ ALLG := al_t (i := 369) (by decide +kernel) (by decide +kernel)
theorem tw_370 : (Cond.code ({ cls := "ScanRows$Rows", name := "mayExchange", desc := "(II)Z" } : Jvm.MethodName) prog_4_method_17_code (3 : Nat) (Option.some FieldType.boolean)) ∈ ALLG := al_t (i := 370) (by decide +kernel) (by decide +kernel)
theorem tw_371 : (Cond.methodLink "ScanRows$Rows" (84 : Nat) ({ cls := "ScanRows$Rows", name := "exchangeIfShorter", desc := "(II)Z" } : Jvm.MethodName)) ∈ ALLG := al_t (i := 371) (by decide +kernel) (by decide +kernel)
theorem tw_373 : (Cond.instanceMethod ({ cls := "ScanRows$Rows", name := "exchangeIfShorter", desc := "(II)Z" } : Jvm.MethodName)) ∈ ALLG := al_t (i := 373) (by decide +kernel) (by decide +kernel)
theorem tw_374 : (Cond.code ({ cls := "ScanRows$Rows", name := "exchangeIfShorter", desc := "(II)Z" } : Jvm.MethodName) prog_4_method_18_code (4 : Nat) (Option.some FieldType.boolean)) ∈ ALLG := al_t (i := 374) (by decide +kernel) (by decide +kernel)
theorem tw_375 : (Cond.methodLink "ScanRows$Rows" (87 : Nat) ({ cls := "ScanRows$Rows", name := "wayAround", desc := "(I)I" } : Jvm.MethodName)) ∈ ALLG := al_t (i := 375) (by decide +kernel) (by decide +kernel)
theorem tw_377 : (Cond.instanceMethod ({ cls := "ScanRows$Rows", name := "wayAround", desc := "(I)I" } : Jvm.MethodName)) ∈ ALLG := al_t (i := 377) (by decide +kernel) (by decide +kernel)
theorem tw_378 : (Cond.code ({ cls := "ScanRows$Rows", name := "wayAround", desc := "(I)I" } : Jvm.MethodName) prog_4_method_14_code (2 : Nat) (Option.some FieldType.int)) ∈ ALLG := al_t (i := 378) (by decide +kernel) (by decide +kernel)
theorem tw_379 : (Cond.methodLink "ScanRows$Rows" (90 : Nat) ({ cls := "ScanRows$Rows", name := "exchange", desc := "(II)V" } : Jvm.MethodName)) ∈ ALLG := al_t (i := 379) (by decide +kernel) (by decide +kernel)
theorem tw_381 : (Cond.instanceMethod ({ cls := "ScanRows$Rows", name := "exchange", desc := "(II)V" } : Jvm.MethodName)) ∈ ALLG := al_t (i := 381) (by decide +kernel) (by decide +kernel)
theorem tw_382 : (Cond.code ({ cls := "ScanRows$Rows", name := "exchange", desc := "(II)V" } : Jvm.MethodName) prog_4_method_19_code (4 : Nat) (Option.none : Option Jvm.ClassFile.FieldType)) ∈ ALLG := al_t (i := 382) (by decide +kernel) (by decide +kernel)
theorem tw_395 : (Cond.methodLink "ScanRows$Rows" (94 : Nat) ({ cls := "ScanRows$Rows", name := "breaks", desc := "(II)Z" } : Jvm.MethodName)) ∈ ALLG := al_t (i := 395) (by decide +kernel) (by decide +kernel)
theorem tw_397 : (Cond.instanceMethod ({ cls := "ScanRows$Rows", name := "breaks", desc := "(II)Z" } : Jvm.MethodName)) ∈ ALLG := al_t (i := 397) (by decide +kernel) (by decide +kernel)
theorem tw_398 : (Cond.code ({ cls := "ScanRows$Rows", name := "breaks", desc := "(II)Z" } : Jvm.MethodName) prog_4_method_21_code (3 : Nat) (Option.some FieldType.boolean)) ∈ ALLG := al_t (i := 398) (by decide +kernel) (by decide +kernel)
theorem dX2_wholeWay_0 : decode cX2_wholeWay 0 = .ok (.lconst 0, 1) := by decide +kernel
theorem dX2_wholeWay_1 : decode cX2_wholeWay 1 = .ok (.lstore_n 1, 1) := by decide +kernel
theorem dX2_wholeWay_2 : decode cX2_wholeWay 2 = .ok (.iconst 0, 1) := by decide +kernel
theorem dX2_wholeWay_3 : decode cX2_wholeWay 3 = .ok (.istore_n 3, 1) := by decide +kernel
theorem dX2_wholeWay_4 : decode cX2_wholeWay 4 = .ok (.iload_n 3, 1) := by decide +kernel
theorem dX2_wholeWay_5 : decode cX2_wholeWay 5 = .ok (.aload_n 0, 1) := by decide +kernel
theorem dX2_wholeWay_6 : decode cX2_wholeWay 6 = .ok (.getfield 59, 3) := by decide +kernel
theorem dX2_wholeWay_9 : decode cX2_wholeWay 9 = .ok (.if_icmp .ge 18, 3) := by decide +kernel
theorem dX2_wholeWay_12 : decode cX2_wholeWay 12 = .ok (.lload_n 1, 1) := by decide +kernel
theorem dX2_wholeWay_13 : decode cX2_wholeWay 13 = .ok (.aload_n 0, 1) := by decide +kernel
theorem dX2_wholeWay_14 : decode cX2_wholeWay 14 = .ok (.iload_n 3, 1) := by decide +kernel
theorem dX2_wholeWay_15 : decode cX2_wholeWay 15 = .ok (.invokevirtual 69, 3) := by decide +kernel
theorem dX2_wholeWay_18 : decode cX2_wholeWay 18 = .ok (.i2l, 1) := by decide +kernel
theorem dX2_wholeWay_19 : decode cX2_wholeWay 19 = .ok (.ladd, 1) := by decide +kernel
theorem dX2_wholeWay_20 : decode cX2_wholeWay 20 = .ok (.lstore_n 1, 1) := by decide +kernel
theorem dX2_wholeWay_21 : decode cX2_wholeWay 21 = .ok (.iinc 3 1, 3) := by decide +kernel
theorem dX2_wholeWay_24 : decode cX2_wholeWay 24 = .ok (.goto (-20), 3) := by decide +kernel
theorem dX2_wholeWay_27 : decode cX2_wholeWay 27 = .ok (.lload_n 1, 1) := by decide +kernel
theorem dX2_wholeWay_28 : decode cX2_wholeWay 28 = .ok (.lreturn, 1) := by decide +kernel
theorem dX2_exchangeIfShorter_0 : decode cX2_exchangeIfShorter 0 = .ok (.aload_n 0, 1) := by decide +kernel
theorem dX2_exchangeIfShorter_1 : decode cX2_exchangeIfShorter 1 = .ok (.iload_n 1, 1) := by decide +kernel
theorem dX2_exchangeIfShorter_2 : decode cX2_exchangeIfShorter 2 = .ok (.invokevirtual 87, 3) := by decide +kernel
theorem dX2_exchangeIfShorter_5 : decode cX2_exchangeIfShorter 5 = .ok (.aload_n 0, 1) := by decide +kernel
theorem dX2_exchangeIfShorter_6 : decode cX2_exchangeIfShorter 6 = .ok (.iload_n 2, 1) := by decide +kernel
theorem dX2_exchangeIfShorter_7 : decode cX2_exchangeIfShorter 7 = .ok (.invokevirtual 87, 3) := by decide +kernel
theorem dX2_exchangeIfShorter_10 : decode cX2_exchangeIfShorter 10 = .ok (.iadd, 1) := by decide +kernel
theorem dX2_exchangeIfShorter_11 : decode cX2_exchangeIfShorter 11 = .ok (.istore_n 3, 1) := by decide +kernel
theorem dX2_exchangeIfShorter_12 : decode cX2_exchangeIfShorter 12 = .ok (.aload_n 0, 1) := by decide +kernel
theorem dX2_exchangeIfShorter_13 : decode cX2_exchangeIfShorter 13 = .ok (.iload_n 1, 1) := by decide +kernel
theorem dX2_exchangeIfShorter_14 : decode cX2_exchangeIfShorter 14 = .ok (.iload_n 2, 1) := by decide +kernel
theorem dX2_exchangeIfShorter_15 : decode cX2_exchangeIfShorter 15 = .ok (.invokevirtual 90, 3) := by decide +kernel
theorem dX2_exchangeIfShorter_18 : decode cX2_exchangeIfShorter 18 = .ok (.aload_n 0, 1) := by decide +kernel
theorem dX2_exchangeIfShorter_19 : decode cX2_exchangeIfShorter 19 = .ok (.iload_n 1, 1) := by decide +kernel
theorem dX2_exchangeIfShorter_20 : decode cX2_exchangeIfShorter 20 = .ok (.invokevirtual 87, 3) := by decide +kernel
theorem dX2_exchangeIfShorter_23 : decode cX2_exchangeIfShorter 23 = .ok (.aload_n 0, 1) := by decide +kernel
theorem dX2_exchangeIfShorter_24 : decode cX2_exchangeIfShorter 24 = .ok (.iload_n 2, 1) := by decide +kernel
theorem dX2_exchangeIfShorter_25 : decode cX2_exchangeIfShorter 25 = .ok (.invokevirtual 87, 3) := by decide +kernel
theorem dX2_exchangeIfShorter_28 : decode cX2_exchangeIfShorter 28 = .ok (.iadd, 1) := by decide +kernel
theorem dX2_exchangeIfShorter_29 : decode cX2_exchangeIfShorter 29 = .ok (.iload_n 3, 1) := by decide +kernel
theorem dX2_exchangeIfShorter_30 : decode cX2_exchangeIfShorter 30 = .ok (.if_icmp .ge 5, 3) := by decide +kernel
theorem dX2_exchangeIfShorter_33 : decode cX2_exchangeIfShorter 33 = .ok (.iconst 1, 1) := by decide +kernel
theorem dX2_exchangeIfShorter_34 : decode cX2_exchangeIfShorter 34 = .ok (.ireturn, 1) := by decide +kernel
theorem dX2_exchangeIfShorter_35 : decode cX2_exchangeIfShorter 35 = .ok (.aload_n 0, 1) := by decide +kernel
theorem dX2_exchangeIfShorter_36 : decode cX2_exchangeIfShorter 36 = .ok (.iload_n 1, 1) := by decide +kernel
theorem dX2_exchangeIfShorter_37 : decode cX2_exchangeIfShorter 37 = .ok (.iload_n 2, 1) := by decide +kernel
theorem dX2_exchangeIfShorter_38 : decode cX2_exchangeIfShorter 38 = .ok (.invokevirtual 90, 3) := by decide +kernel
theorem dX2_exchangeIfShorter_41 : decode cX2_exchangeIfShorter 41 = .ok (.iconst 0, 1) := by decide +kernel
theorem dX2_exchangeIfShorter_42 : decode cX2_exchangeIfShorter 42 = .ok (.ireturn, 1) := by decide +kernel
theorem dX2_exchangeOnce_0 : decode cX2_exchangeOnce 0 = .ok (.iconst 0, 1) := by decide +kernel
theorem dX2_exchangeOnce_1 : decode cX2_exchangeOnce 1 = .ok (.istore_n 1, 1) := by decide +kernel
theorem dX2_exchangeOnce_2 : decode cX2_exchangeOnce 2 = .ok (.iload_n 1, 1) := by decide +kernel
theorem dX2_exchangeOnce_3 : decode cX2_exchangeOnce 3 = .ok (.aload_n 0, 1) := by decide +kernel
theorem dX2_exchangeOnce_4 : decode cX2_exchangeOnce 4 = .ok (.getfield 40, 3) := by decide +kernel
theorem dX2_exchangeOnce_7 : decode cX2_exchangeOnce 7 = .ok (.if_icmp .ge 57, 3) := by decide +kernel
theorem dX2_exchangeOnce_10 : decode cX2_exchangeOnce 10 = .ok (.iload_n 1, 1) := by decide +kernel
theorem dX2_exchangeOnce_11 : decode cX2_exchangeOnce 11 = .ok (.iconst 1, 1) := by decide +kernel
theorem dX2_exchangeOnce_12 : decode cX2_exchangeOnce 12 = .ok (.iadd, 1) := by decide +kernel
theorem dX2_exchangeOnce_13 : decode cX2_exchangeOnce 13 = .ok (.istore_n 2, 1) := by decide +kernel
theorem dX2_exchangeOnce_14 : decode cX2_exchangeOnce 14 = .ok (.iload_n 2, 1) := by decide +kernel
theorem dX2_exchangeOnce_15 : decode cX2_exchangeOnce 15 = .ok (.aload_n 0, 1) := by decide +kernel
theorem dX2_exchangeOnce_16 : decode cX2_exchangeOnce 16 = .ok (.getfield 40, 3) := by decide +kernel
theorem dX2_exchangeOnce_19 : decode cX2_exchangeOnce 19 = .ok (.if_icmp .ge 39, 3) := by decide +kernel
theorem dX2_exchangeOnce_22 : decode cX2_exchangeOnce 22 = .ok (.aload_n 0, 1) := by decide +kernel
theorem dX2_exchangeOnce_23 : decode cX2_exchangeOnce 23 = .ok (.iload_n 1, 1) := by decide +kernel
theorem dX2_exchangeOnce_24 : decode cX2_exchangeOnce 24 = .ok (.iload_n 2, 1) := by decide +kernel
theorem dX2_exchangeOnce_25 : decode cX2_exchangeOnce 25 = .ok (.invokevirtual 81, 3) := by decide +kernel
theorem dX2_exchangeOnce_28 : decode cX2_exchangeOnce 28 = .ok (.ifCond .eq 24, 3) := by decide +kernel
theorem dX2_exchangeOnce_31 : decode cX2_exchangeOnce 31 = .ok (.aload_n 0, 1) := by decide +kernel
theorem dX2_exchangeOnce_32 : decode cX2_exchangeOnce 32 = .ok (.aload_n 0, 1) := by decide +kernel
theorem dX2_exchangeOnce_33 : decode cX2_exchangeOnce 33 = .ok (.getfield 28, 3) := by decide +kernel
theorem dX2_exchangeOnce_36 : decode cX2_exchangeOnce 36 = .ok (.iload_n 1, 1) := by decide +kernel
theorem dX2_exchangeOnce_37 : decode cX2_exchangeOnce 37 = .ok (.iaload, 1) := by decide +kernel
theorem dX2_exchangeOnce_38 : decode cX2_exchangeOnce 38 = .ok (.aload_n 0, 1) := by decide +kernel
theorem dX2_exchangeOnce_39 : decode cX2_exchangeOnce 39 = .ok (.getfield 28, 3) := by decide +kernel
theorem dX2_exchangeOnce_42 : decode cX2_exchangeOnce 42 = .ok (.iload_n 2, 1) := by decide +kernel
theorem dX2_exchangeOnce_43 : decode cX2_exchangeOnce 43 = .ok (.iaload, 1) := by decide +kernel
theorem dX2_exchangeOnce_44 : decode cX2_exchangeOnce 44 = .ok (.invokevirtual 84, 3) := by decide +kernel
theorem dX2_exchangeOnce_47 : decode cX2_exchangeOnce 47 = .ok (.ifCond .eq 5, 3) := by decide +kernel
theorem dX2_exchangeOnce_50 : decode cX2_exchangeOnce 50 = .ok (.iconst 1, 1) := by decide +kernel
theorem dX2_exchangeOnce_51 : decode cX2_exchangeOnce 51 = .ok (.ireturn, 1) := by decide +kernel
theorem dX2_exchangeOnce_52 : decode cX2_exchangeOnce 52 = .ok (.iinc 2 1, 3) := by decide +kernel
theorem dX2_exchangeOnce_55 : decode cX2_exchangeOnce 55 = .ok (.goto (-41), 3) := by decide +kernel
theorem dX2_exchangeOnce_58 : decode cX2_exchangeOnce 58 = .ok (.iinc 1 1, 3) := by decide +kernel
theorem dX2_exchangeOnce_61 : decode cX2_exchangeOnce 61 = .ok (.goto (-59), 3) := by decide +kernel
theorem dX2_exchangeOnce_64 : decode cX2_exchangeOnce 64 = .ok (.iconst 0, 1) := by decide +kernel
theorem dX2_exchangeOnce_65 : decode cX2_exchangeOnce 65 = .ok (.ireturn, 1) := by decide +kernel
theorem dX2_exchangeUpTo_0 : decode cX2_exchangeUpTo 0 = .ok (.iconst 0, 1) := by decide +kernel
theorem dX2_exchangeUpTo_1 : decode cX2_exchangeUpTo 1 = .ok (.istore_n 2, 1) := by decide +kernel
theorem dX2_exchangeUpTo_2 : decode cX2_exchangeUpTo 2 = .ok (.iload_n 2, 1) := by decide +kernel
theorem dX2_exchangeUpTo_3 : decode cX2_exchangeUpTo 3 = .ok (.iload_n 1, 1) := by decide +kernel
theorem dX2_exchangeUpTo_4 : decode cX2_exchangeUpTo 4 = .ok (.if_icmp .ge 18, 3) := by decide +kernel
theorem dX2_exchangeUpTo_7 : decode cX2_exchangeUpTo 7 = .ok (.aload_n 0, 1) := by decide +kernel
theorem dX2_exchangeUpTo_8 : decode cX2_exchangeUpTo 8 = .ok (.invokevirtual 77, 3) := by decide +kernel
theorem dX2_exchangeUpTo_11 : decode cX2_exchangeUpTo 11 = .ok (.ifCond .ne 5, 3) := by decide +kernel
theorem dX2_exchangeUpTo_14 : decode cX2_exchangeUpTo 14 = .ok (.iload_n 2, 1) := by decide +kernel
theorem dX2_exchangeUpTo_15 : decode cX2_exchangeUpTo 15 = .ok (.ireturn, 1) := by decide +kernel
theorem dX2_exchangeUpTo_16 : decode cX2_exchangeUpTo 16 = .ok (.iinc 2 1, 3) := by decide +kernel
theorem dX2_exchangeUpTo_19 : decode cX2_exchangeUpTo 19 = .ok (.goto (-17), 3) := by decide +kernel
theorem dX2_exchangeUpTo_22 : decode cX2_exchangeUpTo 22 = .ok (.iload_n 1, 1) := by decide +kernel
theorem dX2_exchangeUpTo_23 : decode cX2_exchangeUpTo 23 = .ok (.ireturn, 1) := by decide +kernel
theorem dX2_brokenRule_0 : decode cX2_brokenRule 0 = .ok (.iconst 0, 1) := by decide +kernel
theorem dX2_brokenRule_1 : decode cX2_brokenRule 1 = .ok (.istore_n 3, 1) := by decide +kernel
theorem dX2_brokenRule_2 : decode cX2_brokenRule 2 = .ok (.iconst 0, 1) := by decide +kernel
theorem dX2_brokenRule_3 : decode cX2_brokenRule 3 = .ok (.istore 4, 2) := by decide +kernel
theorem dX2_brokenRule_5 : decode cX2_brokenRule 5 = .ok (.iload 4, 2) := by decide +kernel
theorem dX2_brokenRule_7 : decode cX2_brokenRule 7 = .ok (.aload_n 0, 1) := by decide +kernel
theorem dX2_brokenRule_8 : decode cX2_brokenRule 8 = .ok (.getfield 40, 3) := by decide +kernel
theorem dX2_brokenRule_11 : decode cX2_brokenRule 11 = .ok (.if_icmp .ge 55, 3) := by decide +kernel
theorem dX2_brokenRule_14 : decode cX2_brokenRule 14 = .ok (.iconst 0, 1) := by decide +kernel
theorem dX2_brokenRule_15 : decode cX2_brokenRule 15 = .ok (.istore 5, 2) := by decide +kernel
theorem dX2_brokenRule_17 : decode cX2_brokenRule 17 = .ok (.iload 5, 2) := by decide +kernel
theorem dX2_brokenRule_19 : decode cX2_brokenRule 19 = .ok (.iconst 1, 1) := by decide +kernel
theorem dX2_brokenRule_20 : decode cX2_brokenRule 20 = .ok (.if_icmp .gt 40, 3) := by decide +kernel
theorem dX2_brokenRule_23 : decode cX2_brokenRule 23 = .ok (.aload_n 0, 1) := by decide +kernel
theorem dX2_brokenRule_24 : decode cX2_brokenRule 24 = .ok (.iload 4, 2) := by decide +kernel
theorem dX2_brokenRule_26 : decode cX2_brokenRule 26 = .ok (.iload 5, 2) := by decide +kernel
theorem dX2_brokenRule_28 : decode cX2_brokenRule 28 = .ok (.invokevirtual 94, 3) := by decide +kernel
theorem dX2_brokenRule_31 : decode cX2_brokenRule 31 = .ok (.ifCond .eq 23, 3) := by decide +kernel
theorem dX2_brokenRule_34 : decode cX2_brokenRule 34 = .ok (.iload_n 3, 1) := by decide +kernel
theorem dX2_brokenRule_35 : decode cX2_brokenRule 35 = .ok (.iload_n 1, 1) := by decide +kernel
theorem dX2_brokenRule_36 : decode cX2_brokenRule 36 = .ok (.if_icmp .ne 15, 3) := by decide +kernel
theorem dX2_brokenRule_39 : decode cX2_brokenRule 39 = .ok (.iload_n 2, 1) := by decide +kernel
theorem dX2_brokenRule_40 : decode cX2_brokenRule 40 = .ok (.ifCond .ne 8, 3) := by decide +kernel
theorem dX2_brokenRule_43 : decode cX2_brokenRule 43 = .ok (.iload 5, 2) := by decide +kernel
theorem dX2_brokenRule_45 : decode cX2_brokenRule 45 = .ok (.goto 5, 3) := by decide +kernel
theorem dX2_brokenRule_48 : decode cX2_brokenRule 48 = .ok (.iload 4, 2) := by decide +kernel
theorem dX2_brokenRule_50 : decode cX2_brokenRule 50 = .ok (.ireturn, 1) := by decide +kernel
theorem dX2_brokenRule_51 : decode cX2_brokenRule 51 = .ok (.iinc 3 1, 3) := by decide +kernel
theorem dX2_brokenRule_54 : decode cX2_brokenRule 54 = .ok (.iinc 5 1, 3) := by decide +kernel
theorem dX2_brokenRule_57 : decode cX2_brokenRule 57 = .ok (.goto (-40), 3) := by decide +kernel
theorem dX2_brokenRule_60 : decode cX2_brokenRule 60 = .ok (.iinc 4 1, 3) := by decide +kernel
theorem dX2_brokenRule_63 : decode cX2_brokenRule 63 = .ok (.goto (-58), 3) := by decide +kernel
theorem dX2_brokenRule_66 : decode cX2_brokenRule 66 = .ok (.iconst (-1), 1) := by decide +kernel
theorem dX2_brokenRule_67 : decode cX2_brokenRule 67 = .ok (.ireturn, 1) := by decide +kernel
set_option maxHeartbeats 4000000 in
set_option maxRecDepth 100000 in
theorem c_Rows_wholeWay (l : Launch) (dC : Nat → ClassId) (dI : Nat → Nat → Nat) (q : Nat → Nat) (cI cZ : ClassId) (sz : Nat) (r : RS) (hB : RB r) : Met l yX2_wholeWay (.code yX2_wholeWay cX2_wholeWay 4 (some .long) :: ALLG) ({ frames := 2, cells := 0, slots := 0, locals := 47 }) (va_Pc [.ref (q 0)] (cP (dC, dI) vwCl [(cI, .int), (cZ, .boolean)] (wR q cI cZ r) eT sz)) (va_Ql (fun (x : Int64) (_ : Unit) => x = lN (sumN (wb r) r.p)) (fun (_ : Unit) => cB (dC, dI) vwCl [(cI, .int), (cZ, .boolean)] (wR q cI cZ r) (va_A (wR q cI cZ r) sz)) (va_A (wR q cI cZ r) sz)) 0 0 (va_A (wR q cI cZ r) sz) := by
  refine xm_of (cc := cX2_wholeWay) (maxL := 4) (ret := some .long) (by decide) rfl (Nat.le_of_ble_eq_true rfl) ?_
  intro p e s m below meth c A hAe hx hb hr hml hts0 hown hlk hin hsz H locs hP hK hD hA hS hE ls hl
  have hts : ∀ w ∈ ALLG, w.before _ s = true := fun w h => hts0 w (List.mem_cons_of_mem _ h)
  rw [← hAe]
  have hB0 := hB
  have g1 := hB.1
  have g2 := hB.2.2.1
  have hl : lv_has ls 4 [(0, .ref (q 0))] := hl
  refine lv_lconst (v := 0) hx hb dX2_wholeWay_0 (by decide) ?_
  refine lv_lstore_n (lv' := [(1, .long 0), (0, .ref (q 0))]) hx hb dX2_wholeWay_1 rfl hl (by decide) rfl (fun ls hl => ?_)
  refine lv_iconst (v := nI 0) hx hb dX2_wholeWay_2 (by decide) ?_
  refine lv_istore_n (lv' := [(3, .int (nI 0)), (1, .long 0), (0, .ref (q 0))]) hx hb dX2_wholeWay_3 rfl hl (by decide) rfl (fun ls hl => ?_)
  have L4 : ∀ (fuel : Nat) (i : Nat), (i ≤ r.p) → r.p - i < fuel → ∀ (H : Heap) (locs : List Loc), va_P (dC, dI) vwCl (wR q cI cZ r) H → va_D A (wR q cI cZ r) → va_S A s.heap H locs → ∀ ls : Array Slot, lv_has ls 4 [(0, .ref (q 0)), (1, .long (lN (sumN (wb r) i))), (3, .int (nI i))] → W p l e ({ frames := 2, cells := 0, slots := 0, locals := 47 } : Room) s m ([.ref (q 0)] : List Value).toArray below meth c H locs 0 0 (MQ below (va_Ql (fun (x : Int64) (_ : Unit) => x = lN (sumN (wb r) r.p)) (fun (_ : Unit) => cB (dC, dI) vwCl [(cI, .int), (cZ, .boolean)] (wR q cI cZ r) (A)) (A)) ([.ref (q 0)] : List Value).toArray s 0 0 A) (F0 m 4 ls []) := by
    intro fuel
    induction fuel with
    | zero => intro i i1 hm H locs hP hD hS ls hl; exact absurd hm (Nat.not_lt_zero _)
    | succ fuel ih4 =>
      intro i i1 hm H locs hP hD hS ls hl
      refine lv_iload_n hx hb dX2_wholeWay_4 rfl (lv_at hl 2 rfl) ?_
      refine lv_aload_n hx hb dX2_wholeWay_5 rfl (lv_at hl 0 rfl) ?_
      refine va_get (D := (dC, dI)) (ci := 2) (v := .int (nI (RS.p r))) (C := RX2) (T := TX2) (N := 12) hx hb hts inX2 hown hK hP 0 rfl rfl 2 (by decide) (hts _ tw_32) (fun _ h9 => h9) rfl dX2_wholeWay_6 ?_
      refine xn_cge (tgt := 27) hx hb (by omega) (by omega) dX2_wholeWay_9 (by decide) (fun c_1 => ?_) (fun c_1 => ?_)
      · refine lv_lload_n hx hb dX2_wholeWay_27 rfl (lv_at hl 1 rfl) ?_
        exact xr_l hx hb hr hlk (u := ()) (by rw [show r.p = i by omega]) hP hK hD hS dX2_wholeWay_28
      · refine lv_lload_n hx hb dX2_wholeWay_12 rfl (lv_at hl 1 rfl) ?_
        refine lv_aload_n hx hb dX2_wholeWay_13 rfl (lv_at hl 0 rfl) ?_
        refine lv_iload_n hx hb dX2_wholeWay_14 rfl (lv_at hl 2 rfl) ?_
        refine xc_Vi (As := [.int (nI i)]) (wr := []) ⟨hx, hb, hml, hown, hts⟩ (c_Rows_wayBehind l dC dI q cI cZ H.size r i hB0 (by omega)) (cwV 1 hts (gV tw_149 tw_151 sw_0 tw_2 tw_152) rfl rfl rfl (by decide +kernel) ⟨Nat.le_of_ble_eq_true rfl, Nat.le_of_ble_eq_true rfl⟩) rfl hl.1 rfl (Nat.le_of_ble_eq_true rfl) dX2_wholeWay_15 ⟨Nat.zero_le _, Nat.zero_le _⟩ hP hD hK hS hA [0, 1, 2, 3, 4, 5, 6, 7, 8, 9] [] rfl rfl (by decide) (by decide) (by decide) [0, 1] rfl (q0 := 0) rfl rfl rfl eT_M (trivial) (fun r_2 u_3 H locs w_4 hP hD hS => ?_)
        obtain rfl := w_4
        have hP : va_P (dC, dI) vwCl (wR q cI cZ r) H := hP
        have hD : va_D A (wR q cI cZ r) := hD
        refine lv_i2l hx hb dX2_wholeWay_18 rfl ?_
        have g3 := wb_le hB0 i
        refine xt_l (show ((nI (wb r i)).toInt64) = (lN (wb r i)) from nI_l (by omega)) ?_
        refine lv_ladd hx hb dX2_wholeWay_19 ?_
        refine xt_l (show ((lN (sumN (wb r) i)) + (lN (wb r i))) = (lN (sumN (wb r) (i + 1))) from lN_add _ _) ?_
        refine lv_lstore_n (lv' := [(1, .long (lN (sumN (wb r) (i + 1)))), (0, .ref (q 0)), (3, .int (nI i))]) hx hb dX2_wholeWay_20 rfl hl (by decide) rfl (fun ls hl => ?_)
        refine lv_iinc (v := nI (i + 1)) (lv' := [(3, .int (nI (i + 1))), (1, .long (lN (sumN (wb r) (i + 1)))), (0, .ref (q 0))]) hx hb dX2_wholeWay_21 hl (k := 2) rfl (nI_1 _) (by decide) rfl (fun ls hl => ?_)
        refine lv_goto (tgt := 4) hx hb dX2_wholeWay_24 (by decide) ?_
        exact ih4 (i + 1) (by omega) (by omega) H locs hP hD hS ls (lv_sub hl [2, 1, 0] rfl)
  exact L4 ((r.p - 0) + 1) 0 (by omega) (Nat.lt_succ_self _) H locs hP hD hS ls (lv_sub hl [2, 1, 0] rfl)
set_option maxHeartbeats 4000000 in
set_option maxRecDepth 100000 in
theorem c_Rows_exchangeIfShorter (l : Launch) (dC : Nat → ClassId) (dI : Nat → Nat → Nat) (q : Nat → Nat) (cI cZ : ClassId) (sz : Nat) (r : RS) (i j : Nat) (hB : RB r) (h1 : i < 32) (h2 : j < 32) : Met l yX2_exchangeIfShorter (.code yX2_exchangeIfShorter cX2_exchangeIfShorter 4 (some .boolean) :: ALLG) ({ frames := 3, cells := 0, slots := 0, locals := 68 }) (va_Pc [.ref (q 0), .int (nI i), .int (nI j)] (cP (dC, dI) vwCl [(cI, .int), (cZ, .boolean)] (wR q cI cZ r) eT sz)) (va_Qi (fun (x : Int32) (u : RS) => x = nI (eis r i j).1 ∧ u = (eis r i j).2) (fun (u : RS) => cB (dC, dI) vwCl [(cI, .int), (cZ, .boolean)] (wR q cI cZ u) (va_A (wR q cI cZ r) sz)) (va_A (wR q cI cZ r) sz)) 0 0 (va_A (wR q cI cZ r) sz) := by
  refine xm_of (cc := cX2_exchangeIfShorter) (maxL := 4) (ret := some .boolean) (by decide) rfl (Nat.le_of_ble_eq_true rfl) ?_
  intro p e s m below meth c A hAe hx hb hr hml hts0 hown hlk hin hsz H locs hP hK hD hA hS hE ls hl
  have hts : ∀ w ∈ ALLG, w.before _ s = true := fun w h => hts0 w (List.mem_cons_of_mem _ h)
  rw [← hAe]
  have hB1 := RB_exch hB h1 h2
  have g1 := wa_le hB i
  have g2 := wa_le hB j
  have g3 := wa_le hB1 i
  have g4 := wa_le hB1 j
  have hl : lv_has ls 4 [(0, .ref (q 0)), (1, .int (nI i)), (2, .int (nI j))] := hl
  refine lv_aload_n hx hb dX2_exchangeIfShorter_0 rfl (lv_at hl 0 rfl) ?_
  refine lv_iload_n hx hb dX2_exchangeIfShorter_1 rfl (lv_at hl 1 rfl) ?_
  refine xc_Vi (As := [.int (nI i)]) (wr := []) ⟨hx, hb, hml, hown, hts⟩ (c_Rows_wayAround l dC dI q cI cZ H.size r i hB (by omega)) (cwV 1 hts (gV tw_375 tw_377 sw_10 tw_2 tw_378) rfl rfl rfl (by decide +kernel) ⟨Nat.le_of_ble_eq_true rfl, Nat.le_of_ble_eq_true rfl⟩) rfl hl.1 rfl (Nat.le_of_ble_eq_true rfl) dX2_exchangeIfShorter_2 ⟨Nat.zero_le _, Nat.zero_le _⟩ hP hD hK hS hA [0, 1, 2, 3, 4, 5, 6, 7, 8, 9] [] rfl rfl (by decide) (by decide) (by decide) [0, 1] rfl (q0 := 0) rfl rfl rfl eT_M (trivial) (fun r_1 u_2 H locs w_3 hP hD hS => ?_)
  obtain rfl := w_3
  have hP : va_P (dC, dI) vwCl (wR q cI cZ r) H := hP
  have hD : va_D A (wR q cI cZ r) := hD
  refine lv_aload_n hx hb dX2_exchangeIfShorter_5 rfl (lv_at hl 0 rfl) ?_
  refine lv_iload_n hx hb dX2_exchangeIfShorter_6 rfl (lv_at hl 2 rfl) ?_
  refine xc_Vi (As := [.int (nI j)]) (wr := []) ⟨hx, hb, hml, hown, hts⟩ (c_Rows_wayAround l dC dI q cI cZ H.size r j hB (by omega)) (cwV 1 hts (gV tw_375 tw_377 sw_10 tw_2 tw_378) rfl rfl rfl (by decide +kernel) ⟨Nat.le_of_ble_eq_true rfl, Nat.le_of_ble_eq_true rfl⟩) rfl hl.1 rfl (Nat.le_of_ble_eq_true rfl) dX2_exchangeIfShorter_7 ⟨Nat.zero_le _, Nat.zero_le _⟩ hP hD hK hS hA [0, 1, 2, 3, 4, 5, 6, 7, 8, 9] [] rfl rfl (by decide) (by decide) (by decide) [0, 1] rfl (q0 := 0) rfl rfl rfl eT_M (trivial) (fun r_4 u_5 H locs w_6 hP hD hS => ?_)
  obtain rfl := w_6
  have hP : va_P (dC, dI) vwCl (wR q cI cZ r) H := hP
  have hD : va_D A (wR q cI cZ r) := hD
  refine xn_add hx hb dX2_exchangeIfShorter_10 ?_
  refine lv_istore_n (lv' := [(3, .int (nI ((wa r i) + (wa r j)))), (0, .ref (q 0)), (1, .int (nI i)), (2, .int (nI j))]) hx hb dX2_exchangeIfShorter_11 rfl hl (by decide) rfl (fun ls hl => ?_)
  refine lv_aload_n hx hb dX2_exchangeIfShorter_12 rfl (lv_at hl 1 rfl) ?_
  refine lv_iload_n hx hb dX2_exchangeIfShorter_13 rfl (lv_at hl 2 rfl) ?_
  refine lv_iload_n hx hb dX2_exchangeIfShorter_14 rfl (lv_at hl 3 rfl) ?_
  refine xc_Vv (As := [.int (nI i), .int (nI j)]) (wr := []) ⟨hx, hb, hml, hown, hts⟩ (c_Rows_exchange l dC dI q cI cZ H.size r i j hB (by omega) (by omega)) (cwV 2 hts (gV tw_379 tw_381 sw_11 tw_2 tw_382) rfl rfl rfl (by decide +kernel) ⟨Nat.le_of_ble_eq_true rfl, Nat.le_of_ble_eq_true rfl⟩) rfl hl.1 rfl (Nat.le_of_ble_eq_true rfl) dX2_exchangeIfShorter_15 ⟨Nat.zero_le _, Nat.zero_le _⟩ hP hD hK hS hA [0, 1, 2, 3, 4, 5, 6, 7, 8, 9] [] rfl rfl (by decide) (by decide) (by decide) [0, 1] rfl (q0 := 0) rfl rfl rfl eT_M (trivial) (fun u_8 H locs w_9 hP hD hS => ?_)
  obtain rfl := w_9
  have hP : va_P (dC, dI) vwCl (wR q cI cZ (exch r i j)) H := hP
  have hD : va_D A (wR q cI cZ (exch r i j)) := hD
  refine lv_aload_n hx hb dX2_exchangeIfShorter_18 rfl (lv_at hl 1 rfl) ?_
  refine lv_iload_n hx hb dX2_exchangeIfShorter_19 rfl (lv_at hl 2 rfl) ?_
  refine xc_Vi (As := [.int (nI i)]) (wr := []) ⟨hx, hb, hml, hown, hts⟩ (c_Rows_wayAround l dC dI q cI cZ H.size (exch r i j) i hB1 (by omega)) (cwV 1 hts (gV tw_375 tw_377 sw_10 tw_2 tw_378) rfl rfl rfl (by decide +kernel) ⟨Nat.le_of_ble_eq_true rfl, Nat.le_of_ble_eq_true rfl⟩) rfl hl.1 rfl (Nat.le_of_ble_eq_true rfl) dX2_exchangeIfShorter_20 ⟨Nat.zero_le _, Nat.zero_le _⟩ hP hD hK hS hA [0, 1, 2, 3, 4, 5, 6, 7, 8, 9] [] rfl rfl (by decide) (by decide) (by decide) [0, 1] rfl (q0 := 0) rfl rfl rfl eT_M (trivial) (fun r_10 u_11 H locs w_12 hP hD hS => ?_)
  obtain rfl := w_12
  have hP : va_P (dC, dI) vwCl (wR q cI cZ (exch r i j)) H := hP
  have hD : va_D A (wR q cI cZ (exch r i j)) := hD
  refine lv_aload_n hx hb dX2_exchangeIfShorter_23 rfl (lv_at hl 1 rfl) ?_
  refine lv_iload_n hx hb dX2_exchangeIfShorter_24 rfl (lv_at hl 3 rfl) ?_
  refine xc_Vi (As := [.int (nI j)]) (wr := []) ⟨hx, hb, hml, hown, hts⟩ (c_Rows_wayAround l dC dI q cI cZ H.size (exch r i j) j hB1 (by omega)) (cwV 1 hts (gV tw_375 tw_377 sw_10 tw_2 tw_378) rfl rfl rfl (by decide +kernel) ⟨Nat.le_of_ble_eq_true rfl, Nat.le_of_ble_eq_true rfl⟩) rfl hl.1 rfl (Nat.le_of_ble_eq_true rfl) dX2_exchangeIfShorter_25 ⟨Nat.zero_le _, Nat.zero_le _⟩ hP hD hK hS hA [0, 1, 2, 3, 4, 5, 6, 7, 8, 9] [] rfl rfl (by decide) (by decide) (by decide) [0, 1] rfl (q0 := 0) rfl rfl rfl eT_M (trivial) (fun r_13 u_14 H locs w_15 hP hD hS => ?_)
  obtain rfl := w_15
  have hP : va_P (dC, dI) vwCl (wR q cI cZ (exch r i j)) H := hP
  have hD : va_D A (wR q cI cZ (exch r i j)) := hD
  refine xn_add hx hb dX2_exchangeIfShorter_28 ?_
  refine lv_iload_n hx hb dX2_exchangeIfShorter_29 rfl (lv_at hl 0 rfl) ?_
  refine xn_cge (tgt := 35) hx hb (by omega) (by omega) dX2_exchangeIfShorter_30 (by decide) (fun c_16 => ?_) (fun c_16 => ?_)
  · refine lv_aload_n hx hb dX2_exchangeIfShorter_35 rfl (lv_at hl 1 rfl) ?_
    refine lv_iload_n hx hb dX2_exchangeIfShorter_36 rfl (lv_at hl 2 rfl) ?_
    refine lv_iload_n hx hb dX2_exchangeIfShorter_37 rfl (lv_at hl 3 rfl) ?_
    refine xc_Vv (As := [.int (nI i), .int (nI j)]) (wr := []) ⟨hx, hb, hml, hown, hts⟩ (c_Rows_exchange l dC dI q cI cZ H.size (exch r i j) i j hB1 (by omega) (by omega)) (cwV 2 hts (gV tw_379 tw_381 sw_11 tw_2 tw_382) rfl rfl rfl (by decide +kernel) ⟨Nat.le_of_ble_eq_true rfl, Nat.le_of_ble_eq_true rfl⟩) rfl hl.1 rfl (Nat.le_of_ble_eq_true rfl) dX2_exchangeIfShorter_38 ⟨Nat.zero_le _, Nat.zero_le _⟩ hP hD hK hS hA [0, 1, 2, 3, 4, 5, 6, 7, 8, 9] [] rfl rfl (by decide) (by decide) (by decide) [0, 1] rfl (q0 := 0) rfl rfl rfl eT_M (trivial) (fun u_18 H locs w_19 hP hD hS => ?_)
    obtain rfl := w_19
    have hP : va_P (dC, dI) vwCl (wR q cI cZ (exch (exch r i j) i j)) H := hP
    have hD : va_D A (wR q cI cZ (exch (exch r i j) i j)) := hD
    refine lv_iconst (v := nI 0) hx hb dX2_exchangeIfShorter_41 (by decide) ?_
    exact xr_z hx hb hr hlk (by decide) (u := exch (exch r i j) i j) (⟨by unfold eis; rw [if_neg (by omega)], by unfold eis; rw [if_neg (by omega)]⟩) hP hK hD hS dX2_exchangeIfShorter_42
  · refine lv_iconst (v := nI 1) hx hb dX2_exchangeIfShorter_33 (by decide) ?_
    exact xr_z hx hb hr hlk (by decide) (u := exch r i j) (⟨by unfold eis; rw [if_pos (by omega)], by unfold eis; rw [if_pos (by omega)]⟩) hP hK hD hS dX2_exchangeIfShorter_34
set_option maxHeartbeats 4000000 in
set_option maxRecDepth 100000 in
theorem c_Rows_exchangeOnce (l : Launch) (dC : Nat → ClassId) (dI : Nat → Nat → Nat) (q : Nat → Nat) (cI cZ : ClassId) (sz : Nat) (r : RS) (hB : RB r) (hC : RC r) : Met l yX2_exchangeOnce (.code yX2_exchangeOnce cX2_exchangeOnce 3 (some .boolean) :: ALLG) ({ frames := 4, cells := 0, slots := 0, locals := 91 }) (va_Pc [.ref (q 0)] (cP (dC, dI) vwCl [(cI, .int), (cZ, .boolean)] (wR q cI cZ r) eT sz)) (va_Qi (fun (x : Int32) (u : RS) => onceR r x u) (fun (u : RS) => cB (dC, dI) vwCl [(cI, .int), (cZ, .boolean)] (wR q cI cZ u) (va_A (wR q cI cZ r) sz)) (va_A (wR q cI cZ r) sz)) 0 0 (va_A (wR q cI cZ r) sz) := by
  refine xm_of (cc := cX2_exchangeOnce) (maxL := 3) (ret := some .boolean) (by decide) rfl (Nat.le_of_ble_eq_true rfl) ?_
  intro p e s m below meth c A hAe hx hb hr hml hts0 hown hlk hin hsz H locs hP hK hD hA hS hE ls hl
  have hts : ∀ w ∈ ALLG, w.before _ s = true := fun w h => hts0 w (List.mem_cons_of_mem _ h)
  rw [← hAe]
  have hB0 := hB
  have b_n := hB.1
  have b_p := hB.2.2.1
  have hl : lv_has ls 3 [(0, .ref (q 0))] := hl
  refine lv_iconst (v := nI 0) hx hb dX2_exchangeOnce_0 (by decide) ?_
  refine lv_istore_n (lv' := [(1, .int (nI 0)), (0, .ref (q 0))]) hx hb dX2_exchangeOnce_1 rfl hl (by decide) rfl (fun ls hl => ?_)
  have L2 : ∀ (fuel : Nat) (i : Nat), (i ≤ r.n) → (∀ a' b', a' < i → a' < b' → b' < r.n → ¬ good r a' b') → r.n - i < fuel → ∀ (H : Heap) (locs : List Loc), va_P (dC, dI) vwCl (wR q cI cZ r) H → va_D A (wR q cI cZ r) → va_S A s.heap H locs → ∀ ls : Array Slot, lv_has ls 3 [(0, .ref (q 0)), (1, .int (nI i))] → W p l e ({ frames := 4, cells := 0, slots := 0, locals := 91 } : Room) s m ([.ref (q 0)] : List Value).toArray below meth c H locs 0 0 (MQ below (va_Qi (fun (x : Int32) (u : RS) => onceR r x u) (fun (u : RS) => cB (dC, dI) vwCl [(cI, .int), (cZ, .boolean)] (wR q cI cZ u) (A)) (A)) ([.ref (q 0)] : List Value).toArray s 0 0 A) (F0 m 2 ls []) := by
    intro fuel
    induction fuel with
    | zero => intro i i1 o1 hm H locs hP hD hS ls hl; exact absurd hm (Nat.not_lt_zero _)
    | succ fuel ih2 =>
      intro i i1 o1 hm H locs hP hD hS ls hl
      refine lv_iload_n hx hb dX2_exchangeOnce_2 rfl (lv_at hl 1 rfl) ?_
      refine lv_aload_n hx hb dX2_exchangeOnce_3 rfl (lv_at hl 0 rfl) ?_
      refine va_get (D := (dC, dI)) (ci := 2) (v := .int (nI (RS.n r))) (C := RX2) (T := TX2) (N := 12) hx hb hts inX2 hown hK hP 0 rfl rfl 0 (by decide) (hts _ tw_27) (fun _ h9 => h9) rfl dX2_exchangeOnce_4 ?_
      refine xn_cge (tgt := 64) hx hb (by omega) (by omega) dX2_exchangeOnce_7 (by decide) (fun c_1 => ?_) (fun c_1 => ?_)
      · refine lv_iconst (v := nI 0) hx hb dX2_exchangeOnce_64 (by decide) ?_
        exact xr_z hx hb hr hlk (by decide) (u := r) (Or.inr ⟨rfl, rfl, fun a' b' z1 z2 => o1 a' b' (by omega) z1 z2⟩) hP hK hD hS dX2_exchangeOnce_65
      · refine lv_iload_n hx hb dX2_exchangeOnce_10 rfl (lv_at hl 1 rfl) ?_
        refine lv_iconst (v := nI 1) hx hb dX2_exchangeOnce_11 (by decide) ?_
        refine xn_add hx hb dX2_exchangeOnce_12 ?_
        refine lv_istore_n (lv' := [(2, .int (nI (i + 1))), (0, .ref (q 0)), (1, .int (nI i))]) hx hb dX2_exchangeOnce_13 rfl hl (by decide) rfl (fun ls hl => ?_)
        have L14 : ∀ (fuel : Nat) (j : Nat), (i + 1 ≤ j) → (j ≤ r.n) → (∀ a' b', a' = i → a' < b' → b' < j → ¬ good r a' b') → r.n - j < fuel → ∀ (H : Heap) (locs : List Loc), va_P (dC, dI) vwCl (wR q cI cZ r) H → va_D A (wR q cI cZ r) → va_S A s.heap H locs → ∀ ls : Array Slot, lv_has ls 3 [(0, .ref (q 0)), (1, .int (nI i)), (2, .int (nI j))] → W p l e ({ frames := 4, cells := 0, slots := 0, locals := 91 } : Room) s m ([.ref (q 0)] : List Value).toArray below meth c H locs 0 0 (MQ below (va_Qi (fun (x : Int32) (u : RS) => onceR r x u) (fun (u : RS) => cB (dC, dI) vwCl [(cI, .int), (cZ, .boolean)] (wR q cI cZ u) (A)) (A)) ([.ref (q 0)] : List Value).toArray s 0 0 A) (F0 m 14 ls []) := by
          intro fuel
          induction fuel with
          | zero => intro j j1 j2 o2 hm H locs hP hD hS ls hl; exact absurd hm (Nat.not_lt_zero _)
          | succ fuel ih14 =>
            intro j j1 j2 o2 hm H locs hP hD hS ls hl
            refine lv_iload_n hx hb dX2_exchangeOnce_14 rfl (lv_at hl 2 rfl) ?_
            refine lv_aload_n hx hb dX2_exchangeOnce_15 rfl (lv_at hl 0 rfl) ?_
            refine va_get (D := (dC, dI)) (ci := 2) (v := .int (nI (RS.n r))) (C := RX2) (T := TX2) (N := 12) hx hb hts inX2 hown hK hP 0 rfl rfl 0 (by decide) (hts _ tw_27) (fun _ h9 => h9) rfl dX2_exchangeOnce_16 ?_
            refine xn_cge (tgt := 58) hx hb (by omega) (by omega) dX2_exchangeOnce_19 (by decide) (fun c_2 => ?_) (fun c_2 => ?_)
            · refine lv_iinc (v := nI (i + 1)) (lv' := [(1, .int (nI (i + 1))), (0, .ref (q 0)), (2, .int (nI j))]) hx hb dX2_exchangeOnce_58 hl (k := 1) rfl (nI_1 _) (by decide) rfl (fun ls hl => ?_)
              refine lv_goto (tgt := 2) hx hb dX2_exchangeOnce_61 (by decide) ?_
              exact ih2 (i + 1) (by omega) (fun a' b' z1 z2 z3 => (Nat.lt_succ_iff_lt_or_eq.mp z1).elim (fun z => o1 a' b' z z2 z3) (fun z => o2 a' b' z z2 (by omega))) (by omega) H locs hP hD hS ls (lv_sub hl [1, 0] rfl)
            · have g1 := mayN_le r i j
              refine lv_aload_n hx hb dX2_exchangeOnce_22 rfl (lv_at hl 0 rfl) ?_
              refine lv_iload_n hx hb dX2_exchangeOnce_23 rfl (lv_at hl 1 rfl) ?_
              refine lv_iload_n hx hb dX2_exchangeOnce_24 rfl (lv_at hl 2 rfl) ?_
              refine xc_Vi (As := [.int (nI i), .int (nI j)]) (wr := []) ⟨hx, hb, hml, hown, hts⟩ (c_Rows_mayExchange l dC dI q cI cZ H.size r i j hB0 (by omega) (by omega)) (cwV 2 hts (gV tw_367 tw_369 sw_8 tw_2 tw_370) rfl rfl rfl (by decide +kernel) ⟨Nat.le_of_ble_eq_true rfl, Nat.le_of_ble_eq_true rfl⟩) rfl hl.1 rfl (Nat.le_of_ble_eq_true rfl) dX2_exchangeOnce_25 ⟨Nat.zero_le _, Nat.zero_le _⟩ hP hD hK hS hA [0, 1, 2, 3, 4, 5, 6, 7, 8, 9] [] rfl rfl (by decide) (by decide) (by decide) [0, 1] rfl (q0 := 0) rfl rfl rfl eT_M (trivial) (fun r_3 u_4 H locs w_5 hP hD hS => ?_)
              obtain rfl := w_5
              have hP : va_P (dC, dI) vwCl (wR q cI cZ r) H := hP
              have hD : va_D A (wR q cI cZ r) := hD
              refine xn_zeq (tgt := 52) hx hb (by omega) dX2_exchangeOnce_28 (by decide) (fun c_6 => ?_) (fun c_6 => ?_)
              · have ng : ¬ good r i j := fun z => by have := c_6; rw [z.1] at this; cases this
                refine lv_iinc (v := nI (j + 1)) (lv' := [(2, .int (nI (j + 1))), (0, .ref (q 0)), (1, .int (nI i))]) hx hb dX2_exchangeOnce_52 hl (k := 2) rfl (nI_1 _) (by decide) rfl (fun ls hl => ?_)
                refine lv_goto (tgt := 14) hx hb dX2_exchangeOnce_55 (by decide) ?_
                exact ih14 (j + 1) (by omega) (by omega) (fun a' b' z1 z2 z3 => (Nat.lt_succ_iff_lt_or_eq.mp z3).elim (fun z => o2 a' b' z1 z2 z) (fun z => by rw [z1, z]; exact ng)) (by omega) H locs hP hD hS ls (lv_sub hl [1, 2, 0] rfl)
              · have mm := mayN_1 c_6
                have pa := pl_z hB0 mm.2.2.1
                have pb := pl_z hB0 mm.2.2.2
                have g2 := eis_le r (pl r i) (pl r j)
                refine lv_aload_n hx hb dX2_exchangeOnce_31 rfl (lv_at hl 0 rfl) ?_
                refine lv_aload_n hx hb dX2_exchangeOnce_32 rfl (lv_at hl 0 rfl) ?_
                refine va_get (D := (dC, dI)) (ci := 2) (v := .ref (q 6)) (C := RX2) (T := TX2) (N := 12) hx hb hts inX2 hown hK hP 0 rfl rfl 8 (by decide) (hts _ tw_39) (fun _ h9 => h9) rfl dX2_exchangeOnce_33 ?_
                refine lv_iload_n hx hb dX2_exchangeOnce_36 rfl (lv_at hl 1 rfl) ?_
                refine xa_ild hx hb hK hP 6 0 rfl rfl (v := zI ((RS.po r) i)) (by omega) (by decide) rfl dX2_exchangeOnce_37 ?_
                refine xt_i (show zI ((RS.po r) i) = nI (pl r i) from by rw [pa.1]; exact zI_nI _) ?_
                refine lv_aload_n hx hb dX2_exchangeOnce_38 rfl (lv_at hl 0 rfl) ?_
                refine va_get (D := (dC, dI)) (ci := 2) (v := .ref (q 6)) (C := RX2) (T := TX2) (N := 12) hx hb hts inX2 hown hK hP 0 rfl rfl 8 (by decide) (hts _ tw_39) (fun _ h9 => h9) rfl dX2_exchangeOnce_39 ?_
                refine lv_iload_n hx hb dX2_exchangeOnce_42 rfl (lv_at hl 2 rfl) ?_
                refine xa_ild hx hb hK hP 6 0 rfl rfl (v := zI ((RS.po r) j)) (by omega) (by decide) rfl dX2_exchangeOnce_43 ?_
                refine xt_i (show zI ((RS.po r) j) = nI (pl r j) from by rw [pb.1]; exact zI_nI _) ?_
                refine xc_Vi (As := [.int (nI (pl r i)), .int (nI (pl r j))]) (wr := []) ⟨hx, hb, hml, hown, hts⟩ (c_Rows_exchangeIfShorter l dC dI q cI cZ H.size r (pl r i) (pl r j) hB0 pa.2 pb.2) (cwV 2 hts (gV tw_371 tw_373 sw_9 tw_2 tw_374) rfl rfl rfl (by decide +kernel) ⟨Nat.le_of_ble_eq_true rfl, Nat.le_of_ble_eq_true rfl⟩) rfl hl.1 rfl (Nat.le_of_ble_eq_true rfl) dX2_exchangeOnce_44 ⟨Nat.zero_le _, Nat.zero_le _⟩ hP hD hK hS hA [0, 1, 2, 3, 4, 5, 6, 7, 8, 9] [] rfl rfl (by decide) (by decide) (by decide) [0, 1] rfl (q0 := 0) rfl rfl rfl eT_M (trivial) (fun r_7 u_8 H locs w_9 hP hD hS => ?_)
                obtain ⟨rfl, rfl⟩ := w_9
                have hP : va_P (dC, dI) vwCl (wR q cI cZ ((eis r (pl r i) (pl r j)).2)) H := hP
                have hD : va_D A (wR q cI cZ ((eis r (pl r i) (pl r j)).2)) := hD
                refine xn_zeq (tgt := 52) hx hb (by omega) dX2_exchangeOnce_47 (by decide) (fun c_10 => ?_) (fun c_10 => ?_)
                · have s9 : ¬ (wa (exch r (pl r i) (pl r j)) (pl r i) + wa (exch r (pl r i) (pl r j)) (pl r j) < wa r (pl r i) + wa r (pl r j)) := fun z => by have := c_10; unfold eis at this; rw [if_pos z] at this; cases this
                  have e9 : (eis r (pl r i) (pl r j)).2 = r := by unfold eis; rw [if_neg s9]; exact exch2 (RC_pl hB0 hC (by omega) mm.2.2.1) (RC_pl hB0 hC (by omega) mm.2.2.2)
                  rw [e9] at hP hD
                  have ng : ¬ good r i j := fun z => s9 z.2
                  refine lv_iinc (v := nI (j + 1)) (lv' := [(2, .int (nI (j + 1))), (0, .ref (q 0)), (1, .int (nI i))]) hx hb dX2_exchangeOnce_52 hl (k := 2) rfl (nI_1 _) (by decide) rfl (fun ls hl => ?_)
                  refine lv_goto (tgt := 14) hx hb dX2_exchangeOnce_55 (by decide) ?_
                  exact ih14 (j + 1) (by omega) (by omega) (fun a' b' z1 z2 z3 => (Nat.lt_succ_iff_lt_or_eq.mp z3).elim (fun z => o2 a' b' z1 z2 z) (fun z => by rw [z1, z]; exact ng)) (by omega) H locs hP hD hS ls (lv_sub hl [1, 2, 0] rfl)
                · have s9 : wa (exch r (pl r i) (pl r j)) (pl r i) + wa (exch r (pl r i) (pl r j)) (pl r j) < wa r (pl r i) + wa r (pl r j) := Decidable.byContradiction fun z => by have := c_10; unfold eis at this; rw [if_neg z] at this; exact absurd this (Nat.lt_irrefl 0)
                  refine lv_iconst (v := nI 1) hx hb dX2_exchangeOnce_50 (by decide) ?_
                  exact xr_z hx hb hr hlk (by decide) (u := (eis r (pl r i) (pl r j)).2) (Or.inl ⟨rfl, i, j, ⟨by omega, by omega, ⟨mm.1, s9⟩, fun a' b' z1 z2 z3 => z3.elim (fun z => o1 a' b' z z1 z2) (fun z => o2 a' b' z.1 z1 z.2)⟩, by unfold eis; rw [if_pos s9]⟩) hP hK hD hS dX2_exchangeOnce_51
        exact L14 ((r.n - (i + 1)) + 1) (i + 1) (Nat.le_refl _) (by omega) (fun a' b' z1 z2 z3 => absurd z3 (by omega)) (Nat.lt_succ_self _) H locs hP hD hS ls (lv_sub hl [1, 2, 0] rfl)
  exact L2 ((r.n - 0) + 1) 0 (Nat.zero_le _) (fun _ _ z => absurd z (Nat.not_lt_zero _)) (Nat.lt_succ_self _) H locs hP hD hS ls (lv_sub hl [1, 0] rfl)
set_option maxHeartbeats 4000000 in
set_option maxRecDepth 100000 in
theorem c_Rows_exchangeUpTo (l : Launch) (dC : Nat → ClassId) (dI : Nat → Nat → Nat) (q : Nat → Nat) (cI cZ : ClassId) (sz : Nat) (r : RS) (n0 : Nat) (hB : RB r) (hC : RC r) (h1 : n0 < 2 ^ 31) : Met l yX2_exchangeUpTo (.code yX2_exchangeUpTo cX2_exchangeUpTo 3 (some .int) :: ALLG) ({ frames := 5, cells := 0, slots := 0, locals := 113 }) (va_Pc [.ref (q 0), .int (nI n0)] (cP (dC, dI) vwCl [(cI, .int), (cZ, .boolean)] (wR q cI cZ r) eT sz)) (va_Qi (fun (x : Int32) (u : RS) => ∃ k, k ≤ n0 ∧ x = nI k ∧ impR n0 r k u) (fun (u : RS) => cB (dC, dI) vwCl [(cI, .int), (cZ, .boolean)] (wR q cI cZ u) (va_A (wR q cI cZ r) sz)) (va_A (wR q cI cZ r) sz)) 0 0 (va_A (wR q cI cZ r) sz) := by
  refine xm_of (cc := cX2_exchangeUpTo) (maxL := 3) (ret := some .int) (by decide) rfl (Nat.le_of_ble_eq_true rfl) ?_
  intro p e s m below meth c A hAe hx hb hr hml hts0 hown hlk hin hsz H locs hP hK hD hA hS hE ls hl
  have hts : ∀ w ∈ ALLG, w.before _ s = true := fun w h => hts0 w (List.mem_cons_of_mem _ h)
  rw [← hAe]
  have hl : lv_has ls 3 [(0, .ref (q 0)), (1, .int (nI n0))] := hl
  refine lv_iconst (v := nI 0) hx hb dX2_exchangeUpTo_0 (by decide) ?_
  refine lv_istore_n (lv' := [(2, .int (nI 0)), (0, .ref (q 0)), (1, .int (nI n0))]) hx hb dX2_exchangeUpTo_1 rfl hl (by decide) rfl (fun ls hl => ?_)
  have L2 : ∀ (fuel : Nat) (i : Nat) (v : RS), (i ≤ n0) → (RB v) → (RC v) → (∀ k u, impR (n0 - i) v k u → impR n0 r (i + k) u) → n0 - i < fuel → ∀ (H : Heap) (locs : List Loc), va_P (dC, dI) vwCl (wR q cI cZ v) H → va_D A (wR q cI cZ v) → va_S A s.heap H locs → ∀ ls : Array Slot, lv_has ls 3 [(0, .ref (q 0)), (1, .int (nI n0)), (2, .int (nI i))] → W p l e ({ frames := 5, cells := 0, slots := 0, locals := 113 } : Room) s m ([.ref (q 0), .int (nI n0)] : List Value).toArray below meth c H locs 0 0 (MQ below (va_Qi (fun (x : Int32) (u : RS) => ∃ k, k ≤ n0 ∧ x = nI k ∧ impR n0 r k u) (fun (u : RS) => cB (dC, dI) vwCl [(cI, .int), (cZ, .boolean)] (wR q cI cZ u) (A)) (A)) ([.ref (q 0), .int (nI n0)] : List Value).toArray s 0 0 A) (F0 m 2 ls []) := by
    intro fuel
    induction fuel with
    | zero => intro i v i1 hv1 hv2 o1 hm H locs hP hD hS ls hl; exact absurd hm (Nat.not_lt_zero _)
    | succ fuel ih2 =>
      intro i v i1 hv1 hv2 o1 hm H locs hP hD hS ls hl
      refine lv_iload_n hx hb dX2_exchangeUpTo_2 rfl (lv_at hl 2 rfl) ?_
      refine lv_iload_n hx hb dX2_exchangeUpTo_3 rfl (lv_at hl 1 rfl) ?_
      refine xn_cge (tgt := 22) hx hb (by omega) (by omega) dX2_exchangeUpTo_4 (by decide) (fun c_1 => ?_) (fun c_1 => ?_)
      · refine lv_iload_n hx hb dX2_exchangeUpTo_22 rfl (lv_at hl 1 rfl) ?_
        exact xr_i hx hb hr hlk (u := v) (⟨n0, Nat.le_refl _, rfl, by have h8 := o1 0 v (by rw [show n0 - i = 0 by omega]; exact ⟨rfl, rfl⟩); rw [show i + 0 = n0 by omega] at h8; exact h8⟩) hP hK hD hS dX2_exchangeUpTo_23
      · refine lv_aload_n hx hb dX2_exchangeUpTo_7 rfl (lv_at hl 0 rfl) ?_
        refine xc_Vi (As := []) (wr := []) ⟨hx, hb, hml, hown, hts⟩ (c_Rows_exchangeOnce l dC dI q cI cZ H.size v hv1 hv2) (cwV 0 hts (gV tw_363 tw_365 sw_7 tw_2 tw_366) rfl rfl rfl (by decide +kernel) ⟨Nat.le_of_ble_eq_true rfl, Nat.le_of_ble_eq_true rfl⟩) rfl hl.1 rfl (Nat.le_of_ble_eq_true rfl) dX2_exchangeUpTo_8 ⟨Nat.zero_le _, Nat.zero_le _⟩ hP hD hK hS hA [0, 1, 2, 3, 4, 5, 6, 7, 8, 9] [] rfl rfl (by decide) (by decide) (by decide) [0, 1] rfl (q0 := 0) rfl rfl rfl eT_M (trivial) (fun r_2 u_3 H locs w_4 hP hD hS => ?_)
        have hP : va_P (dC, dI) vwCl (wR q cI cZ u_3) H := hP
        have hD : va_D A (wR q cI cZ u_3) := hD
        rcases w_4 with ⟨rfl, h9⟩ | ⟨rfl, e8, h9⟩
        · skip
          refine xn_zne (tgt := 16) hx hb (by omega) dX2_exchangeUpTo_11 (by decide) (fun c_5 => ?_) (fun c_5 => ?_)
          · have ok9 := stepR_ok hv1 hv2 h9
            refine lv_iinc (v := nI (i + 1)) (lv' := [(2, .int (nI (i + 1))), (0, .ref (q 0)), (1, .int (nI n0))]) hx hb dX2_exchangeUpTo_16 hl (k := 2) rfl (nI_1 _) (by decide) rfl (fun ls hl => ?_)
            refine lv_goto (tgt := 2) hx hb dX2_exchangeUpTo_19 (by decide) ?_
            exact ih2 (i + 1) u_3 (by omega) ok9.1 ok9.2 (fun k u z => by rw [show i + 1 + k = i + (k + 1) by omega]; exact o1 _ _ (by rw [show n0 - i = (n0 - (i + 1)) + 1 by omega]; exact Or.inr ⟨_, _, h9, z, rfl⟩)) (by omega) H locs hP hD hS ls (lv_sub hl [1, 2, 0] rfl)
          · exact absurd (by assumption) (by decide)
        · skip
          rw [e8] at hP hD
          refine xn_zne (tgt := 16) hx hb (by omega) dX2_exchangeUpTo_11 (by decide) (fun c_6 => ?_) (fun c_6 => ?_)
          · exact absurd (by assumption) (Nat.lt_irrefl 0)
          · refine lv_iload_n hx hb dX2_exchangeUpTo_14 rfl (lv_at hl 2 rfl) ?_
            exact xr_i hx hb hr hlk (u := v) (⟨i, i1, rfl, o1 0 v (impR_no h9)⟩) hP hK hD hS dX2_exchangeUpTo_15
  exact L2 ((n0 - 0) + 1) 0 r (Nat.zero_le _) hB hC (fun k u z => by rw [Nat.zero_add]; exact z) (Nat.lt_succ_self _) H locs hP hD hS ls (lv_sub hl [1, 2, 0] rfl)
set_option maxHeartbeats 4000000 in
set_option maxRecDepth 100000 in
theorem c_Rows_brokenRule (l : Launch) (dC : Nat → ClassId) (dI : Nat → Nat → Nat) (q : Nat → Nat) (cI cZ : ClassId) (sz : Nat) (r : RS) (k0 w0 : Nat) (hB : RB r) (h1 : k0 < 2 ^ 31) (h2 : w0 < 2) : Met l yX2_brokenRule (.code yX2_brokenRule cX2_brokenRule 6 (some .int) :: ALLG) ({ frames := 1, cells := 0, slots := 0, locals := 22 }) (va_Pc [.ref (q 0), .int (nI k0), .int (nI w0)] (cP (dC, dI) vwCl [(cI, .int), (cZ, .boolean)] (wR q cI cZ r) eT sz)) (va_Qi (fun (x : Int32) (_ : Unit) => rulR (brT r) (2 * r.n) k0 w0 x) (fun (_ : Unit) => cB (dC, dI) vwCl [(cI, .int), (cZ, .boolean)] (wR q cI cZ r) (va_A (wR q cI cZ r) sz)) (va_A (wR q cI cZ r) sz)) 0 0 (va_A (wR q cI cZ r) sz) := by
  refine xm_of (cc := cX2_brokenRule) (maxL := 6) (ret := some .int) (by decide) rfl (Nat.le_of_ble_eq_true rfl) ?_
  intro p e s m below meth c A hAe hx hb hr hml hts0 hown hlk hin hsz H locs hP hK hD hA hS hE ls hl
  have hts : ∀ w ∈ ALLG, w.before _ s = true := fun w h => hts0 w (List.mem_cons_of_mem _ h)
  rw [← hAe]
  have hB0 := hB
  have b_n := hB.1
  have hl : lv_has ls 6 [(0, .ref (q 0)), (1, .int (nI k0)), (2, .int (nI w0))] := hl
  refine lv_iconst (v := nI 0) hx hb dX2_brokenRule_0 (by decide) ?_
  refine lv_istore_n (lv' := [(3, .int (nI 0)), (0, .ref (q 0)), (1, .int (nI k0)), (2, .int (nI w0))]) hx hb dX2_brokenRule_1 rfl hl (by decide) rfl (fun ls hl => ?_)
  refine lv_iconst (v := nI 0) hx hb dX2_brokenRule_2 (by decide) ?_
  refine lv_istore (lv' := [(4, .int (nI 0)), (3, .int (nI 0)), (0, .ref (q 0)), (1, .int (nI k0)), (2, .int (nI w0))]) hx hb dX2_brokenRule_3 hl (by decide) rfl (fun ls hl => ?_)
  have L5 : ∀ (fuel : Nat) (i : Nat) (bf : Nat), (i ≤ r.n) → (bf = sumN (brT r) (2 * i)) → (∀ t, t < 2 * i → ¬ (brT r t = 1 ∧ sumN (brT r) t = k0)) → r.n - i < fuel → ∀ (H : Heap) (locs : List Loc), va_P (dC, dI) vwCl (wR q cI cZ r) H → va_D A (wR q cI cZ r) → va_S A s.heap H locs → ∀ ls : Array Slot, lv_has ls 6 [(0, .ref (q 0)), (1, .int (nI k0)), (2, .int (nI w0)), (3, .int (nI bf)), (4, .int (nI i))] → W p l e ({ frames := 1, cells := 0, slots := 0, locals := 22 } : Room) s m ([.ref (q 0), .int (nI k0), .int (nI w0)] : List Value).toArray below meth c H locs 0 0 (MQ below (va_Qi (fun (x : Int32) (_ : Unit) => rulR (brT r) (2 * r.n) k0 w0 x) (fun (_ : Unit) => cB (dC, dI) vwCl [(cI, .int), (cZ, .boolean)] (wR q cI cZ r) (A)) (A)) ([.ref (q 0), .int (nI k0), .int (nI w0)] : List Value).toArray s 0 0 A) (F0 m 5 ls []) := by
    intro fuel
    induction fuel with
    | zero => intro i bf i1 e1 o1 hm H locs hP hD hS ls hl; exact absurd hm (Nat.not_lt_zero _)
    | succ fuel ih5 =>
      intro i bf i1 e1 o1 hm H locs hP hD hS ls hl
      refine lv_iload hx hb dX2_brokenRule_5 (lv_at hl 4 rfl) ?_
      refine lv_aload_n hx hb dX2_brokenRule_7 rfl (lv_at hl 0 rfl) ?_
      refine va_get (D := (dC, dI)) (ci := 2) (v := .int (nI (RS.n r))) (C := RX2) (T := TX2) (N := 12) hx hb hts inX2 hown hK hP 0 rfl rfl 0 (by decide) (hts _ tw_27) (fun _ h9 => h9) rfl dX2_brokenRule_8 ?_
      refine xn_cge (tgt := 66) hx hb (by omega) (by omega) dX2_brokenRule_11 (by decide) (fun c_1 => ?_) (fun c_1 => ?_)
      · refine lv_iconst (v := zI (-1)) hx hb dX2_brokenRule_66 (by decide) ?_
        exact xr_i hx hb hr hlk (u := ()) (Or.inr ⟨fun t z => o1 t (by omega), rfl⟩) hP hK hD hS dX2_brokenRule_67
      · refine lv_iconst (v := nI 0) hx hb dX2_brokenRule_14 (by decide) ?_
        refine lv_istore (lv' := [(5, .int (nI 0)), (0, .ref (q 0)), (1, .int (nI k0)), (2, .int (nI w0)), (3, .int (nI bf)), (4, .int (nI i))]) hx hb dX2_brokenRule_15 hl (by decide) rfl (fun ls hl => ?_)
        have L17 : ∀ (fuel : Nat) (j : Nat) (bf : Nat), (j ≤ 2) → (bf = sumN (brT r) (2 * i + j)) → (∀ t, t < 2 * i + j → ¬ (brT r t = 1 ∧ sumN (brT r) t = k0)) → 2 - j < fuel → ∀ (H : Heap) (locs : List Loc), va_P (dC, dI) vwCl (wR q cI cZ r) H → va_D A (wR q cI cZ r) → va_S A s.heap H locs → ∀ ls : Array Slot, lv_has ls 6 [(0, .ref (q 0)), (1, .int (nI k0)), (2, .int (nI w0)), (3, .int (nI bf)), (4, .int (nI i)), (5, .int (nI j))] → W p l e ({ frames := 1, cells := 0, slots := 0, locals := 22 } : Room) s m ([.ref (q 0), .int (nI k0), .int (nI w0)] : List Value).toArray below meth c H locs 0 0 (MQ below (va_Qi (fun (x : Int32) (_ : Unit) => rulR (brT r) (2 * r.n) k0 w0 x) (fun (_ : Unit) => cB (dC, dI) vwCl [(cI, .int), (cZ, .boolean)] (wR q cI cZ r) (A)) (A)) ([.ref (q 0), .int (nI k0), .int (nI w0)] : List Value).toArray s 0 0 A) (F0 m 17 ls []) := by
          intro fuel
          induction fuel with
          | zero => intro j bf j2 e2 o2 hm H locs hP hD hS ls hl; exact absurd hm (Nat.not_lt_zero _)
          | succ fuel ih17 =>
            intro j bf j2 e2 o2 hm H locs hP hD hS ls hl
            refine lv_iload hx hb dX2_brokenRule_17 (lv_at hl 5 rfl) ?_
            refine lv_iconst (v := nI 1) hx hb dX2_brokenRule_19 (by decide) ?_
            refine xn_cgt (tgt := 60) hx hb (by omega) (by omega) dX2_brokenRule_20 (by decide) (fun c_2 => ?_) (fun c_2 => ?_)
            · refine lv_iinc (v := nI (i + 1)) (lv' := [(4, .int (nI (i + 1))), (0, .ref (q 0)), (1, .int (nI k0)), (2, .int (nI w0)), (3, .int (nI bf)), (5, .int (nI j))]) hx hb dX2_brokenRule_60 hl (k := 4) rfl (nI_1 _) (by decide) rfl (fun ls hl => ?_)
              refine lv_goto (tgt := 5) hx hb dX2_brokenRule_63 (by decide) ?_
              exact ih5 (i + 1) bf (by omega) (by rw [e2, show 2 * (i + 1) = 2 * i + j by omega]) (fun t z => o2 t (by omega)) (by omega) H locs hP hD hS ls (lv_sub hl [1, 2, 3, 4, 0] rfl)
            · have g1 := brk_le hB0 i j
              have g2 := sumN_le (brk_le' hB0) (2 * i + j)
              have eT : brT r (2 * i + j) = brk r i j := by unfold brT; rw [show (2 * i + j) / 2 = i by omega, show (2 * i + j) % 2 = j by omega]
              have eS : sumN (brT r) (2 * i + j + 1) = sumN (brT r) (2 * i + j) + brk r i j := by rw [← eT]; rfl
              refine lv_aload_n hx hb dX2_brokenRule_23 rfl (lv_at hl 0 rfl) ?_
              refine lv_iload hx hb dX2_brokenRule_24 (lv_at hl 4 rfl) ?_
              refine lv_iload hx hb dX2_brokenRule_26 (lv_at hl 5 rfl) ?_
              refine xc_Vi (As := [.int (nI i), .int (nI j)]) (wr := []) ⟨hx, hb, hml, hown, hts⟩ (c_Rows_breaks l dC dI q cI cZ H.size r i j hB0 (by omega) (by omega)) (cwV 2 hts (gV tw_395 tw_397 sw_12 tw_2 tw_398) rfl rfl rfl (by decide +kernel) ⟨Nat.le_of_ble_eq_true rfl, Nat.le_of_ble_eq_true rfl⟩) rfl hl.1 rfl (Nat.le_of_ble_eq_true rfl) dX2_brokenRule_28 ⟨Nat.zero_le _, Nat.zero_le _⟩ hP hD hK hS hA [0, 1, 2, 3, 4, 5, 6, 7, 8, 9] [] rfl rfl (by decide) (by decide) (by decide) [0, 1] rfl (q0 := 0) rfl rfl rfl eT_M (trivial) (fun r_3 u_4 H locs w_5 hP hD hS => ?_)
              obtain rfl := w_5
              have hP : va_P (dC, dI) vwCl (wR q cI cZ r) H := hP
              have hD : va_D A (wR q cI cZ r) := hD
              refine xn_zeq (tgt := 54) hx hb (by omega) dX2_brokenRule_31 (by decide) (fun c_6 => ?_) (fun c_6 => ?_)
              · refine lv_iinc (v := nI (j + 1)) (lv' := [(5, .int (nI (j + 1))), (0, .ref (q 0)), (1, .int (nI k0)), (2, .int (nI w0)), (3, .int (nI bf)), (4, .int (nI i))]) hx hb dX2_brokenRule_54 hl (k := 5) rfl (nI_1 _) (by decide) rfl (fun ls hl => ?_)
                refine lv_goto (tgt := 17) hx hb dX2_brokenRule_57 (by decide) ?_
                exact ih17 (j + 1) bf (by omega) (by rw [show 2 * i + (j + 1) = 2 * i + j + 1 by omega, eS]; omega) (fun t z => (Nat.lt_succ_iff_lt_or_eq.mp (show t < 2 * i + j + 1 by omega)).elim (fun y => o2 t y) (fun y => by rw [y, eT]; omega)) (by omega) H locs hP hD hS ls (lv_sub hl [1, 2, 3, 4, 5, 0] rfl)
              · refine lv_iload_n hx hb dX2_brokenRule_34 rfl (lv_at hl 3 rfl) ?_
                refine lv_iload_n hx hb dX2_brokenRule_35 rfl (lv_at hl 1 rfl) ?_
                refine xn_cne (tgt := 51) hx hb (by omega) (by omega) dX2_brokenRule_36 (by decide) (fun c_7 => ?_) (fun c_7 => ?_)
                · refine lv_iinc (v := nI (bf + 1)) (lv' := [(3, .int (nI (bf + 1))), (0, .ref (q 0)), (1, .int (nI k0)), (2, .int (nI w0)), (4, .int (nI i)), (5, .int (nI j))]) hx hb dX2_brokenRule_51 hl (k := 3) rfl (nI_1 _) (by decide) rfl (fun ls hl => ?_)
                  refine lv_iinc (v := nI (j + 1)) (lv' := [(5, .int (nI (j + 1))), (3, .int (nI (bf + 1))), (0, .ref (q 0)), (1, .int (nI k0)), (2, .int (nI w0)), (4, .int (nI i))]) hx hb dX2_brokenRule_54 hl (k := 5) rfl (nI_1 _) (by decide) rfl (fun ls hl => ?_)
                  refine lv_goto (tgt := 17) hx hb dX2_brokenRule_57 (by decide) ?_
                  exact ih17 (j + 1) (bf + 1) (by omega) (by rw [show 2 * i + (j + 1) = 2 * i + j + 1 by omega, eS]; omega) (fun t z => (Nat.lt_succ_iff_lt_or_eq.mp (show t < 2 * i + j + 1 by omega)).elim (fun y => o2 t y) (fun y => by rw [y, eT]; omega)) (by omega) H locs hP hD hS ls (lv_sub hl [2, 3, 4, 1, 5, 0] rfl)
                · refine lv_iload_n hx hb dX2_brokenRule_39 rfl (lv_at hl 2 rfl) ?_
                  refine xn_zne (tgt := 48) hx hb (by omega) dX2_brokenRule_40 (by decide) (fun c_8 => ?_) (fun c_8 => ?_)
                  · refine lv_iload hx hb dX2_brokenRule_48 (lv_at hl 4 rfl) ?_
                    exact xr_i hx hb hr hlk (u := ()) (Or.inl ⟨2 * i + j, by omega, by rw [eT]; omega, by omega, by rw [if_neg (by omega), show (2 * i + j) / 2 = i by omega]⟩) hP hK hD hS dX2_brokenRule_50
                  · refine lv_iload hx hb dX2_brokenRule_43 (lv_at hl 5 rfl) ?_
                    refine lv_goto (tgt := 50) hx hb dX2_brokenRule_45 (by decide) ?_
                    exact xr_i hx hb hr hlk (u := ()) (Or.inl ⟨2 * i + j, by omega, by rw [eT]; omega, by omega, by rw [if_pos (by omega), show (2 * i + j) % 2 = j by omega]⟩) hP hK hD hS dX2_brokenRule_50
        exact L17 ((2 - 0) + 1) 0 bf (by decide) e1 o1 (Nat.lt_succ_self _) H locs hP hD hS ls (lv_sub hl [1, 2, 3, 4, 5, 0] rfl)
  exact L5 ((r.n - 0) + 1) 0 0 (Nat.zero_le _) rfl (fun t z => absurd z (by omega)) (Nat.lt_succ_self _) H locs hP hD hS ls (lv_sub hl [2, 3, 4, 1, 0] rfl)
end
section
/-! sorting and cutting -/
def insP (r : RS) (t : Nat) : Nat → (Nat → Nat) → (Nat → Nat)
  | 0, g => va_up g 0 t
  | p + 1, g => if sbN r t (g p) = 1 then insP r t p (va_up g (p + 1) (g p)) else va_up g (p + 1) t
def srt (r : RS) : Nat → (Nat → Nat)
  | 0 => r.rw
  | n + 1 => insP r n n (srt r n)
theorem insP_pos {r : RS} {t p : Nat} {g : Nat → Nat} (h : 0 < p) : insP r t p g = if sbN r t (g (p - 1)) = 1 then insP r t (p - 1) (va_up g p (g (p - 1))) else va_up g p t := by
  obtain ⟨k, rfl⟩ : ∃ k, p = k + 1 := ⟨p - 1, by omega⟩
  rfl
theorem insP_lt {r : RS} {t : Nat} (ht : t < 32) (p : Nat) : ∀ {g : Nat → Nat}, (∀ k, g k < 32) → ∀ k, insP r t p g k < 32 := by
  induction p with
  | zero => intro g hg; exact up_lt hg ht 0
  | succ p ih =>
    intro g hg
    unfold insP; split
    · exact ih (up_lt hg (hg p) _)
    · exact up_lt hg ht _
theorem srt_lt {r : RS} (hB : RB r) {n : Nat} (hn : n ≤ 32) : ∀ k, srt r n k < 32 := by
  induction n with
  | zero => exact hB.2.2.2.2.2.2.2.2.2.1
  | succ n ih => exact insP_lt (by omega) n (ih (by omega))
def plc (g : Nat → Nat) (po : Nat → Int) : Nat → (Nat → Int)
  | 0 => po
  | i + 1 => va_up (plc g po i) (g i) (i : Int)
def srtF (r : RS) : RS := ((r.s_rw (srt r r.n)).s_p r.n).s_po (plc (srt r r.n) r.po r.n)
theorem RB_rw {r : RS} {g : Nat → Nat} (h : RB r) (hg : ∀ k, g k < 32) : RB (r.s_rw g) := ⟨h.1, h.2.1, h.2.2.1, h.2.2.2.1, h.2.2.2.2.1, h.2.2.2.2.2.1, h.2.2.2.2.2.2.1, h.2.2.2.2.2.2.2.1, h.2.2.2.2.2.2.2.2.1, hg, h.2.2.2.2.2.2.2.2.2.2.1, h.2.2.2.2.2.2.2.2.2.2.2⟩
theorem plc_lt {g : Nat → Nat} {po : Nat → Int} (h : ∀ k, -1 ≤ po k ∧ po k < 32) {n : Nat} (hn : n ≤ 32) : ∀ k, -1 ≤ plc g po n k ∧ plc g po n k < 32 := by
  induction n with
  | zero => exact h
  | succ n ih => exact up_lti (ih (by omega)) ⟨by omega, by omega⟩ _
theorem RB_srtF {r : RS} (h : RB r) : RB (srtF r) := ⟨h.1, h.2.1, Nat.le_refl _, h.2.2.2.1, h.2.2.2.2.1, h.2.2.2.2.2.1, h.2.2.2.2.2.2.1, h.2.2.2.2.2.2.2.1, plc_lt h.2.2.2.2.2.2.2.2.1 h.1, srt_lt h h.1, h.2.2.2.2.2.2.2.2.2.2.1, h.2.2.2.2.2.2.2.2.2.2.2⟩
/-- where chain i begins, of p latches in c chains -/
def bg (p c : Nat) : Nat → Nat
  | 0 => 0
  | i + 1 => bg p c i + p / c + (if i < p % c then 1 else 0)
theorem bg_eq (p c i : Nat) : bg p c i = i * (p / c) + min i (p % c) := by
  induction i with
  | zero => simp [bg]
  | succ i ih =>
    have e : (i + 1) * (p / c) = i * (p / c) + p / c := by rw [Nat.add_mul, Nat.one_mul]
    simp only [bg, ih, e]
    split <;> omega
theorem bg_end (p : Nat) {c : Nat} (hc : 0 < c) : bg p c c = p := by
  rw [bg_eq, Nat.min_eq_right (Nat.le_of_lt (Nat.mod_lt _ hc))]
  exact Nat.div_add_mod p c
theorem bg_mono (p c i : Nat) : bg p c i ≤ bg p c (i + 1) := Nat.le_trans (Nat.le_add_right _ (p / c)) (Nat.le_add_right _ _)
theorem bg_le' (p c : Nat) {i j : Nat} (h : i ≤ j) : bg p c i ≤ bg p c j := by
  induction j with
  | zero => rw [show i = 0 by omega]; exact Nat.le_refl _
  | succ j ih =>
    by_cases e : i = j + 1
    · rw [e]; exact Nat.le_refl _
    · exact Nat.le_trans (ih (by omega)) (bg_mono p c j)
theorem bg_le (p : Nat) {c i : Nat} (hc : 0 < c) (hi : i ≤ c) : bg p c i ≤ p := Nat.le_trans (bg_le' p c hi) (Nat.le_of_eq (bg_end p hc))
def chF (p c : Nat) (ch : Nat → Nat) : Nat → (Nat → Nat)
  | 0 => ch
  | i + 1 => fun j => if bg p c i ≤ j ∧ j < bg p c (i + 1) then i else chF p c ch i j
def chI (p c : Nat) (ch : Nat → Nat) (i e : Nat) : Nat → Nat := fun j => if bg p c i ≤ j ∧ j < e then i else chF p c ch i j
theorem chI_0 (p c : Nat) (ch : Nat → Nat) (i : Nat) : chI p c ch i (bg p c i) = chF p c ch i := by
  funext j; unfold chI; rw [if_neg (by omega)]
theorem chI_e (p c : Nat) (ch : Nat → Nat) (i : Nat) : chI p c ch i (bg p c (i + 1)) = chF p c ch (i + 1) := rfl
theorem chI_s {p c i e : Nat} (ch : Nat → Nat) (h : bg p c i ≤ e) : va_up (chI p c ch i e) e i = chI p c ch i (e + 1) := by
  funext j; unfold va_up chI
  by_cases q : j = e
  · rw [if_pos q, if_pos (by omega)]
  · rw [if_neg q]
    by_cases q2 : bg p c i ≤ j ∧ j < e
    · rw [if_pos q2, if_pos (by omega)]
    · rw [if_neg q2, if_neg (by omega)]
theorem mod_sub (p c : Nat) : p - p / c * c = p % c := by
  have h := Nat.div_add_mod p c
  rw [Nat.mul_comm] at h
  omega
theorem bg_s1 {p c i : Nat} (h : i < p % c) : bg p c i + p / c + 1 = bg p c (i + 1) := by simp only [bg]; rw [if_pos h]
theorem bg_s0 {p c i : Nat} (h : ¬ i < p % c) : bg p c i + p / c + 0 = bg p c (i + 1) := by simp only [bg]; rw [if_neg h]
def cutF (r : RS) (c : Nat) : RS := ((r.s_st (cpN (bg r.p c) r.st (c + 1))).s_ch (chF r.p c r.ch c)).s_c c
def arrF (r : RS) (c : Nat) : RS := cutF (srtF r) c
theorem chF_lt {p c : Nat} {ch : Nat → Nat} (h : ∀ k, ch k < 8) {i : Nat} (hi : i ≤ 8) : ∀ k, chF p c ch i k < 8 := by
  induction i with
  | zero => exact h
  | succ i ih =>
    intro k; simp only [chF]; split
    · omega
    · exact ih (by omega) k
theorem sw_5 : Cond.selects "ScanRows$Rows" (⟨"ScanRows$Rows", "standsBefore", "(II)Z"⟩ : MethodName) (⟨"ScanRows$Rows", "standsBefore", "(II)Z"⟩ : MethodName) ∈ ALLG := al_s (i := 5) (by decide +kernel) (by decide +kernel)
theorem tw_295 : (Cond.methodLink "ScanRows$Rows" (55 : Nat) ({ cls := "ScanRows$Rows", name := "standsBefore", desc := "(II)Z" } : Jvm.MethodName)) ∈ ALLG := al_t (i := 295) (by decide +kernel) (by decide +kernel)
theorem tw_297 : (Cond.instanceMethod ({ cls := "ScanRows$Rows", name := "standsBefore", desc := "(II)Z" } : Jvm.MethodName)) ∈ ALLG := al_t (i := 297) (by decide +kernel) (by decide +kernel)
theorem tw_298 : (Cond.code ({ cls := "ScanRows$Rows", name := "standsBefore", desc := "(II)Z" } : Jvm.MethodName) prog_4_method_5_code (3 : Nat) (Option.some FieldType.boolean)) ∈ ALLG := al_t (i := 298) (by decide +kernel) (by decide +kernel)
theorem dX2_shiftChains_0 : decode cX2_shiftChains 0 = .ok (.iconst 0, 1) := by decide +kernel
theorem dX2_shiftChains_1 : decode cX2_shiftChains 1 = .ok (.istore_n 2, 1) := by decide +kernel
theorem dX2_shiftChains_2 : decode cX2_shiftChains 2 = .ok (.iconst 0, 1) := by decide +kernel
theorem dX2_shiftChains_3 : decode cX2_shiftChains 3 = .ok (.istore_n 3, 1) := by decide +kernel
theorem dX2_shiftChains_4 : decode cX2_shiftChains 4 = .ok (.iload_n 3, 1) := by decide +kernel
theorem dX2_shiftChains_5 : decode cX2_shiftChains 5 = .ok (.aload_n 0, 1) := by decide +kernel
theorem dX2_shiftChains_6 : decode cX2_shiftChains 6 = .ok (.getfield 62, 3) := by decide +kernel
theorem dX2_shiftChains_9 : decode cX2_shiftChains 9 = .ok (.if_icmp .ge 41, 3) := by decide +kernel
theorem dX2_shiftChains_12 : decode cX2_shiftChains 12 = .ok (.iload_n 1, 1) := by decide +kernel
theorem dX2_shiftChains_13 : decode cX2_shiftChains 13 = .ok (.iload_n 3, 1) := by decide +kernel
theorem dX2_shiftChains_14 : decode cX2_shiftChains 14 = .ok (.ishr, 1) := by decide +kernel
theorem dX2_shiftChains_15 : decode cX2_shiftChains 15 = .ok (.iconst 1, 1) := by decide +kernel
theorem dX2_shiftChains_16 : decode cX2_shiftChains 16 = .ok (.iand, 1) := by decide +kernel
theorem dX2_shiftChains_17 : decode cX2_shiftChains 17 = .ok (.istore 4, 2) := by decide +kernel
theorem dX2_shiftChains_19 : decode cX2_shiftChains 19 = .ok (.iload_n 2, 1) := by decide +kernel
theorem dX2_shiftChains_20 : decode cX2_shiftChains 20 = .ok (.aload_n 0, 1) := by decide +kernel
theorem dX2_shiftChains_21 : decode cX2_shiftChains 21 = .ok (.aload_n 0, 1) := by decide +kernel
theorem dX2_shiftChains_22 : decode cX2_shiftChains 22 = .ok (.getfield 37, 3) := by decide +kernel
theorem dX2_shiftChains_25 : decode cX2_shiftChains 25 = .ok (.iload_n 3, 1) := by decide +kernel
theorem dX2_shiftChains_26 : decode cX2_shiftChains 26 = .ok (.iaload, 1) := by decide +kernel
theorem dX2_shiftChains_27 : decode cX2_shiftChains 27 = .ok (.aload_n 0, 1) := by decide +kernel
theorem dX2_shiftChains_28 : decode cX2_shiftChains 28 = .ok (.getfield 37, 3) := by decide +kernel
theorem dX2_shiftChains_31 : decode cX2_shiftChains 31 = .ok (.iload_n 3, 1) := by decide +kernel
theorem dX2_shiftChains_32 : decode cX2_shiftChains 32 = .ok (.iconst 1, 1) := by decide +kernel
theorem dX2_shiftChains_33 : decode cX2_shiftChains 33 = .ok (.iadd, 1) := by decide +kernel
theorem dX2_shiftChains_34 : decode cX2_shiftChains 34 = .ok (.iaload, 1) := by decide +kernel
theorem dX2_shiftChains_35 : decode cX2_shiftChains 35 = .ok (.iload 4, 2) := by decide +kernel
theorem dX2_shiftChains_37 : decode cX2_shiftChains 37 = .ok (.invokevirtual 97, 3) := by decide +kernel
theorem dX2_shiftChains_40 : decode cX2_shiftChains 40 = .ok (.iload_n 3, 1) := by decide +kernel
theorem dX2_shiftChains_41 : decode cX2_shiftChains 41 = .ok (.ishl, 1) := by decide +kernel
theorem dX2_shiftChains_42 : decode cX2_shiftChains 42 = .ok (.ior, 1) := by decide +kernel
theorem dX2_shiftChains_43 : decode cX2_shiftChains 43 = .ok (.istore_n 2, 1) := by decide +kernel
theorem dX2_shiftChains_44 : decode cX2_shiftChains 44 = .ok (.iinc 3 1, 3) := by decide +kernel
theorem dX2_shiftChains_47 : decode cX2_shiftChains 47 = .ok (.goto (-43), 3) := by decide +kernel
theorem dX2_shiftChains_50 : decode cX2_shiftChains 50 = .ok (.iload_n 2, 1) := by decide +kernel
theorem dX2_shiftChains_51 : decode cX2_shiftChains 51 = .ok (.ireturn, 1) := by decide +kernel
theorem dX2_standsBefore_0 : decode cX2_standsBefore 0 = .ok (.aload_n 0, 1) := by decide +kernel
theorem dX2_standsBefore_1 : decode cX2_standsBefore 1 = .ok (.getfield 15, 3) := by decide +kernel
theorem dX2_standsBefore_4 : decode cX2_standsBefore 4 = .ok (.iload_n 1, 1) := by decide +kernel
theorem dX2_standsBefore_5 : decode cX2_standsBefore 5 = .ok (.iaload, 1) := by decide +kernel
theorem dX2_standsBefore_6 : decode cX2_standsBefore 6 = .ok (.aload_n 0, 1) := by decide +kernel
theorem dX2_standsBefore_7 : decode cX2_standsBefore 7 = .ok (.getfield 15, 3) := by decide +kernel
theorem dX2_standsBefore_10 : decode cX2_standsBefore 10 = .ok (.iload_n 2, 1) := by decide +kernel
theorem dX2_standsBefore_11 : decode cX2_standsBefore 11 = .ok (.iaload, 1) := by decide +kernel
theorem dX2_standsBefore_12 : decode cX2_standsBefore 12 = .ok (.if_icmp .eq 24, 3) := by decide +kernel
theorem dX2_standsBefore_15 : decode cX2_standsBefore 15 = .ok (.aload_n 0, 1) := by decide +kernel
theorem dX2_standsBefore_16 : decode cX2_standsBefore 16 = .ok (.getfield 15, 3) := by decide +kernel
theorem dX2_standsBefore_19 : decode cX2_standsBefore 19 = .ok (.iload_n 1, 1) := by decide +kernel
theorem dX2_standsBefore_20 : decode cX2_standsBefore 20 = .ok (.iaload, 1) := by decide +kernel
theorem dX2_standsBefore_21 : decode cX2_standsBefore 21 = .ok (.aload_n 0, 1) := by decide +kernel
theorem dX2_standsBefore_22 : decode cX2_standsBefore 22 = .ok (.getfield 15, 3) := by decide +kernel
theorem dX2_standsBefore_25 : decode cX2_standsBefore 25 = .ok (.iload_n 2, 1) := by decide +kernel
theorem dX2_standsBefore_26 : decode cX2_standsBefore 26 = .ok (.iaload, 1) := by decide +kernel
theorem dX2_standsBefore_27 : decode cX2_standsBefore 27 = .ok (.if_icmp .ge 7, 3) := by decide +kernel
theorem dX2_standsBefore_30 : decode cX2_standsBefore 30 = .ok (.iconst 1, 1) := by decide +kernel
theorem dX2_standsBefore_31 : decode cX2_standsBefore 31 = .ok (.goto 4, 3) := by decide +kernel
theorem dX2_standsBefore_34 : decode cX2_standsBefore 34 = .ok (.iconst 0, 1) := by decide +kernel
theorem dX2_standsBefore_35 : decode cX2_standsBefore 35 = .ok (.ireturn, 1) := by decide +kernel
theorem dX2_standsBefore_36 : decode cX2_standsBefore 36 = .ok (.aload_n 0, 1) := by decide +kernel
theorem dX2_standsBefore_37 : decode cX2_standsBefore 37 = .ok (.getfield 18, 3) := by decide +kernel
theorem dX2_standsBefore_40 : decode cX2_standsBefore 40 = .ok (.iload_n 1, 1) := by decide +kernel
theorem dX2_standsBefore_41 : decode cX2_standsBefore 41 = .ok (.iaload, 1) := by decide +kernel
theorem dX2_standsBefore_42 : decode cX2_standsBefore 42 = .ok (.aload_n 0, 1) := by decide +kernel
theorem dX2_standsBefore_43 : decode cX2_standsBefore 43 = .ok (.getfield 18, 3) := by decide +kernel
theorem dX2_standsBefore_46 : decode cX2_standsBefore 46 = .ok (.iload_n 2, 1) := by decide +kernel
theorem dX2_standsBefore_47 : decode cX2_standsBefore 47 = .ok (.iaload, 1) := by decide +kernel
theorem dX2_standsBefore_48 : decode cX2_standsBefore 48 = .ok (.if_icmp .eq 24, 3) := by decide +kernel
theorem dX2_standsBefore_51 : decode cX2_standsBefore 51 = .ok (.aload_n 0, 1) := by decide +kernel
theorem dX2_standsBefore_52 : decode cX2_standsBefore 52 = .ok (.getfield 18, 3) := by decide +kernel
theorem dX2_standsBefore_55 : decode cX2_standsBefore 55 = .ok (.iload_n 1, 1) := by decide +kernel
theorem dX2_standsBefore_56 : decode cX2_standsBefore 56 = .ok (.iaload, 1) := by decide +kernel
theorem dX2_standsBefore_57 : decode cX2_standsBefore 57 = .ok (.aload_n 0, 1) := by decide +kernel
theorem dX2_standsBefore_58 : decode cX2_standsBefore 58 = .ok (.getfield 18, 3) := by decide +kernel
theorem dX2_standsBefore_61 : decode cX2_standsBefore 61 = .ok (.iload_n 2, 1) := by decide +kernel
theorem dX2_standsBefore_62 : decode cX2_standsBefore 62 = .ok (.iaload, 1) := by decide +kernel
theorem dX2_standsBefore_63 : decode cX2_standsBefore 63 = .ok (.if_icmp .ge 7, 3) := by decide +kernel
theorem dX2_standsBefore_66 : decode cX2_standsBefore 66 = .ok (.iconst 1, 1) := by decide +kernel
theorem dX2_standsBefore_67 : decode cX2_standsBefore 67 = .ok (.goto 4, 3) := by decide +kernel
theorem dX2_standsBefore_70 : decode cX2_standsBefore 70 = .ok (.iconst 0, 1) := by decide +kernel
theorem dX2_standsBefore_71 : decode cX2_standsBefore 71 = .ok (.ireturn, 1) := by decide +kernel
theorem dX2_standsBefore_72 : decode cX2_standsBefore 72 = .ok (.aload_n 0, 1) := by decide +kernel
theorem dX2_standsBefore_73 : decode cX2_standsBefore 73 = .ok (.getfield 21, 3) := by decide +kernel
theorem dX2_standsBefore_76 : decode cX2_standsBefore 76 = .ok (.iload_n 1, 1) := by decide +kernel
theorem dX2_standsBefore_77 : decode cX2_standsBefore 77 = .ok (.iaload, 1) := by decide +kernel
theorem dX2_standsBefore_78 : decode cX2_standsBefore 78 = .ok (.aload_n 0, 1) := by decide +kernel
theorem dX2_standsBefore_79 : decode cX2_standsBefore 79 = .ok (.getfield 21, 3) := by decide +kernel
theorem dX2_standsBefore_82 : decode cX2_standsBefore 82 = .ok (.iload_n 2, 1) := by decide +kernel
theorem dX2_standsBefore_83 : decode cX2_standsBefore 83 = .ok (.iaload, 1) := by decide +kernel
theorem dX2_standsBefore_84 : decode cX2_standsBefore 84 = .ok (.if_icmp .ge 7, 3) := by decide +kernel
theorem dX2_standsBefore_87 : decode cX2_standsBefore 87 = .ok (.iconst 1, 1) := by decide +kernel
theorem dX2_standsBefore_88 : decode cX2_standsBefore 88 = .ok (.goto 4, 3) := by decide +kernel
theorem dX2_standsBefore_91 : decode cX2_standsBefore 91 = .ok (.iconst 0, 1) := by decide +kernel
theorem dX2_standsBefore_92 : decode cX2_standsBefore 92 = .ok (.ireturn, 1) := by decide +kernel
theorem dX2_sortRow_0 : decode cX2_sortRow 0 = .ok (.iconst 0, 1) := by decide +kernel
theorem dX2_sortRow_1 : decode cX2_sortRow 1 = .ok (.istore_n 1, 1) := by decide +kernel
theorem dX2_sortRow_2 : decode cX2_sortRow 2 = .ok (.iload_n 1, 1) := by decide +kernel
theorem dX2_sortRow_3 : decode cX2_sortRow 3 = .ok (.aload_n 0, 1) := by decide +kernel
theorem dX2_sortRow_4 : decode cX2_sortRow 4 = .ok (.getfield 40, 3) := by decide +kernel
theorem dX2_sortRow_7 : decode cX2_sortRow 7 = .ok (.if_icmp .ge 58, 3) := by decide +kernel
theorem dX2_sortRow_10 : decode cX2_sortRow 10 = .ok (.iload_n 1, 1) := by decide +kernel
theorem dX2_sortRow_11 : decode cX2_sortRow 11 = .ok (.istore_n 2, 1) := by decide +kernel
theorem dX2_sortRow_12 : decode cX2_sortRow 12 = .ok (.iload_n 2, 1) := by decide +kernel
theorem dX2_sortRow_13 : decode cX2_sortRow 13 = .ok (.ifCond .le 39, 3) := by decide +kernel
theorem dX2_sortRow_16 : decode cX2_sortRow 16 = .ok (.aload_n 0, 1) := by decide +kernel
theorem dX2_sortRow_17 : decode cX2_sortRow 17 = .ok (.iload_n 1, 1) := by decide +kernel
theorem dX2_sortRow_18 : decode cX2_sortRow 18 = .ok (.aload_n 0, 1) := by decide +kernel
theorem dX2_sortRow_19 : decode cX2_sortRow 19 = .ok (.getfield 31, 3) := by decide +kernel
theorem dX2_sortRow_22 : decode cX2_sortRow 22 = .ok (.iload_n 2, 1) := by decide +kernel
theorem dX2_sortRow_23 : decode cX2_sortRow 23 = .ok (.iconst 1, 1) := by decide +kernel
theorem dX2_sortRow_24 : decode cX2_sortRow 24 = .ok (.isub, 1) := by decide +kernel
theorem dX2_sortRow_25 : decode cX2_sortRow 25 = .ok (.iaload, 1) := by decide +kernel
theorem dX2_sortRow_26 : decode cX2_sortRow 26 = .ok (.invokevirtual 55, 3) := by decide +kernel
theorem dX2_sortRow_29 : decode cX2_sortRow 29 = .ok (.ifCond .eq 23, 3) := by decide +kernel
theorem dX2_sortRow_32 : decode cX2_sortRow 32 = .ok (.aload_n 0, 1) := by decide +kernel
theorem dX2_sortRow_33 : decode cX2_sortRow 33 = .ok (.getfield 31, 3) := by decide +kernel
theorem dX2_sortRow_36 : decode cX2_sortRow 36 = .ok (.iload_n 2, 1) := by decide +kernel
theorem dX2_sortRow_37 : decode cX2_sortRow 37 = .ok (.aload_n 0, 1) := by decide +kernel
theorem dX2_sortRow_38 : decode cX2_sortRow 38 = .ok (.getfield 31, 3) := by decide +kernel
theorem dX2_sortRow_41 : decode cX2_sortRow 41 = .ok (.iload_n 2, 1) := by decide +kernel
theorem dX2_sortRow_42 : decode cX2_sortRow 42 = .ok (.iconst 1, 1) := by decide +kernel
theorem dX2_sortRow_43 : decode cX2_sortRow 43 = .ok (.isub, 1) := by decide +kernel
theorem dX2_sortRow_44 : decode cX2_sortRow 44 = .ok (.iaload, 1) := by decide +kernel
theorem dX2_sortRow_45 : decode cX2_sortRow 45 = .ok (.iastore, 1) := by decide +kernel
theorem dX2_sortRow_46 : decode cX2_sortRow 46 = .ok (.iinc 2 (-1), 3) := by decide +kernel
theorem dX2_sortRow_49 : decode cX2_sortRow 49 = .ok (.goto (-37), 3) := by decide +kernel
theorem dX2_sortRow_52 : decode cX2_sortRow 52 = .ok (.aload_n 0, 1) := by decide +kernel
theorem dX2_sortRow_53 : decode cX2_sortRow 53 = .ok (.getfield 31, 3) := by decide +kernel
theorem dX2_sortRow_56 : decode cX2_sortRow 56 = .ok (.iload_n 2, 1) := by decide +kernel
theorem dX2_sortRow_57 : decode cX2_sortRow 57 = .ok (.iload_n 1, 1) := by decide +kernel
theorem dX2_sortRow_58 : decode cX2_sortRow 58 = .ok (.iastore, 1) := by decide +kernel
theorem dX2_sortRow_59 : decode cX2_sortRow 59 = .ok (.iinc 1 1, 3) := by decide +kernel
theorem dX2_sortRow_62 : decode cX2_sortRow 62 = .ok (.goto (-60), 3) := by decide +kernel
theorem dX2_sortRow_65 : decode cX2_sortRow 65 = .ok (.aload_n 0, 1) := by decide +kernel
theorem dX2_sortRow_66 : decode cX2_sortRow 66 = .ok (.aload_n 0, 1) := by decide +kernel
theorem dX2_sortRow_67 : decode cX2_sortRow 67 = .ok (.getfield 40, 3) := by decide +kernel
theorem dX2_sortRow_70 : decode cX2_sortRow 70 = .ok (.putfield 59, 3) := by decide +kernel
theorem dX2_sortRow_73 : decode cX2_sortRow 73 = .ok (.iconst 0, 1) := by decide +kernel
theorem dX2_sortRow_74 : decode cX2_sortRow 74 = .ok (.istore_n 1, 1) := by decide +kernel
theorem dX2_sortRow_75 : decode cX2_sortRow 75 = .ok (.iload_n 1, 1) := by decide +kernel
theorem dX2_sortRow_76 : decode cX2_sortRow 76 = .ok (.aload_n 0, 1) := by decide +kernel
theorem dX2_sortRow_77 : decode cX2_sortRow 77 = .ok (.getfield 59, 3) := by decide +kernel
theorem dX2_sortRow_80 : decode cX2_sortRow 80 = .ok (.if_icmp .ge 21, 3) := by decide +kernel
theorem dX2_sortRow_83 : decode cX2_sortRow 83 = .ok (.aload_n 0, 1) := by decide +kernel
theorem dX2_sortRow_84 : decode cX2_sortRow 84 = .ok (.getfield 28, 3) := by decide +kernel
theorem dX2_sortRow_87 : decode cX2_sortRow 87 = .ok (.aload_n 0, 1) := by decide +kernel
theorem dX2_sortRow_88 : decode cX2_sortRow 88 = .ok (.getfield 31, 3) := by decide +kernel
theorem dX2_sortRow_91 : decode cX2_sortRow 91 = .ok (.iload_n 1, 1) := by decide +kernel
theorem dX2_sortRow_92 : decode cX2_sortRow 92 = .ok (.iaload, 1) := by decide +kernel
theorem dX2_sortRow_93 : decode cX2_sortRow 93 = .ok (.iload_n 1, 1) := by decide +kernel
theorem dX2_sortRow_94 : decode cX2_sortRow 94 = .ok (.iastore, 1) := by decide +kernel
theorem dX2_sortRow_95 : decode cX2_sortRow 95 = .ok (.iinc 1 1, 3) := by decide +kernel
theorem dX2_sortRow_98 : decode cX2_sortRow 98 = .ok (.goto (-23), 3) := by decide +kernel
theorem dX2_sortRow_101 : decode cX2_sortRow 101 = .ok (.return_, 1) := by decide +kernel
theorem dX2_cutRow_0 : decode cX2_cutRow 0 = .ok (.aload_n 0, 1) := by decide +kernel
theorem dX2_cutRow_1 : decode cX2_cutRow 1 = .ok (.getfield 59, 3) := by decide +kernel
theorem dX2_cutRow_4 : decode cX2_cutRow 4 = .ok (.iload_n 1, 1) := by decide +kernel
theorem dX2_cutRow_5 : decode cX2_cutRow 5 = .ok (.idiv, 1) := by decide +kernel
theorem dX2_cutRow_6 : decode cX2_cutRow 6 = .ok (.istore_n 2, 1) := by decide +kernel
theorem dX2_cutRow_7 : decode cX2_cutRow 7 = .ok (.aload_n 0, 1) := by decide +kernel
theorem dX2_cutRow_8 : decode cX2_cutRow 8 = .ok (.getfield 59, 3) := by decide +kernel
theorem dX2_cutRow_11 : decode cX2_cutRow 11 = .ok (.iload_n 2, 1) := by decide +kernel
theorem dX2_cutRow_12 : decode cX2_cutRow 12 = .ok (.iload_n 1, 1) := by decide +kernel
theorem dX2_cutRow_13 : decode cX2_cutRow 13 = .ok (.imul, 1) := by decide +kernel
theorem dX2_cutRow_14 : decode cX2_cutRow 14 = .ok (.isub, 1) := by decide +kernel
theorem dX2_cutRow_15 : decode cX2_cutRow 15 = .ok (.istore_n 3, 1) := by decide +kernel
theorem dX2_cutRow_16 : decode cX2_cutRow 16 = .ok (.iconst 0, 1) := by decide +kernel
theorem dX2_cutRow_17 : decode cX2_cutRow 17 = .ok (.istore 4, 2) := by decide +kernel
theorem dX2_cutRow_19 : decode cX2_cutRow 19 = .ok (.iconst 0, 1) := by decide +kernel
theorem dX2_cutRow_20 : decode cX2_cutRow 20 = .ok (.istore 5, 2) := by decide +kernel
theorem dX2_cutRow_22 : decode cX2_cutRow 22 = .ok (.iload 5, 2) := by decide +kernel
theorem dX2_cutRow_24 : decode cX2_cutRow 24 = .ok (.iload_n 1, 1) := by decide +kernel
theorem dX2_cutRow_25 : decode cX2_cutRow 25 = .ok (.if_icmp .ge 58, 3) := by decide +kernel
theorem dX2_cutRow_28 : decode cX2_cutRow 28 = .ok (.aload_n 0, 1) := by decide +kernel
theorem dX2_cutRow_29 : decode cX2_cutRow 29 = .ok (.getfield 37, 3) := by decide +kernel
theorem dX2_cutRow_32 : decode cX2_cutRow 32 = .ok (.iload 5, 2) := by decide +kernel
theorem dX2_cutRow_34 : decode cX2_cutRow 34 = .ok (.iload 4, 2) := by decide +kernel
theorem dX2_cutRow_36 : decode cX2_cutRow 36 = .ok (.iastore, 1) := by decide +kernel
theorem dX2_cutRow_37 : decode cX2_cutRow 37 = .ok (.iload 4, 2) := by decide +kernel
theorem dX2_cutRow_39 : decode cX2_cutRow 39 = .ok (.iload_n 2, 1) := by decide +kernel
theorem dX2_cutRow_40 : decode cX2_cutRow 40 = .ok (.iadd, 1) := by decide +kernel
theorem dX2_cutRow_41 : decode cX2_cutRow 41 = .ok (.iload 5, 2) := by decide +kernel
theorem dX2_cutRow_43 : decode cX2_cutRow 43 = .ok (.iload_n 3, 1) := by decide +kernel
theorem dX2_cutRow_44 : decode cX2_cutRow 44 = .ok (.if_icmp .ge 7, 3) := by decide +kernel
theorem dX2_cutRow_47 : decode cX2_cutRow 47 = .ok (.iconst 1, 1) := by decide +kernel
theorem dX2_cutRow_48 : decode cX2_cutRow 48 = .ok (.goto 4, 3) := by decide +kernel
theorem dX2_cutRow_51 : decode cX2_cutRow 51 = .ok (.iconst 0, 1) := by decide +kernel
theorem dX2_cutRow_52 : decode cX2_cutRow 52 = .ok (.iadd, 1) := by decide +kernel
theorem dX2_cutRow_53 : decode cX2_cutRow 53 = .ok (.istore 6, 2) := by decide +kernel
theorem dX2_cutRow_55 : decode cX2_cutRow 55 = .ok (.iload 4, 2) := by decide +kernel
theorem dX2_cutRow_57 : decode cX2_cutRow 57 = .ok (.iload 6, 2) := by decide +kernel
theorem dX2_cutRow_59 : decode cX2_cutRow 59 = .ok (.if_icmp .ge 18, 3) := by decide +kernel
theorem dX2_cutRow_62 : decode cX2_cutRow 62 = .ok (.aload_n 0, 1) := by decide +kernel
theorem dX2_cutRow_63 : decode cX2_cutRow 63 = .ok (.getfield 34, 3) := by decide +kernel
theorem dX2_cutRow_66 : decode cX2_cutRow 66 = .ok (.iload 4, 2) := by decide +kernel
theorem dX2_cutRow_68 : decode cX2_cutRow 68 = .ok (.iload 5, 2) := by decide +kernel
theorem dX2_cutRow_70 : decode cX2_cutRow 70 = .ok (.iastore, 1) := by decide +kernel
theorem dX2_cutRow_71 : decode cX2_cutRow 71 = .ok (.iinc 4 1, 3) := by decide +kernel
theorem dX2_cutRow_74 : decode cX2_cutRow 74 = .ok (.goto (-19), 3) := by decide +kernel
theorem dX2_cutRow_77 : decode cX2_cutRow 77 = .ok (.iinc 5 1, 3) := by decide +kernel
theorem dX2_cutRow_80 : decode cX2_cutRow 80 = .ok (.goto (-58), 3) := by decide +kernel
theorem dX2_cutRow_83 : decode cX2_cutRow 83 = .ok (.aload_n 0, 1) := by decide +kernel
theorem dX2_cutRow_84 : decode cX2_cutRow 84 = .ok (.getfield 37, 3) := by decide +kernel
theorem dX2_cutRow_87 : decode cX2_cutRow 87 = .ok (.iload_n 1, 1) := by decide +kernel
theorem dX2_cutRow_88 : decode cX2_cutRow 88 = .ok (.iload 4, 2) := by decide +kernel
theorem dX2_cutRow_90 : decode cX2_cutRow 90 = .ok (.iastore, 1) := by decide +kernel
theorem dX2_cutRow_91 : decode cX2_cutRow 91 = .ok (.aload_n 0, 1) := by decide +kernel
theorem dX2_cutRow_92 : decode cX2_cutRow 92 = .ok (.iload_n 1, 1) := by decide +kernel
theorem dX2_cutRow_93 : decode cX2_cutRow 93 = .ok (.putfield 62, 3) := by decide +kernel
theorem dX2_cutRow_96 : decode cX2_cutRow 96 = .ok (.return_, 1) := by decide +kernel
set_option maxHeartbeats 4000000 in
set_option maxRecDepth 100000 in
theorem c_Rows_shiftChains (l : Launch) (dC : Nat → ClassId) (dI : Nat → Nat → Nat) (q : Nat → Nat) (cI cZ : ClassId) (sz : Nat) (r : RS) (bits : Int32) (hB : RB r) : Met l yX2_shiftChains (.code yX2_shiftChains cX2_shiftChains 5 (some .int) :: ALLG) ({ frames := 1, cells := 0, slots := 0, locals := 27 }) (va_Pc [.ref (q 0), .int bits] (cP (dC, dI) vwCl [(cI, .int), (cZ, .boolean)] (wR q cI cZ r) eT sz)) (va_Qi (fun (x : Int32) (u : RS) => x = (shC r bits r.c).1 ∧ u = r.s_vb (shC r bits r.c).2) (fun (u : RS) => cB (dC, dI) vwCl [(cI, .int), (cZ, .boolean)] (wR q cI cZ u) (va_A (wR q cI cZ r) sz)) (va_A (wR q cI cZ r) sz)) 0 0 (va_A (wR q cI cZ r) sz) := by
  refine xm_of (cc := cX2_shiftChains) (maxL := 5) (ret := some .int) (by decide) rfl (Nat.le_of_ble_eq_true rfl) ?_
  intro p e s m below meth c A hAe hx hb hr hml hts0 hown hlk hin hsz H locs hP hK hD hA hS hE ls hl
  have hts : ∀ w ∈ ALLG, w.before _ s = true := fun w h => hts0 w (List.mem_cons_of_mem _ h)
  rw [← hAe]
  have hB0 := hB
  obtain ⟨b_n, b_c, b_p, b_vb, b_ck, b_xx, b_yy, b_fl, b_po, b_rw, b_ch, b_st⟩ := hB
  have hl : lv_has ls 5 [(0, .ref (q 0)), (1, .int bits)] := hl
  refine lv_iconst (v := nI 0) hx hb dX2_shiftChains_0 (by decide) ?_
  refine lv_istore_n (lv' := [(2, .int (nI 0)), (0, .ref (q 0)), (1, .int bits)]) hx hb dX2_shiftChains_1 rfl hl (by decide) rfl (fun ls hl => ?_)
  refine lv_iconst (v := nI 0) hx hb dX2_shiftChains_2 (by decide) ?_
  refine lv_istore_n (lv' := [(3, .int (nI 0)), (2, .int (nI 0)), (0, .ref (q 0)), (1, .int bits)]) hx hb dX2_shiftChains_3 rfl hl (by decide) rfl (fun ls hl => ?_)
  have L4 : ∀ (fuel : Nat) (i : Nat), (i ≤ r.c) → r.c - i < fuel → ∀ (H : Heap) (locs : List Loc), va_P (dC, dI) vwCl (wR q cI cZ (RS.s_vb r (shC r bits i).2)) H → va_D A (wR q cI cZ (RS.s_vb r (shC r bits i).2)) → va_S A s.heap H locs → ∀ ls : Array Slot, lv_has ls 5 [(0, .ref (q 0)), (1, .int bits), (2, .int ((shC r bits i).1)), (3, .int (nI i))] → W p l e ({ frames := 1, cells := 0, slots := 0, locals := 27 } : Room) s m ([.ref (q 0), .int bits] : List Value).toArray below meth c H locs 0 0 (MQ below (va_Qi (fun (x : Int32) (u : RS) => x = (shC r bits r.c).1 ∧ u = r.s_vb (shC r bits r.c).2) (fun (u : RS) => cB (dC, dI) vwCl [(cI, .int), (cZ, .boolean)] (wR q cI cZ u) (A)) (A)) ([.ref (q 0), .int bits] : List Value).toArray s 0 0 A) (F0 m 4 ls []) := by
    intro fuel
    induction fuel with
    | zero => intro i i1 hm H locs hP hD hS ls hl; exact absurd hm (Nat.not_lt_zero _)
    | succ fuel ih4 =>
      intro i i1 hm H locs hP hD hS ls hl
      refine lv_iload_n hx hb dX2_shiftChains_4 rfl (lv_at hl 3 rfl) ?_
      refine lv_aload_n hx hb dX2_shiftChains_5 rfl (lv_at hl 0 rfl) ?_
      refine va_get (D := (dC, dI)) (ci := 2) (v := .int (nI (RS.c r))) (C := RX2) (T := TX2) (N := 12) hx hb hts inX2 hown hK hP 0 rfl rfl 1 (by decide) (hts _ tw_29) (fun _ h9 => h9) rfl dX2_shiftChains_6 ?_
      refine xn_cge (tgt := 50) hx hb (by omega) (by omega) dX2_shiftChains_9 (by decide) (fun c_1 => ?_) (fun c_1 => ?_)
      · refine lv_iload_n hx hb dX2_shiftChains_50 rfl (lv_at hl 2 rfl) ?_
        exact xr_i hx hb hr hlk (u := RS.s_vb r (shC r bits i).2) (⟨by rw [show r.c = i by omega], by rw [show r.c = i by omega]⟩) hP hK hD hS dX2_shiftChains_51
      · refine lv_iload_n hx hb dX2_shiftChains_12 rfl (lv_at hl 1 rfl) ?_
        refine lv_iload_n hx hb dX2_shiftChains_13 rfl (lv_at hl 3 rfl) ?_
        refine lv_ishr hx hb dX2_shiftChains_14 ?_
        refine lv_iconst (v := nI 1) hx hb dX2_shiftChains_15 (by decide) ?_
        refine lv_iand hx hb dX2_shiftChains_16 ?_
        refine xt_i (show ((bits >>> ((nI i) &&& 31)) &&& (nI 1)) = nI (sbit bits i) from sbit_and _ _) ?_
        refine lv_istore (lv' := [(4, .int (nI (sbit bits i))), (0, .ref (q 0)), (1, .int bits), (2, .int ((shC r bits i).1)), (3, .int (nI i))]) hx hb dX2_shiftChains_17 hl (by decide) rfl (fun ls hl => ?_)
        refine lv_iload_n hx hb dX2_shiftChains_19 rfl (lv_at hl 3 rfl) ?_
        refine lv_aload_n hx hb dX2_shiftChains_20 rfl (lv_at hl 1 rfl) ?_
        refine lv_aload_n hx hb dX2_shiftChains_21 rfl (lv_at hl 1 rfl) ?_
        refine va_get (D := (dC, dI)) (ci := 2) (v := .ref (q 9)) (C := RX2) (T := TX2) (N := 12) hx hb hts inX2 hown hK hP 0 rfl rfl 11 (by decide) (hts _ tw_42) (fun _ h9 => h9) rfl dX2_shiftChains_22 ?_
        refine lv_iload_n hx hb dX2_shiftChains_25 rfl (lv_at hl 4 rfl) ?_
        refine xa_ild hx hb hK hP 9 0 rfl rfl (v := nI ((RS.st r) i)) (by omega) (by decide) rfl dX2_shiftChains_26 ?_
        refine lv_aload_n hx hb dX2_shiftChains_27 rfl (lv_at hl 1 rfl) ?_
        refine va_get (D := (dC, dI)) (ci := 2) (v := .ref (q 9)) (C := RX2) (T := TX2) (N := 12) hx hb hts inX2 hown hK hP 0 rfl rfl 11 (by decide) (hts _ tw_42) (fun _ h9 => h9) rfl dX2_shiftChains_28 ?_
        refine lv_iload_n hx hb dX2_shiftChains_31 rfl (lv_at hl 4 rfl) ?_
        refine lv_iconst (v := nI 1) hx hb dX2_shiftChains_32 (by decide) ?_
        refine xn_add hx hb dX2_shiftChains_33 ?_
        refine xa_ild hx hb hK hP 9 0 rfl rfl (v := nI ((RS.st r) (i + 1))) (by omega) (by decide) rfl dX2_shiftChains_34 ?_
        refine lv_iload hx hb dX2_shiftChains_35 (lv_at hl 0 rfl) ?_
        refine xc_Vi (As := [.int (nI ((RS.st r) i)), .int (nI ((RS.st r) (i + 1))), .int (nI (sbit bits i))]) (wr := []) ⟨hx, hb, hml, hown, hts⟩ (c_Rows_shiftPlaces l dC dI q cI cZ H.size (RS.s_vb r (shC r bits i).2) ((RS.st r) i) ((RS.st r) (i + 1)) (sbit bits i) (RB_vb hB0 (shC_lt b_vb bits i)) (b_st _) (b_st _)) (cwV 3 hts (gV tw_168 tw_170 sw_2 tw_2 tw_171) rfl rfl rfl (by decide +kernel) ⟨Nat.le_of_ble_eq_true rfl, Nat.le_of_ble_eq_true rfl⟩) rfl hl.1 rfl (Nat.le_of_ble_eq_true rfl) dX2_shiftChains_37 ⟨Nat.zero_le _, Nat.zero_le _⟩ hP hD hK hS hA [0, 1, 2, 3, 4, 5, 6, 7, 8, 9] [] rfl rfl (by decide) (by decide) (by decide) [0, 1] rfl (q0 := 0) rfl rfl rfl eT_M (trivial) (fun r_2 u_3 H locs w_4 hP hD hS => ?_)
        obtain ⟨rfl, rfl⟩ := w_4
        have hP : va_P (dC, dI) vwCl (wR q cI cZ (RS.s_vb r (shV (RS.s_vb r (shC r bits i).2) ((RS.st r) i) ((RS.st r) (i + 1)) (sbit bits i)))) H := hP
        have hD : va_D A (wR q cI cZ (RS.s_vb r (shV (RS.s_vb r (shC r bits i).2) ((RS.st r) i) ((RS.st r) (i + 1)) (sbit bits i)))) := hD
        refine lv_iload_n hx hb dX2_shiftChains_40 rfl (lv_at hl 4 rfl) ?_
        refine lv_ishl hx hb dX2_shiftChains_41 ?_
        refine lv_ior hx hb dX2_shiftChains_42 ?_
        refine lv_istore_n (lv' := [(2, .int (((shC r bits i).1) ||| ((nI (shO (RS.s_vb r (shC r bits i).2) ((RS.st r) i) ((RS.st r) (i + 1)) (sbit bits i))) <<< ((nI i) &&& 31)))), (4, .int (nI (sbit bits i))), (0, .ref (q 0)), (1, .int bits), (3, .int (nI i))]) hx hb dX2_shiftChains_43 rfl hl (by decide) rfl (fun ls hl => ?_)
        refine lv_iinc (v := nI (i + 1)) (lv' := [(3, .int (nI (i + 1))), (2, .int (((shC r bits i).1) ||| ((nI (shO (RS.s_vb r (shC r bits i).2) ((RS.st r) i) ((RS.st r) (i + 1)) (sbit bits i))) <<< ((nI i) &&& 31)))), (4, .int (nI (sbit bits i))), (0, .ref (q 0)), (1, .int bits)]) hx hb dX2_shiftChains_44 hl (k := 4) rfl (nI_1 _) (by decide) rfl (fun ls hl => ?_)
        refine lv_goto (tgt := 4) hx hb dX2_shiftChains_47 (by decide) ?_
        exact ih4 (i + 1) (by omega) (by omega) H locs hP hD hS ls (lv_sub hl [3, 4, 1, 0] rfl)
  exact L4 ((r.c - 0) + 1) 0 (by omega) (Nat.lt_succ_self _) H locs hP hD hS ls (lv_sub hl [2, 3, 1, 0] rfl)
set_option maxHeartbeats 4000000 in
set_option maxRecDepth 100000 in
theorem c_Rows_standsBefore (l : Launch) (dC : Nat → ClassId) (dI : Nat → Nat → Nat) (q : Nat → Nat) (cI cZ : ClassId) (sz : Nat) (r : RS) (i j : Nat) (hB : RB r) (h1 : i < 32) (h2 : j < 32) : Met l yX2_standsBefore (.code yX2_standsBefore cX2_standsBefore 3 (some .boolean) :: ALLG) ({ frames := 0, cells := 0, slots := 0, locals := 0 }) (va_Pc [.ref (q 0), .int (nI i), .int (nI j)] (cP (dC, dI) vwCl [(cI, .int), (cZ, .boolean)] (wR q cI cZ r) eT sz)) (va_Qi (fun (x : Int32) (_ : Unit) => x = nI (sbN r i j)) (fun (_ : Unit) => cB (dC, dI) vwCl [(cI, .int), (cZ, .boolean)] (wR q cI cZ r) (va_A (wR q cI cZ r) sz)) (va_A (wR q cI cZ r) sz)) 0 0 (va_A (wR q cI cZ r) sz) := by
  refine xm_of (cc := cX2_standsBefore) (maxL := 3) (ret := some .boolean) (by decide) rfl (Nat.le_of_ble_eq_true rfl) ?_
  intro p e s m below meth c A hAe hx hb hr hml hts0 hown hlk hin hsz H locs hP hK hD hA hS hE ls hl
  have hts : ∀ w ∈ ALLG, w.before _ s = true := fun w h => hts0 w (List.mem_cons_of_mem _ h)
  rw [← hAe]
  obtain ⟨b_n, b_c, b_p, b_vb, b_ck, b_xx, b_yy, b_fl, b_po, b_rw, b_ch, b_st⟩ := hB
  have g1 := b_ck i
  have g2 := b_ck j
  have g3 := b_xx i
  have g4 := b_xx j
  have g5 := b_yy i
  have g6 := b_yy j
  have hl : lv_has ls 3 [(0, .ref (q 0)), (1, .int (nI i)), (2, .int (nI j))] := hl
  refine lv_aload_n hx hb dX2_standsBefore_0 rfl (lv_at hl 0 rfl) ?_
  refine va_get (D := (dC, dI)) (ci := 2) (v := .ref (q 2)) (C := RX2) (T := TX2) (N := 12) hx hb hts inX2 hown hK hP 0 rfl rfl 4 (by decide) (hts _ tw_35) (fun _ h9 => h9) rfl dX2_standsBefore_1 ?_
  refine lv_iload_n hx hb dX2_standsBefore_4 rfl (lv_at hl 1 rfl) ?_
  refine xa_ild hx hb hK hP 2 0 rfl rfl (v := nI ((RS.ck r) i)) (by omega) (by decide) rfl dX2_standsBefore_5 ?_
  refine lv_aload_n hx hb dX2_standsBefore_6 rfl (lv_at hl 0 rfl) ?_
  refine va_get (D := (dC, dI)) (ci := 2) (v := .ref (q 2)) (C := RX2) (T := TX2) (N := 12) hx hb hts inX2 hown hK hP 0 rfl rfl 4 (by decide) (hts _ tw_35) (fun _ h9 => h9) rfl dX2_standsBefore_7 ?_
  refine lv_iload_n hx hb dX2_standsBefore_10 rfl (lv_at hl 2 rfl) ?_
  refine xa_ild hx hb hK hP 2 0 rfl rfl (v := nI ((RS.ck r) j)) (by omega) (by decide) rfl dX2_standsBefore_11 ?_
  refine xn_ceq (tgt := 36) hx hb (by omega) (by omega) dX2_standsBefore_12 (by decide) (fun c_1 => ?_) (fun c_1 => ?_)
  · refine lv_aload_n hx hb dX2_standsBefore_36 rfl (lv_at hl 0 rfl) ?_
    refine va_get (D := (dC, dI)) (ci := 2) (v := .ref (q 3)) (C := RX2) (T := TX2) (N := 12) hx hb hts inX2 hown hK hP 0 rfl rfl 5 (by decide) (hts _ tw_36) (fun _ h9 => h9) rfl dX2_standsBefore_37 ?_
    refine lv_iload_n hx hb dX2_standsBefore_40 rfl (lv_at hl 1 rfl) ?_
    refine xa_ild hx hb hK hP 3 0 rfl rfl (v := zI ((RS.xx r) i)) (by omega) (by decide) rfl dX2_standsBefore_41 ?_
    refine lv_aload_n hx hb dX2_standsBefore_42 rfl (lv_at hl 0 rfl) ?_
    refine va_get (D := (dC, dI)) (ci := 2) (v := .ref (q 3)) (C := RX2) (T := TX2) (N := 12) hx hb hts inX2 hown hK hP 0 rfl rfl 5 (by decide) (hts _ tw_36) (fun _ h9 => h9) rfl dX2_standsBefore_43 ?_
    refine lv_iload_n hx hb dX2_standsBefore_46 rfl (lv_at hl 2 rfl) ?_
    refine xa_ild hx hb hK hP 3 0 rfl rfl (v := zI ((RS.xx r) j)) (by omega) (by decide) rfl dX2_standsBefore_47 ?_
    refine xz_ceq (tgt := 72) hx hb (by omega) (by omega) (by omega) (by omega) dX2_standsBefore_48 (by decide) (fun c_2 => ?_) (fun c_2 => ?_)
    · refine lv_aload_n hx hb dX2_standsBefore_72 rfl (lv_at hl 0 rfl) ?_
      refine va_get (D := (dC, dI)) (ci := 2) (v := .ref (q 4)) (C := RX2) (T := TX2) (N := 12) hx hb hts inX2 hown hK hP 0 rfl rfl 6 (by decide) (hts _ tw_37) (fun _ h9 => h9) rfl dX2_standsBefore_73 ?_
      refine lv_iload_n hx hb dX2_standsBefore_76 rfl (lv_at hl 1 rfl) ?_
      refine xa_ild hx hb hK hP 4 0 rfl rfl (v := zI ((RS.yy r) i)) (by omega) (by decide) rfl dX2_standsBefore_77 ?_
      refine lv_aload_n hx hb dX2_standsBefore_78 rfl (lv_at hl 0 rfl) ?_
      refine va_get (D := (dC, dI)) (ci := 2) (v := .ref (q 4)) (C := RX2) (T := TX2) (N := 12) hx hb hts inX2 hown hK hP 0 rfl rfl 6 (by decide) (hts _ tw_37) (fun _ h9 => h9) rfl dX2_standsBefore_79 ?_
      refine lv_iload_n hx hb dX2_standsBefore_82 rfl (lv_at hl 2 rfl) ?_
      refine xa_ild hx hb hK hP 4 0 rfl rfl (v := zI ((RS.yy r) j)) (by omega) (by decide) rfl dX2_standsBefore_83 ?_
      refine xz_cge (tgt := 91) hx hb (by omega) (by omega) (by omega) (by omega) dX2_standsBefore_84 (by decide) (fun c_3 => ?_) (fun c_3 => ?_)
      · refine lv_iconst (v := nI 0) hx hb dX2_standsBefore_91 (by decide) ?_
        exact xr_z hx hb hr hlk (by decide) (u := ()) (by unfold sbN; rw [if_pos (by assumption), if_pos (by assumption), if_neg (by omega)]) hP hK hD hS dX2_standsBefore_92
      · refine lv_iconst (v := nI 1) hx hb dX2_standsBefore_87 (by decide) ?_
        refine lv_goto (tgt := 92) hx hb dX2_standsBefore_88 (by decide) ?_
        exact xr_z hx hb hr hlk (by decide) (u := ()) (by unfold sbN; rw [if_pos (by assumption), if_pos (by assumption), if_pos (by omega)]) hP hK hD hS dX2_standsBefore_92
    · refine lv_aload_n hx hb dX2_standsBefore_51 rfl (lv_at hl 0 rfl) ?_
      refine va_get (D := (dC, dI)) (ci := 2) (v := .ref (q 3)) (C := RX2) (T := TX2) (N := 12) hx hb hts inX2 hown hK hP 0 rfl rfl 5 (by decide) (hts _ tw_36) (fun _ h9 => h9) rfl dX2_standsBefore_52 ?_
      refine lv_iload_n hx hb dX2_standsBefore_55 rfl (lv_at hl 1 rfl) ?_
      refine xa_ild hx hb hK hP 3 0 rfl rfl (v := zI ((RS.xx r) i)) (by omega) (by decide) rfl dX2_standsBefore_56 ?_
      refine lv_aload_n hx hb dX2_standsBefore_57 rfl (lv_at hl 0 rfl) ?_
      refine va_get (D := (dC, dI)) (ci := 2) (v := .ref (q 3)) (C := RX2) (T := TX2) (N := 12) hx hb hts inX2 hown hK hP 0 rfl rfl 5 (by decide) (hts _ tw_36) (fun _ h9 => h9) rfl dX2_standsBefore_58 ?_
      refine lv_iload_n hx hb dX2_standsBefore_61 rfl (lv_at hl 2 rfl) ?_
      refine xa_ild hx hb hK hP 3 0 rfl rfl (v := zI ((RS.xx r) j)) (by omega) (by decide) rfl dX2_standsBefore_62 ?_
      refine xz_cge (tgt := 70) hx hb (by omega) (by omega) (by omega) (by omega) dX2_standsBefore_63 (by decide) (fun c_4 => ?_) (fun c_4 => ?_)
      · refine lv_iconst (v := nI 0) hx hb dX2_standsBefore_70 (by decide) ?_
        exact xr_z hx hb hr hlk (by decide) (u := ()) (by unfold sbN; rw [if_pos (by assumption), if_neg (by assumption), if_neg (by omega)]) hP hK hD hS dX2_standsBefore_71
      · refine lv_iconst (v := nI 1) hx hb dX2_standsBefore_66 (by decide) ?_
        refine lv_goto (tgt := 71) hx hb dX2_standsBefore_67 (by decide) ?_
        exact xr_z hx hb hr hlk (by decide) (u := ()) (by unfold sbN; rw [if_pos (by assumption), if_neg (by assumption), if_pos (by omega)]) hP hK hD hS dX2_standsBefore_71
  · refine lv_aload_n hx hb dX2_standsBefore_15 rfl (lv_at hl 0 rfl) ?_
    refine va_get (D := (dC, dI)) (ci := 2) (v := .ref (q 2)) (C := RX2) (T := TX2) (N := 12) hx hb hts inX2 hown hK hP 0 rfl rfl 4 (by decide) (hts _ tw_35) (fun _ h9 => h9) rfl dX2_standsBefore_16 ?_
    refine lv_iload_n hx hb dX2_standsBefore_19 rfl (lv_at hl 1 rfl) ?_
    refine xa_ild hx hb hK hP 2 0 rfl rfl (v := nI ((RS.ck r) i)) (by omega) (by decide) rfl dX2_standsBefore_20 ?_
    refine lv_aload_n hx hb dX2_standsBefore_21 rfl (lv_at hl 0 rfl) ?_
    refine va_get (D := (dC, dI)) (ci := 2) (v := .ref (q 2)) (C := RX2) (T := TX2) (N := 12) hx hb hts inX2 hown hK hP 0 rfl rfl 4 (by decide) (hts _ tw_35) (fun _ h9 => h9) rfl dX2_standsBefore_22 ?_
    refine lv_iload_n hx hb dX2_standsBefore_25 rfl (lv_at hl 2 rfl) ?_
    refine xa_ild hx hb hK hP 2 0 rfl rfl (v := nI ((RS.ck r) j)) (by omega) (by decide) rfl dX2_standsBefore_26 ?_
    refine xn_cge (tgt := 34) hx hb (by omega) (by omega) dX2_standsBefore_27 (by decide) (fun c_5 => ?_) (fun c_5 => ?_)
    · refine lv_iconst (v := nI 0) hx hb dX2_standsBefore_34 (by decide) ?_
      exact xr_z hx hb hr hlk (by decide) (u := ()) (by unfold sbN; rw [if_neg (by assumption), if_neg (by omega)]) hP hK hD hS dX2_standsBefore_35
    · refine lv_iconst (v := nI 1) hx hb dX2_standsBefore_30 (by decide) ?_
      refine lv_goto (tgt := 35) hx hb dX2_standsBefore_31 (by decide) ?_
      exact xr_z hx hb hr hlk (by decide) (u := ()) (by unfold sbN; rw [if_neg (by assumption), if_pos (by omega)]) hP hK hD hS dX2_standsBefore_35
set_option maxHeartbeats 4000000 in
set_option maxRecDepth 100000 in
theorem c_Rows_sortRow (l : Launch) (dC : Nat → ClassId) (dI : Nat → Nat → Nat) (q : Nat → Nat) (cI cZ : ClassId) (sz : Nat) (r : RS) (hB : RB r) : Met l yX2_sortRow (.code yX2_sortRow cX2_sortRow 3 none :: ALLG) ({ frames := 1, cells := 0, slots := 0, locals := 22 }) (va_Pc [.ref (q 0)] (cP (dC, dI) vwCl [(cI, .int), (cZ, .boolean)] (wR q cI cZ r) eT sz)) (va_Qv (fun (u : RS) => u = srtF r) (fun (u : RS) => cB (dC, dI) vwCl [(cI, .int), (cZ, .boolean)] (wR q cI cZ u) (va_A (wR q cI cZ r) sz)) (va_A (wR q cI cZ r) sz)) 0 0 (va_A (wR q cI cZ r) sz) := by
  refine xm_of (cc := cX2_sortRow) (maxL := 3) (ret := none) (by decide) rfl (Nat.le_of_ble_eq_true rfl) ?_
  intro p e s m below meth c A hAe hx hb hr hml hts0 hown hlk hin hsz H locs hP hK hD hA hS hE ls hl
  have hts : ∀ w ∈ ALLG, w.before _ s = true := fun w h => hts0 w (List.mem_cons_of_mem _ h)
  rw [← hAe]
  have hB0 := hB
  have b_n := hB.1
  have hl : lv_has ls 3 [(0, .ref (q 0))] := hl
  refine lv_iconst (v := nI 0) hx hb dX2_sortRow_0 (by decide) ?_
  refine lv_istore_n (lv' := [(1, .int (nI 0)), (0, .ref (q 0))]) hx hb dX2_sortRow_1 rfl hl (by decide) rfl (fun ls hl => ?_)
  have L2 : ∀ (fuel : Nat) (i : Nat) (g : Nat → Nat), (i ≤ r.n) → (g = srt r i) → r.n - i < fuel → ∀ (H : Heap) (locs : List Loc), va_P (dC, dI) vwCl (wR q cI cZ (RS.s_rw r g)) H → va_D A (wR q cI cZ (RS.s_rw r g)) → va_S A s.heap H locs → ∀ ls : Array Slot, lv_has ls 3 [(0, .ref (q 0)), (1, .int (nI i))] → W p l e ({ frames := 1, cells := 0, slots := 0, locals := 22 } : Room) s m ([.ref (q 0)] : List Value).toArray below meth c H locs 0 0 (MQ below (va_Qv (fun (u : RS) => u = srtF r) (fun (u : RS) => cB (dC, dI) vwCl [(cI, .int), (cZ, .boolean)] (wR q cI cZ u) (A)) (A)) ([.ref (q 0)] : List Value).toArray s 0 0 A) (F0 m 2 ls []) := by
    intro fuel
    induction fuel with
    | zero => intro i g i1 e1 hm H locs hP hD hS ls hl; exact absurd hm (Nat.not_lt_zero _)
    | succ fuel ih2 =>
      intro i g i1 e1 hm H locs hP hD hS ls hl
      refine lv_iload_n hx hb dX2_sortRow_2 rfl (lv_at hl 1 rfl) ?_
      refine lv_aload_n hx hb dX2_sortRow_3 rfl (lv_at hl 0 rfl) ?_
      refine va_get (D := (dC, dI)) (ci := 2) (v := .int (nI (RS.n r))) (C := RX2) (T := TX2) (N := 12) hx hb hts inX2 hown hK hP 0 rfl rfl 0 (by decide) (hts _ tw_27) (fun _ h9 => h9) rfl dX2_sortRow_4 ?_
      refine xn_cge (tgt := 65) hx hb (by omega) (by omega) dX2_sortRow_7 (by decide) (fun c_1 => ?_) (fun c_1 => ?_)
      · have e4 : g = srt r r.n := by rw [e1, show r.n = i by omega]
        subst e4
        refine lv_aload_n hx hb dX2_sortRow_65 rfl (lv_at hl 0 rfl) ?_
        refine lv_aload_n hx hb dX2_sortRow_66 rfl (lv_at hl 0 rfl) ?_
        refine va_get (D := (dC, dI)) (ci := 2) (v := .int (nI (RS.n r))) (C := RX2) (T := TX2) (N := 12) hx hb hts inX2 hown hK hP 0 rfl rfl 0 (by decide) (hts _ tw_27) (fun _ h9 => h9) rfl dX2_sortRow_67 ?_
        refine va_put (D := (dC, dI)) (ci := 2) (v := .int (nI (RS.n r))) (ty := .int) (C := RX2) (T := TX2) (N := 12) hx hb hts inX2 tyX2 tyX2_ok nmX2 hown hK hP hD hS 0 rfl rfl 2 (by decide) (hts _ tw_32) (fun _ h9 => h9) rfl (by decide +kernel) rfl rfl (Nat.le_of_ble_eq_true rfl) dX2_sortRow_70 (fun H locs hP hD hS => ?_)
        have hP : va_P (dC, dI) vwCl (wR q cI cZ (RS.s_p (RS.s_rw r (srt r r.n)) (RS.n r))) H := hP
        have hD : va_D A (wR q cI cZ (RS.s_p (RS.s_rw r (srt r r.n)) (RS.n r))) := hD
        refine lv_iconst (v := nI 0) hx hb dX2_sortRow_73 (by decide) ?_
        refine lv_istore_n (lv' := [(1, .int (nI 0)), (0, .ref (q 0))]) hx hb dX2_sortRow_74 rfl hl (by decide) rfl (fun ls hl => ?_)
        have L75 : ∀ (fuel : Nat) (i : Nat) (po : Nat → Int), (i ≤ r.n) → (po = plc (srt r r.n) r.po i) → r.n - i < fuel → ∀ (H : Heap) (locs : List Loc), va_P (dC, dI) vwCl (wR q cI cZ (RS.s_po (RS.s_p (RS.s_rw r (srt r r.n)) r.n) po)) H → va_D A (wR q cI cZ (RS.s_po (RS.s_p (RS.s_rw r (srt r r.n)) r.n) po)) → va_S A s.heap H locs → ∀ ls : Array Slot, lv_has ls 3 [(0, .ref (q 0)), (1, .int (nI i))] → W p l e ({ frames := 1, cells := 0, slots := 0, locals := 22 } : Room) s m ([.ref (q 0)] : List Value).toArray below meth c H locs 0 0 (MQ below (va_Qv (fun (u : RS) => u = srtF r) (fun (u : RS) => cB (dC, dI) vwCl [(cI, .int), (cZ, .boolean)] (wR q cI cZ u) (A)) (A)) ([.ref (q 0)] : List Value).toArray s 0 0 A) (F0 m 75 ls []) := by
          intro fuel
          induction fuel with
          | zero => intro i po k1 e3 hm H locs hP hD hS ls hl; exact absurd hm (Nat.not_lt_zero _)
          | succ fuel ih75 =>
            intro i po k1 e3 hm H locs hP hD hS ls hl
            have b_g := srt_lt hB0 b_n
            refine lv_iload_n hx hb dX2_sortRow_75 rfl (lv_at hl 1 rfl) ?_
            refine lv_aload_n hx hb dX2_sortRow_76 rfl (lv_at hl 0 rfl) ?_
            refine va_get (D := (dC, dI)) (ci := 2) (v := .int (nI r.n)) (C := RX2) (T := TX2) (N := 12) hx hb hts inX2 hown hK hP 0 rfl rfl 2 (by decide) (hts _ tw_32) (fun _ h9 => h9) rfl dX2_sortRow_77 ?_
            refine xn_cge (tgt := 101) hx hb (by omega) (by omega) dX2_sortRow_80 (by decide) (fun c_2 => ?_) (fun c_2 => ?_)
            · exact xr_v hx hb hr hlk (u := RS.s_po (RS.s_p (RS.s_rw r (srt r r.n)) r.n) po) (by rw [e3, show i = r.n by omega]; rfl) hP hK hD hS dX2_sortRow_101
            · refine lv_aload_n hx hb dX2_sortRow_83 rfl (lv_at hl 0 rfl) ?_
              refine va_get (D := (dC, dI)) (ci := 2) (v := .ref (q 6)) (C := RX2) (T := TX2) (N := 12) hx hb hts inX2 hown hK hP 0 rfl rfl 8 (by decide) (hts _ tw_39) (fun _ h9 => h9) rfl dX2_sortRow_84 ?_
              refine lv_aload_n hx hb dX2_sortRow_87 rfl (lv_at hl 0 rfl) ?_
              refine va_get (D := (dC, dI)) (ci := 2) (v := .ref (q 7)) (C := RX2) (T := TX2) (N := 12) hx hb hts inX2 hown hK hP 0 rfl rfl 9 (by decide) (hts _ tw_40) (fun _ h9 => h9) rfl dX2_sortRow_88 ?_
              refine lv_iload_n hx hb dX2_sortRow_91 rfl (lv_at hl 1 rfl) ?_
              refine xa_ild hx hb hK hP 7 0 rfl rfl (v := nI ((srt r r.n) i)) (by omega) (by decide) rfl dX2_sortRow_92 ?_
              refine lv_iload_n hx hb dX2_sortRow_93 rfl (lv_at hl 1 rfl) ?_
              refine xa_ist hx hb hK hP hD hS 6 0 rfl rfl (b_g _) (by decide) (aZ_upN _ _ _) dX2_sortRow_94 (fun H locs hP hD hS => ?_)
              have hP : va_P (dC, dI) vwCl (wR q cI cZ (RS.s_po (RS.s_po (RS.s_p (RS.s_rw r (srt r r.n)) r.n) po) (va_up po ((srt r r.n) i) ((i : Nat) : Int)))) H := hP
              have hD : va_D A (wR q cI cZ (RS.s_po (RS.s_po (RS.s_p (RS.s_rw r (srt r r.n)) r.n) po) (va_up po ((srt r r.n) i) ((i : Nat) : Int)))) := hD
              refine lv_iinc (v := nI (i + 1)) (lv' := [(1, .int (nI (i + 1))), (0, .ref (q 0))]) hx hb dX2_sortRow_95 hl (k := 1) rfl (nI_1 _) (by decide) rfl (fun ls hl => ?_)
              refine lv_goto (tgt := 75) hx hb dX2_sortRow_98 (by decide) ?_
              exact ih75 (i + 1) (va_up po ((srt r r.n) i) ((i : Nat) : Int)) (by omega) (by rw [e3]; rfl) (by omega) H locs hP hD hS ls (lv_sub hl [1, 0] rfl)
        exact L75 ((r.n - 0) + 1) 0 (RS.po r) (Nat.zero_le _) rfl (Nat.lt_succ_self _) H locs hP hD hS ls (lv_sub hl [1, 0] rfl)
      · refine lv_iload_n hx hb dX2_sortRow_10 rfl (lv_at hl 1 rfl) ?_
        refine lv_istore_n (lv' := [(2, .int (nI i)), (0, .ref (q 0)), (1, .int (nI i))]) hx hb dX2_sortRow_11 rfl hl (by decide) rfl (fun ls hl => ?_)
        have L12 : ∀ (fuel : Nat) (pp : Nat) (g : Nat → Nat), (pp ≤ i) → (∀ z, g z < 32) → (insP r i pp g = srt r (i + 1)) → pp < fuel → ∀ (H : Heap) (locs : List Loc), va_P (dC, dI) vwCl (wR q cI cZ (RS.s_rw r g)) H → va_D A (wR q cI cZ (RS.s_rw r g)) → va_S A s.heap H locs → ∀ ls : Array Slot, lv_has ls 3 [(0, .ref (q 0)), (1, .int (nI i)), (2, .int (nI pp))] → W p l e ({ frames := 1, cells := 0, slots := 0, locals := 22 } : Room) s m ([.ref (q 0)] : List Value).toArray below meth c H locs 0 0 (MQ below (va_Qv (fun (u : RS) => u = srtF r) (fun (u : RS) => cB (dC, dI) vwCl [(cI, .int), (cZ, .boolean)] (wR q cI cZ u) (A)) (A)) ([.ref (q 0)] : List Value).toArray s 0 0 A) (F0 m 12 ls []) := by
          intro fuel
          induction fuel with
          | zero => intro pp g p1 b_g e2 hm H locs hP hD hS ls hl; exact absurd hm (Nat.not_lt_zero _)
          | succ fuel ih12 =>
            intro pp g p1 b_g e2 hm H locs hP hD hS ls hl
            refine lv_iload_n hx hb dX2_sortRow_12 rfl (lv_at hl 2 rfl) ?_
            refine xn_zle (tgt := 52) hx hb (by omega) dX2_sortRow_13 (by decide) (fun c_3 => ?_) (fun c_3 => ?_)
            · have e5 : va_up g pp i = srt r (i + 1) := by rw [← e2, show pp = 0 by omega]; rfl
              refine lv_aload_n hx hb dX2_sortRow_52 rfl (lv_at hl 0 rfl) ?_
              refine va_get (D := (dC, dI)) (ci := 2) (v := .ref (q 7)) (C := RX2) (T := TX2) (N := 12) hx hb hts inX2 hown hK hP 0 rfl rfl 9 (by decide) (hts _ tw_40) (fun _ h9 => h9) rfl dX2_sortRow_53 ?_
              refine lv_iload_n hx hb dX2_sortRow_56 rfl (lv_at hl 2 rfl) ?_
              refine lv_iload_n hx hb dX2_sortRow_57 rfl (lv_at hl 1 rfl) ?_
              refine xa_ist hx hb hK hP hD hS 7 0 rfl rfl (by omega) (by decide) (aN_up _ _ _) dX2_sortRow_58 (fun H locs hP hD hS => ?_)
              have hP : va_P (dC, dI) vwCl (wR q cI cZ (RS.s_rw (RS.s_rw r g) (va_up g pp i))) H := hP
              have hD : va_D A (wR q cI cZ (RS.s_rw (RS.s_rw r g) (va_up g pp i))) := hD
              refine lv_iinc (v := nI (i + 1)) (lv' := [(1, .int (nI (i + 1))), (0, .ref (q 0)), (2, .int (nI pp))]) hx hb dX2_sortRow_59 hl (k := 1) rfl (nI_1 _) (by decide) rfl (fun ls hl => ?_)
              refine lv_goto (tgt := 2) hx hb dX2_sortRow_62 (by decide) ?_
              exact ih2 (i + 1) (va_up g pp i) (by omega) e5 (by omega) H locs hP hD hS ls (lv_sub hl [1, 0] rfl)
            · have g1 := sbN_le r i (g (pp - 1))
              refine lv_aload_n hx hb dX2_sortRow_16 rfl (lv_at hl 0 rfl) ?_
              refine lv_iload_n hx hb dX2_sortRow_17 rfl (lv_at hl 1 rfl) ?_
              refine lv_aload_n hx hb dX2_sortRow_18 rfl (lv_at hl 0 rfl) ?_
              refine va_get (D := (dC, dI)) (ci := 2) (v := .ref (q 7)) (C := RX2) (T := TX2) (N := 12) hx hb hts inX2 hown hK hP 0 rfl rfl 9 (by decide) (hts _ tw_40) (fun _ h9 => h9) rfl dX2_sortRow_19 ?_
              refine lv_iload_n hx hb dX2_sortRow_22 rfl (lv_at hl 2 rfl) ?_
              refine lv_iconst (v := nI 1) hx hb dX2_sortRow_23 (by decide) ?_
              refine xn_sub hx hb (by omega) dX2_sortRow_24 ?_
              refine xa_ild hx hb hK hP 7 0 rfl rfl (v := nI (g (pp - 1))) (by omega) (by decide) rfl dX2_sortRow_25 ?_
              refine xc_Vi (As := [.int (nI i), .int (nI (g (pp - 1)))]) (wr := []) ⟨hx, hb, hml, hown, hts⟩ (c_Rows_standsBefore l dC dI q cI cZ H.size (RS.s_rw r g) i (g (pp - 1)) (RB_rw hB0 b_g) (by omega) (b_g _)) (cwV 2 hts (gV tw_295 tw_297 sw_5 tw_2 tw_298) rfl rfl rfl (by decide +kernel) ⟨Nat.le_of_ble_eq_true rfl, Nat.le_of_ble_eq_true rfl⟩) rfl hl.1 rfl (Nat.le_of_ble_eq_true rfl) dX2_sortRow_26 ⟨Nat.zero_le _, Nat.zero_le _⟩ hP hD hK hS hA [0, 1, 2, 3, 4, 5, 6, 7, 8, 9] [] rfl rfl (by decide) (by decide) (by decide) [0, 1] rfl (q0 := 0) rfl rfl rfl eT_M (trivial) (fun r_4 u_5 H locs w_6 hP hD hS => ?_)
              obtain rfl := w_6
              have hP : va_P (dC, dI) vwCl (wR q cI cZ (RS.s_rw r g)) H := hP
              have hD : va_D A (wR q cI cZ (RS.s_rw r g)) := hD
              refine xt_i (show nI (sbN (RS.s_rw r g) i (g (pp - 1))) = nI (sbN r i (g (pp - 1))) from rfl) ?_
              refine xn_zeq (tgt := 52) hx hb (by omega) dX2_sortRow_29 (by decide) (fun c_7 => ?_) (fun c_7 => ?_)
              · have e5 : va_up g pp i = srt r (i + 1) := by rw [← e2, insP_pos (show 0 < pp by omega), if_neg (by omega)]
                refine lv_aload_n hx hb dX2_sortRow_52 rfl (lv_at hl 0 rfl) ?_
                refine va_get (D := (dC, dI)) (ci := 2) (v := .ref (q 7)) (C := RX2) (T := TX2) (N := 12) hx hb hts inX2 hown hK hP 0 rfl rfl 9 (by decide) (hts _ tw_40) (fun _ h9 => h9) rfl dX2_sortRow_53 ?_
                refine lv_iload_n hx hb dX2_sortRow_56 rfl (lv_at hl 2 rfl) ?_
                refine lv_iload_n hx hb dX2_sortRow_57 rfl (lv_at hl 1 rfl) ?_
                refine xa_ist hx hb hK hP hD hS 7 0 rfl rfl (by omega) (by decide) (aN_up _ _ _) dX2_sortRow_58 (fun H locs hP hD hS => ?_)
                have hP : va_P (dC, dI) vwCl (wR q cI cZ (RS.s_rw (RS.s_rw r g) (va_up g pp i))) H := hP
                have hD : va_D A (wR q cI cZ (RS.s_rw (RS.s_rw r g) (va_up g pp i))) := hD
                refine lv_iinc (v := nI (i + 1)) (lv' := [(1, .int (nI (i + 1))), (0, .ref (q 0)), (2, .int (nI pp))]) hx hb dX2_sortRow_59 hl (k := 1) rfl (nI_1 _) (by decide) rfl (fun ls hl => ?_)
                refine lv_goto (tgt := 2) hx hb dX2_sortRow_62 (by decide) ?_
                exact ih2 (i + 1) (va_up g pp i) (by omega) e5 (by omega) H locs hP hD hS ls (lv_sub hl [1, 0] rfl)
              · have e5 : insP r i (pp - 1) (va_up g pp (g (pp - 1))) = srt r (i + 1) := by have h7 := e2; rw [insP_pos (show 0 < pp by omega), if_pos (by omega)] at h7; exact h7
                refine lv_aload_n hx hb dX2_sortRow_32 rfl (lv_at hl 0 rfl) ?_
                refine va_get (D := (dC, dI)) (ci := 2) (v := .ref (q 7)) (C := RX2) (T := TX2) (N := 12) hx hb hts inX2 hown hK hP 0 rfl rfl 9 (by decide) (hts _ tw_40) (fun _ h9 => h9) rfl dX2_sortRow_33 ?_
                refine lv_iload_n hx hb dX2_sortRow_36 rfl (lv_at hl 2 rfl) ?_
                refine lv_aload_n hx hb dX2_sortRow_37 rfl (lv_at hl 0 rfl) ?_
                refine va_get (D := (dC, dI)) (ci := 2) (v := .ref (q 7)) (C := RX2) (T := TX2) (N := 12) hx hb hts inX2 hown hK hP 0 rfl rfl 9 (by decide) (hts _ tw_40) (fun _ h9 => h9) rfl dX2_sortRow_38 ?_
                refine lv_iload_n hx hb dX2_sortRow_41 rfl (lv_at hl 2 rfl) ?_
                refine lv_iconst (v := nI 1) hx hb dX2_sortRow_42 (by decide) ?_
                refine xn_sub hx hb (by omega) dX2_sortRow_43 ?_
                refine xa_ild hx hb hK hP 7 0 rfl rfl (v := nI (g (pp - 1))) (by omega) (by decide) rfl dX2_sortRow_44 ?_
                refine xa_ist hx hb hK hP hD hS 7 0 rfl rfl (by omega) (by decide) (aN_up _ _ _) dX2_sortRow_45 (fun H locs hP hD hS => ?_)
                have hP : va_P (dC, dI) vwCl (wR q cI cZ (RS.s_rw (RS.s_rw r g) (va_up g pp (g (pp - 1))))) H := hP
                have hD : va_D A (wR q cI cZ (RS.s_rw (RS.s_rw r g) (va_up g pp (g (pp - 1))))) := hD
                refine lv_iinc (v := nI (pp - 1)) (lv' := [(2, .int (nI (pp - 1))), (0, .ref (q 0)), (1, .int (nI i))]) hx hb dX2_sortRow_46 hl (k := 2) rfl (sb_m1 (by omega)) (by decide) rfl (fun ls hl => ?_)
                refine lv_goto (tgt := 12) hx hb dX2_sortRow_49 (by decide) ?_
                exact ih12 (pp - 1) (va_up g pp (g (pp - 1))) (by omega) (up_lt b_g (b_g _) _) e5 (by omega) H locs hP hD hS ls (lv_sub hl [1, 2, 0] rfl)
        exact L12 (i + 1) i g (Nat.le_refl _) (by rw [e1]; exact srt_lt hB0 (by omega)) (by rw [e1]; rfl) (Nat.lt_succ_self _) H locs hP hD hS ls (lv_sub hl [1, 2, 0] rfl)
  exact L2 ((r.n - 0) + 1) 0 (RS.rw r) (Nat.zero_le _) rfl (Nat.lt_succ_self _) H locs hP hD hS ls (lv_sub hl [1, 0] rfl)
set_option maxHeartbeats 4000000 in
set_option maxRecDepth 100000 in
theorem c_Rows_cutRow (l : Launch) (dC : Nat → ClassId) (dI : Nat → Nat → Nat) (q : Nat → Nat) (cI cZ : ClassId) (sz : Nat) (r : RS) (c0 : Nat) (hB : RB r) (h1 : 0 < c0) (h2 : c0 ≤ 8) : Met l yX2_cutRow (.code yX2_cutRow cX2_cutRow 7 none :: ALLG) ({ frames := 0, cells := 0, slots := 0, locals := 0 }) (va_Pc [.ref (q 0), .int (nI c0)] (cP (dC, dI) vwCl [(cI, .int), (cZ, .boolean)] (wR q cI cZ r) eT sz)) (va_Qv (fun (u : RS) => u = cutF r c0) (fun (u : RS) => cB (dC, dI) vwCl [(cI, .int), (cZ, .boolean)] (wR q cI cZ u) (va_A (wR q cI cZ r) sz)) (va_A (wR q cI cZ r) sz)) 0 0 (va_A (wR q cI cZ r) sz) := by
  refine xm_of (cc := cX2_cutRow) (maxL := 7) (ret := none) (by decide) rfl (Nat.le_of_ble_eq_true rfl) ?_
  intro p e s m below meth c A hAe hx hb hr hml hts0 hown hlk hin hsz H locs hP hK hD hA hS hE ls hl
  have hts : ∀ w ∈ ALLG, w.before _ s = true := fun w h => hts0 w (List.mem_cons_of_mem _ h)
  rw [← hAe]
  have hB0 := hB
  have b_n := hB.1
  have b_p := hB.2.2.1
  have g4 := Nat.div_mul_le_self r.p c0
  have g5 : ∀ z, z ≤ c0 → bg r.p c0 z ≤ r.p := fun z hz => bg_le r.p h1 hz
  have g6 := Nat.div_le_self r.p c0
  have g7 := Nat.mod_lt r.p h1
  have hl : lv_has ls 7 [(0, .ref (q 0)), (1, .int (nI c0))] := hl
  refine lv_aload_n hx hb dX2_cutRow_0 rfl (lv_at hl 0 rfl) ?_
  refine va_get (D := (dC, dI)) (ci := 2) (v := .int (nI (RS.p r))) (C := RX2) (T := TX2) (N := 12) hx hb hts inX2 hown hK hP 0 rfl rfl 2 (by decide) (hts _ tw_32) (fun _ h9 => h9) rfl dX2_cutRow_1 ?_
  refine lv_iload_n hx hb dX2_cutRow_4 rfl (lv_at hl 1 rfl) ?_
  refine xn_div hx hb (by omega) (by omega) (by omega) dX2_cutRow_5 ?_
  refine lv_istore_n (lv' := [(2, .int (nI ((RS.p r) / c0))), (0, .ref (q 0)), (1, .int (nI c0))]) hx hb dX2_cutRow_6 rfl hl (by decide) rfl (fun ls hl => ?_)
  refine lv_aload_n hx hb dX2_cutRow_7 rfl (lv_at hl 1 rfl) ?_
  refine va_get (D := (dC, dI)) (ci := 2) (v := .int (nI (RS.p r))) (C := RX2) (T := TX2) (N := 12) hx hb hts inX2 hown hK hP 0 rfl rfl 2 (by decide) (hts _ tw_32) (fun _ h9 => h9) rfl dX2_cutRow_8 ?_
  refine lv_iload_n hx hb dX2_cutRow_11 rfl (lv_at hl 0 rfl) ?_
  refine lv_iload_n hx hb dX2_cutRow_12 rfl (lv_at hl 2 rfl) ?_
  refine xn_mul hx hb dX2_cutRow_13 ?_
  refine xn_sub hx hb (by omega) dX2_cutRow_14 ?_
  refine xt_i (show nI ((RS.p r) - (((RS.p r) / c0) * c0)) = nI (r.p % c0) from congrArg nI (mod_sub r.p c0)) ?_
  refine lv_istore_n (lv' := [(3, .int (nI (r.p % c0))), (2, .int (nI ((RS.p r) / c0))), (0, .ref (q 0)), (1, .int (nI c0))]) hx hb dX2_cutRow_15 rfl hl (by decide) rfl (fun ls hl => ?_)
  refine lv_iconst (v := nI 0) hx hb dX2_cutRow_16 (by decide) ?_
  refine lv_istore (lv' := [(4, .int (nI 0)), (3, .int (nI (r.p % c0))), (2, .int (nI ((RS.p r) / c0))), (0, .ref (q 0)), (1, .int (nI c0))]) hx hb dX2_cutRow_17 hl (by decide) rfl (fun ls hl => ?_)
  refine lv_iconst (v := nI 0) hx hb dX2_cutRow_19 (by decide) ?_
  refine lv_istore (lv' := [(5, .int (nI 0)), (4, .int (nI 0)), (3, .int (nI (r.p % c0))), (2, .int (nI ((RS.p r) / c0))), (0, .ref (q 0)), (1, .int (nI c0))]) hx hb dX2_cutRow_20 hl (by decide) rfl (fun ls hl => ?_)
  have L22 : ∀ (fuel : Nat) (i : Nat), (i ≤ c0) → c0 - i < fuel → ∀ (H : Heap) (locs : List Loc), va_P (dC, dI) vwCl (wR q cI cZ (RS.s_ch (RS.s_st r (cpN (bg r.p c0) r.st i)) (chF r.p c0 r.ch i))) H → va_D A (wR q cI cZ (RS.s_ch (RS.s_st r (cpN (bg r.p c0) r.st i)) (chF r.p c0 r.ch i))) → va_S A s.heap H locs → ∀ ls : Array Slot, lv_has ls 7 [(0, .ref (q 0)), (1, .int (nI c0)), (2, .int (nI (r.p / c0))), (3, .int (nI (r.p % c0))), (4, .int (nI (bg r.p c0 i))), (5, .int (nI i))] → W p l e ({ frames := 0, cells := 0, slots := 0, locals := 0 } : Room) s m ([.ref (q 0), .int (nI c0)] : List Value).toArray below meth c H locs 0 0 (MQ below (va_Qv (fun (u : RS) => u = cutF r c0) (fun (u : RS) => cB (dC, dI) vwCl [(cI, .int), (cZ, .boolean)] (wR q cI cZ u) (A)) (A)) ([.ref (q 0), .int (nI c0)] : List Value).toArray s 0 0 A) (F0 m 22 ls []) := by
    intro fuel
    induction fuel with
    | zero => intro i i1 hm H locs hP hD hS ls hl; exact absurd hm (Nat.not_lt_zero _)
    | succ fuel ih22 =>
      intro i i1 hm H locs hP hD hS ls hl
      have g8 := g5 i i1
      refine lv_iload hx hb dX2_cutRow_22 (lv_at hl 5 rfl) ?_
      refine lv_iload_n hx hb dX2_cutRow_24 rfl (lv_at hl 1 rfl) ?_
      refine xn_cge (tgt := 83) hx hb (by omega) (by omega) dX2_cutRow_25 (by decide) (fun c_1 => ?_) (fun c_1 => ?_)
      · refine lv_aload_n hx hb dX2_cutRow_83 rfl (lv_at hl 0 rfl) ?_
        refine va_get (D := (dC, dI)) (ci := 2) (v := .ref (q 9)) (C := RX2) (T := TX2) (N := 12) hx hb hts inX2 hown hK hP 0 rfl rfl 11 (by decide) (hts _ tw_42) (fun _ h9 => h9) rfl dX2_cutRow_84 ?_
        refine lv_iload_n hx hb dX2_cutRow_87 rfl (lv_at hl 1 rfl) ?_
        refine lv_iload hx hb dX2_cutRow_88 (lv_at hl 4 rfl) ?_
        refine xa_ist hx hb hK hP hD hS 9 0 rfl rfl (by omega) (by decide) (aN_up _ _ _) dX2_cutRow_90 (fun H locs hP hD hS => ?_)
        have hP : va_P (dC, dI) vwCl (wR q cI cZ (RS.s_st (RS.s_ch (RS.s_st r (cpN (bg r.p c0) r.st i)) (chF r.p c0 r.ch i)) (va_up (cpN (bg r.p c0) r.st i) c0 (bg r.p c0 i)))) H := hP
        have hD : va_D A (wR q cI cZ (RS.s_st (RS.s_ch (RS.s_st r (cpN (bg r.p c0) r.st i)) (chF r.p c0 r.ch i)) (va_up (cpN (bg r.p c0) r.st i) c0 (bg r.p c0 i)))) := hD
        refine lv_aload_n hx hb dX2_cutRow_91 rfl (lv_at hl 0 rfl) ?_
        refine lv_iload_n hx hb dX2_cutRow_92 rfl (lv_at hl 1 rfl) ?_
        refine va_put (D := (dC, dI)) (ci := 2) (v := .int (nI c0)) (ty := .int) (C := RX2) (T := TX2) (N := 12) hx hb hts inX2 tyX2 tyX2_ok nmX2 hown hK hP hD hS 0 rfl rfl 1 (by decide) (hts _ tw_29) (fun _ h9 => h9) rfl (by decide +kernel) rfl rfl (Nat.le_of_ble_eq_true rfl) dX2_cutRow_93 (fun H locs hP hD hS => ?_)
        have hP : va_P (dC, dI) vwCl (wR q cI cZ (RS.s_c (RS.s_st (RS.s_ch (RS.s_st r (cpN (bg r.p c0) r.st i)) (chF r.p c0 r.ch i)) (va_up (cpN (bg r.p c0) r.st i) c0 (bg r.p c0 i))) c0)) H := hP
        have hD : va_D A (wR q cI cZ (RS.s_c (RS.s_st (RS.s_ch (RS.s_st r (cpN (bg r.p c0) r.st i)) (chF r.p c0 r.ch i)) (va_up (cpN (bg r.p c0) r.st i) c0 (bg r.p c0 i))) c0)) := hD
        exact xr_v hx hb hr hlk (u := RS.s_c (RS.s_st (RS.s_ch (RS.s_st r (cpN (bg r.p c0) r.st i)) (chF r.p c0 r.ch i)) (va_up (cpN (bg r.p c0) r.st i) c0 (bg r.p c0 i))) c0) (by unfold cutF; rw [show c0 = i by omega, cpN_s]) hP hK hD hS dX2_cutRow_96
      · have g8 := g5 i (by omega)
        have g9 := g5 (i + 1) (by omega)
        refine lv_aload_n hx hb dX2_cutRow_28 rfl (lv_at hl 0 rfl) ?_
        refine va_get (D := (dC, dI)) (ci := 2) (v := .ref (q 9)) (C := RX2) (T := TX2) (N := 12) hx hb hts inX2 hown hK hP 0 rfl rfl 11 (by decide) (hts _ tw_42) (fun _ h9 => h9) rfl dX2_cutRow_29 ?_
        refine lv_iload hx hb dX2_cutRow_32 (lv_at hl 5 rfl) ?_
        refine lv_iload hx hb dX2_cutRow_34 (lv_at hl 4 rfl) ?_
        refine xa_ist hx hb hK hP hD hS 9 0 rfl rfl (by omega) (by decide) (aN_up _ _ _) dX2_cutRow_36 (fun H locs hP hD hS => ?_)
        have hP : va_P (dC, dI) vwCl (wR q cI cZ (RS.s_st (RS.s_ch (RS.s_st r (cpN (bg r.p c0) r.st i)) (chF r.p c0 r.ch i)) (va_up (cpN (bg r.p c0) r.st i) i (bg r.p c0 i)))) H := hP
        have hD : va_D A (wR q cI cZ (RS.s_st (RS.s_ch (RS.s_st r (cpN (bg r.p c0) r.st i)) (chF r.p c0 r.ch i)) (va_up (cpN (bg r.p c0) r.st i) i (bg r.p c0 i)))) := hD
        rw [cpN_s] at hP hD
        refine lv_iload hx hb dX2_cutRow_37 (lv_at hl 4 rfl) ?_
        refine lv_iload_n hx hb dX2_cutRow_39 rfl (lv_at hl 2 rfl) ?_
        refine xn_add hx hb dX2_cutRow_40 ?_
        refine lv_iload hx hb dX2_cutRow_41 (lv_at hl 5 rfl) ?_
        refine lv_iload_n hx hb dX2_cutRow_43 rfl (lv_at hl 3 rfl) ?_
        refine xn_cge (tgt := 51) hx hb (by omega) (by omega) dX2_cutRow_44 (by decide) (fun c_2 => ?_) (fun c_2 => ?_)
        · refine lv_iconst (v := nI 0) hx hb dX2_cutRow_51 (by decide) ?_
          refine xn_add hx hb dX2_cutRow_52 ?_
          refine xt_i (show nI (((bg r.p c0 i) + (r.p / c0)) + 0) = nI (bg r.p c0 (i + 1)) from congrArg nI (bg_s0 (by omega))) ?_
          refine lv_istore (lv' := [(6, .int (nI (bg r.p c0 (i + 1)))), (0, .ref (q 0)), (1, .int (nI c0)), (2, .int (nI (r.p / c0))), (3, .int (nI (r.p % c0))), (4, .int (nI (bg r.p c0 i))), (5, .int (nI i))]) hx hb dX2_cutRow_53 hl (by decide) rfl (fun ls hl => ?_)
          have hP : va_P (dC, dI) vwCl (wR q cI cZ (RS.s_ch (RS.s_st r (cpN (bg r.p c0) r.st (i + 1))) (chI r.p c0 r.ch i (bg r.p c0 i)))) H := by rw [chI_0]; exact hP
          have hD : va_D A (wR q cI cZ (RS.s_ch (RS.s_st r (cpN (bg r.p c0) r.st (i + 1))) (chI r.p c0 r.ch i (bg r.p c0 i)))) := by rw [chI_0]; exact hD
          have L55 : ∀ (fuel : Nat) (e0 : Nat), (bg r.p c0 i ≤ e0) → (e0 ≤ bg r.p c0 (i + 1)) → bg r.p c0 (i + 1) - e0 < fuel → ∀ (H : Heap) (locs : List Loc), va_P (dC, dI) vwCl (wR q cI cZ (RS.s_ch (RS.s_st r (cpN (bg r.p c0) r.st (i + 1))) (chI r.p c0 r.ch i e0))) H → va_D A (wR q cI cZ (RS.s_ch (RS.s_st r (cpN (bg r.p c0) r.st (i + 1))) (chI r.p c0 r.ch i e0))) → va_S A s.heap H locs → ∀ ls : Array Slot, lv_has ls 7 [(0, .ref (q 0)), (1, .int (nI c0)), (2, .int (nI (r.p / c0))), (3, .int (nI (r.p % c0))), (4, .int (nI e0)), (5, .int (nI i)), (6, .int (nI (bg r.p c0 (i + 1))))] → W p l e ({ frames := 0, cells := 0, slots := 0, locals := 0 } : Room) s m ([.ref (q 0), .int (nI c0)] : List Value).toArray below meth c H locs 0 0 (MQ below (va_Qv (fun (u : RS) => u = cutF r c0) (fun (u : RS) => cB (dC, dI) vwCl [(cI, .int), (cZ, .boolean)] (wR q cI cZ u) (A)) (A)) ([.ref (q 0), .int (nI c0)] : List Value).toArray s 0 0 A) (F0 m 55 ls []) := by
            intro fuel
            induction fuel with
            | zero => intro e0 p1 p2 hm H locs hP hD hS ls hl; exact absurd hm (Nat.not_lt_zero _)
            | succ fuel ih55 =>
              intro e0 p1 p2 hm H locs hP hD hS ls hl
              refine lv_iload hx hb dX2_cutRow_55 (lv_at hl 4 rfl) ?_
              refine lv_iload hx hb dX2_cutRow_57 (lv_at hl 6 rfl) ?_
              refine xn_cge (tgt := 77) hx hb (by omega) (by omega) dX2_cutRow_59 (by decide) (fun c_3 => ?_) (fun c_3 => ?_)
              · have e6 : e0 = bg r.p c0 (i + 1) := by omega
                subst e6
                refine lv_iinc (v := nI (i + 1)) (lv' := [(5, .int (nI (i + 1))), (0, .ref (q 0)), (1, .int (nI c0)), (2, .int (nI (r.p / c0))), (3, .int (nI (r.p % c0))), (4, .int (nI (bg r.p c0 (i + 1)))), (6, .int (nI (bg r.p c0 (i + 1))))]) hx hb dX2_cutRow_77 hl (k := 5) rfl (nI_1 _) (by decide) rfl (fun ls hl => ?_)
                refine lv_goto (tgt := 22) hx hb dX2_cutRow_80 (by decide) ?_
                exact ih22 (i + 1) (by omega) (by omega) H locs hP hD hS ls (lv_sub hl [1, 2, 3, 4, 5, 0] rfl)
              · refine lv_aload_n hx hb dX2_cutRow_62 rfl (lv_at hl 0 rfl) ?_
                refine va_get (D := (dC, dI)) (ci := 2) (v := .ref (q 8)) (C := RX2) (T := TX2) (N := 12) hx hb hts inX2 hown hK hP 0 rfl rfl 10 (by decide) (hts _ tw_41) (fun _ h9 => h9) rfl dX2_cutRow_63 ?_
                refine lv_iload hx hb dX2_cutRow_66 (lv_at hl 4 rfl) ?_
                refine lv_iload hx hb dX2_cutRow_68 (lv_at hl 5 rfl) ?_
                refine xa_ist hx hb hK hP hD hS 8 0 rfl rfl (by omega) (by decide) (aN_up _ _ _) dX2_cutRow_70 (fun H locs hP hD hS => ?_)
                have hP : va_P (dC, dI) vwCl (wR q cI cZ (RS.s_ch (RS.s_ch (RS.s_st r (cpN (bg r.p c0) r.st (i + 1))) (chI r.p c0 r.ch i e0)) (va_up (chI r.p c0 r.ch i e0) e0 i))) H := hP
                have hD : va_D A (wR q cI cZ (RS.s_ch (RS.s_ch (RS.s_st r (cpN (bg r.p c0) r.st (i + 1))) (chI r.p c0 r.ch i e0)) (va_up (chI r.p c0 r.ch i e0) e0 i))) := hD
                rw [chI_s r.ch (show bg r.p c0 i ≤ e0 by omega)] at hP hD
                refine lv_iinc (v := nI (e0 + 1)) (lv' := [(4, .int (nI (e0 + 1))), (0, .ref (q 0)), (1, .int (nI c0)), (2, .int (nI (r.p / c0))), (3, .int (nI (r.p % c0))), (5, .int (nI i)), (6, .int (nI (bg r.p c0 (i + 1))))]) hx hb dX2_cutRow_71 hl (k := 4) rfl (nI_1 _) (by decide) rfl (fun ls hl => ?_)
                refine lv_goto (tgt := 55) hx hb dX2_cutRow_74 (by decide) ?_
                exact ih55 (e0 + 1) (by omega) (by omega) (by omega) H locs hP hD hS ls (lv_sub hl [1, 2, 3, 4, 0, 5, 6] rfl)
          exact L55 ((bg r.p c0 (i + 1) - bg r.p c0 i) + 1) (bg r.p c0 i) (Nat.le_refl _) (bg_mono _ _ _) (Nat.lt_succ_self _) H locs hP hD hS ls (lv_sub hl [1, 2, 3, 4, 5, 6, 0] rfl)
        · refine lv_iconst (v := nI 1) hx hb dX2_cutRow_47 (by decide) ?_
          refine lv_goto (tgt := 52) hx hb dX2_cutRow_48 (by decide) ?_
          refine xn_add hx hb dX2_cutRow_52 ?_
          refine xt_i (show nI (((bg r.p c0 i) + (r.p / c0)) + 1) = nI (bg r.p c0 (i + 1)) from congrArg nI (bg_s1 (by omega))) ?_
          refine lv_istore (lv' := [(6, .int (nI (bg r.p c0 (i + 1)))), (0, .ref (q 0)), (1, .int (nI c0)), (2, .int (nI (r.p / c0))), (3, .int (nI (r.p % c0))), (4, .int (nI (bg r.p c0 i))), (5, .int (nI i))]) hx hb dX2_cutRow_53 hl (by decide) rfl (fun ls hl => ?_)
          have hP : va_P (dC, dI) vwCl (wR q cI cZ (RS.s_ch (RS.s_st r (cpN (bg r.p c0) r.st (i + 1))) (chI r.p c0 r.ch i (bg r.p c0 i)))) H := by rw [chI_0]; exact hP
          have hD : va_D A (wR q cI cZ (RS.s_ch (RS.s_st r (cpN (bg r.p c0) r.st (i + 1))) (chI r.p c0 r.ch i (bg r.p c0 i)))) := by rw [chI_0]; exact hD
          have L55 : ∀ (fuel : Nat) (e0 : Nat), (bg r.p c0 i ≤ e0) → (e0 ≤ bg r.p c0 (i + 1)) → bg r.p c0 (i + 1) - e0 < fuel → ∀ (H : Heap) (locs : List Loc), va_P (dC, dI) vwCl (wR q cI cZ (RS.s_ch (RS.s_st r (cpN (bg r.p c0) r.st (i + 1))) (chI r.p c0 r.ch i e0))) H → va_D A (wR q cI cZ (RS.s_ch (RS.s_st r (cpN (bg r.p c0) r.st (i + 1))) (chI r.p c0 r.ch i e0))) → va_S A s.heap H locs → ∀ ls : Array Slot, lv_has ls 7 [(0, .ref (q 0)), (1, .int (nI c0)), (2, .int (nI (r.p / c0))), (3, .int (nI (r.p % c0))), (4, .int (nI e0)), (5, .int (nI i)), (6, .int (nI (bg r.p c0 (i + 1))))] → W p l e ({ frames := 0, cells := 0, slots := 0, locals := 0 } : Room) s m ([.ref (q 0), .int (nI c0)] : List Value).toArray below meth c H locs 0 0 (MQ below (va_Qv (fun (u : RS) => u = cutF r c0) (fun (u : RS) => cB (dC, dI) vwCl [(cI, .int), (cZ, .boolean)] (wR q cI cZ u) (A)) (A)) ([.ref (q 0), .int (nI c0)] : List Value).toArray s 0 0 A) (F0 m 55 ls []) := by
            intro fuel
            induction fuel with
            | zero => intro e0 p1 p2 hm H locs hP hD hS ls hl; exact absurd hm (Nat.not_lt_zero _)
            | succ fuel ih55 =>
              intro e0 p1 p2 hm H locs hP hD hS ls hl
              refine lv_iload hx hb dX2_cutRow_55 (lv_at hl 4 rfl) ?_
              refine lv_iload hx hb dX2_cutRow_57 (lv_at hl 6 rfl) ?_
              refine xn_cge (tgt := 77) hx hb (by omega) (by omega) dX2_cutRow_59 (by decide) (fun c_4 => ?_) (fun c_4 => ?_)
              · have e6 : e0 = bg r.p c0 (i + 1) := by omega
                subst e6
                refine lv_iinc (v := nI (i + 1)) (lv' := [(5, .int (nI (i + 1))), (0, .ref (q 0)), (1, .int (nI c0)), (2, .int (nI (r.p / c0))), (3, .int (nI (r.p % c0))), (4, .int (nI (bg r.p c0 (i + 1)))), (6, .int (nI (bg r.p c0 (i + 1))))]) hx hb dX2_cutRow_77 hl (k := 5) rfl (nI_1 _) (by decide) rfl (fun ls hl => ?_)
                refine lv_goto (tgt := 22) hx hb dX2_cutRow_80 (by decide) ?_
                exact ih22 (i + 1) (by omega) (by omega) H locs hP hD hS ls (lv_sub hl [1, 2, 3, 4, 5, 0] rfl)
              · refine lv_aload_n hx hb dX2_cutRow_62 rfl (lv_at hl 0 rfl) ?_
                refine va_get (D := (dC, dI)) (ci := 2) (v := .ref (q 8)) (C := RX2) (T := TX2) (N := 12) hx hb hts inX2 hown hK hP 0 rfl rfl 10 (by decide) (hts _ tw_41) (fun _ h9 => h9) rfl dX2_cutRow_63 ?_
                refine lv_iload hx hb dX2_cutRow_66 (lv_at hl 4 rfl) ?_
                refine lv_iload hx hb dX2_cutRow_68 (lv_at hl 5 rfl) ?_
                refine xa_ist hx hb hK hP hD hS 8 0 rfl rfl (by omega) (by decide) (aN_up _ _ _) dX2_cutRow_70 (fun H locs hP hD hS => ?_)
                have hP : va_P (dC, dI) vwCl (wR q cI cZ (RS.s_ch (RS.s_ch (RS.s_st r (cpN (bg r.p c0) r.st (i + 1))) (chI r.p c0 r.ch i e0)) (va_up (chI r.p c0 r.ch i e0) e0 i))) H := hP
                have hD : va_D A (wR q cI cZ (RS.s_ch (RS.s_ch (RS.s_st r (cpN (bg r.p c0) r.st (i + 1))) (chI r.p c0 r.ch i e0)) (va_up (chI r.p c0 r.ch i e0) e0 i))) := hD
                rw [chI_s r.ch (show bg r.p c0 i ≤ e0 by omega)] at hP hD
                refine lv_iinc (v := nI (e0 + 1)) (lv' := [(4, .int (nI (e0 + 1))), (0, .ref (q 0)), (1, .int (nI c0)), (2, .int (nI (r.p / c0))), (3, .int (nI (r.p % c0))), (5, .int (nI i)), (6, .int (nI (bg r.p c0 (i + 1))))]) hx hb dX2_cutRow_71 hl (k := 4) rfl (nI_1 _) (by decide) rfl (fun ls hl => ?_)
                refine lv_goto (tgt := 55) hx hb dX2_cutRow_74 (by decide) ?_
                exact ih55 (e0 + 1) (by omega) (by omega) (by omega) H locs hP hD hS ls (lv_sub hl [1, 2, 3, 4, 0, 5, 6] rfl)
          exact L55 ((bg r.p c0 (i + 1) - bg r.p c0 i) + 1) (bg r.p c0 i) (Nat.le_refl _) (bg_mono _ _ _) (Nat.lt_succ_self _) H locs hP hD hS ls (lv_sub hl [1, 2, 3, 4, 5, 6, 0] rfl)
  exact L22 ((c0 - 0) + 1) 0 (by omega) (Nat.lt_succ_self _) H locs hP hD hS ls (lv_sub hl [4, 5, 3, 2, 1, 0] rfl)
end
section
/-! at first -/
abbrev r0 : RS := (0, 0, 0, (fun _ => 0), (fun _ => 0), (fun _ => 0), (fun _ => 0), (fun _ => 0), (fun _ => 0), (fun _ => 0), (fun _ => 0), (fun _ => 0))
abbrev k0 : CS := (0, (fun _ => 0), (fun _ => 0), (fun _ => 0), (fun _ => 0))
abbrev a00 (nu : Int32) : AS := (0, 2, nu, 0, nI 0, 0, (fun _ => 0))
theorem arr_st (r : RS) {c0 i : Nat} (hi : i ≤ c0) : (cutF (srtF r) c0).st i = bg r.n c0 i := by
  show cpN (bg r.n c0) r.st (c0 + 1) i = _
  unfold cpN; rw [if_pos (by omega)]
theorem arr_le (r : RS) {c0 : Nat} (h : 0 < c0) : (cutF (srtF r) c0).st 0 ≤ (cutF (srtF r) c0).st (0 + 1) := by
  rw [arr_st r (by omega), arr_st r (by omega)]; exact bg_mono _ _ _
theorem arr_len (r : RS) {c0 : Nat} (h : 0 < c0) : RS.st (cutF (srtF r) c0) (0 + 1) - RS.st (cutF (srtF r) c0) 0 = bg r.n c0 1 := by
  rw [arr_st r (by omega), arr_st r (by omega)]; rfl
theorem sw_4 : Cond.selects "ScanRows$Rows" (⟨"ScanRows$Rows", "sortRow", "()V"⟩ : MethodName) (⟨"ScanRows$Rows", "sortRow", "()V"⟩ : MethodName) ∈ ALLG := al_s (i := 4) (by decide +kernel) (by decide +kernel)
theorem sw_6 : Cond.selects "ScanRows$Rows" (⟨"ScanRows$Rows", "cutRow", "(I)V"⟩ : MethodName) (⟨"ScanRows$Rows", "cutRow", "(I)V"⟩ : MethodName) ∈ ALLG := al_s (i := 6) (by decide +kernel) (by decide +kernel)
theorem tw_18 : (Cond.methodLink "ScanRows" (1 : Nat) ({ cls := "java/lang/Object", name := "<init>", desc := "()V" } : Jvm.MethodName)) ∈ ALLG := al_t (i := 18) (by decide +kernel) (by decide +kernel)
theorem tw_19 : (Cond.instanceMethod ({ cls := "java/lang/Object", name := "<init>", desc := "()V" } : Jvm.MethodName)) ∈ ALLG := al_t (i := 19) (by decide +kernel) (by decide +kernel)
theorem tw_20 : (Cond.code ({ cls := "java/lang/Object", name := "<init>", desc := "()V" } : Jvm.MethodName) object_method_1_code (1 : Nat) (Option.none : Option Jvm.ClassFile.FieldType)) ∈ ALLG := al_t (i := 20) (by decide +kernel) (by decide +kernel)
theorem tw_21 : (Cond.classLink "ScanRows" (7 : Nat) "ScanRows$Rows") ∈ ALLG := al_t (i := 21) (by decide +kernel) (by decide +kernel)
theorem tw_22 : (Cond.instantiable "ScanRows$Rows" (12 : Nat)) ∈ ALLG := al_t (i := 22) (by decide +kernel) (by decide +kernel)
theorem tw_23 : (Cond.methodLink "ScanRows" (9 : Nat) ({ cls := "ScanRows$Rows", name := "<init>", desc := "()V" } : Jvm.MethodName)) ∈ ALLG := al_t (i := 23) (by decide +kernel) (by decide +kernel)
theorem tw_24 : (Cond.instanceMethod ({ cls := "ScanRows$Rows", name := "<init>", desc := "()V" } : Jvm.MethodName)) ∈ ALLG := al_t (i := 24) (by decide +kernel) (by decide +kernel)
theorem tw_25 : (Cond.code ({ cls := "ScanRows$Rows", name := "<init>", desc := "()V" } : Jvm.MethodName) prog_4_method_1_code (1 : Nat) (Option.none : Option Jvm.ClassFile.FieldType)) ∈ ALLG := al_t (i := 25) (by decide +kernel) (by decide +kernel)
theorem tw_26 : (Cond.methodLink "ScanRows$Rows" (3 : Nat) ({ cls := "java/lang/Object", name := "<init>", desc := "()V" } : Jvm.MethodName)) ∈ ALLG := al_t (i := 26) (by decide +kernel) (by decide +kernel)
theorem tw_68 : (Cond.arrayClass FieldType.int) ∈ ALLG := al_t (i := 68) (by decide +kernel) (by decide +kernel)
theorem tw_69 : (Cond.arrayClass FieldType.boolean) ∈ ALLG := al_t (i := 69) (by decide +kernel) (by decide +kernel)
theorem tw_70 : (Cond.classLink "ScanRows" (16 : Nat) "ScanRows$Cells") ∈ ALLG := al_t (i := 70) (by decide +kernel) (by decide +kernel)
theorem tw_71 : (Cond.instantiable "ScanRows$Cells" (5 : Nat)) ∈ ALLG := al_t (i := 71) (by decide +kernel) (by decide +kernel)
theorem tw_72 : (Cond.methodLink "ScanRows" (18 : Nat) ({ cls := "ScanRows$Cells", name := "<init>", desc := "()V" } : Jvm.MethodName)) ∈ ALLG := al_t (i := 72) (by decide +kernel) (by decide +kernel)
theorem tw_73 : (Cond.instanceMethod ({ cls := "ScanRows$Cells", name := "<init>", desc := "()V" } : Jvm.MethodName)) ∈ ALLG := al_t (i := 73) (by decide +kernel) (by decide +kernel)
theorem tw_74 : (Cond.code ({ cls := "ScanRows$Cells", name := "<init>", desc := "()V" } : Jvm.MethodName) prog_3_method_1_code (1 : Nat) (Option.none : Option Jvm.ClassFile.FieldType)) ∈ ALLG := al_t (i := 74) (by decide +kernel) (by decide +kernel)
theorem tw_75 : (Cond.methodLink "ScanRows$Cells" (3 : Nat) ({ cls := "java/lang/Object", name := "<init>", desc := "()V" } : Jvm.MethodName)) ∈ ALLG := al_t (i := 75) (by decide +kernel) (by decide +kernel)
theorem tw_95 : (Cond.classLink "ScanRows" (23 : Nat) "ScanRows$Access") ∈ ALLG := al_t (i := 95) (by decide +kernel) (by decide +kernel)
theorem tw_96 : (Cond.instantiable "ScanRows$Access" (9 : Nat)) ∈ ALLG := al_t (i := 96) (by decide +kernel) (by decide +kernel)
theorem tw_97 : (Cond.methodLink "ScanRows" (25 : Nat) ({ cls := "ScanRows$Access", name := "<init>", desc := "(ILScanRows$Rows;LScanRows$Cells;)V" } : Jvm.MethodName)) ∈ ALLG := al_t (i := 97) (by decide +kernel) (by decide +kernel)
theorem tw_98 : (Cond.instanceMethod ({ cls := "ScanRows$Access", name := "<init>", desc := "(ILScanRows$Rows;LScanRows$Cells;)V" } : Jvm.MethodName)) ∈ ALLG := al_t (i := 98) (by decide +kernel) (by decide +kernel)
theorem tw_99 : (Cond.code ({ cls := "ScanRows$Access", name := "<init>", desc := "(ILScanRows$Rows;LScanRows$Cells;)V" } : Jvm.MethodName) prog_2_method_1_code (4 : Nat) (Option.none : Option Jvm.ClassFile.FieldType)) ∈ ALLG := al_t (i := 99) (by decide +kernel) (by decide +kernel)
theorem tw_100 : (Cond.methodLink "ScanRows$Access" (3 : Nat) ({ cls := "java/lang/Object", name := "<init>", desc := "()V" } : Jvm.MethodName)) ∈ ALLG := al_t (i := 100) (by decide +kernel) (by decide +kernel)
theorem tw_131 : (Cond.fieldLink "ScanRows" (10 : Nat) "ScanRows" "rows" "LScanRows$Rows;") ∈ ALLG := al_t (i := 131) (by decide +kernel) (by decide +kernel)
theorem tw_132 : (Cond.fieldLink "ScanRows" (19 : Nat) "ScanRows" "cells" "LScanRows$Cells;") ∈ ALLG := al_t (i := 132) (by decide +kernel) (by decide +kernel)
theorem tw_133 : (Cond.fieldLink "ScanRows" (28 : Nat) "ScanRows" "access" "LScanRows$Access;") ∈ ALLG := al_t (i := 133) (by decide +kernel) (by decide +kernel)
theorem tw_291 : (Cond.methodLink "ScanRows$Rows" (44 : Nat) ({ cls := "ScanRows$Rows", name := "sortRow", desc := "()V" } : Jvm.MethodName)) ∈ ALLG := al_t (i := 291) (by decide +kernel) (by decide +kernel)
theorem tw_293 : (Cond.instanceMethod ({ cls := "ScanRows$Rows", name := "sortRow", desc := "()V" } : Jvm.MethodName)) ∈ ALLG := al_t (i := 293) (by decide +kernel) (by decide +kernel)
theorem tw_294 : (Cond.code ({ cls := "ScanRows$Rows", name := "sortRow", desc := "()V" } : Jvm.MethodName) prog_4_method_4_code (3 : Nat) (Option.none : Option Jvm.ClassFile.FieldType)) ∈ ALLG := al_t (i := 294) (by decide +kernel) (by decide +kernel)
theorem tw_299 : (Cond.methodLink "ScanRows$Rows" (47 : Nat) ({ cls := "ScanRows$Rows", name := "cutRow", desc := "(I)V" } : Jvm.MethodName)) ∈ ALLG := al_t (i := 299) (by decide +kernel) (by decide +kernel)
theorem tw_301 : (Cond.instanceMethod ({ cls := "ScanRows$Rows", name := "cutRow", desc := "(I)V" } : Jvm.MethodName)) ∈ ALLG := al_t (i := 301) (by decide +kernel) (by decide +kernel)
theorem tw_302 : (Cond.code ({ cls := "ScanRows$Rows", name := "cutRow", desc := "(I)V" } : Jvm.MethodName) prog_4_method_6_code (7 : Nat) (Option.none : Option Jvm.ClassFile.FieldType)) ∈ ALLG := al_t (i := 302) (by decide +kernel) (by decide +kernel)
theorem tw_303 : (Cond.methodLink "ScanRows$Rows" (51 : Nat) ({ cls := "ScanRows$Rows", name := "lengthOf", desc := "(I)I" } : Jvm.MethodName)) ∈ ALLG := al_t (i := 303) (by decide +kernel) (by decide +kernel)
theorem tw_304 : (Cond.instanceMethod ({ cls := "ScanRows$Rows", name := "lengthOf", desc := "(I)I" } : Jvm.MethodName)) ∈ ALLG := al_t (i := 304) (by decide +kernel) (by decide +kernel)
theorem tw_305 : (Cond.selects "ScanRows$Rows" ({ cls := "ScanRows$Rows", name := "lengthOf", desc := "(I)I" } : Jvm.MethodName) ({ cls := "ScanRows$Rows", name := "lengthOf", desc := "(I)I" } : Jvm.MethodName)) ∈ ALLG := al_t (i := 305) (by decide +kernel) (by decide +kernel)
theorem tw_306 : (Cond.code ({ cls := "ScanRows$Rows", name := "lengthOf", desc := "(I)I" } : Jvm.MethodName) prog_4_method_8_code (2 : Nat) (Option.some FieldType.int)) ∈ ALLG := al_t (i := 306) (by decide +kernel) (by decide +kernel)
theorem dX2_arrange_0 : decode cX2_arrange 0 = .ok (.aload_n 0, 1) := by decide +kernel
theorem dX2_arrange_1 : decode cX2_arrange 1 = .ok (.invokevirtual 44, 3) := by decide +kernel
theorem dX2_arrange_4 : decode cX2_arrange 4 = .ok (.aload_n 0, 1) := by decide +kernel
theorem dX2_arrange_5 : decode cX2_arrange 5 = .ok (.iload_n 1, 1) := by decide +kernel
theorem dX2_arrange_6 : decode cX2_arrange 6 = .ok (.invokevirtual 47, 3) := by decide +kernel
theorem dX2_arrange_9 : decode cX2_arrange 9 = .ok (.aload_n 0, 1) := by decide +kernel
theorem dX2_arrange_10 : decode cX2_arrange 10 = .ok (.iconst 0, 1) := by decide +kernel
theorem dX2_arrange_11 : decode cX2_arrange 11 = .ok (.invokevirtual 51, 3) := by decide +kernel
theorem dX2_arrange_14 : decode cX2_arrange 14 = .ok (.ireturn, 1) := by decide +kernel
theorem dX2_init_0 : decode cX2_init 0 = .ok (.aload_n 0, 1) := by decide +kernel
theorem dX2_init_1 : decode cX2_init 1 = .ok (.invokespecial 3, 3) := by decide +kernel
theorem dX2_init_4 : decode cX2_init 4 = .ok (.aload_n 0, 1) := by decide +kernel
theorem dX2_init_5 : decode cX2_init 5 = .ok (.bipush 32, 2) := by decide +kernel
theorem dX2_init_7 : decode cX2_init 7 = .ok (.newarray .int, 2) := by decide +kernel
theorem dX2_init_9 : decode cX2_init 9 = .ok (.putfield 9, 3) := by decide +kernel
theorem dX2_init_12 : decode cX2_init 12 = .ok (.aload_n 0, 1) := by decide +kernel
theorem dX2_init_13 : decode cX2_init 13 = .ok (.bipush 32, 2) := by decide +kernel
theorem dX2_init_15 : decode cX2_init 15 = .ok (.newarray .int, 2) := by decide +kernel
theorem dX2_init_17 : decode cX2_init 17 = .ok (.putfield 15, 3) := by decide +kernel
theorem dX2_init_20 : decode cX2_init 20 = .ok (.aload_n 0, 1) := by decide +kernel
theorem dX2_init_21 : decode cX2_init 21 = .ok (.bipush 32, 2) := by decide +kernel
theorem dX2_init_23 : decode cX2_init 23 = .ok (.newarray .int, 2) := by decide +kernel
theorem dX2_init_25 : decode cX2_init 25 = .ok (.putfield 18, 3) := by decide +kernel
theorem dX2_init_28 : decode cX2_init 28 = .ok (.aload_n 0, 1) := by decide +kernel
theorem dX2_init_29 : decode cX2_init 29 = .ok (.bipush 32, 2) := by decide +kernel
theorem dX2_init_31 : decode cX2_init 31 = .ok (.newarray .int, 2) := by decide +kernel
theorem dX2_init_33 : decode cX2_init 33 = .ok (.putfield 21, 3) := by decide +kernel
theorem dX2_init_36 : decode cX2_init 36 = .ok (.aload_n 0, 1) := by decide +kernel
theorem dX2_init_37 : decode cX2_init 37 = .ok (.bipush 32, 2) := by decide +kernel
theorem dX2_init_39 : decode cX2_init 39 = .ok (.newarray .boolean, 2) := by decide +kernel
theorem dX2_init_41 : decode cX2_init 41 = .ok (.putfield 24, 3) := by decide +kernel
theorem dX2_init_44 : decode cX2_init 44 = .ok (.aload_n 0, 1) := by decide +kernel
theorem dX2_init_45 : decode cX2_init 45 = .ok (.bipush 32, 2) := by decide +kernel
theorem dX2_init_47 : decode cX2_init 47 = .ok (.newarray .int, 2) := by decide +kernel
theorem dX2_init_49 : decode cX2_init 49 = .ok (.putfield 28, 3) := by decide +kernel
theorem dX2_init_52 : decode cX2_init 52 = .ok (.aload_n 0, 1) := by decide +kernel
theorem dX2_init_53 : decode cX2_init 53 = .ok (.bipush 32, 2) := by decide +kernel
theorem dX2_init_55 : decode cX2_init 55 = .ok (.newarray .int, 2) := by decide +kernel
theorem dX2_init_57 : decode cX2_init 57 = .ok (.putfield 31, 3) := by decide +kernel
theorem dX2_init_60 : decode cX2_init 60 = .ok (.aload_n 0, 1) := by decide +kernel
theorem dX2_init_61 : decode cX2_init 61 = .ok (.bipush 32, 2) := by decide +kernel
theorem dX2_init_63 : decode cX2_init 63 = .ok (.newarray .int, 2) := by decide +kernel
theorem dX2_init_65 : decode cX2_init 65 = .ok (.putfield 34, 3) := by decide +kernel
theorem dX2_init_68 : decode cX2_init 68 = .ok (.aload_n 0, 1) := by decide +kernel
theorem dX2_init_69 : decode cX2_init 69 = .ok (.bipush 9, 2) := by decide +kernel
theorem dX2_init_71 : decode cX2_init 71 = .ok (.newarray .int, 2) := by decide +kernel
theorem dX2_init_73 : decode cX2_init 73 = .ok (.putfield 37, 3) := by decide +kernel
theorem dX2_init_76 : decode cX2_init 76 = .ok (.return_, 1) := by decide +kernel
theorem dX1_init_0 : decode cX1_init 0 = .ok (.aload_n 0, 1) := by decide +kernel
theorem dX1_init_1 : decode cX1_init 1 = .ok (.invokespecial 3, 3) := by decide +kernel
theorem dX1_init_4 : decode cX1_init 4 = .ok (.aload_n 0, 1) := by decide +kernel
theorem dX1_init_5 : decode cX1_init 5 = .ok (.bipush 20, 2) := by decide +kernel
theorem dX1_init_7 : decode cX1_init 7 = .ok (.newarray .int, 2) := by decide +kernel
theorem dX1_init_9 : decode cX1_init 9 = .ok (.putfield 9, 3) := by decide +kernel
theorem dX1_init_12 : decode cX1_init 12 = .ok (.aload_n 0, 1) := by decide +kernel
theorem dX1_init_13 : decode cX1_init 13 = .ok (.bipush 20, 2) := by decide +kernel
theorem dX1_init_15 : decode cX1_init 15 = .ok (.newarray .int, 2) := by decide +kernel
theorem dX1_init_17 : decode cX1_init 17 = .ok (.putfield 15, 3) := by decide +kernel
theorem dX1_init_20 : decode cX1_init 20 = .ok (.aload_n 0, 1) := by decide +kernel
theorem dX1_init_21 : decode cX1_init 21 = .ok (.bipush 20, 2) := by decide +kernel
theorem dX1_init_23 : decode cX1_init 23 = .ok (.newarray .int, 2) := by decide +kernel
theorem dX1_init_25 : decode cX1_init 25 = .ok (.putfield 18, 3) := by decide +kernel
theorem dX1_init_28 : decode cX1_init 28 = .ok (.aload_n 0, 1) := by decide +kernel
theorem dX1_init_29 : decode cX1_init 29 = .ok (.bipush 20, 2) := by decide +kernel
theorem dX1_init_31 : decode cX1_init 31 = .ok (.newarray .int, 2) := by decide +kernel
theorem dX1_init_33 : decode cX1_init 33 = .ok (.putfield 21, 3) := by decide +kernel
theorem dX1_init_36 : decode cX1_init 36 = .ok (.return_, 1) := by decide +kernel
theorem dX0_init_0 : decode cX0_init 0 = .ok (.aload_n 0, 1) := by decide +kernel
theorem dX0_init_1 : decode cX0_init 1 = .ok (.invokespecial 3, 3) := by decide +kernel
theorem dX0_init_4 : decode cX0_init 4 = .ok (.aload_n 0, 1) := by decide +kernel
theorem dX0_init_5 : decode cX0_init 5 = .ok (.iload_n 1, 1) := by decide +kernel
theorem dX0_init_6 : decode cX0_init 6 = .ok (.putfield 9, 3) := by decide +kernel
theorem dX0_init_9 : decode cX0_init 9 = .ok (.aload_n 0, 1) := by decide +kernel
theorem dX0_init_10 : decode cX0_init 10 = .ok (.aload_n 2, 1) := by decide +kernel
theorem dX0_init_11 : decode cX0_init 11 = .ok (.putfield 15, 3) := by decide +kernel
theorem dX0_init_14 : decode cX0_init 14 = .ok (.aload_n 0, 1) := by decide +kernel
theorem dX0_init_15 : decode cX0_init 15 = .ok (.aload_n 3, 1) := by decide +kernel
theorem dX0_init_16 : decode cX0_init 16 = .ok (.putfield 19, 3) := by decide +kernel
theorem dX0_init_19 : decode cX0_init 19 = .ok (.aload_n 0, 1) := by decide +kernel
theorem dX0_init_20 : decode cX0_init 20 = .ok (.iconst 0, 1) := by decide +kernel
theorem dX0_init_21 : decode cX0_init 21 = .ok (.putfield 23, 3) := by decide +kernel
theorem dX0_init_24 : decode cX0_init 24 = .ok (.aload_n 0, 1) := by decide +kernel
theorem dX0_init_25 : decode cX0_init 25 = .ok (.iconst 2, 1) := by decide +kernel
theorem dX0_init_26 : decode cX0_init 26 = .ok (.putfield 26, 3) := by decide +kernel
theorem dX0_init_29 : decode cX0_init 29 = .ok (.aload_n 0, 1) := by decide +kernel
theorem dX0_init_30 : decode cX0_init 30 = .ok (.bipush 16, 2) := by decide +kernel
theorem dX0_init_32 : decode cX0_init 32 = .ok (.newarray .int, 2) := by decide +kernel
theorem dX0_init_34 : decode cX0_init 34 = .ok (.putfield 29, 3) := by decide +kernel
theorem dX0_init_37 : decode cX0_init 37 = .ok (.return_, 1) := by decide +kernel
theorem dX3_init_0 : decode cX3_init 0 = .ok (.aload_n 0, 1) := by decide +kernel
theorem dX3_init_1 : decode cX3_init 1 = .ok (.invokespecial 1, 3) := by decide +kernel
theorem dX3_init_4 : decode cX3_init 4 = .ok (.aload_n 0, 1) := by decide +kernel
theorem dX3_init_5 : decode cX3_init 5 = .ok (.new 7, 3) := by decide +kernel
theorem dX3_init_8 : decode cX3_init 8 = .ok (.dup, 1) := by decide +kernel
theorem dX3_init_9 : decode cX3_init 9 = .ok (.invokespecial 9, 3) := by decide +kernel
theorem dX3_init_12 : decode cX3_init 12 = .ok (.putfield 10, 3) := by decide +kernel
theorem dX3_init_15 : decode cX3_init 15 = .ok (.aload_n 0, 1) := by decide +kernel
theorem dX3_init_16 : decode cX3_init 16 = .ok (.new 16, 3) := by decide +kernel
theorem dX3_init_19 : decode cX3_init 19 = .ok (.dup, 1) := by decide +kernel
theorem dX3_init_20 : decode cX3_init 20 = .ok (.invokespecial 18, 3) := by decide +kernel
theorem dX3_init_23 : decode cX3_init 23 = .ok (.putfield 19, 3) := by decide +kernel
theorem dX3_init_26 : decode cX3_init 26 = .ok (.aload_n 0, 1) := by decide +kernel
theorem dX3_init_27 : decode cX3_init 27 = .ok (.new 23, 3) := by decide +kernel
theorem dX3_init_30 : decode cX3_init 30 = .ok (.dup, 1) := by decide +kernel
theorem dX3_init_31 : decode cX3_init 31 = .ok (.iload_n 1, 1) := by decide +kernel
theorem dX3_init_32 : decode cX3_init 32 = .ok (.aload_n 0, 1) := by decide +kernel
theorem dX3_init_33 : decode cX3_init 33 = .ok (.getfield 10, 3) := by decide +kernel
theorem dX3_init_36 : decode cX3_init 36 = .ok (.aload_n 0, 1) := by decide +kernel
theorem dX3_init_37 : decode cX3_init 37 = .ok (.getfield 19, 3) := by decide +kernel
theorem dX3_init_40 : decode cX3_init 40 = .ok (.invokespecial 25, 3) := by decide +kernel
theorem dX3_init_43 : decode cX3_init 43 = .ok (.putfield 28, 3) := by decide +kernel
theorem dX3_init_46 : decode cX3_init 46 = .ok (.return_, 1) := by decide +kernel
set_option maxHeartbeats 4000000 in
set_option maxRecDepth 100000 in
theorem c_Rows_arrange (l : Launch) (dC : Nat → ClassId) (dI : Nat → Nat → Nat) (q : Nat → Nat) (cI cZ : ClassId) (sz : Nat) (r : RS) (c0 : Nat) (hB : RB r) (h1 : 0 < c0) (h2 : c0 ≤ 8) : Met l yX2_arrange (.code yX2_arrange cX2_arrange 2 (some .int) :: ALLG) ({ frames := 2, cells := 0, slots := 0, locals := 44 }) (va_Pc [.ref (q 0), .int (nI c0)] (cP (dC, dI) vwCl [(cI, .int), (cZ, .boolean)] (wR q cI cZ r) eT sz)) (va_Qi (fun (x : Int32) (u : RS) => x = nI (bg r.n c0 1) ∧ u = arrF r c0) (fun (u : RS) => cB (dC, dI) vwCl [(cI, .int), (cZ, .boolean)] (wR q cI cZ u) (va_A (wR q cI cZ r) sz)) (va_A (wR q cI cZ r) sz)) 0 0 (va_A (wR q cI cZ r) sz) := by
  refine xm_of (cc := cX2_arrange) (maxL := 2) (ret := some .int) (by decide) rfl (Nat.le_of_ble_eq_true rfl) ?_
  intro p e s m below meth c A hAe hx hb hr hml hts0 hown hlk hin hsz H locs hP hK hD hA hS hE ls hl
  have hts : ∀ w ∈ ALLG, w.before _ s = true := fun w h => hts0 w (List.mem_cons_of_mem _ h)
  rw [← hAe]
  have hl : lv_has ls 2 [(0, .ref (q 0)), (1, .int (nI c0))] := hl
  refine lv_aload_n hx hb dX2_arrange_0 rfl (lv_at hl 0 rfl) ?_
  refine xc_Vv (As := []) (wr := []) ⟨hx, hb, hml, hown, hts⟩ (c_Rows_sortRow l dC dI q cI cZ H.size r hB) (cwV 0 hts (gV tw_291 tw_293 sw_4 tw_2 tw_294) rfl rfl rfl (by decide +kernel) ⟨Nat.le_of_ble_eq_true rfl, Nat.le_of_ble_eq_true rfl⟩) rfl hl.1 rfl (Nat.le_of_ble_eq_true rfl) dX2_arrange_1 ⟨Nat.zero_le _, Nat.zero_le _⟩ hP hD hK hS hA [0, 1, 2, 3, 4, 5, 6, 7, 8, 9] [] rfl rfl (by decide) (by decide) (by decide) [0, 1] rfl (q0 := 0) rfl rfl rfl eT_M (trivial) (fun u_2 H locs w_3 hP hD hS => ?_)
  obtain rfl := w_3
  have hP : va_P (dC, dI) vwCl (wR q cI cZ (srtF r)) H := hP
  have hD : va_D A (wR q cI cZ (srtF r)) := hD
  refine lv_aload_n hx hb dX2_arrange_4 rfl (lv_at hl 0 rfl) ?_
  refine lv_iload_n hx hb dX2_arrange_5 rfl (lv_at hl 1 rfl) ?_
  refine xc_Vv (As := [.int (nI c0)]) (wr := []) ⟨hx, hb, hml, hown, hts⟩ (c_Rows_cutRow l dC dI q cI cZ H.size (srtF r) c0 (RB_srtF hB) h1 h2) (cwV 1 hts (gV tw_299 tw_301 sw_6 tw_2 tw_302) rfl rfl rfl (by decide +kernel) ⟨Nat.le_of_ble_eq_true rfl, Nat.le_of_ble_eq_true rfl⟩) rfl hl.1 rfl (Nat.le_of_ble_eq_true rfl) dX2_arrange_6 ⟨Nat.zero_le _, Nat.zero_le _⟩ hP hD hK hS hA [0, 1, 2, 3, 4, 5, 6, 7, 8, 9] [] rfl rfl (by decide) (by decide) (by decide) [0, 1] rfl (q0 := 0) rfl rfl rfl eT_M (trivial) (fun u_5 H locs w_6 hP hD hS => ?_)
  obtain rfl := w_6
  have hP : va_P (dC, dI) vwCl (wR q cI cZ (cutF (srtF r) c0)) H := hP
  have hD : va_D A (wR q cI cZ (cutF (srtF r) c0)) := hD
  refine lv_aload_n hx hb dX2_arrange_9 rfl (lv_at hl 0 rfl) ?_
  refine lv_iconst (v := nI 0) hx hb dX2_arrange_10 (by decide) ?_
  refine xc_Vi (As := [.int (nI 0)]) (wr := []) ⟨hx, hb, hml, hown, hts⟩ (c_Rows_lengthOf l dC dI q cI cZ H.size (cutF (srtF r) c0) 0 (by decide) (arr_le r h1)) (cwV 1 hts (gV tw_303 tw_304 tw_305 tw_2 tw_306) rfl rfl rfl (by decide +kernel) ⟨Nat.le_of_ble_eq_true rfl, Nat.le_of_ble_eq_true rfl⟩) rfl hl.1 rfl (Nat.le_of_ble_eq_true rfl) dX2_arrange_11 ⟨Nat.zero_le _, Nat.zero_le _⟩ hP hD hK hS hA [0, 1, 2, 3, 4, 5, 6, 7, 8, 9] [] rfl rfl (by decide) (by decide) (by decide) [0, 1] rfl (q0 := 0) rfl rfl rfl eT_M (trivial) (fun r_7 u_8 H locs w_9 hP hD hS => ?_)
  obtain rfl := w_9
  have hP : va_P (dC, dI) vwCl (wR q cI cZ (cutF (srtF r) c0)) H := hP
  have hD : va_D A (wR q cI cZ (cutF (srtF r) c0)) := hD
  exact xr_i hx hb hr hlk (u := cutF (srtF r) c0) (⟨by rw [arr_len r h1], rfl⟩) hP hK hD hS dX2_arrange_14
set_option maxHeartbeats 4000000 in
set_option maxRecDepth 100000 in
theorem c_Rows_init (l : Launch) (dC : Nat → ClassId) (dI : Nat → Nat → Nat) (cI cZ : ClassId) (sz : Nat) (h0 : Nat) : Met l yX2_init (.code yX2_init cX2_init 1 none :: ALLG) ({ frames := 1, cells := 9, slots := 265, locals := 20 }) (va_Pc [.ref h0] (cP (dC, dI) vwCl [(cI, .int), (cZ, .boolean)] ([(h0, .inr (2, [.int (nI 0), .int (nI 0), .int (nI 0), .null, .null, .null, .null, .null, .null, .null, .null, .null]))]) eT sz)) (va_Qv (fun (u : Nat → Nat) => u 0 = h0) (fun (u : Nat → Nat) => cB (dC, dI) vwCl [(cI, .int), (cZ, .boolean)] (wR u cI cZ r0) (va_A ([(h0, .inr (2, [.int (nI 0), .int (nI 0), .int (nI 0), .null, .null, .null, .null, .null, .null, .null, .null, .null]))]) sz)) (va_A ([(h0, .inr (2, [.int (nI 0), .int (nI 0), .int (nI 0), .null, .null, .null, .null, .null, .null, .null, .null, .null]))]) sz)) 9 265 (va_A ([(h0, .inr (2, [.int (nI 0), .int (nI 0), .int (nI 0), .null, .null, .null, .null, .null, .null, .null, .null, .null]))]) sz) := by
  refine xm_of (cc := cX2_init) (maxL := 1) (ret := none) (by decide) rfl (Nat.le_of_ble_eq_true rfl) ?_
  intro p e s m below meth c A hAe hx hb hr hml hts0 hown hlk hin hsz H locs hP hK hD hA hS hE ls hl
  have hts : ∀ w ∈ ALLG, w.before _ s = true := fun w h => hts0 w (List.mem_cons_of_mem _ h)
  rw [← hAe]
  have hl : lv_has ls 1 [(0, .ref h0)] := hl
  refine lv_aload_n hx hb dX2_init_0 rfl (lv_at hl 0 rfl) ?_
  refine W.objInit hx hb hown (hts _ tw_26) (hts _ tw_19) (hts _ tw_20) rfl (by rw [hml]; exact hl.1) rfl dX2_init_1 (Nat.le_of_ble_eq_true rfl) (Nat.le_of_ble_eq_true rfl) ?_
  refine W.eq (g2 := F0 m 4 ls []) rfl ?_
  refine lv_aload_n hx hb dX2_init_4 rfl (lv_at hl 0 rfl) ?_
  refine lv_bipush (v := nI 32) hx hb dX2_init_5 (by decide) ?_
  refine va_newa (atype := .int) (ty := .int) (a0 := (32, .inl (aN (fun _ => 0)))) hx hb (hts _ tw_68) rfl hK hP hD hS hA (fun _ => rfl) (by decide) (N' := 32) (by decide) (by decide) (Nat.le_of_ble_eq_true rfl) (Nat.le_of_ble_eq_true rfl) dX2_init_7 (fun a1 cN H hK hP hD hS => ?_)
  obtain rfl := xk_one 0 2 hK rfl rfl (fun _ z => by cases z)
  have hK : va_K (dC, dI) vwCl [(cI, .int), (cZ, .boolean)] s := hK.sub [0, 1] rfl
  have hP : va_P (dC, dI) vwCl [(h0, .inr (2, [.int (nI 0), .int (nI 0), .int (nI 0), .null, .null, .null, .null, .null, .null, .null, .null, .null])), (a1, .inl (cI, 32, .inl (aN (fun _ => 0))))] H := hP
  have hD : va_D A [(h0, .inr (2, [.int (nI 0), .int (nI 0), .int (nI 0), .null, .null, .null, .null, .null, .null, .null, .null, .null])), (a1, .inl (cI, 32, .inl (aN (fun _ => 0))))] := hD
  refine W.widen (k := 1) (n := 32) (by omega) (by omega) ?_
  refine va_putF (D := (dC, dI)) (ci := 2) (v := .ref a1) (ty := .array .int) (C := RX2) (T := TX2) (N := 12) hx hb hts inX2 tyX2 tyX2_ok nmX2 hown hK hP hD hS 0 rfl rfl 3 (by decide) (hts _ tw_33) (fun _ h9 => h9) rfl hin rfl (by decide +kernel) rfl rfl (Nat.le_of_ble_eq_true rfl) dX2_init_9 (fun H locs hP hD hS => ?_)
  have hP : va_P (dC, dI) vwCl [(h0, .inr (2, [.int (nI 0), .int (nI 0), .int (nI 0), .ref a1, .null, .null, .null, .null, .null, .null, .null, .null])), (a1, .inl (cI, 32, .inl (aN (fun _ => 0))))] H := hP
  have hD : va_D A [(h0, .inr (2, [.int (nI 0), .int (nI 0), .int (nI 0), .ref a1, .null, .null, .null, .null, .null, .null, .null, .null])), (a1, .inl (cI, 32, .inl (aN (fun _ => 0))))] := hD
  refine lv_aload_n hx hb dX2_init_12 rfl (lv_at hl 0 rfl) ?_
  refine lv_bipush (v := nI 32) hx hb dX2_init_13 (by decide) ?_
  refine va_newa (atype := .int) (ty := .int) (a0 := (32, .inl (aN (fun _ => 0)))) hx hb (hts _ tw_68) rfl hK hP hD hS hA (fun _ => rfl) (by decide) (N' := 32) (by decide) (by decide) (Nat.le_of_ble_eq_true rfl) (Nat.le_of_ble_eq_true rfl) dX2_init_15 (fun a2 cN H hK hP hD hS => ?_)
  obtain rfl := xk_one 0 2 hK rfl rfl (fun _ z => by cases z)
  have hK : va_K (dC, dI) vwCl [(cI, .int), (cZ, .boolean)] s := hK.sub [0, 1] rfl
  have hP : va_P (dC, dI) vwCl [(h0, .inr (2, [.int (nI 0), .int (nI 0), .int (nI 0), .ref a1, .null, .null, .null, .null, .null, .null, .null, .null])), (a1, .inl (cI, 32, .inl (aN (fun _ => 0)))), (a2, .inl (cI, 32, .inl (aN (fun _ => 0))))] H := hP
  have hD : va_D A [(h0, .inr (2, [.int (nI 0), .int (nI 0), .int (nI 0), .ref a1, .null, .null, .null, .null, .null, .null, .null, .null])), (a1, .inl (cI, 32, .inl (aN (fun _ => 0)))), (a2, .inl (cI, 32, .inl (aN (fun _ => 0))))] := hD
  refine W.widen (k := 2) (n := 64) (by omega) (by omega) ?_
  refine va_putF (D := (dC, dI)) (ci := 2) (v := .ref a2) (ty := .array .int) (C := RX2) (T := TX2) (N := 12) hx hb hts inX2 tyX2 tyX2_ok nmX2 hown hK hP hD hS 0 rfl rfl 4 (by decide) (hts _ tw_35) (fun _ h9 => h9) rfl hin rfl (by decide +kernel) rfl rfl (Nat.le_of_ble_eq_true rfl) dX2_init_17 (fun H locs hP hD hS => ?_)
  have hP : va_P (dC, dI) vwCl [(h0, .inr (2, [.int (nI 0), .int (nI 0), .int (nI 0), .ref a1, .ref a2, .null, .null, .null, .null, .null, .null, .null])), (a1, .inl (cI, 32, .inl (aN (fun _ => 0)))), (a2, .inl (cI, 32, .inl (aN (fun _ => 0))))] H := hP
  have hD : va_D A [(h0, .inr (2, [.int (nI 0), .int (nI 0), .int (nI 0), .ref a1, .ref a2, .null, .null, .null, .null, .null, .null, .null])), (a1, .inl (cI, 32, .inl (aN (fun _ => 0)))), (a2, .inl (cI, 32, .inl (aN (fun _ => 0))))] := hD
  refine lv_aload_n hx hb dX2_init_20 rfl (lv_at hl 0 rfl) ?_
  refine lv_bipush (v := nI 32) hx hb dX2_init_21 (by decide) ?_
  refine va_newa (atype := .int) (ty := .int) (a0 := (32, .inl (aN (fun _ => 0)))) hx hb (hts _ tw_68) rfl hK hP hD hS hA (fun _ => rfl) (by decide) (N' := 32) (by decide) (by decide) (Nat.le_of_ble_eq_true rfl) (Nat.le_of_ble_eq_true rfl) dX2_init_23 (fun a3 cN H hK hP hD hS => ?_)
  obtain rfl := xk_one 0 2 hK rfl rfl (fun _ z => by cases z)
  have hK : va_K (dC, dI) vwCl [(cI, .int), (cZ, .boolean)] s := hK.sub [0, 1] rfl
  have hP : va_P (dC, dI) vwCl [(h0, .inr (2, [.int (nI 0), .int (nI 0), .int (nI 0), .ref a1, .ref a2, .null, .null, .null, .null, .null, .null, .null])), (a1, .inl (cI, 32, .inl (aN (fun _ => 0)))), (a2, .inl (cI, 32, .inl (aN (fun _ => 0)))), (a3, .inl (cI, 32, .inl (aN (fun _ => 0))))] H := hP
  have hD : va_D A [(h0, .inr (2, [.int (nI 0), .int (nI 0), .int (nI 0), .ref a1, .ref a2, .null, .null, .null, .null, .null, .null, .null])), (a1, .inl (cI, 32, .inl (aN (fun _ => 0)))), (a2, .inl (cI, 32, .inl (aN (fun _ => 0)))), (a3, .inl (cI, 32, .inl (aN (fun _ => 0))))] := hD
  refine W.widen (k := 3) (n := 96) (by omega) (by omega) ?_
  refine va_putF (D := (dC, dI)) (ci := 2) (v := .ref a3) (ty := .array .int) (C := RX2) (T := TX2) (N := 12) hx hb hts inX2 tyX2 tyX2_ok nmX2 hown hK hP hD hS 0 rfl rfl 5 (by decide) (hts _ tw_36) (fun _ h9 => h9) rfl hin rfl (by decide +kernel) rfl rfl (Nat.le_of_ble_eq_true rfl) dX2_init_25 (fun H locs hP hD hS => ?_)
  have hP : va_P (dC, dI) vwCl [(h0, .inr (2, [.int (nI 0), .int (nI 0), .int (nI 0), .ref a1, .ref a2, .ref a3, .null, .null, .null, .null, .null, .null])), (a1, .inl (cI, 32, .inl (aN (fun _ => 0)))), (a2, .inl (cI, 32, .inl (aN (fun _ => 0)))), (a3, .inl (cI, 32, .inl (aN (fun _ => 0))))] H := hP
  have hD : va_D A [(h0, .inr (2, [.int (nI 0), .int (nI 0), .int (nI 0), .ref a1, .ref a2, .ref a3, .null, .null, .null, .null, .null, .null])), (a1, .inl (cI, 32, .inl (aN (fun _ => 0)))), (a2, .inl (cI, 32, .inl (aN (fun _ => 0)))), (a3, .inl (cI, 32, .inl (aN (fun _ => 0))))] := hD
  refine lv_aload_n hx hb dX2_init_28 rfl (lv_at hl 0 rfl) ?_
  refine lv_bipush (v := nI 32) hx hb dX2_init_29 (by decide) ?_
  refine va_newa (atype := .int) (ty := .int) (a0 := (32, .inl (aN (fun _ => 0)))) hx hb (hts _ tw_68) rfl hK hP hD hS hA (fun _ => rfl) (by decide) (N' := 32) (by decide) (by decide) (Nat.le_of_ble_eq_true rfl) (Nat.le_of_ble_eq_true rfl) dX2_init_31 (fun a4 cN H hK hP hD hS => ?_)
  obtain rfl := xk_one 0 2 hK rfl rfl (fun _ z => by cases z)
  have hK : va_K (dC, dI) vwCl [(cI, .int), (cZ, .boolean)] s := hK.sub [0, 1] rfl
  have hP : va_P (dC, dI) vwCl [(h0, .inr (2, [.int (nI 0), .int (nI 0), .int (nI 0), .ref a1, .ref a2, .ref a3, .null, .null, .null, .null, .null, .null])), (a1, .inl (cI, 32, .inl (aN (fun _ => 0)))), (a2, .inl (cI, 32, .inl (aN (fun _ => 0)))), (a3, .inl (cI, 32, .inl (aN (fun _ => 0)))), (a4, .inl (cI, 32, .inl (aN (fun _ => 0))))] H := hP
  have hD : va_D A [(h0, .inr (2, [.int (nI 0), .int (nI 0), .int (nI 0), .ref a1, .ref a2, .ref a3, .null, .null, .null, .null, .null, .null])), (a1, .inl (cI, 32, .inl (aN (fun _ => 0)))), (a2, .inl (cI, 32, .inl (aN (fun _ => 0)))), (a3, .inl (cI, 32, .inl (aN (fun _ => 0)))), (a4, .inl (cI, 32, .inl (aN (fun _ => 0))))] := hD
  refine W.widen (k := 4) (n := 128) (by omega) (by omega) ?_
  refine va_putF (D := (dC, dI)) (ci := 2) (v := .ref a4) (ty := .array .int) (C := RX2) (T := TX2) (N := 12) hx hb hts inX2 tyX2 tyX2_ok nmX2 hown hK hP hD hS 0 rfl rfl 6 (by decide) (hts _ tw_37) (fun _ h9 => h9) rfl hin rfl (by decide +kernel) rfl rfl (Nat.le_of_ble_eq_true rfl) dX2_init_33 (fun H locs hP hD hS => ?_)
  have hP : va_P (dC, dI) vwCl [(h0, .inr (2, [.int (nI 0), .int (nI 0), .int (nI 0), .ref a1, .ref a2, .ref a3, .ref a4, .null, .null, .null, .null, .null])), (a1, .inl (cI, 32, .inl (aN (fun _ => 0)))), (a2, .inl (cI, 32, .inl (aN (fun _ => 0)))), (a3, .inl (cI, 32, .inl (aN (fun _ => 0)))), (a4, .inl (cI, 32, .inl (aN (fun _ => 0))))] H := hP
  have hD : va_D A [(h0, .inr (2, [.int (nI 0), .int (nI 0), .int (nI 0), .ref a1, .ref a2, .ref a3, .ref a4, .null, .null, .null, .null, .null])), (a1, .inl (cI, 32, .inl (aN (fun _ => 0)))), (a2, .inl (cI, 32, .inl (aN (fun _ => 0)))), (a3, .inl (cI, 32, .inl (aN (fun _ => 0)))), (a4, .inl (cI, 32, .inl (aN (fun _ => 0))))] := hD
  refine lv_aload_n hx hb dX2_init_36 rfl (lv_at hl 0 rfl) ?_
  refine lv_bipush (v := nI 32) hx hb dX2_init_37 (by decide) ?_
  refine va_newa (atype := .boolean) (ty := .boolean) (a0 := (32, .inl (aN (fun _ => 0)))) hx hb (hts _ tw_69) rfl hK hP hD hS hA (fun _ => rfl) (by decide) (N' := 32) (by decide) (by decide) (Nat.le_of_ble_eq_true rfl) (Nat.le_of_ble_eq_true rfl) dX2_init_39 (fun a5 cN H hK hP hD hS => ?_)
  obtain rfl := xk_one 1 2 hK rfl rfl (fun _ z => by cases z)
  have hK : va_K (dC, dI) vwCl [(cI, .int), (cZ, .boolean)] s := hK.sub [0, 1] rfl
  have hP : va_P (dC, dI) vwCl [(h0, .inr (2, [.int (nI 0), .int (nI 0), .int (nI 0), .ref a1, .ref a2, .ref a3, .ref a4, .null, .null, .null, .null, .null])), (a1, .inl (cI, 32, .inl (aN (fun _ => 0)))), (a2, .inl (cI, 32, .inl (aN (fun _ => 0)))), (a3, .inl (cI, 32, .inl (aN (fun _ => 0)))), (a4, .inl (cI, 32, .inl (aN (fun _ => 0)))), (a5, .inl (cZ, 32, .inl (aN (fun _ => 0))))] H := hP
  have hD : va_D A [(h0, .inr (2, [.int (nI 0), .int (nI 0), .int (nI 0), .ref a1, .ref a2, .ref a3, .ref a4, .null, .null, .null, .null, .null])), (a1, .inl (cI, 32, .inl (aN (fun _ => 0)))), (a2, .inl (cI, 32, .inl (aN (fun _ => 0)))), (a3, .inl (cI, 32, .inl (aN (fun _ => 0)))), (a4, .inl (cI, 32, .inl (aN (fun _ => 0)))), (a5, .inl (cZ, 32, .inl (aN (fun _ => 0))))] := hD
  refine W.widen (k := 5) (n := 160) (by omega) (by omega) ?_
  refine va_putF (D := (dC, dI)) (ci := 2) (v := .ref a5) (ty := .array .boolean) (C := RX2) (T := TX2) (N := 12) hx hb hts inX2 tyX2 tyX2_ok nmX2 hown hK hP hD hS 0 rfl rfl 7 (by decide) (hts _ tw_38) (fun _ h9 => h9) rfl hin rfl (by decide +kernel) rfl rfl (Nat.le_of_ble_eq_true rfl) dX2_init_41 (fun H locs hP hD hS => ?_)
  have hP : va_P (dC, dI) vwCl [(h0, .inr (2, [.int (nI 0), .int (nI 0), .int (nI 0), .ref a1, .ref a2, .ref a3, .ref a4, .ref a5, .null, .null, .null, .null])), (a1, .inl (cI, 32, .inl (aN (fun _ => 0)))), (a2, .inl (cI, 32, .inl (aN (fun _ => 0)))), (a3, .inl (cI, 32, .inl (aN (fun _ => 0)))), (a4, .inl (cI, 32, .inl (aN (fun _ => 0)))), (a5, .inl (cZ, 32, .inl (aN (fun _ => 0))))] H := hP
  have hD : va_D A [(h0, .inr (2, [.int (nI 0), .int (nI 0), .int (nI 0), .ref a1, .ref a2, .ref a3, .ref a4, .ref a5, .null, .null, .null, .null])), (a1, .inl (cI, 32, .inl (aN (fun _ => 0)))), (a2, .inl (cI, 32, .inl (aN (fun _ => 0)))), (a3, .inl (cI, 32, .inl (aN (fun _ => 0)))), (a4, .inl (cI, 32, .inl (aN (fun _ => 0)))), (a5, .inl (cZ, 32, .inl (aN (fun _ => 0))))] := hD
  refine lv_aload_n hx hb dX2_init_44 rfl (lv_at hl 0 rfl) ?_
  refine lv_bipush (v := nI 32) hx hb dX2_init_45 (by decide) ?_
  refine va_newa (atype := .int) (ty := .int) (a0 := (32, .inl (aN (fun _ => 0)))) hx hb (hts _ tw_68) rfl hK hP hD hS hA (fun _ => rfl) (by decide) (N' := 32) (by decide) (by decide) (Nat.le_of_ble_eq_true rfl) (Nat.le_of_ble_eq_true rfl) dX2_init_47 (fun a6 cN H hK hP hD hS => ?_)
  obtain rfl := xk_one 0 2 hK rfl rfl (fun _ z => by cases z)
  have hK : va_K (dC, dI) vwCl [(cI, .int), (cZ, .boolean)] s := hK.sub [0, 1] rfl
  have hP : va_P (dC, dI) vwCl [(h0, .inr (2, [.int (nI 0), .int (nI 0), .int (nI 0), .ref a1, .ref a2, .ref a3, .ref a4, .ref a5, .null, .null, .null, .null])), (a1, .inl (cI, 32, .inl (aN (fun _ => 0)))), (a2, .inl (cI, 32, .inl (aN (fun _ => 0)))), (a3, .inl (cI, 32, .inl (aN (fun _ => 0)))), (a4, .inl (cI, 32, .inl (aN (fun _ => 0)))), (a5, .inl (cZ, 32, .inl (aN (fun _ => 0)))), (a6, .inl (cI, 32, .inl (aN (fun _ => 0))))] H := hP
  have hD : va_D A [(h0, .inr (2, [.int (nI 0), .int (nI 0), .int (nI 0), .ref a1, .ref a2, .ref a3, .ref a4, .ref a5, .null, .null, .null, .null])), (a1, .inl (cI, 32, .inl (aN (fun _ => 0)))), (a2, .inl (cI, 32, .inl (aN (fun _ => 0)))), (a3, .inl (cI, 32, .inl (aN (fun _ => 0)))), (a4, .inl (cI, 32, .inl (aN (fun _ => 0)))), (a5, .inl (cZ, 32, .inl (aN (fun _ => 0)))), (a6, .inl (cI, 32, .inl (aN (fun _ => 0))))] := hD
  refine W.widen (k := 6) (n := 192) (by omega) (by omega) ?_
  refine va_putF (D := (dC, dI)) (ci := 2) (v := .ref a6) (ty := .array .int) (C := RX2) (T := TX2) (N := 12) hx hb hts inX2 tyX2 tyX2_ok nmX2 hown hK hP hD hS 0 rfl rfl 8 (by decide) (hts _ tw_39) (fun _ h9 => h9) rfl hin rfl (by decide +kernel) rfl rfl (Nat.le_of_ble_eq_true rfl) dX2_init_49 (fun H locs hP hD hS => ?_)
  have hP : va_P (dC, dI) vwCl [(h0, .inr (2, [.int (nI 0), .int (nI 0), .int (nI 0), .ref a1, .ref a2, .ref a3, .ref a4, .ref a5, .ref a6, .null, .null, .null])), (a1, .inl (cI, 32, .inl (aN (fun _ => 0)))), (a2, .inl (cI, 32, .inl (aN (fun _ => 0)))), (a3, .inl (cI, 32, .inl (aN (fun _ => 0)))), (a4, .inl (cI, 32, .inl (aN (fun _ => 0)))), (a5, .inl (cZ, 32, .inl (aN (fun _ => 0)))), (a6, .inl (cI, 32, .inl (aN (fun _ => 0))))] H := hP
  have hD : va_D A [(h0, .inr (2, [.int (nI 0), .int (nI 0), .int (nI 0), .ref a1, .ref a2, .ref a3, .ref a4, .ref a5, .ref a6, .null, .null, .null])), (a1, .inl (cI, 32, .inl (aN (fun _ => 0)))), (a2, .inl (cI, 32, .inl (aN (fun _ => 0)))), (a3, .inl (cI, 32, .inl (aN (fun _ => 0)))), (a4, .inl (cI, 32, .inl (aN (fun _ => 0)))), (a5, .inl (cZ, 32, .inl (aN (fun _ => 0)))), (a6, .inl (cI, 32, .inl (aN (fun _ => 0))))] := hD
  refine lv_aload_n hx hb dX2_init_52 rfl (lv_at hl 0 rfl) ?_
  refine lv_bipush (v := nI 32) hx hb dX2_init_53 (by decide) ?_
  refine va_newa (atype := .int) (ty := .int) (a0 := (32, .inl (aN (fun _ => 0)))) hx hb (hts _ tw_68) rfl hK hP hD hS hA (fun _ => rfl) (by decide) (N' := 32) (by decide) (by decide) (Nat.le_of_ble_eq_true rfl) (Nat.le_of_ble_eq_true rfl) dX2_init_55 (fun a7 cN H hK hP hD hS => ?_)
  obtain rfl := xk_one 0 2 hK rfl rfl (fun _ z => by cases z)
  have hK : va_K (dC, dI) vwCl [(cI, .int), (cZ, .boolean)] s := hK.sub [0, 1] rfl
  have hP : va_P (dC, dI) vwCl [(h0, .inr (2, [.int (nI 0), .int (nI 0), .int (nI 0), .ref a1, .ref a2, .ref a3, .ref a4, .ref a5, .ref a6, .null, .null, .null])), (a1, .inl (cI, 32, .inl (aN (fun _ => 0)))), (a2, .inl (cI, 32, .inl (aN (fun _ => 0)))), (a3, .inl (cI, 32, .inl (aN (fun _ => 0)))), (a4, .inl (cI, 32, .inl (aN (fun _ => 0)))), (a5, .inl (cZ, 32, .inl (aN (fun _ => 0)))), (a6, .inl (cI, 32, .inl (aN (fun _ => 0)))), (a7, .inl (cI, 32, .inl (aN (fun _ => 0))))] H := hP
  have hD : va_D A [(h0, .inr (2, [.int (nI 0), .int (nI 0), .int (nI 0), .ref a1, .ref a2, .ref a3, .ref a4, .ref a5, .ref a6, .null, .null, .null])), (a1, .inl (cI, 32, .inl (aN (fun _ => 0)))), (a2, .inl (cI, 32, .inl (aN (fun _ => 0)))), (a3, .inl (cI, 32, .inl (aN (fun _ => 0)))), (a4, .inl (cI, 32, .inl (aN (fun _ => 0)))), (a5, .inl (cZ, 32, .inl (aN (fun _ => 0)))), (a6, .inl (cI, 32, .inl (aN (fun _ => 0)))), (a7, .inl (cI, 32, .inl (aN (fun _ => 0))))] := hD
  refine W.widen (k := 7) (n := 224) (by omega) (by omega) ?_
  refine va_putF (D := (dC, dI)) (ci := 2) (v := .ref a7) (ty := .array .int) (C := RX2) (T := TX2) (N := 12) hx hb hts inX2 tyX2 tyX2_ok nmX2 hown hK hP hD hS 0 rfl rfl 9 (by decide) (hts _ tw_40) (fun _ h9 => h9) rfl hin rfl (by decide +kernel) rfl rfl (Nat.le_of_ble_eq_true rfl) dX2_init_57 (fun H locs hP hD hS => ?_)
  have hP : va_P (dC, dI) vwCl [(h0, .inr (2, [.int (nI 0), .int (nI 0), .int (nI 0), .ref a1, .ref a2, .ref a3, .ref a4, .ref a5, .ref a6, .ref a7, .null, .null])), (a1, .inl (cI, 32, .inl (aN (fun _ => 0)))), (a2, .inl (cI, 32, .inl (aN (fun _ => 0)))), (a3, .inl (cI, 32, .inl (aN (fun _ => 0)))), (a4, .inl (cI, 32, .inl (aN (fun _ => 0)))), (a5, .inl (cZ, 32, .inl (aN (fun _ => 0)))), (a6, .inl (cI, 32, .inl (aN (fun _ => 0)))), (a7, .inl (cI, 32, .inl (aN (fun _ => 0))))] H := hP
  have hD : va_D A [(h0, .inr (2, [.int (nI 0), .int (nI 0), .int (nI 0), .ref a1, .ref a2, .ref a3, .ref a4, .ref a5, .ref a6, .ref a7, .null, .null])), (a1, .inl (cI, 32, .inl (aN (fun _ => 0)))), (a2, .inl (cI, 32, .inl (aN (fun _ => 0)))), (a3, .inl (cI, 32, .inl (aN (fun _ => 0)))), (a4, .inl (cI, 32, .inl (aN (fun _ => 0)))), (a5, .inl (cZ, 32, .inl (aN (fun _ => 0)))), (a6, .inl (cI, 32, .inl (aN (fun _ => 0)))), (a7, .inl (cI, 32, .inl (aN (fun _ => 0))))] := hD
  refine lv_aload_n hx hb dX2_init_60 rfl (lv_at hl 0 rfl) ?_
  refine lv_bipush (v := nI 32) hx hb dX2_init_61 (by decide) ?_
  refine va_newa (atype := .int) (ty := .int) (a0 := (32, .inl (aN (fun _ => 0)))) hx hb (hts _ tw_68) rfl hK hP hD hS hA (fun _ => rfl) (by decide) (N' := 32) (by decide) (by decide) (Nat.le_of_ble_eq_true rfl) (Nat.le_of_ble_eq_true rfl) dX2_init_63 (fun a8 cN H hK hP hD hS => ?_)
  obtain rfl := xk_one 0 2 hK rfl rfl (fun _ z => by cases z)
  have hK : va_K (dC, dI) vwCl [(cI, .int), (cZ, .boolean)] s := hK.sub [0, 1] rfl
  have hP : va_P (dC, dI) vwCl [(h0, .inr (2, [.int (nI 0), .int (nI 0), .int (nI 0), .ref a1, .ref a2, .ref a3, .ref a4, .ref a5, .ref a6, .ref a7, .null, .null])), (a1, .inl (cI, 32, .inl (aN (fun _ => 0)))), (a2, .inl (cI, 32, .inl (aN (fun _ => 0)))), (a3, .inl (cI, 32, .inl (aN (fun _ => 0)))), (a4, .inl (cI, 32, .inl (aN (fun _ => 0)))), (a5, .inl (cZ, 32, .inl (aN (fun _ => 0)))), (a6, .inl (cI, 32, .inl (aN (fun _ => 0)))), (a7, .inl (cI, 32, .inl (aN (fun _ => 0)))), (a8, .inl (cI, 32, .inl (aN (fun _ => 0))))] H := hP
  have hD : va_D A [(h0, .inr (2, [.int (nI 0), .int (nI 0), .int (nI 0), .ref a1, .ref a2, .ref a3, .ref a4, .ref a5, .ref a6, .ref a7, .null, .null])), (a1, .inl (cI, 32, .inl (aN (fun _ => 0)))), (a2, .inl (cI, 32, .inl (aN (fun _ => 0)))), (a3, .inl (cI, 32, .inl (aN (fun _ => 0)))), (a4, .inl (cI, 32, .inl (aN (fun _ => 0)))), (a5, .inl (cZ, 32, .inl (aN (fun _ => 0)))), (a6, .inl (cI, 32, .inl (aN (fun _ => 0)))), (a7, .inl (cI, 32, .inl (aN (fun _ => 0)))), (a8, .inl (cI, 32, .inl (aN (fun _ => 0))))] := hD
  refine W.widen (k := 8) (n := 256) (by omega) (by omega) ?_
  refine va_putF (D := (dC, dI)) (ci := 2) (v := .ref a8) (ty := .array .int) (C := RX2) (T := TX2) (N := 12) hx hb hts inX2 tyX2 tyX2_ok nmX2 hown hK hP hD hS 0 rfl rfl 10 (by decide) (hts _ tw_41) (fun _ h9 => h9) rfl hin rfl (by decide +kernel) rfl rfl (Nat.le_of_ble_eq_true rfl) dX2_init_65 (fun H locs hP hD hS => ?_)
  have hP : va_P (dC, dI) vwCl [(h0, .inr (2, [.int (nI 0), .int (nI 0), .int (nI 0), .ref a1, .ref a2, .ref a3, .ref a4, .ref a5, .ref a6, .ref a7, .ref a8, .null])), (a1, .inl (cI, 32, .inl (aN (fun _ => 0)))), (a2, .inl (cI, 32, .inl (aN (fun _ => 0)))), (a3, .inl (cI, 32, .inl (aN (fun _ => 0)))), (a4, .inl (cI, 32, .inl (aN (fun _ => 0)))), (a5, .inl (cZ, 32, .inl (aN (fun _ => 0)))), (a6, .inl (cI, 32, .inl (aN (fun _ => 0)))), (a7, .inl (cI, 32, .inl (aN (fun _ => 0)))), (a8, .inl (cI, 32, .inl (aN (fun _ => 0))))] H := hP
  have hD : va_D A [(h0, .inr (2, [.int (nI 0), .int (nI 0), .int (nI 0), .ref a1, .ref a2, .ref a3, .ref a4, .ref a5, .ref a6, .ref a7, .ref a8, .null])), (a1, .inl (cI, 32, .inl (aN (fun _ => 0)))), (a2, .inl (cI, 32, .inl (aN (fun _ => 0)))), (a3, .inl (cI, 32, .inl (aN (fun _ => 0)))), (a4, .inl (cI, 32, .inl (aN (fun _ => 0)))), (a5, .inl (cZ, 32, .inl (aN (fun _ => 0)))), (a6, .inl (cI, 32, .inl (aN (fun _ => 0)))), (a7, .inl (cI, 32, .inl (aN (fun _ => 0)))), (a8, .inl (cI, 32, .inl (aN (fun _ => 0))))] := hD
  refine lv_aload_n hx hb dX2_init_68 rfl (lv_at hl 0 rfl) ?_
  refine lv_bipush (v := nI 9) hx hb dX2_init_69 (by decide) ?_
  refine va_newa (atype := .int) (ty := .int) (a0 := (9, .inl (aN (fun _ => 0)))) hx hb (hts _ tw_68) rfl hK hP hD hS hA (fun _ => rfl) (by decide) (N' := 9) (by decide) (by decide) (Nat.le_of_ble_eq_true rfl) (Nat.le_of_ble_eq_true rfl) dX2_init_71 (fun a9 cN H hK hP hD hS => ?_)
  obtain rfl := xk_one 0 2 hK rfl rfl (fun _ z => by cases z)
  have hK : va_K (dC, dI) vwCl [(cI, .int), (cZ, .boolean)] s := hK.sub [0, 1] rfl
  have hP : va_P (dC, dI) vwCl [(h0, .inr (2, [.int (nI 0), .int (nI 0), .int (nI 0), .ref a1, .ref a2, .ref a3, .ref a4, .ref a5, .ref a6, .ref a7, .ref a8, .null])), (a1, .inl (cI, 32, .inl (aN (fun _ => 0)))), (a2, .inl (cI, 32, .inl (aN (fun _ => 0)))), (a3, .inl (cI, 32, .inl (aN (fun _ => 0)))), (a4, .inl (cI, 32, .inl (aN (fun _ => 0)))), (a5, .inl (cZ, 32, .inl (aN (fun _ => 0)))), (a6, .inl (cI, 32, .inl (aN (fun _ => 0)))), (a7, .inl (cI, 32, .inl (aN (fun _ => 0)))), (a8, .inl (cI, 32, .inl (aN (fun _ => 0)))), (a9, .inl (cI, 9, .inl (aN (fun _ => 0))))] H := hP
  have hD : va_D A [(h0, .inr (2, [.int (nI 0), .int (nI 0), .int (nI 0), .ref a1, .ref a2, .ref a3, .ref a4, .ref a5, .ref a6, .ref a7, .ref a8, .null])), (a1, .inl (cI, 32, .inl (aN (fun _ => 0)))), (a2, .inl (cI, 32, .inl (aN (fun _ => 0)))), (a3, .inl (cI, 32, .inl (aN (fun _ => 0)))), (a4, .inl (cI, 32, .inl (aN (fun _ => 0)))), (a5, .inl (cZ, 32, .inl (aN (fun _ => 0)))), (a6, .inl (cI, 32, .inl (aN (fun _ => 0)))), (a7, .inl (cI, 32, .inl (aN (fun _ => 0)))), (a8, .inl (cI, 32, .inl (aN (fun _ => 0)))), (a9, .inl (cI, 9, .inl (aN (fun _ => 0))))] := hD
  refine W.widen (k := 9) (n := 265) (by omega) (by omega) ?_
  refine va_putF (D := (dC, dI)) (ci := 2) (v := .ref a9) (ty := .array .int) (C := RX2) (T := TX2) (N := 12) hx hb hts inX2 tyX2 tyX2_ok nmX2 hown hK hP hD hS 0 rfl rfl 11 (by decide) (hts _ tw_42) (fun _ h9 => h9) rfl hin rfl (by decide +kernel) rfl rfl (Nat.le_of_ble_eq_true rfl) dX2_init_73 (fun H locs hP hD hS => ?_)
  have hP : va_P (dC, dI) vwCl [(h0, .inr (2, [.int (nI 0), .int (nI 0), .int (nI 0), .ref a1, .ref a2, .ref a3, .ref a4, .ref a5, .ref a6, .ref a7, .ref a8, .ref a9])), (a1, .inl (cI, 32, .inl (aN (fun _ => 0)))), (a2, .inl (cI, 32, .inl (aN (fun _ => 0)))), (a3, .inl (cI, 32, .inl (aN (fun _ => 0)))), (a4, .inl (cI, 32, .inl (aN (fun _ => 0)))), (a5, .inl (cZ, 32, .inl (aN (fun _ => 0)))), (a6, .inl (cI, 32, .inl (aN (fun _ => 0)))), (a7, .inl (cI, 32, .inl (aN (fun _ => 0)))), (a8, .inl (cI, 32, .inl (aN (fun _ => 0)))), (a9, .inl (cI, 9, .inl (aN (fun _ => 0))))] H := hP
  have hD : va_D A [(h0, .inr (2, [.int (nI 0), .int (nI 0), .int (nI 0), .ref a1, .ref a2, .ref a3, .ref a4, .ref a5, .ref a6, .ref a7, .ref a8, .ref a9])), (a1, .inl (cI, 32, .inl (aN (fun _ => 0)))), (a2, .inl (cI, 32, .inl (aN (fun _ => 0)))), (a3, .inl (cI, 32, .inl (aN (fun _ => 0)))), (a4, .inl (cI, 32, .inl (aN (fun _ => 0)))), (a5, .inl (cZ, 32, .inl (aN (fun _ => 0)))), (a6, .inl (cI, 32, .inl (aN (fun _ => 0)))), (a7, .inl (cI, 32, .inl (aN (fun _ => 0)))), (a8, .inl (cI, 32, .inl (aN (fun _ => 0)))), (a9, .inl (cI, 9, .inl (aN (fun _ => 0))))] := hD
  exact xr_v (w1 := fun (u : Nat → Nat) => wR u cI cZ r0) hx hb hr hlk (u := fun k => [h0, a1, a2, a3, a4, a5, a6, a7, a8, a9].getD k 0) (rfl) hP hK hD hS dX2_init_76
set_option maxHeartbeats 4000000 in
set_option maxRecDepth 100000 in
theorem c_Cells_init (l : Launch) (dC : Nat → ClassId) (dI : Nat → Nat → Nat) (cI cZ : ClassId) (sz : Nat) (h0 : Nat) : Met l yX1_init (.code yX1_init cX1_init 1 none :: ALLG) ({ frames := 1, cells := 4, slots := 80, locals := 20 }) (va_Pc [.ref h0] (cP (dC, dI) vwCl [(cI, .int), (cZ, .boolean)] ([(h0, .inr (1, [.int (nI 0), .null, .null, .null, .null]))]) eT sz)) (va_Qv (fun (u : Nat → Nat) => u 10 = h0) (fun (u : Nat → Nat) => cB (dC, dI) vwCl [(cI, .int), (cZ, .boolean)] (wC u cI k0) (va_A ([(h0, .inr (1, [.int (nI 0), .null, .null, .null, .null]))]) sz)) (va_A ([(h0, .inr (1, [.int (nI 0), .null, .null, .null, .null]))]) sz)) 4 80 (va_A ([(h0, .inr (1, [.int (nI 0), .null, .null, .null, .null]))]) sz) := by
  refine xm_of (cc := cX1_init) (maxL := 1) (ret := none) (by decide) rfl (Nat.le_of_ble_eq_true rfl) ?_
  intro p e s m below meth c A hAe hx hb hr hml hts0 hown hlk hin hsz H locs hP hK hD hA hS hE ls hl
  have hts : ∀ w ∈ ALLG, w.before _ s = true := fun w h => hts0 w (List.mem_cons_of_mem _ h)
  rw [← hAe]
  have hl : lv_has ls 1 [(0, .ref h0)] := hl
  refine lv_aload_n hx hb dX1_init_0 rfl (lv_at hl 0 rfl) ?_
  refine W.objInit hx hb hown (hts _ tw_75) (hts _ tw_19) (hts _ tw_20) rfl (by rw [hml]; exact hl.1) rfl dX1_init_1 (Nat.le_of_ble_eq_true rfl) (Nat.le_of_ble_eq_true rfl) ?_
  refine W.eq (g2 := F0 m 4 ls []) rfl ?_
  refine lv_aload_n hx hb dX1_init_4 rfl (lv_at hl 0 rfl) ?_
  refine lv_bipush (v := nI 20) hx hb dX1_init_5 (by decide) ?_
  refine va_newa (atype := .int) (ty := .int) (a0 := (20, .inl (aN (fun _ => 0)))) hx hb (hts _ tw_68) rfl hK hP hD hS hA (fun _ => rfl) (by decide) (N' := 20) (by decide) (by decide) (Nat.le_of_ble_eq_true rfl) (Nat.le_of_ble_eq_true rfl) dX1_init_7 (fun a1 cN H hK hP hD hS => ?_)
  obtain rfl := xk_one 0 2 hK rfl rfl (fun _ z => by cases z)
  have hK : va_K (dC, dI) vwCl [(cI, .int), (cZ, .boolean)] s := hK.sub [0, 1] rfl
  have hP : va_P (dC, dI) vwCl [(h0, .inr (1, [.int (nI 0), .null, .null, .null, .null])), (a1, .inl (cI, 20, .inl (aN (fun _ => 0))))] H := hP
  have hD : va_D A [(h0, .inr (1, [.int (nI 0), .null, .null, .null, .null])), (a1, .inl (cI, 20, .inl (aN (fun _ => 0))))] := hD
  refine W.widen (k := 1) (n := 20) (by omega) (by omega) ?_
  refine va_putF (D := (dC, dI)) (ci := 1) (v := .ref a1) (ty := .array .int) (C := RX1) (T := TX1) (N := 5) hx hb hts inX1 tyX1 tyX1_ok nmX1 hown hK hP hD hS 0 rfl rfl 1 (by decide) (hts _ tw_79) (fun _ h9 => h9) rfl hin rfl (by decide +kernel) rfl rfl (Nat.le_of_ble_eq_true rfl) dX1_init_9 (fun H locs hP hD hS => ?_)
  have hP : va_P (dC, dI) vwCl [(h0, .inr (1, [.int (nI 0), .ref a1, .null, .null, .null])), (a1, .inl (cI, 20, .inl (aN (fun _ => 0))))] H := hP
  have hD : va_D A [(h0, .inr (1, [.int (nI 0), .ref a1, .null, .null, .null])), (a1, .inl (cI, 20, .inl (aN (fun _ => 0))))] := hD
  refine lv_aload_n hx hb dX1_init_12 rfl (lv_at hl 0 rfl) ?_
  refine lv_bipush (v := nI 20) hx hb dX1_init_13 (by decide) ?_
  refine va_newa (atype := .int) (ty := .int) (a0 := (20, .inl (aN (fun _ => 0)))) hx hb (hts _ tw_68) rfl hK hP hD hS hA (fun _ => rfl) (by decide) (N' := 20) (by decide) (by decide) (Nat.le_of_ble_eq_true rfl) (Nat.le_of_ble_eq_true rfl) dX1_init_15 (fun a2 cN H hK hP hD hS => ?_)
  obtain rfl := xk_one 0 2 hK rfl rfl (fun _ z => by cases z)
  have hK : va_K (dC, dI) vwCl [(cI, .int), (cZ, .boolean)] s := hK.sub [0, 1] rfl
  have hP : va_P (dC, dI) vwCl [(h0, .inr (1, [.int (nI 0), .ref a1, .null, .null, .null])), (a1, .inl (cI, 20, .inl (aN (fun _ => 0)))), (a2, .inl (cI, 20, .inl (aN (fun _ => 0))))] H := hP
  have hD : va_D A [(h0, .inr (1, [.int (nI 0), .ref a1, .null, .null, .null])), (a1, .inl (cI, 20, .inl (aN (fun _ => 0)))), (a2, .inl (cI, 20, .inl (aN (fun _ => 0))))] := hD
  refine W.widen (k := 2) (n := 40) (by omega) (by omega) ?_
  refine va_putF (D := (dC, dI)) (ci := 1) (v := .ref a2) (ty := .array .int) (C := RX1) (T := TX1) (N := 5) hx hb hts inX1 tyX1 tyX1_ok nmX1 hown hK hP hD hS 0 rfl rfl 2 (by decide) (hts _ tw_81) (fun _ h9 => h9) rfl hin rfl (by decide +kernel) rfl rfl (Nat.le_of_ble_eq_true rfl) dX1_init_17 (fun H locs hP hD hS => ?_)
  have hP : va_P (dC, dI) vwCl [(h0, .inr (1, [.int (nI 0), .ref a1, .ref a2, .null, .null])), (a1, .inl (cI, 20, .inl (aN (fun _ => 0)))), (a2, .inl (cI, 20, .inl (aN (fun _ => 0))))] H := hP
  have hD : va_D A [(h0, .inr (1, [.int (nI 0), .ref a1, .ref a2, .null, .null])), (a1, .inl (cI, 20, .inl (aN (fun _ => 0)))), (a2, .inl (cI, 20, .inl (aN (fun _ => 0))))] := hD
  refine lv_aload_n hx hb dX1_init_20 rfl (lv_at hl 0 rfl) ?_
  refine lv_bipush (v := nI 20) hx hb dX1_init_21 (by decide) ?_
  refine va_newa (atype := .int) (ty := .int) (a0 := (20, .inl (aN (fun _ => 0)))) hx hb (hts _ tw_68) rfl hK hP hD hS hA (fun _ => rfl) (by decide) (N' := 20) (by decide) (by decide) (Nat.le_of_ble_eq_true rfl) (Nat.le_of_ble_eq_true rfl) dX1_init_23 (fun a3 cN H hK hP hD hS => ?_)
  obtain rfl := xk_one 0 2 hK rfl rfl (fun _ z => by cases z)
  have hK : va_K (dC, dI) vwCl [(cI, .int), (cZ, .boolean)] s := hK.sub [0, 1] rfl
  have hP : va_P (dC, dI) vwCl [(h0, .inr (1, [.int (nI 0), .ref a1, .ref a2, .null, .null])), (a1, .inl (cI, 20, .inl (aN (fun _ => 0)))), (a2, .inl (cI, 20, .inl (aN (fun _ => 0)))), (a3, .inl (cI, 20, .inl (aN (fun _ => 0))))] H := hP
  have hD : va_D A [(h0, .inr (1, [.int (nI 0), .ref a1, .ref a2, .null, .null])), (a1, .inl (cI, 20, .inl (aN (fun _ => 0)))), (a2, .inl (cI, 20, .inl (aN (fun _ => 0)))), (a3, .inl (cI, 20, .inl (aN (fun _ => 0))))] := hD
  refine W.widen (k := 3) (n := 60) (by omega) (by omega) ?_
  refine va_putF (D := (dC, dI)) (ci := 1) (v := .ref a3) (ty := .array .int) (C := RX1) (T := TX1) (N := 5) hx hb hts inX1 tyX1 tyX1_ok nmX1 hown hK hP hD hS 0 rfl rfl 3 (by decide) (hts _ tw_82) (fun _ h9 => h9) rfl hin rfl (by decide +kernel) rfl rfl (Nat.le_of_ble_eq_true rfl) dX1_init_25 (fun H locs hP hD hS => ?_)
  have hP : va_P (dC, dI) vwCl [(h0, .inr (1, [.int (nI 0), .ref a1, .ref a2, .ref a3, .null])), (a1, .inl (cI, 20, .inl (aN (fun _ => 0)))), (a2, .inl (cI, 20, .inl (aN (fun _ => 0)))), (a3, .inl (cI, 20, .inl (aN (fun _ => 0))))] H := hP
  have hD : va_D A [(h0, .inr (1, [.int (nI 0), .ref a1, .ref a2, .ref a3, .null])), (a1, .inl (cI, 20, .inl (aN (fun _ => 0)))), (a2, .inl (cI, 20, .inl (aN (fun _ => 0)))), (a3, .inl (cI, 20, .inl (aN (fun _ => 0))))] := hD
  refine lv_aload_n hx hb dX1_init_28 rfl (lv_at hl 0 rfl) ?_
  refine lv_bipush (v := nI 20) hx hb dX1_init_29 (by decide) ?_
  refine va_newa (atype := .int) (ty := .int) (a0 := (20, .inl (aN (fun _ => 0)))) hx hb (hts _ tw_68) rfl hK hP hD hS hA (fun _ => rfl) (by decide) (N' := 20) (by decide) (by decide) (Nat.le_of_ble_eq_true rfl) (Nat.le_of_ble_eq_true rfl) dX1_init_31 (fun a4 cN H hK hP hD hS => ?_)
  obtain rfl := xk_one 0 2 hK rfl rfl (fun _ z => by cases z)
  have hK : va_K (dC, dI) vwCl [(cI, .int), (cZ, .boolean)] s := hK.sub [0, 1] rfl
  have hP : va_P (dC, dI) vwCl [(h0, .inr (1, [.int (nI 0), .ref a1, .ref a2, .ref a3, .null])), (a1, .inl (cI, 20, .inl (aN (fun _ => 0)))), (a2, .inl (cI, 20, .inl (aN (fun _ => 0)))), (a3, .inl (cI, 20, .inl (aN (fun _ => 0)))), (a4, .inl (cI, 20, .inl (aN (fun _ => 0))))] H := hP
  have hD : va_D A [(h0, .inr (1, [.int (nI 0), .ref a1, .ref a2, .ref a3, .null])), (a1, .inl (cI, 20, .inl (aN (fun _ => 0)))), (a2, .inl (cI, 20, .inl (aN (fun _ => 0)))), (a3, .inl (cI, 20, .inl (aN (fun _ => 0)))), (a4, .inl (cI, 20, .inl (aN (fun _ => 0))))] := hD
  refine W.widen (k := 4) (n := 80) (by omega) (by omega) ?_
  refine va_putF (D := (dC, dI)) (ci := 1) (v := .ref a4) (ty := .array .int) (C := RX1) (T := TX1) (N := 5) hx hb hts inX1 tyX1 tyX1_ok nmX1 hown hK hP hD hS 0 rfl rfl 4 (by decide) (hts _ tw_83) (fun _ h9 => h9) rfl hin rfl (by decide +kernel) rfl rfl (Nat.le_of_ble_eq_true rfl) dX1_init_33 (fun H locs hP hD hS => ?_)
  have hP : va_P (dC, dI) vwCl [(h0, .inr (1, [.int (nI 0), .ref a1, .ref a2, .ref a3, .ref a4])), (a1, .inl (cI, 20, .inl (aN (fun _ => 0)))), (a2, .inl (cI, 20, .inl (aN (fun _ => 0)))), (a3, .inl (cI, 20, .inl (aN (fun _ => 0)))), (a4, .inl (cI, 20, .inl (aN (fun _ => 0))))] H := hP
  have hD : va_D A [(h0, .inr (1, [.int (nI 0), .ref a1, .ref a2, .ref a3, .ref a4])), (a1, .inl (cI, 20, .inl (aN (fun _ => 0)))), (a2, .inl (cI, 20, .inl (aN (fun _ => 0)))), (a3, .inl (cI, 20, .inl (aN (fun _ => 0)))), (a4, .inl (cI, 20, .inl (aN (fun _ => 0))))] := hD
  exact xr_v (w1 := fun (u : Nat → Nat) => wC u cI k0) hx hb hr hlk (u := fun k => [h0, a1, a2, a3, a4].getD (k - 10) 0) (rfl) hP hK hD hS dX1_init_36
set_option maxHeartbeats 4000000 in
set_option maxRecDepth 100000 in
theorem c_Access_init (l : Launch) (dC : Nat → ClassId) (dI : Nat → Nat → Nat) (cI cZ : ClassId) (sz : Nat) (h0 : Nat) (nu : Int32) (qr qc : Nat) : Met l yX0_init (.code yX0_init cX0_init 4 none :: ALLG) ({ frames := 1, cells := 1, slots := 16, locals := 20 }) (va_Pc [.ref h0, .int nu, .ref qr, .ref qc] (cP (dC, dI) vwCl [(cI, .int), (cZ, .boolean)] ([(h0, .inr (0, [.int (nI 0), .int (nI 0), .int (nI 0), .null, .null, .int (nI 0), .int (nI 0), .int (nI 0), .null]))]) eT sz)) (va_Qv (fun (_ : Nat) => True) (fun (u : Nat) => cB (dC, dI) vwCl [(cI, .int), (cZ, .boolean)] ([(h0, .inr (0, [.int (nI 0), .int (nI 2), .int nu, .ref qr, .ref qc, .int (nI 0), .int (nI 0), .int (nI 0), .ref u])), (u, .inl (cI, 16, .inl (aN (fun _ => 0))))]) (va_A ([(h0, .inr (0, [.int (nI 0), .int (nI 0), .int (nI 0), .null, .null, .int (nI 0), .int (nI 0), .int (nI 0), .null]))]) sz)) (va_A ([(h0, .inr (0, [.int (nI 0), .int (nI 0), .int (nI 0), .null, .null, .int (nI 0), .int (nI 0), .int (nI 0), .null]))]) sz)) 1 16 (va_A ([(h0, .inr (0, [.int (nI 0), .int (nI 0), .int (nI 0), .null, .null, .int (nI 0), .int (nI 0), .int (nI 0), .null]))]) sz) := by
  refine xm_of (cc := cX0_init) (maxL := 4) (ret := none) (by decide) rfl (Nat.le_of_ble_eq_true rfl) ?_
  intro p e s m below meth c A hAe hx hb hr hml hts0 hown hlk hin hsz H locs hP hK hD hA hS hE ls hl
  have hts : ∀ w ∈ ALLG, w.before _ s = true := fun w h => hts0 w (List.mem_cons_of_mem _ h)
  rw [← hAe]
  have hl : lv_has ls 4 [(0, .ref h0), (1, .int nu), (2, .ref qr), (3, .ref qc)] := hl
  refine lv_aload_n hx hb dX0_init_0 rfl (lv_at hl 0 rfl) ?_
  refine W.objInit hx hb hown (hts _ tw_100) (hts _ tw_19) (hts _ tw_20) rfl (by rw [hml]; exact hl.1) rfl dX0_init_1 (Nat.le_of_ble_eq_true rfl) (Nat.le_of_ble_eq_true rfl) ?_
  refine W.eq (g2 := F0 m 4 ls []) rfl ?_
  refine lv_aload_n hx hb dX0_init_4 rfl (lv_at hl 0 rfl) ?_
  refine lv_iload_n hx hb dX0_init_5 rfl (lv_at hl 1 rfl) ?_
  refine va_putF (D := (dC, dI)) (ci := 0) (v := .int nu) (ty := .int) (C := RX0) (T := TX0) (N := 9) hx hb hts inX0 tyX0 tyX0_ok nmX0 hown hK hP hD hS 0 rfl rfl 2 (by decide) (hts _ tw_105) (fun _ h9 => h9) rfl hin rfl (by decide +kernel) rfl rfl (Nat.le_of_ble_eq_true rfl) dX0_init_6 (fun H locs hP hD hS => ?_)
  have hP : va_P (dC, dI) vwCl [(h0, .inr (0, [.int (nI 0), .int (nI 0), .int nu, .null, .null, .int (nI 0), .int (nI 0), .int (nI 0), .null]))] H := hP
  have hD : va_D A [(h0, .inr (0, [.int (nI 0), .int (nI 0), .int nu, .null, .null, .int (nI 0), .int (nI 0), .int (nI 0), .null]))] := hD
  refine lv_aload_n hx hb dX0_init_9 rfl (lv_at hl 0 rfl) ?_
  refine lv_aload_n hx hb dX0_init_10 rfl (lv_at hl 2 rfl) ?_
  refine va_putF (D := (dC, dI)) (ci := 0) (v := .ref qr) (ty := .object "ScanRows$Rows") (C := RX0) (T := TX0) (N := 9) hx hb hts inX0 tyX0 tyX0_ok nmX0 hown hK hP hD hS 0 rfl rfl 3 (by decide) (hts _ tw_106) (fun _ h9 => h9) rfl hin rfl (by decide +kernel) rfl rfl (Nat.le_of_ble_eq_true rfl) dX0_init_11 (fun H locs hP hD hS => ?_)
  have hP : va_P (dC, dI) vwCl [(h0, .inr (0, [.int (nI 0), .int (nI 0), .int nu, .ref qr, .null, .int (nI 0), .int (nI 0), .int (nI 0), .null]))] H := hP
  have hD : va_D A [(h0, .inr (0, [.int (nI 0), .int (nI 0), .int nu, .ref qr, .null, .int (nI 0), .int (nI 0), .int (nI 0), .null]))] := hD
  refine lv_aload_n hx hb dX0_init_14 rfl (lv_at hl 0 rfl) ?_
  refine lv_aload_n hx hb dX0_init_15 rfl (lv_at hl 3 rfl) ?_
  refine va_putF (D := (dC, dI)) (ci := 0) (v := .ref qc) (ty := .object "ScanRows$Cells") (C := RX0) (T := TX0) (N := 9) hx hb hts inX0 tyX0 tyX0_ok nmX0 hown hK hP hD hS 0 rfl rfl 4 (by decide) (hts _ tw_107) (fun _ h9 => h9) rfl hin rfl (by decide +kernel) rfl rfl (Nat.le_of_ble_eq_true rfl) dX0_init_16 (fun H locs hP hD hS => ?_)
  have hP : va_P (dC, dI) vwCl [(h0, .inr (0, [.int (nI 0), .int (nI 0), .int nu, .ref qr, .ref qc, .int (nI 0), .int (nI 0), .int (nI 0), .null]))] H := hP
  have hD : va_D A [(h0, .inr (0, [.int (nI 0), .int (nI 0), .int nu, .ref qr, .ref qc, .int (nI 0), .int (nI 0), .int (nI 0), .null]))] := hD
  refine lv_aload_n hx hb dX0_init_19 rfl (lv_at hl 0 rfl) ?_
  refine lv_iconst (v := nI 0) hx hb dX0_init_20 (by decide) ?_
  refine va_put (D := (dC, dI)) (ci := 0) (v := .int (nI 0)) (ty := .int) (C := RX0) (T := TX0) (N := 9) hx hb hts inX0 tyX0 tyX0_ok nmX0 hown hK hP hD hS 0 rfl rfl 0 (by decide) (hts _ tw_101) (fun _ h9 => h9) rfl (by decide +kernel) rfl rfl (Nat.le_of_ble_eq_true rfl) dX0_init_21 (fun H locs hP hD hS => ?_)
  have hP : va_P (dC, dI) vwCl [(h0, .inr (0, [.int (nI 0), .int (nI 0), .int nu, .ref qr, .ref qc, .int (nI 0), .int (nI 0), .int (nI 0), .null]))] H := hP
  have hD : va_D A [(h0, .inr (0, [.int (nI 0), .int (nI 0), .int nu, .ref qr, .ref qc, .int (nI 0), .int (nI 0), .int (nI 0), .null]))] := hD
  refine lv_aload_n hx hb dX0_init_24 rfl (lv_at hl 0 rfl) ?_
  refine lv_iconst (v := nI 2) hx hb dX0_init_25 (by decide) ?_
  refine va_put (D := (dC, dI)) (ci := 0) (v := .int (nI 2)) (ty := .int) (C := RX0) (T := TX0) (N := 9) hx hb hts inX0 tyX0 tyX0_ok nmX0 hown hK hP hD hS 0 rfl rfl 1 (by decide) (hts _ tw_103) (fun _ h9 => h9) rfl (by decide +kernel) rfl rfl (Nat.le_of_ble_eq_true rfl) dX0_init_26 (fun H locs hP hD hS => ?_)
  have hP : va_P (dC, dI) vwCl [(h0, .inr (0, [.int (nI 0), .int (nI 2), .int nu, .ref qr, .ref qc, .int (nI 0), .int (nI 0), .int (nI 0), .null]))] H := hP
  have hD : va_D A [(h0, .inr (0, [.int (nI 0), .int (nI 2), .int nu, .ref qr, .ref qc, .int (nI 0), .int (nI 0), .int (nI 0), .null]))] := hD
  refine lv_aload_n hx hb dX0_init_29 rfl (lv_at hl 0 rfl) ?_
  refine lv_bipush (v := nI 16) hx hb dX0_init_30 (by decide) ?_
  refine va_newa (atype := .int) (ty := .int) (a0 := (16, .inl (aN (fun _ => 0)))) hx hb (hts _ tw_68) rfl hK hP hD hS hA (fun _ => rfl) (by decide) (N' := 16) (by decide) (by decide) (Nat.le_of_ble_eq_true rfl) (Nat.le_of_ble_eq_true rfl) dX0_init_32 (fun a1 cN H hK hP hD hS => ?_)
  obtain rfl := xk_one 0 2 hK rfl rfl (fun _ z => by cases z)
  have hK : va_K (dC, dI) vwCl [(cI, .int), (cZ, .boolean)] s := hK.sub [0, 1] rfl
  have hP : va_P (dC, dI) vwCl [(h0, .inr (0, [.int (nI 0), .int (nI 2), .int nu, .ref qr, .ref qc, .int (nI 0), .int (nI 0), .int (nI 0), .null])), (a1, .inl (cI, 16, .inl (aN (fun _ => 0))))] H := hP
  have hD : va_D A [(h0, .inr (0, [.int (nI 0), .int (nI 2), .int nu, .ref qr, .ref qc, .int (nI 0), .int (nI 0), .int (nI 0), .null])), (a1, .inl (cI, 16, .inl (aN (fun _ => 0))))] := hD
  refine W.widen (k := 1) (n := 16) (by omega) (by omega) ?_
  refine va_putF (D := (dC, dI)) (ci := 0) (v := .ref a1) (ty := .array .int) (C := RX0) (T := TX0) (N := 9) hx hb hts inX0 tyX0 tyX0_ok nmX0 hown hK hP hD hS 0 rfl rfl 8 (by decide) (hts _ tw_111) (fun _ h9 => h9) rfl hin rfl (by decide +kernel) rfl rfl (Nat.le_of_ble_eq_true rfl) dX0_init_34 (fun H locs hP hD hS => ?_)
  have hP : va_P (dC, dI) vwCl [(h0, .inr (0, [.int (nI 0), .int (nI 2), .int nu, .ref qr, .ref qc, .int (nI 0), .int (nI 0), .int (nI 0), .ref a1])), (a1, .inl (cI, 16, .inl (aN (fun _ => 0))))] H := hP
  have hD : va_D A [(h0, .inr (0, [.int (nI 0), .int (nI 2), .int nu, .ref qr, .ref qc, .int (nI 0), .int (nI 0), .int (nI 0), .ref a1])), (a1, .inl (cI, 16, .inl (aN (fun _ => 0))))] := hD
  exact xr_v (w1 := fun (u : Nat) => [(h0, .inr (0, [.int (nI 0), .int (nI 2), .int nu, .ref qr, .ref qc, .int (nI 0), .int (nI 0), .int (nI 0), .ref u])), (u, .inl (cI, 16, .inl (aN (fun _ => 0))))]) hx hb hr hlk (u := a1) (trivial) hP hK hD hS dX0_init_37
set_option maxHeartbeats 4000000 in
set_option maxRecDepth 100000 in
theorem c_Self_init (l : Launch) (dC : Nat → ClassId) (dI : Nat → Nat → Nat) (cI cZ : ClassId) (sz : Nat) (h0 : Nat) (nu : Int32) : Met l yX3_init (.code yX3_init cX3_init 2 none :: ALLG) ({ frames := 2, cells := 17, slots := 387, locals := 60 }) (va_Pc [.ref h0, .int nu] (cP (dC, dI) vwCl [(cI, .int), (cZ, .boolean)] ([(h0, .inr (3, [.null, .null, .null]))]) eT sz)) (va_Qv (fun (u : Nat → Nat) => u 17 = h0) (fun (u : Nat → Nat) => cB (dC, dI) vwCl [(cI, .int), (cZ, .boolean)] (wX u cI cZ r0 k0 (a00 nu)) (va_A ([(h0, .inr (3, [.null, .null, .null]))]) sz)) (va_A ([(h0, .inr (3, [.null, .null, .null]))]) sz)) 17 387 (va_A ([(h0, .inr (3, [.null, .null, .null]))]) sz) := by
  refine xm_of (cc := cX3_init) (maxL := 2) (ret := none) (by decide) rfl (Nat.le_of_ble_eq_true rfl) ?_
  intro p e s m below meth c A hAe hx hb hr hml hts0 hown hlk hin hsz H locs hP hK hD hA hS hE ls hl
  have hts : ∀ w ∈ ALLG, w.before _ s = true := fun w h => hts0 w (List.mem_cons_of_mem _ h)
  rw [← hAe]
  have hl : lv_has ls 2 [(0, .ref h0), (1, .int nu)] := hl
  refine lv_aload_n hx hb dX3_init_0 rfl (lv_at hl 0 rfl) ?_
  refine W.objInit hx hb hown (hts _ tw_18) (hts _ tw_19) (hts _ tw_20) rfl (by rw [hml]; exact hl.1) rfl dX3_init_1 (Nat.le_of_ble_eq_true rfl) (Nat.le_of_ble_eq_true rfl) ?_
  refine W.eq (g2 := F0 m 4 ls []) rfl ?_
  refine lv_aload_n hx hb dX3_init_4 rfl (lv_at hl 0 rfl) ?_
  refine va_new (ci := 2) (fs := [.int (nI 0), .int (nI 0), .int (nI 0), .null, .null, .null, .null, .null, .null, .null, .null, .null]) (C := RX2) (T := TX2) (N := 12) hx hb hts inX2 tyX2 tyX2_ok hown (hts _ tw_21) (hts _ tw_22) (hts _ tw_2) hK hP hD hS hA rfl (fun j hj => by match j, hj with | 0, _ => rfl | 1, _ => rfl | 2, _ => rfl | 3, _ => rfl | 4, _ => rfl | 5, _ => rfl | 6, _ => rfl | 7, _ => rfl | 8, _ => rfl | 9, _ => rfl | 10, _ => rfl | 11, _ => rfl | k + 12, h => exact absurd h (by omega)) (Nat.le_of_ble_eq_true rfl) (Nat.le_of_ble_eq_true rfl) dX3_init_5 (fun a1 H hP hD hS => ?_)
  have hP : va_P (dC, dI) vwCl [(h0, .inr (3, [.null, .null, .null])), (a1, .inr (2, [.int (nI 0), .int (nI 0), .int (nI 0), .null, .null, .null, .null, .null, .null, .null, .null, .null]))] H := hP
  have hD : va_D A [(h0, .inr (3, [.null, .null, .null])), (a1, .inr (2, [.int (nI 0), .int (nI 0), .int (nI 0), .null, .null, .null, .null, .null, .null, .null, .null, .null]))] := hD
  refine W.widen (k := 1) (n := 12) (by omega) (by omega) ?_
  refine lv_dup hx hb dX3_init_8 rfl ?_
  refine xc_Iv (As := []) (wr := [(h0, .inr (3, [.null, .null, .null]))]) ⟨hx, hb, hml, hown, hts⟩ (c_Rows_init l dC dI cI cZ H.size a1 ) (cwI 0 hts (gA tw_25) rfl rfl rfl (hts _ tw_2) (hts _ tw_23) (hts _ tw_24) rfl (by decide +kernel) ⟨Nat.le_of_ble_eq_true rfl, Nat.le_of_ble_eq_true rfl⟩) rfl hl.1 rfl (Nat.le_of_ble_eq_true rfl) dX3_init_9 ⟨Nat.le_of_ble_eq_true rfl, Nat.le_of_ble_eq_true rfl⟩ hP hD hK hS hA [1] [0] rfl rfl (by decide) (by decide) (by decide) [0, 1] rfl eT_M trivial (fun uR H locs hw9 hPn hDn hSn => ?_)
  obtain rfl := hw9
  have hP : va_P (dC, dI) vwCl [(h0, .inr (3, [.null, .null, .null])), (uR 0, .inr (2, [.int (nI 0), .int (nI 0), .int (nI 0), .ref (uR 1), .ref (uR 2), .ref (uR 3), .ref (uR 4), .ref (uR 5), .ref (uR 6), .ref (uR 7), .ref (uR 8), .ref (uR 9)])), (uR 1, .inl (cI, 32, .inl (aN (fun _ => 0)))), (uR 2, .inl (cI, 32, .inl (aN (fun _ => 0)))), (uR 3, .inl (cI, 32, .inl (aZ (fun _ => 0)))), (uR 4, .inl (cI, 32, .inl (aZ (fun _ => 0)))), (uR 5, .inl (cZ, 32, .inl (aN (fun _ => 0)))), (uR 6, .inl (cI, 32, .inl (aZ (fun _ => 0)))), (uR 7, .inl (cI, 32, .inl (aN (fun _ => 0)))), (uR 8, .inl (cI, 32, .inl (aN (fun _ => 0)))), (uR 9, .inl (cI, 9, .inl (aN (fun _ => 0))))] H := hPn
  have hD : va_D A [(h0, .inr (3, [.null, .null, .null])), (uR 0, .inr (2, [.int (nI 0), .int (nI 0), .int (nI 0), .ref (uR 1), .ref (uR 2), .ref (uR 3), .ref (uR 4), .ref (uR 5), .ref (uR 6), .ref (uR 7), .ref (uR 8), .ref (uR 9)])), (uR 1, .inl (cI, 32, .inl (aN (fun _ => 0)))), (uR 2, .inl (cI, 32, .inl (aN (fun _ => 0)))), (uR 3, .inl (cI, 32, .inl (aZ (fun _ => 0)))), (uR 4, .inl (cI, 32, .inl (aZ (fun _ => 0)))), (uR 5, .inl (cZ, 32, .inl (aN (fun _ => 0)))), (uR 6, .inl (cI, 32, .inl (aZ (fun _ => 0)))), (uR 7, .inl (cI, 32, .inl (aN (fun _ => 0)))), (uR 8, .inl (cI, 32, .inl (aN (fun _ => 0)))), (uR 9, .inl (cI, 9, .inl (aN (fun _ => 0))))] := hDn
  have hS := hSn
  refine W.widen (k := 10) (n := 277) (by omega) (by omega) ?_
  refine va_putF (D := (dC, dI)) (ci := 3) (v := .ref (uR 0)) (ty := .object "ScanRows$Rows") (C := RX3) (T := TX3) (N := 3) hx hb hts inX3 tyX3 tyX3_ok nmX3 hown hK hP hD hS 0 rfl rfl 0 (by decide) (hts _ tw_131) (fun _ h9 => h9) rfl hin rfl (by decide +kernel) rfl rfl (Nat.le_of_ble_eq_true rfl) dX3_init_12 (fun H locs hP hD hS => ?_)
  have hP : va_P (dC, dI) vwCl [(h0, .inr (3, [.ref (uR 0), .null, .null])), (uR 0, .inr (2, [.int (nI 0), .int (nI 0), .int (nI 0), .ref (uR 1), .ref (uR 2), .ref (uR 3), .ref (uR 4), .ref (uR 5), .ref (uR 6), .ref (uR 7), .ref (uR 8), .ref (uR 9)])), (uR 1, .inl (cI, 32, .inl (aN (fun _ => 0)))), (uR 2, .inl (cI, 32, .inl (aN (fun _ => 0)))), (uR 3, .inl (cI, 32, .inl (aZ (fun _ => 0)))), (uR 4, .inl (cI, 32, .inl (aZ (fun _ => 0)))), (uR 5, .inl (cZ, 32, .inl (aN (fun _ => 0)))), (uR 6, .inl (cI, 32, .inl (aZ (fun _ => 0)))), (uR 7, .inl (cI, 32, .inl (aN (fun _ => 0)))), (uR 8, .inl (cI, 32, .inl (aN (fun _ => 0)))), (uR 9, .inl (cI, 9, .inl (aN (fun _ => 0))))] H := hP
  have hD : va_D A [(h0, .inr (3, [.ref (uR 0), .null, .null])), (uR 0, .inr (2, [.int (nI 0), .int (nI 0), .int (nI 0), .ref (uR 1), .ref (uR 2), .ref (uR 3), .ref (uR 4), .ref (uR 5), .ref (uR 6), .ref (uR 7), .ref (uR 8), .ref (uR 9)])), (uR 1, .inl (cI, 32, .inl (aN (fun _ => 0)))), (uR 2, .inl (cI, 32, .inl (aN (fun _ => 0)))), (uR 3, .inl (cI, 32, .inl (aZ (fun _ => 0)))), (uR 4, .inl (cI, 32, .inl (aZ (fun _ => 0)))), (uR 5, .inl (cZ, 32, .inl (aN (fun _ => 0)))), (uR 6, .inl (cI, 32, .inl (aZ (fun _ => 0)))), (uR 7, .inl (cI, 32, .inl (aN (fun _ => 0)))), (uR 8, .inl (cI, 32, .inl (aN (fun _ => 0)))), (uR 9, .inl (cI, 9, .inl (aN (fun _ => 0))))] := hD
  refine lv_aload_n hx hb dX3_init_15 rfl (lv_at hl 0 rfl) ?_
  refine va_new (ci := 1) (fs := [.int (nI 0), .null, .null, .null, .null]) (C := RX1) (T := TX1) (N := 5) hx hb hts inX1 tyX1 tyX1_ok hown (hts _ tw_70) (hts _ tw_71) (hts _ tw_3) hK hP hD hS hA rfl (fun j hj => by match j, hj with | 0, _ => rfl | 1, _ => rfl | 2, _ => rfl | 3, _ => rfl | 4, _ => rfl | k + 5, h => exact absurd h (by omega)) (Nat.le_of_ble_eq_true rfl) (Nat.le_of_ble_eq_true rfl) dX3_init_16 (fun a11 H hP hD hS => ?_)
  have hP : va_P (dC, dI) vwCl [(h0, .inr (3, [.ref (uR 0), .null, .null])), (uR 0, .inr (2, [.int (nI 0), .int (nI 0), .int (nI 0), .ref (uR 1), .ref (uR 2), .ref (uR 3), .ref (uR 4), .ref (uR 5), .ref (uR 6), .ref (uR 7), .ref (uR 8), .ref (uR 9)])), (uR 1, .inl (cI, 32, .inl (aN (fun _ => 0)))), (uR 2, .inl (cI, 32, .inl (aN (fun _ => 0)))), (uR 3, .inl (cI, 32, .inl (aZ (fun _ => 0)))), (uR 4, .inl (cI, 32, .inl (aZ (fun _ => 0)))), (uR 5, .inl (cZ, 32, .inl (aN (fun _ => 0)))), (uR 6, .inl (cI, 32, .inl (aZ (fun _ => 0)))), (uR 7, .inl (cI, 32, .inl (aN (fun _ => 0)))), (uR 8, .inl (cI, 32, .inl (aN (fun _ => 0)))), (uR 9, .inl (cI, 9, .inl (aN (fun _ => 0)))), (a11, .inr (1, [.int (nI 0), .null, .null, .null, .null]))] H := hP
  have hD : va_D A [(h0, .inr (3, [.ref (uR 0), .null, .null])), (uR 0, .inr (2, [.int (nI 0), .int (nI 0), .int (nI 0), .ref (uR 1), .ref (uR 2), .ref (uR 3), .ref (uR 4), .ref (uR 5), .ref (uR 6), .ref (uR 7), .ref (uR 8), .ref (uR 9)])), (uR 1, .inl (cI, 32, .inl (aN (fun _ => 0)))), (uR 2, .inl (cI, 32, .inl (aN (fun _ => 0)))), (uR 3, .inl (cI, 32, .inl (aZ (fun _ => 0)))), (uR 4, .inl (cI, 32, .inl (aZ (fun _ => 0)))), (uR 5, .inl (cZ, 32, .inl (aN (fun _ => 0)))), (uR 6, .inl (cI, 32, .inl (aZ (fun _ => 0)))), (uR 7, .inl (cI, 32, .inl (aN (fun _ => 0)))), (uR 8, .inl (cI, 32, .inl (aN (fun _ => 0)))), (uR 9, .inl (cI, 9, .inl (aN (fun _ => 0)))), (a11, .inr (1, [.int (nI 0), .null, .null, .null, .null]))] := hD
  refine W.widen (k := 11) (n := 282) (by omega) (by omega) ?_
  refine lv_dup hx hb dX3_init_19 rfl ?_
  refine xc_Iv (As := []) (wr := [(h0, .inr (3, [.ref (uR 0), .null, .null])), (uR 0, .inr (2, [.int (nI 0), .int (nI 0), .int (nI 0), .ref (uR 1), .ref (uR 2), .ref (uR 3), .ref (uR 4), .ref (uR 5), .ref (uR 6), .ref (uR 7), .ref (uR 8), .ref (uR 9)])), (uR 1, .inl (cI, 32, .inl (aN (fun _ => 0)))), (uR 2, .inl (cI, 32, .inl (aN (fun _ => 0)))), (uR 3, .inl (cI, 32, .inl (aZ (fun _ => 0)))), (uR 4, .inl (cI, 32, .inl (aZ (fun _ => 0)))), (uR 5, .inl (cZ, 32, .inl (aN (fun _ => 0)))), (uR 6, .inl (cI, 32, .inl (aZ (fun _ => 0)))), (uR 7, .inl (cI, 32, .inl (aN (fun _ => 0)))), (uR 8, .inl (cI, 32, .inl (aN (fun _ => 0)))), (uR 9, .inl (cI, 9, .inl (aN (fun _ => 0))))]) ⟨hx, hb, hml, hown, hts⟩ (c_Cells_init l dC dI cI cZ H.size a11 ) (cwI 0 hts (gA tw_74) rfl rfl rfl (hts _ tw_3) (hts _ tw_72) (hts _ tw_73) rfl (by decide +kernel) ⟨Nat.le_of_ble_eq_true rfl, Nat.le_of_ble_eq_true rfl⟩) rfl hl.1 rfl (Nat.le_of_ble_eq_true rfl) dX3_init_20 ⟨Nat.le_of_ble_eq_true rfl, Nat.le_of_ble_eq_true rfl⟩ hP hD hK hS hA [11] [0, 1, 2, 3, 4, 5, 6, 7, 8, 9, 10] rfl rfl (by decide) (by decide) (by decide) [0, 1] rfl eT_M trivial (fun uC H locs hw20 hPn hDn hSn => ?_)
  obtain rfl := hw20
  have hP : va_P (dC, dI) vwCl [(h0, .inr (3, [.ref (uR 0), .null, .null])), (uR 0, .inr (2, [.int (nI 0), .int (nI 0), .int (nI 0), .ref (uR 1), .ref (uR 2), .ref (uR 3), .ref (uR 4), .ref (uR 5), .ref (uR 6), .ref (uR 7), .ref (uR 8), .ref (uR 9)])), (uR 1, .inl (cI, 32, .inl (aN (fun _ => 0)))), (uR 2, .inl (cI, 32, .inl (aN (fun _ => 0)))), (uR 3, .inl (cI, 32, .inl (aZ (fun _ => 0)))), (uR 4, .inl (cI, 32, .inl (aZ (fun _ => 0)))), (uR 5, .inl (cZ, 32, .inl (aN (fun _ => 0)))), (uR 6, .inl (cI, 32, .inl (aZ (fun _ => 0)))), (uR 7, .inl (cI, 32, .inl (aN (fun _ => 0)))), (uR 8, .inl (cI, 32, .inl (aN (fun _ => 0)))), (uR 9, .inl (cI, 9, .inl (aN (fun _ => 0)))), (uC 10, .inr (1, [.int (nI 0), .ref (uC 11), .ref (uC 12), .ref (uC 13), .ref (uC 14)])), (uC 11, .inl (cI, 20, .inl (aN (fun _ => 0)))), (uC 12, .inl (cI, 20, .inl (aN (fun _ => 0)))), (uC 13, .inl (cI, 20, .inl (aN (fun _ => 0)))), (uC 14, .inl (cI, 20, .inl (aN (fun _ => 0))))] H := hPn
  have hD : va_D A [(h0, .inr (3, [.ref (uR 0), .null, .null])), (uR 0, .inr (2, [.int (nI 0), .int (nI 0), .int (nI 0), .ref (uR 1), .ref (uR 2), .ref (uR 3), .ref (uR 4), .ref (uR 5), .ref (uR 6), .ref (uR 7), .ref (uR 8), .ref (uR 9)])), (uR 1, .inl (cI, 32, .inl (aN (fun _ => 0)))), (uR 2, .inl (cI, 32, .inl (aN (fun _ => 0)))), (uR 3, .inl (cI, 32, .inl (aZ (fun _ => 0)))), (uR 4, .inl (cI, 32, .inl (aZ (fun _ => 0)))), (uR 5, .inl (cZ, 32, .inl (aN (fun _ => 0)))), (uR 6, .inl (cI, 32, .inl (aZ (fun _ => 0)))), (uR 7, .inl (cI, 32, .inl (aN (fun _ => 0)))), (uR 8, .inl (cI, 32, .inl (aN (fun _ => 0)))), (uR 9, .inl (cI, 9, .inl (aN (fun _ => 0)))), (uC 10, .inr (1, [.int (nI 0), .ref (uC 11), .ref (uC 12), .ref (uC 13), .ref (uC 14)])), (uC 11, .inl (cI, 20, .inl (aN (fun _ => 0)))), (uC 12, .inl (cI, 20, .inl (aN (fun _ => 0)))), (uC 13, .inl (cI, 20, .inl (aN (fun _ => 0)))), (uC 14, .inl (cI, 20, .inl (aN (fun _ => 0))))] := hDn
  have hS := hSn
  refine W.widen (k := 15) (n := 362) (by omega) (by omega) ?_
  refine va_putF (D := (dC, dI)) (ci := 3) (v := .ref (uC 10)) (ty := .object "ScanRows$Cells") (C := RX3) (T := TX3) (N := 3) hx hb hts inX3 tyX3 tyX3_ok nmX3 hown hK hP hD hS 0 rfl rfl 1 (by decide) (hts _ tw_132) (fun _ h9 => h9) rfl hin rfl (by decide +kernel) rfl rfl (Nat.le_of_ble_eq_true rfl) dX3_init_23 (fun H locs hP hD hS => ?_)
  have hP : va_P (dC, dI) vwCl [(h0, .inr (3, [.ref (uR 0), .ref (uC 10), .null])), (uR 0, .inr (2, [.int (nI 0), .int (nI 0), .int (nI 0), .ref (uR 1), .ref (uR 2), .ref (uR 3), .ref (uR 4), .ref (uR 5), .ref (uR 6), .ref (uR 7), .ref (uR 8), .ref (uR 9)])), (uR 1, .inl (cI, 32, .inl (aN (fun _ => 0)))), (uR 2, .inl (cI, 32, .inl (aN (fun _ => 0)))), (uR 3, .inl (cI, 32, .inl (aZ (fun _ => 0)))), (uR 4, .inl (cI, 32, .inl (aZ (fun _ => 0)))), (uR 5, .inl (cZ, 32, .inl (aN (fun _ => 0)))), (uR 6, .inl (cI, 32, .inl (aZ (fun _ => 0)))), (uR 7, .inl (cI, 32, .inl (aN (fun _ => 0)))), (uR 8, .inl (cI, 32, .inl (aN (fun _ => 0)))), (uR 9, .inl (cI, 9, .inl (aN (fun _ => 0)))), (uC 10, .inr (1, [.int (nI 0), .ref (uC 11), .ref (uC 12), .ref (uC 13), .ref (uC 14)])), (uC 11, .inl (cI, 20, .inl (aN (fun _ => 0)))), (uC 12, .inl (cI, 20, .inl (aN (fun _ => 0)))), (uC 13, .inl (cI, 20, .inl (aN (fun _ => 0)))), (uC 14, .inl (cI, 20, .inl (aN (fun _ => 0))))] H := hP
  have hD : va_D A [(h0, .inr (3, [.ref (uR 0), .ref (uC 10), .null])), (uR 0, .inr (2, [.int (nI 0), .int (nI 0), .int (nI 0), .ref (uR 1), .ref (uR 2), .ref (uR 3), .ref (uR 4), .ref (uR 5), .ref (uR 6), .ref (uR 7), .ref (uR 8), .ref (uR 9)])), (uR 1, .inl (cI, 32, .inl (aN (fun _ => 0)))), (uR 2, .inl (cI, 32, .inl (aN (fun _ => 0)))), (uR 3, .inl (cI, 32, .inl (aZ (fun _ => 0)))), (uR 4, .inl (cI, 32, .inl (aZ (fun _ => 0)))), (uR 5, .inl (cZ, 32, .inl (aN (fun _ => 0)))), (uR 6, .inl (cI, 32, .inl (aZ (fun _ => 0)))), (uR 7, .inl (cI, 32, .inl (aN (fun _ => 0)))), (uR 8, .inl (cI, 32, .inl (aN (fun _ => 0)))), (uR 9, .inl (cI, 9, .inl (aN (fun _ => 0)))), (uC 10, .inr (1, [.int (nI 0), .ref (uC 11), .ref (uC 12), .ref (uC 13), .ref (uC 14)])), (uC 11, .inl (cI, 20, .inl (aN (fun _ => 0)))), (uC 12, .inl (cI, 20, .inl (aN (fun _ => 0)))), (uC 13, .inl (cI, 20, .inl (aN (fun _ => 0)))), (uC 14, .inl (cI, 20, .inl (aN (fun _ => 0))))] := hD
  refine lv_aload_n hx hb dX3_init_26 rfl (lv_at hl 0 rfl) ?_
  refine va_new (ci := 0) (fs := [.int (nI 0), .int (nI 0), .int (nI 0), .null, .null, .int (nI 0), .int (nI 0), .int (nI 0), .null]) (C := RX0) (T := TX0) (N := 9) hx hb hts inX0 tyX0 tyX0_ok hown (hts _ tw_95) (hts _ tw_96) (hts _ tw_4) hK hP hD hS hA rfl (fun j hj => by match j, hj with | 0, _ => rfl | 1, _ => rfl | 2, _ => rfl | 3, _ => rfl | 4, _ => rfl | 5, _ => rfl | 6, _ => rfl | 7, _ => rfl | 8, _ => rfl | k + 9, h => exact absurd h (by omega)) (Nat.le_of_ble_eq_true rfl) (Nat.le_of_ble_eq_true rfl) dX3_init_27 (fun a16 H hP hD hS => ?_)
  have hP : va_P (dC, dI) vwCl [(h0, .inr (3, [.ref (uR 0), .ref (uC 10), .null])), (uR 0, .inr (2, [.int (nI 0), .int (nI 0), .int (nI 0), .ref (uR 1), .ref (uR 2), .ref (uR 3), .ref (uR 4), .ref (uR 5), .ref (uR 6), .ref (uR 7), .ref (uR 8), .ref (uR 9)])), (uR 1, .inl (cI, 32, .inl (aN (fun _ => 0)))), (uR 2, .inl (cI, 32, .inl (aN (fun _ => 0)))), (uR 3, .inl (cI, 32, .inl (aZ (fun _ => 0)))), (uR 4, .inl (cI, 32, .inl (aZ (fun _ => 0)))), (uR 5, .inl (cZ, 32, .inl (aN (fun _ => 0)))), (uR 6, .inl (cI, 32, .inl (aZ (fun _ => 0)))), (uR 7, .inl (cI, 32, .inl (aN (fun _ => 0)))), (uR 8, .inl (cI, 32, .inl (aN (fun _ => 0)))), (uR 9, .inl (cI, 9, .inl (aN (fun _ => 0)))), (uC 10, .inr (1, [.int (nI 0), .ref (uC 11), .ref (uC 12), .ref (uC 13), .ref (uC 14)])), (uC 11, .inl (cI, 20, .inl (aN (fun _ => 0)))), (uC 12, .inl (cI, 20, .inl (aN (fun _ => 0)))), (uC 13, .inl (cI, 20, .inl (aN (fun _ => 0)))), (uC 14, .inl (cI, 20, .inl (aN (fun _ => 0)))), (a16, .inr (0, [.int (nI 0), .int (nI 0), .int (nI 0), .null, .null, .int (nI 0), .int (nI 0), .int (nI 0), .null]))] H := hP
  have hD : va_D A [(h0, .inr (3, [.ref (uR 0), .ref (uC 10), .null])), (uR 0, .inr (2, [.int (nI 0), .int (nI 0), .int (nI 0), .ref (uR 1), .ref (uR 2), .ref (uR 3), .ref (uR 4), .ref (uR 5), .ref (uR 6), .ref (uR 7), .ref (uR 8), .ref (uR 9)])), (uR 1, .inl (cI, 32, .inl (aN (fun _ => 0)))), (uR 2, .inl (cI, 32, .inl (aN (fun _ => 0)))), (uR 3, .inl (cI, 32, .inl (aZ (fun _ => 0)))), (uR 4, .inl (cI, 32, .inl (aZ (fun _ => 0)))), (uR 5, .inl (cZ, 32, .inl (aN (fun _ => 0)))), (uR 6, .inl (cI, 32, .inl (aZ (fun _ => 0)))), (uR 7, .inl (cI, 32, .inl (aN (fun _ => 0)))), (uR 8, .inl (cI, 32, .inl (aN (fun _ => 0)))), (uR 9, .inl (cI, 9, .inl (aN (fun _ => 0)))), (uC 10, .inr (1, [.int (nI 0), .ref (uC 11), .ref (uC 12), .ref (uC 13), .ref (uC 14)])), (uC 11, .inl (cI, 20, .inl (aN (fun _ => 0)))), (uC 12, .inl (cI, 20, .inl (aN (fun _ => 0)))), (uC 13, .inl (cI, 20, .inl (aN (fun _ => 0)))), (uC 14, .inl (cI, 20, .inl (aN (fun _ => 0)))), (a16, .inr (0, [.int (nI 0), .int (nI 0), .int (nI 0), .null, .null, .int (nI 0), .int (nI 0), .int (nI 0), .null]))] := hD
  refine W.widen (k := 16) (n := 371) (by omega) (by omega) ?_
  refine lv_dup hx hb dX3_init_30 rfl ?_
  refine lv_iload_n hx hb dX3_init_31 rfl (lv_at hl 1 rfl) ?_
  refine lv_aload_n hx hb dX3_init_32 rfl (lv_at hl 0 rfl) ?_
  refine va_get (D := (dC, dI)) (ci := 3) (v := .ref (uR 0)) (C := RX3) (T := TX3) (N := 3) hx hb hts inX3 hown hK hP 0 rfl rfl 0 (by decide) (hts _ tw_131) (fun _ h9 => h9) rfl dX3_init_33 ?_
  refine lv_aload_n hx hb dX3_init_36 rfl (lv_at hl 0 rfl) ?_
  refine va_get (D := (dC, dI)) (ci := 3) (v := .ref (uC 10)) (C := RX3) (T := TX3) (N := 3) hx hb hts inX3 hown hK hP 0 rfl rfl 1 (by decide) (hts _ tw_132) (fun _ h9 => h9) rfl dX3_init_37 ?_
  refine xc_Iv (As := [.int nu, .ref (uR 0), .ref (uC 10)]) (wr := [(h0, .inr (3, [.ref (uR 0), .ref (uC 10), .null])), (uR 0, .inr (2, [.int (nI 0), .int (nI 0), .int (nI 0), .ref (uR 1), .ref (uR 2), .ref (uR 3), .ref (uR 4), .ref (uR 5), .ref (uR 6), .ref (uR 7), .ref (uR 8), .ref (uR 9)])), (uR 1, .inl (cI, 32, .inl (aN (fun _ => 0)))), (uR 2, .inl (cI, 32, .inl (aN (fun _ => 0)))), (uR 3, .inl (cI, 32, .inl (aZ (fun _ => 0)))), (uR 4, .inl (cI, 32, .inl (aZ (fun _ => 0)))), (uR 5, .inl (cZ, 32, .inl (aN (fun _ => 0)))), (uR 6, .inl (cI, 32, .inl (aZ (fun _ => 0)))), (uR 7, .inl (cI, 32, .inl (aN (fun _ => 0)))), (uR 8, .inl (cI, 32, .inl (aN (fun _ => 0)))), (uR 9, .inl (cI, 9, .inl (aN (fun _ => 0)))), (uC 10, .inr (1, [.int (nI 0), .ref (uC 11), .ref (uC 12), .ref (uC 13), .ref (uC 14)])), (uC 11, .inl (cI, 20, .inl (aN (fun _ => 0)))), (uC 12, .inl (cI, 20, .inl (aN (fun _ => 0)))), (uC 13, .inl (cI, 20, .inl (aN (fun _ => 0)))), (uC 14, .inl (cI, 20, .inl (aN (fun _ => 0))))]) ⟨hx, hb, hml, hown, hts⟩ (c_Access_init l dC dI cI cZ H.size a16 nu (uR 0) (uC 10)) (cwI 3 hts (gA tw_99) rfl rfl rfl (hts _ tw_4) (hts _ tw_97) (hts _ tw_98) rfl (by decide +kernel) ⟨Nat.le_of_ble_eq_true rfl, Nat.le_of_ble_eq_true rfl⟩) rfl hl.1 rfl (Nat.le_of_ble_eq_true rfl) dX3_init_40 ⟨Nat.le_of_ble_eq_true rfl, Nat.le_of_ble_eq_true rfl⟩ hP hD hK hS hA [16] [0, 1, 2, 3, 4, 5, 6, 7, 8, 9, 10, 11, 12, 13, 14, 15] rfl rfl (by decide) (by decide) (by decide) [0, 1] rfl eT_M trivial (fun uT H locs hw40 hPn hDn hSn => ?_)
  have hP : va_P (dC, dI) vwCl [(h0, .inr (3, [.ref (uR 0), .ref (uC 10), .null])), (uR 0, .inr (2, [.int (nI 0), .int (nI 0), .int (nI 0), .ref (uR 1), .ref (uR 2), .ref (uR 3), .ref (uR 4), .ref (uR 5), .ref (uR 6), .ref (uR 7), .ref (uR 8), .ref (uR 9)])), (uR 1, .inl (cI, 32, .inl (aN (fun _ => 0)))), (uR 2, .inl (cI, 32, .inl (aN (fun _ => 0)))), (uR 3, .inl (cI, 32, .inl (aZ (fun _ => 0)))), (uR 4, .inl (cI, 32, .inl (aZ (fun _ => 0)))), (uR 5, .inl (cZ, 32, .inl (aN (fun _ => 0)))), (uR 6, .inl (cI, 32, .inl (aZ (fun _ => 0)))), (uR 7, .inl (cI, 32, .inl (aN (fun _ => 0)))), (uR 8, .inl (cI, 32, .inl (aN (fun _ => 0)))), (uR 9, .inl (cI, 9, .inl (aN (fun _ => 0)))), (uC 10, .inr (1, [.int (nI 0), .ref (uC 11), .ref (uC 12), .ref (uC 13), .ref (uC 14)])), (uC 11, .inl (cI, 20, .inl (aN (fun _ => 0)))), (uC 12, .inl (cI, 20, .inl (aN (fun _ => 0)))), (uC 13, .inl (cI, 20, .inl (aN (fun _ => 0)))), (uC 14, .inl (cI, 20, .inl (aN (fun _ => 0)))), (a16, .inr (0, [.int (nI 0), .int (nI 2), .int nu, .ref (uR 0), .ref (uC 10), .int (nI 0), .int (nI 0), .int (nI 0), .ref uT])), (uT, .inl (cI, 16, .inl (aN (fun _ => 0))))] H := hPn
  have hD : va_D A [(h0, .inr (3, [.ref (uR 0), .ref (uC 10), .null])), (uR 0, .inr (2, [.int (nI 0), .int (nI 0), .int (nI 0), .ref (uR 1), .ref (uR 2), .ref (uR 3), .ref (uR 4), .ref (uR 5), .ref (uR 6), .ref (uR 7), .ref (uR 8), .ref (uR 9)])), (uR 1, .inl (cI, 32, .inl (aN (fun _ => 0)))), (uR 2, .inl (cI, 32, .inl (aN (fun _ => 0)))), (uR 3, .inl (cI, 32, .inl (aZ (fun _ => 0)))), (uR 4, .inl (cI, 32, .inl (aZ (fun _ => 0)))), (uR 5, .inl (cZ, 32, .inl (aN (fun _ => 0)))), (uR 6, .inl (cI, 32, .inl (aZ (fun _ => 0)))), (uR 7, .inl (cI, 32, .inl (aN (fun _ => 0)))), (uR 8, .inl (cI, 32, .inl (aN (fun _ => 0)))), (uR 9, .inl (cI, 9, .inl (aN (fun _ => 0)))), (uC 10, .inr (1, [.int (nI 0), .ref (uC 11), .ref (uC 12), .ref (uC 13), .ref (uC 14)])), (uC 11, .inl (cI, 20, .inl (aN (fun _ => 0)))), (uC 12, .inl (cI, 20, .inl (aN (fun _ => 0)))), (uC 13, .inl (cI, 20, .inl (aN (fun _ => 0)))), (uC 14, .inl (cI, 20, .inl (aN (fun _ => 0)))), (a16, .inr (0, [.int (nI 0), .int (nI 2), .int nu, .ref (uR 0), .ref (uC 10), .int (nI 0), .int (nI 0), .int (nI 0), .ref uT])), (uT, .inl (cI, 16, .inl (aN (fun _ => 0))))] := hDn
  have hS := hSn
  refine W.widen (k := 17) (n := 387) (by omega) (by omega) ?_
  refine va_putF (D := (dC, dI)) (ci := 3) (v := .ref a16) (ty := .object "ScanRows$Access") (C := RX3) (T := TX3) (N := 3) hx hb hts inX3 tyX3 tyX3_ok nmX3 hown hK hP hD hS 0 rfl rfl 2 (by decide) (hts _ tw_133) (fun _ h9 => h9) rfl hin rfl (by decide +kernel) rfl rfl (Nat.le_of_ble_eq_true rfl) dX3_init_43 (fun H locs hP hD hS => ?_)
  have hP : va_P (dC, dI) vwCl [(h0, .inr (3, [.ref (uR 0), .ref (uC 10), .ref a16])), (uR 0, .inr (2, [.int (nI 0), .int (nI 0), .int (nI 0), .ref (uR 1), .ref (uR 2), .ref (uR 3), .ref (uR 4), .ref (uR 5), .ref (uR 6), .ref (uR 7), .ref (uR 8), .ref (uR 9)])), (uR 1, .inl (cI, 32, .inl (aN (fun _ => 0)))), (uR 2, .inl (cI, 32, .inl (aN (fun _ => 0)))), (uR 3, .inl (cI, 32, .inl (aZ (fun _ => 0)))), (uR 4, .inl (cI, 32, .inl (aZ (fun _ => 0)))), (uR 5, .inl (cZ, 32, .inl (aN (fun _ => 0)))), (uR 6, .inl (cI, 32, .inl (aZ (fun _ => 0)))), (uR 7, .inl (cI, 32, .inl (aN (fun _ => 0)))), (uR 8, .inl (cI, 32, .inl (aN (fun _ => 0)))), (uR 9, .inl (cI, 9, .inl (aN (fun _ => 0)))), (uC 10, .inr (1, [.int (nI 0), .ref (uC 11), .ref (uC 12), .ref (uC 13), .ref (uC 14)])), (uC 11, .inl (cI, 20, .inl (aN (fun _ => 0)))), (uC 12, .inl (cI, 20, .inl (aN (fun _ => 0)))), (uC 13, .inl (cI, 20, .inl (aN (fun _ => 0)))), (uC 14, .inl (cI, 20, .inl (aN (fun _ => 0)))), (a16, .inr (0, [.int (nI 0), .int (nI 2), .int nu, .ref (uR 0), .ref (uC 10), .int (nI 0), .int (nI 0), .int (nI 0), .ref uT])), (uT, .inl (cI, 16, .inl (aN (fun _ => 0))))] H := hP
  have hD : va_D A [(h0, .inr (3, [.ref (uR 0), .ref (uC 10), .ref a16])), (uR 0, .inr (2, [.int (nI 0), .int (nI 0), .int (nI 0), .ref (uR 1), .ref (uR 2), .ref (uR 3), .ref (uR 4), .ref (uR 5), .ref (uR 6), .ref (uR 7), .ref (uR 8), .ref (uR 9)])), (uR 1, .inl (cI, 32, .inl (aN (fun _ => 0)))), (uR 2, .inl (cI, 32, .inl (aN (fun _ => 0)))), (uR 3, .inl (cI, 32, .inl (aZ (fun _ => 0)))), (uR 4, .inl (cI, 32, .inl (aZ (fun _ => 0)))), (uR 5, .inl (cZ, 32, .inl (aN (fun _ => 0)))), (uR 6, .inl (cI, 32, .inl (aZ (fun _ => 0)))), (uR 7, .inl (cI, 32, .inl (aN (fun _ => 0)))), (uR 8, .inl (cI, 32, .inl (aN (fun _ => 0)))), (uR 9, .inl (cI, 9, .inl (aN (fun _ => 0)))), (uC 10, .inr (1, [.int (nI 0), .ref (uC 11), .ref (uC 12), .ref (uC 13), .ref (uC 14)])), (uC 11, .inl (cI, 20, .inl (aN (fun _ => 0)))), (uC 12, .inl (cI, 20, .inl (aN (fun _ => 0)))), (uC 13, .inl (cI, 20, .inl (aN (fun _ => 0)))), (uC 14, .inl (cI, 20, .inl (aN (fun _ => 0)))), (a16, .inr (0, [.int (nI 0), .int (nI 2), .int nu, .ref (uR 0), .ref (uC 10), .int (nI 0), .int (nI 0), .int (nI 0), .ref uT])), (uT, .inl (cI, 16, .inl (aN (fun _ => 0))))] := hD
  have hP : va_P (dC, dI) vwCl (wX (fun k => [uR 0, uR 1, uR 2, uR 3, uR 4, uR 5, uR 6, uR 7, uR 8, uR 9, uC 10, uC 11, uC 12, uC 13, uC 14, a16, uT, h0].getD k 0) cI cZ r0 k0 (a00 nu)) H := hP.sub [1, 2, 3, 4, 5, 6, 7, 8, 9, 10, 11, 12, 13, 14, 15, 16, 17, 0] rfl
  have hD : va_D A (wX (fun k => [uR 0, uR 1, uR 2, uR 3, uR 4, uR 5, uR 6, uR 7, uR 8, uR 9, uC 10, uC 11, uC 12, uC 13, uC 14, a16, uT, h0].getD k 0) cI cZ r0 k0 (a00 nu)) := hD.sub [1, 2, 3, 4, 5, 6, 7, 8, 9, 10, 11, 12, 13, 14, 15, 16, 17, 0] (by decide) rfl
  exact xr_v (w1 := fun (u : Nat → Nat) => wX u cI cZ r0 k0 (a00 nu)) hx hb hr hlk (u := fun k => [uR 0, uR 1, uR 2, uR 3, uR 4, uR 5, uR 6, uR 7, uR 8, uR 9, uC 10, uC 11, uC 12, uC 13, uC 14, a16, uT, h0].getD k 0) (rfl) hP hK hD hS dX3_init_46
end
section
/-! the class's own methods, on the roads that return -/
def zL (z : Int) : Int64 := Int64.ofInt z
theorem zL_toInt {z : Int} (h1 : -2147483648 ≤ z) (h2 : z < 2147483648) : (zL z).toInt = z := by
  unfold zL
  rw [Int64.toInt_ofInt]
  show z.bmod 18446744073709551616 = z
  exact Int.bmod_eq_of_le (by omega) (by omega)
theorem zL_i (z : Int) : (zL z).toInt32 = zI z := Int64.toInt32_ofInt
theorem zL_lo {z : Int} (h1 : -1000 ≤ z) (h2 : z ≤ 1000) : ¬ zL z < (-1000) := by
  rw [Int64.lt_iff_toInt_lt, zL_toInt (by omega) (by omega)]
  show ¬ z < -1000
  omega
theorem zL_hi {z : Int} (h1 : -1000 ≤ z) (h2 : z ≤ 1000) : ¬ (1000 : Int64) < zL z := by
  rw [Int64.lt_iff_toInt_lt, zL_toInt (by omega) (by omega)]
  show ¬ 1000 < z
  omega
theorem zL_le {z : Int} (h1 : -1000 ≤ z) (h2 : z ≤ 1000) : zL z ≤ (1000 : Int64) := by
  rw [Int64.le_iff_toInt_le, zL_toInt (by omega) (by omega)]
  show z ≤ 1000
  omega
theorem hcN_1 {ch c : Nat} (h : ch < c) (hc : c ≤ 8) : hcN (nI ch) c = 1 := by
  unfold hcN; rw [if_pos ⟨nI_pos (by omega), nI_lt h (by omega)⟩]
def atZ (r : RS) (ch k : Nat) : Int := if k < r.st (ch + 1) - r.st ch then (r.rw (r.st ch + k) : Int) else -1
def bitN (v : Int32) : Nat := if v = 0 then 0 else 1
theorem bitN_lt (v : Int32) : bitN v < 2 := by unfold bitN; split <;> omega
def cntF (r : RS) (k : CS) (a : AS) (w : Nat) : Nat := if w = 0 then r.n else if w = 1 then r.c else if w = 2 then k.n else if w = 3 then regLen a.co k.n r.p else a.co
theorem eN_kx {tN : Nat} {A B : Nat → Prop} {s : State} {H0 H : Heap} {locs : List Loc} (h : eN tN A s H0) (hS : va_S A H0 H locs) (hAB : ∀ q, B q → A q) : eN tN B s H := eN_kn h hS hAB
theorem ccb_le (r : RS) (k : Nat) : ccb r k ≤ 1 := by unfold ccb; split <;> omega
theorem sw_13 : Cond.selects "ScanRows" (⟨"ScanRows", "requireLatch", "(I)V"⟩ : MethodName) (⟨"ScanRows", "requireLatch", "(I)V"⟩ : MethodName) ∈ ALLG := al_s (i := 13) (by decide +kernel) (by decide +kernel)
theorem sw_14 : Cond.selects "ScanRows" (⟨"ScanRows", "requireCell", "(I)V"⟩ : MethodName) (⟨"ScanRows", "requireCell", "(I)V"⟩ : MethodName) ∈ ALLG := al_s (i := 14) (by decide +kernel) (by decide +kernel)
theorem tw_1 : (Cond.initialized "ScanRows") ∈ ALLG := al_t (i := 1) (by decide +kernel) (by decide +kernel)
theorem tw_28 : (Cond.fieldLink "ScanRows" (32 : Nat) "ScanRows$Rows" "latches" "I") ∈ ALLG := al_t (i := 28) (by decide +kernel) (by decide +kernel)
theorem tw_30 : (Cond.fieldLink "ScanRows" (152 : Nat) "ScanRows$Rows" "chains" "I") ∈ ALLG := al_t (i := 30) (by decide +kernel) (by decide +kernel)
theorem tw_34 : (Cond.fieldLink "ScanRows" (106 : Nat) "ScanRows$Rows" "value" "[I") ∈ ALLG := al_t (i := 34) (by decide +kernel) (by decide +kernel)
theorem tw_78 : (Cond.fieldLink "ScanRows" (116 : Nat) "ScanRows$Cells" "count" "I") ∈ ALLG := al_t (i := 78) (by decide +kernel) (by decide +kernel)
theorem tw_80 : (Cond.fieldLink "ScanRows" (129 : Nat) "ScanRows$Cells" "atPin" "[I") ∈ ALLG := al_t (i := 80) (by decide +kernel) (by decide +kernel)
theorem tw_102 : (Cond.fieldLink "ScanRows" (137 : Nat) "ScanRows$Access" "state" "I") ∈ ALLG := al_t (i := 102) (by decide +kernel) (by decide +kernel)
theorem tw_104 : (Cond.fieldLink "ScanRows" (145 : Nat) "ScanRows$Access" "code" "I") ∈ ALLG := al_t (i := 104) (by decide +kernel) (by decide +kernel)
theorem tw_145 : (Cond.methodLink "ScanRows" (84 : Nat) ({ cls := "ScanRows$Rows", name := "wholeWay", desc := "()J" } : Jvm.MethodName)) ∈ ALLG := al_t (i := 145) (by decide +kernel) (by decide +kernel)
theorem tw_146 : (Cond.instanceMethod ({ cls := "ScanRows$Rows", name := "wholeWay", desc := "()J" } : Jvm.MethodName)) ∈ ALLG := al_t (i := 146) (by decide +kernel) (by decide +kernel)
theorem tw_147 : (Cond.selects "ScanRows$Rows" ({ cls := "ScanRows$Rows", name := "wholeWay", desc := "()J" } : Jvm.MethodName) ({ cls := "ScanRows$Rows", name := "wholeWay", desc := "()J" } : Jvm.MethodName)) ∈ ALLG := al_t (i := 147) (by decide +kernel) (by decide +kernel)
theorem tw_148 : (Cond.code ({ cls := "ScanRows$Rows", name := "wholeWay", desc := "()J" } : Jvm.MethodName) prog_4_method_12_code (4 : Nat) (Option.some FieldType.long)) ∈ ALLG := al_t (i := 148) (by decide +kernel) (by decide +kernel)
theorem tw_164 : (Cond.methodLink "ScanRows" (113 : Nat) ({ cls := "ScanRows$Rows", name := "shiftChains", desc := "(I)I" } : Jvm.MethodName)) ∈ ALLG := al_t (i := 164) (by decide +kernel) (by decide +kernel)
theorem tw_165 : (Cond.instanceMethod ({ cls := "ScanRows$Rows", name := "shiftChains", desc := "(I)I" } : Jvm.MethodName)) ∈ ALLG := al_t (i := 165) (by decide +kernel) (by decide +kernel)
theorem tw_166 : (Cond.selects "ScanRows$Rows" ({ cls := "ScanRows$Rows", name := "shiftChains", desc := "(I)I" } : Jvm.MethodName) ({ cls := "ScanRows$Rows", name := "shiftChains", desc := "(I)I" } : Jvm.MethodName)) ∈ ALLG := al_t (i := 166) (by decide +kernel) (by decide +kernel)
theorem tw_167 : (Cond.code ({ cls := "ScanRows$Rows", name := "shiftChains", desc := "(I)I" } : Jvm.MethodName) prog_4_method_23_code (5 : Nat) (Option.some FieldType.int)) ∈ ALLG := al_t (i := 167) (by decide +kernel) (by decide +kernel)
theorem tw_272 : (Cond.constantLong "ScanRows" (48 : Nat) (-1000 : Int64)) ∈ ALLG := al_t (i := 272) (by decide +kernel) (by decide +kernel)
theorem tw_273 : (Cond.constantLong "ScanRows" (50 : Nat) (1000 : Int64)) ∈ ALLG := al_t (i := 273) (by decide +kernel) (by decide +kernel)
theorem tw_275 : (Cond.methodLink "ScanRows" (54 : Nat) ({ cls := "ScanRows$Rows", name := "addLatch", desc := "(III)I" } : Jvm.MethodName)) ∈ ALLG := al_t (i := 275) (by decide +kernel) (by decide +kernel)
theorem tw_276 : (Cond.instanceMethod ({ cls := "ScanRows$Rows", name := "addLatch", desc := "(III)I" } : Jvm.MethodName)) ∈ ALLG := al_t (i := 276) (by decide +kernel) (by decide +kernel)
theorem tw_277 : (Cond.selects "ScanRows$Rows" ({ cls := "ScanRows$Rows", name := "addLatch", desc := "(III)I" } : Jvm.MethodName) ({ cls := "ScanRows$Rows", name := "addLatch", desc := "(III)I" } : Jvm.MethodName)) ∈ ALLG := al_t (i := 277) (by decide +kernel) (by decide +kernel)
theorem tw_278 : (Cond.code ({ cls := "ScanRows$Rows", name := "addLatch", desc := "(III)I" } : Jvm.MethodName) prog_4_method_2_code (5 : Nat) (Option.some FieldType.int)) ∈ ALLG := al_t (i := 278) (by decide +kernel) (by decide +kernel)
theorem tw_287 : (Cond.methodLink "ScanRows" (60 : Nat) ({ cls := "ScanRows$Rows", name := "arrange", desc := "(I)I" } : Jvm.MethodName)) ∈ ALLG := al_t (i := 287) (by decide +kernel) (by decide +kernel)
theorem tw_288 : (Cond.instanceMethod ({ cls := "ScanRows$Rows", name := "arrange", desc := "(I)I" } : Jvm.MethodName)) ∈ ALLG := al_t (i := 288) (by decide +kernel) (by decide +kernel)
theorem tw_289 : (Cond.selects "ScanRows$Rows" ({ cls := "ScanRows$Rows", name := "arrange", desc := "(I)I" } : Jvm.MethodName) ({ cls := "ScanRows$Rows", name := "arrange", desc := "(I)I" } : Jvm.MethodName)) ∈ ALLG := al_t (i := 289) (by decide +kernel) (by decide +kernel)
theorem tw_290 : (Cond.code ({ cls := "ScanRows$Rows", name := "arrange", desc := "(I)I" } : Jvm.MethodName) prog_4_method_3_code (2 : Nat) (Option.some FieldType.int)) ∈ ALLG := al_t (i := 290) (by decide +kernel) (by decide +kernel)
theorem tw_315 : (Cond.methodLink "ScanRows" (64 : Nat) ({ cls := "ScanRows$Rows", name := "hasChain", desc := "(I)Z" } : Jvm.MethodName)) ∈ ALLG := al_t (i := 315) (by decide +kernel) (by decide +kernel)
theorem tw_316 : (Cond.instanceMethod ({ cls := "ScanRows$Rows", name := "hasChain", desc := "(I)Z" } : Jvm.MethodName)) ∈ ALLG := al_t (i := 316) (by decide +kernel) (by decide +kernel)
theorem tw_317 : (Cond.selects "ScanRows$Rows" ({ cls := "ScanRows$Rows", name := "hasChain", desc := "(I)Z" } : Jvm.MethodName) ({ cls := "ScanRows$Rows", name := "hasChain", desc := "(I)Z" } : Jvm.MethodName)) ∈ ALLG := al_t (i := 317) (by decide +kernel) (by decide +kernel)
theorem tw_318 : (Cond.code ({ cls := "ScanRows$Rows", name := "hasChain", desc := "(I)Z" } : Jvm.MethodName) prog_4_method_7_code (2 : Nat) (Option.some FieldType.boolean)) ∈ ALLG := al_t (i := 318) (by decide +kernel) (by decide +kernel)
theorem tw_335 : (Cond.methodLink "ScanRows" (73 : Nat) ({ cls := "ScanRows$Rows", name := "lengthOf", desc := "(I)I" } : Jvm.MethodName)) ∈ ALLG := al_t (i := 335) (by decide +kernel) (by decide +kernel)
theorem tw_336 : (Cond.methodLink "ScanRows" (76 : Nat) ({ cls := "ScanRows$Rows", name := "latchAt", desc := "(II)I" } : Jvm.MethodName)) ∈ ALLG := al_t (i := 336) (by decide +kernel) (by decide +kernel)
theorem tw_337 : (Cond.instanceMethod ({ cls := "ScanRows$Rows", name := "latchAt", desc := "(II)I" } : Jvm.MethodName)) ∈ ALLG := al_t (i := 337) (by decide +kernel) (by decide +kernel)
theorem tw_338 : (Cond.selects "ScanRows$Rows" ({ cls := "ScanRows$Rows", name := "latchAt", desc := "(II)I" } : Jvm.MethodName) ({ cls := "ScanRows$Rows", name := "latchAt", desc := "(II)I" } : Jvm.MethodName)) ∈ ALLG := al_t (i := 338) (by decide +kernel) (by decide +kernel)
theorem tw_339 : (Cond.code ({ cls := "ScanRows$Rows", name := "latchAt", desc := "(II)I" } : Jvm.MethodName) prog_4_method_9_code (3 : Nat) (Option.some FieldType.int)) ∈ ALLG := al_t (i := 339) (by decide +kernel) (by decide +kernel)
theorem tw_347 : (Cond.methodLink "ScanRows" (80 : Nat) ({ cls := "ScanRows$Rows", name := "clockChangesBehind", desc := "(II)Z" } : Jvm.MethodName)) ∈ ALLG := al_t (i := 347) (by decide +kernel) (by decide +kernel)
theorem tw_348 : (Cond.instanceMethod ({ cls := "ScanRows$Rows", name := "clockChangesBehind", desc := "(II)Z" } : Jvm.MethodName)) ∈ ALLG := al_t (i := 348) (by decide +kernel) (by decide +kernel)
theorem tw_349 : (Cond.selects "ScanRows$Rows" ({ cls := "ScanRows$Rows", name := "clockChangesBehind", desc := "(II)Z" } : Jvm.MethodName) ({ cls := "ScanRows$Rows", name := "clockChangesBehind", desc := "(II)Z" } : Jvm.MethodName)) ∈ ALLG := al_t (i := 349) (by decide +kernel) (by decide +kernel)
theorem tw_350 : (Cond.code ({ cls := "ScanRows$Rows", name := "clockChangesBehind", desc := "(II)Z" } : Jvm.MethodName) prog_4_method_10_code (4 : Nat) (Option.some FieldType.boolean)) ∈ ALLG := al_t (i := 350) (by decide +kernel) (by decide +kernel)
theorem tw_359 : (Cond.methodLink "ScanRows" (90 : Nat) ({ cls := "ScanRows$Rows", name := "exchangeUpTo", desc := "(I)I" } : Jvm.MethodName)) ∈ ALLG := al_t (i := 359) (by decide +kernel) (by decide +kernel)
theorem tw_360 : (Cond.instanceMethod ({ cls := "ScanRows$Rows", name := "exchangeUpTo", desc := "(I)I" } : Jvm.MethodName)) ∈ ALLG := al_t (i := 360) (by decide +kernel) (by decide +kernel)
theorem tw_361 : (Cond.selects "ScanRows$Rows" ({ cls := "ScanRows$Rows", name := "exchangeUpTo", desc := "(I)I" } : Jvm.MethodName) ({ cls := "ScanRows$Rows", name := "exchangeUpTo", desc := "(I)I" } : Jvm.MethodName)) ∈ ALLG := al_t (i := 361) (by decide +kernel) (by decide +kernel)
theorem tw_362 : (Cond.code ({ cls := "ScanRows$Rows", name := "exchangeUpTo", desc := "(I)I" } : Jvm.MethodName) prog_4_method_15_code (3 : Nat) (Option.some FieldType.int)) ∈ ALLG := al_t (i := 362) (by decide +kernel) (by decide +kernel)
theorem tw_391 : (Cond.methodLink "ScanRows" (95 : Nat) ({ cls := "ScanRows$Rows", name := "brokenRule", desc := "(II)I" } : Jvm.MethodName)) ∈ ALLG := al_t (i := 391) (by decide +kernel) (by decide +kernel)
theorem tw_392 : (Cond.instanceMethod ({ cls := "ScanRows$Rows", name := "brokenRule", desc := "(II)I" } : Jvm.MethodName)) ∈ ALLG := al_t (i := 392) (by decide +kernel) (by decide +kernel)
theorem tw_393 : (Cond.selects "ScanRows$Rows" ({ cls := "ScanRows$Rows", name := "brokenRule", desc := "(II)I" } : Jvm.MethodName) ({ cls := "ScanRows$Rows", name := "brokenRule", desc := "(II)I" } : Jvm.MethodName)) ∈ ALLG := al_t (i := 393) (by decide +kernel) (by decide +kernel)
theorem tw_394 : (Cond.code ({ cls := "ScanRows$Rows", name := "brokenRule", desc := "(II)I" } : Jvm.MethodName) prog_4_method_20_code (6 : Nat) (Option.some FieldType.int)) ∈ ALLG := al_t (i := 394) (by decide +kernel) (by decide +kernel)
theorem tw_406 : (Cond.methodLink "ScanRows" (98 : Nat) ({ cls := "ScanRows", name := "requireLatch", desc := "(I)V" } : Jvm.MethodName)) ∈ ALLG := al_t (i := 406) (by decide +kernel) (by decide +kernel)
theorem tw_408 : (Cond.instanceMethod ({ cls := "ScanRows", name := "requireLatch", desc := "(I)V" } : Jvm.MethodName)) ∈ ALLG := al_t (i := 408) (by decide +kernel) (by decide +kernel)
theorem tw_409 : (Cond.code ({ cls := "ScanRows", name := "requireLatch", desc := "(I)V" } : Jvm.MethodName) prog_1_method_20_code (2 : Nat) (Option.none : Option Jvm.ClassFile.FieldType)) ∈ ALLG := al_t (i := 409) (by decide +kernel) (by decide +kernel)
theorem tw_411 : (Cond.methodLink "ScanRows" (102 : Nat) ({ cls := "ScanRows$Rows", name := "changeSet", desc := "(IZ)Z" } : Jvm.MethodName)) ∈ ALLG := al_t (i := 411) (by decide +kernel) (by decide +kernel)
theorem tw_412 : (Cond.instanceMethod ({ cls := "ScanRows$Rows", name := "changeSet", desc := "(IZ)Z" } : Jvm.MethodName)) ∈ ALLG := al_t (i := 412) (by decide +kernel) (by decide +kernel)
theorem tw_413 : (Cond.selects "ScanRows$Rows" ({ cls := "ScanRows$Rows", name := "changeSet", desc := "(IZ)Z" } : Jvm.MethodName) ({ cls := "ScanRows$Rows", name := "changeSet", desc := "(IZ)Z" } : Jvm.MethodName)) ∈ ALLG := al_t (i := 413) (by decide +kernel) (by decide +kernel)
theorem tw_414 : (Cond.code ({ cls := "ScanRows$Rows", name := "changeSet", desc := "(IZ)Z" } : Jvm.MethodName) prog_4_method_22_code (4 : Nat) (Option.some FieldType.boolean)) ∈ ALLG := al_t (i := 414) (by decide +kernel) (by decide +kernel)
theorem tw_422 : (Cond.methodLink "ScanRows" (110 : Nat) ({ cls := "ScanRows", name := "asBit", desc := "(I)I" } : Jvm.MethodName)) ∈ ALLG := al_t (i := 422) (by decide +kernel) (by decide +kernel)
theorem tw_423 : (Cond.static ({ cls := "ScanRows", name := "asBit", desc := "(I)I" } : Jvm.MethodName)) ∈ ALLG := al_t (i := 423) (by decide +kernel) (by decide +kernel)
theorem tw_424 : (Cond.code ({ cls := "ScanRows", name := "asBit", desc := "(I)I" } : Jvm.MethodName) prog_1_method_22_code (1 : Nat) (Option.some FieldType.int)) ∈ ALLG := al_t (i := 424) (by decide +kernel) (by decide +kernel)
theorem tw_441 : (Cond.methodLink "ScanRows" (123 : Nat) ({ cls := "ScanRows$Cells", name := "addCell", desc := "(I)I" } : Jvm.MethodName)) ∈ ALLG := al_t (i := 441) (by decide +kernel) (by decide +kernel)
theorem tw_442 : (Cond.instanceMethod ({ cls := "ScanRows$Cells", name := "addCell", desc := "(I)I" } : Jvm.MethodName)) ∈ ALLG := al_t (i := 442) (by decide +kernel) (by decide +kernel)
theorem tw_443 : (Cond.selects "ScanRows$Cells" ({ cls := "ScanRows$Cells", name := "addCell", desc := "(I)I" } : Jvm.MethodName) ({ cls := "ScanRows$Cells", name := "addCell", desc := "(I)I" } : Jvm.MethodName)) ∈ ALLG := al_t (i := 443) (by decide +kernel) (by decide +kernel)
theorem tw_444 : (Cond.code ({ cls := "ScanRows$Cells", name := "addCell", desc := "(I)I" } : Jvm.MethodName) prog_3_method_2_code (3 : Nat) (Option.some FieldType.int)) ∈ ALLG := al_t (i := 444) (by decide +kernel) (by decide +kernel)
theorem tw_452 : (Cond.methodLink "ScanRows" (126 : Nat) ({ cls := "ScanRows", name := "requireCell", desc := "(I)V" } : Jvm.MethodName)) ∈ ALLG := al_t (i := 452) (by decide +kernel) (by decide +kernel)
theorem tw_454 : (Cond.instanceMethod ({ cls := "ScanRows", name := "requireCell", desc := "(I)V" } : Jvm.MethodName)) ∈ ALLG := al_t (i := 454) (by decide +kernel) (by decide +kernel)
theorem tw_455 : (Cond.code ({ cls := "ScanRows", name := "requireCell", desc := "(I)V" } : Jvm.MethodName) prog_1_method_21_code (2 : Nat) (Option.none : Option Jvm.ClassFile.FieldType)) ∈ ALLG := al_t (i := 455) (by decide +kernel) (by decide +kernel)
theorem tw_465 : (Cond.methodLink "ScanRows" (134 : Nat) ({ cls := "ScanRows$Access", name := "step", desc := "(II)I" } : Jvm.MethodName)) ∈ ALLG := al_t (i := 465) (by decide +kernel) (by decide +kernel)
theorem tw_527 : (Cond.methodLink "ScanRows" (142 : Nat) ({ cls := "ScanRows$Access", name := "stepUntil", desc := "(I)I" } : Jvm.MethodName)) ∈ ALLG := al_t (i := 527) (by decide +kernel) (by decide +kernel)
theorem tw_528 : (Cond.instanceMethod ({ cls := "ScanRows$Access", name := "stepUntil", desc := "(I)I" } : Jvm.MethodName)) ∈ ALLG := al_t (i := 528) (by decide +kernel) (by decide +kernel)
theorem tw_529 : (Cond.selects "ScanRows$Access" ({ cls := "ScanRows$Access", name := "stepUntil", desc := "(I)I" } : Jvm.MethodName) ({ cls := "ScanRows$Access", name := "stepUntil", desc := "(I)I" } : Jvm.MethodName)) ∈ ALLG := al_t (i := 529) (by decide +kernel) (by decide +kernel)
theorem tw_530 : (Cond.code ({ cls := "ScanRows$Access", name := "stepUntil", desc := "(I)I" } : Jvm.MethodName) prog_2_method_12_code (4 : Nat) (Option.some FieldType.int)) ∈ ALLG := al_t (i := 530) (by decide +kernel) (by decide +kernel)
theorem tw_550 : (Cond.methodLink "ScanRows" (148 : Nat) ({ cls := "ScanRows$Cells", name := "drivenAt", desc := "(IZ)I" } : Jvm.MethodName)) ∈ ALLG := al_t (i := 550) (by decide +kernel) (by decide +kernel)
theorem tw_551 : (Cond.instanceMethod ({ cls := "ScanRows$Cells", name := "drivenAt", desc := "(IZ)I" } : Jvm.MethodName)) ∈ ALLG := al_t (i := 551) (by decide +kernel) (by decide +kernel)
theorem tw_552 : (Cond.selects "ScanRows$Cells" ({ cls := "ScanRows$Cells", name := "drivenAt", desc := "(IZ)I" } : Jvm.MethodName) ({ cls := "ScanRows$Cells", name := "drivenAt", desc := "(IZ)I" } : Jvm.MethodName)) ∈ ALLG := al_t (i := 552) (by decide +kernel) (by decide +kernel)
theorem tw_553 : (Cond.code ({ cls := "ScanRows$Cells", name := "drivenAt", desc := "(IZ)I" } : Jvm.MethodName) prog_3_method_6_code (3 : Nat) (Option.some FieldType.int)) ∈ ALLG := al_t (i := 553) (by decide +kernel) (by decide +kernel)
theorem tw_561 : (Cond.methodLink "ScanRows" (155 : Nat) ({ cls := "ScanRows$Access", name := "registerLength", desc := "()I" } : Jvm.MethodName)) ∈ ALLG := al_t (i := 561) (by decide +kernel) (by decide +kernel)
theorem tw_562 : (Cond.instanceMethod ({ cls := "ScanRows$Access", name := "registerLength", desc := "()I" } : Jvm.MethodName)) ∈ ALLG := al_t (i := 562) (by decide +kernel) (by decide +kernel)
theorem tw_563 : (Cond.selects "ScanRows$Access" ({ cls := "ScanRows$Access", name := "registerLength", desc := "()I" } : Jvm.MethodName) ({ cls := "ScanRows$Access", name := "registerLength", desc := "()I" } : Jvm.MethodName)) ∈ ALLG := al_t (i := 563) (by decide +kernel) (by decide +kernel)
theorem tw_564 : (Cond.code ({ cls := "ScanRows$Access", name := "registerLength", desc := "()I" } : Jvm.MethodName) prog_2_method_5_code (1 : Nat) (Option.some FieldType.int)) ∈ ALLG := al_t (i := 564) (by decide +kernel) (by decide +kernel)
theorem dX3_asBit_0 : decode cX3_asBit 0 = .ok (.iload_n 0, 1) := by decide +kernel
theorem dX3_asBit_1 : decode cX3_asBit 1 = .ok (.ifCond .ne 7, 3) := by decide +kernel
theorem dX3_asBit_4 : decode cX3_asBit 4 = .ok (.iconst 0, 1) := by decide +kernel
theorem dX3_asBit_5 : decode cX3_asBit 5 = .ok (.goto 4, 3) := by decide +kernel
theorem dX3_asBit_8 : decode cX3_asBit 8 = .ok (.iconst 1, 1) := by decide +kernel
theorem dX3_asBit_9 : decode cX3_asBit 9 = .ok (.ireturn, 1) := by decide +kernel
theorem dX3_requireLatch_0 : decode cX3_requireLatch 0 = .ok (.iload_n 1, 1) := by decide +kernel
theorem dX3_requireLatch_1 : decode cX3_requireLatch 1 = .ok (.ifCond .lt 14, 3) := by decide +kernel
theorem dX3_requireLatch_4 : decode cX3_requireLatch 4 = .ok (.iload_n 1, 1) := by decide +kernel
theorem dX3_requireLatch_5 : decode cX3_requireLatch 5 = .ok (.aload_n 0, 1) := by decide +kernel
theorem dX3_requireLatch_6 : decode cX3_requireLatch 6 = .ok (.getfield 10, 3) := by decide +kernel
theorem dX3_requireLatch_9 : decode cX3_requireLatch 9 = .ok (.getfield 32, 3) := by decide +kernel
theorem dX3_requireLatch_12 : decode cX3_requireLatch 12 = .ok (.if_icmp .lt 13, 3) := by decide +kernel
theorem dX3_requireLatch_15 : decode cX3_requireLatch 15 = .ok (.new 68, 3) := by decide +kernel
theorem dX3_requireLatch_18 : decode cX3_requireLatch 18 = .ok (.dup, 1) := by decide +kernel
theorem dX3_requireLatch_19 : decode cX3_requireLatch 19 = .ok (.ldc 161, 2) := by decide +kernel
theorem dX3_requireLatch_21 : decode cX3_requireLatch 21 = .ok (.invokespecial 72, 3) := by decide +kernel
theorem dX3_requireLatch_24 : decode cX3_requireLatch 24 = .ok (.athrow, 1) := by decide +kernel
theorem dX3_requireLatch_25 : decode cX3_requireLatch 25 = .ok (.return_, 1) := by decide +kernel
theorem dX3_requireCell_0 : decode cX3_requireCell 0 = .ok (.iload_n 1, 1) := by decide +kernel
theorem dX3_requireCell_1 : decode cX3_requireCell 1 = .ok (.ifCond .lt 14, 3) := by decide +kernel
theorem dX3_requireCell_4 : decode cX3_requireCell 4 = .ok (.iload_n 1, 1) := by decide +kernel
theorem dX3_requireCell_5 : decode cX3_requireCell 5 = .ok (.aload_n 0, 1) := by decide +kernel
theorem dX3_requireCell_6 : decode cX3_requireCell 6 = .ok (.getfield 19, 3) := by decide +kernel
theorem dX3_requireCell_9 : decode cX3_requireCell 9 = .ok (.getfield 116, 3) := by decide +kernel
theorem dX3_requireCell_12 : decode cX3_requireCell 12 = .ok (.if_icmp .lt 13, 3) := by decide +kernel
theorem dX3_requireCell_15 : decode cX3_requireCell 15 = .ok (.new 68, 3) := by decide +kernel
theorem dX3_requireCell_18 : decode cX3_requireCell 18 = .ok (.dup, 1) := by decide +kernel
theorem dX3_requireCell_19 : decode cX3_requireCell 19 = .ok (.ldc 163, 2) := by decide +kernel
theorem dX3_requireCell_21 : decode cX3_requireCell 21 = .ok (.invokespecial 72, 3) := by decide +kernel
theorem dX3_requireCell_24 : decode cX3_requireCell 24 = .ok (.athrow, 1) := by decide +kernel
theorem dX3_requireCell_25 : decode cX3_requireCell 25 = .ok (.return_, 1) := by decide +kernel
theorem dX3_latch_0 : decode cX3_latch 0 = .ok (.aload_n 0, 1) := by decide +kernel
theorem dX3_latch_1 : decode cX3_latch 1 = .ok (.getfield 10, 3) := by decide +kernel
theorem dX3_latch_4 : decode cX3_latch 4 = .ok (.getfield 32, 3) := by decide +kernel
theorem dX3_latch_7 : decode cX3_latch 7 = .ok (.bipush 32, 2) := by decide +kernel
theorem dX3_latch_9 : decode cX3_latch 9 = .ok (.if_icmp .lt 13, 3) := by decide +kernel
theorem dX3_latch_12 : decode cX3_latch 12 = .ok (.new 36, 3) := by decide +kernel
theorem dX3_latch_15 : decode cX3_latch 15 = .ok (.dup, 1) := by decide +kernel
theorem dX3_latch_16 : decode cX3_latch 16 = .ok (.ldc 38, 2) := by decide +kernel
theorem dX3_latch_18 : decode cX3_latch 18 = .ok (.invokespecial 40, 3) := by decide +kernel
theorem dX3_latch_21 : decode cX3_latch 21 = .ok (.athrow, 1) := by decide +kernel
theorem dX3_latch_22 : decode cX3_latch 22 = .ok (.iload_n 1, 1) := by decide +kernel
theorem dX3_latch_23 : decode cX3_latch 23 = .ok (.ifCond .lt 8, 3) := by decide +kernel
theorem dX3_latch_26 : decode cX3_latch 26 = .ok (.iload_n 1, 1) := by decide +kernel
theorem dX3_latch_27 : decode cX3_latch 27 = .ok (.iconst 4, 1) := by decide +kernel
theorem dX3_latch_28 : decode cX3_latch 28 = .ok (.if_icmp .lt 13, 3) := by decide +kernel
theorem dX3_latch_31 : decode cX3_latch 31 = .ok (.new 43, 3) := by decide +kernel
theorem dX3_latch_34 : decode cX3_latch 34 = .ok (.dup, 1) := by decide +kernel
theorem dX3_latch_35 : decode cX3_latch 35 = .ok (.ldc 45, 2) := by decide +kernel
theorem dX3_latch_37 : decode cX3_latch 37 = .ok (.invokespecial 47, 3) := by decide +kernel
theorem dX3_latch_40 : decode cX3_latch 40 = .ok (.athrow, 1) := by decide +kernel
theorem dX3_latch_41 : decode cX3_latch 41 = .ok (.lload_n 2, 1) := by decide +kernel
theorem dX3_latch_42 : decode cX3_latch 42 = .ok (.ldc2_w 48, 3) := by decide +kernel
theorem dX3_latch_45 : decode cX3_latch 45 = .ok (.lcmp, 1) := by decide +kernel
theorem dX3_latch_46 : decode cX3_latch 46 = .ok (.ifCond .lt 29, 3) := by decide +kernel
theorem dX3_latch_49 : decode cX3_latch 49 = .ok (.lload_n 2, 1) := by decide +kernel
theorem dX3_latch_50 : decode cX3_latch 50 = .ok (.ldc2_w 50, 3) := by decide +kernel
theorem dX3_latch_53 : decode cX3_latch 53 = .ok (.lcmp, 1) := by decide +kernel
theorem dX3_latch_54 : decode cX3_latch 54 = .ok (.ifCond .gt 21, 3) := by decide +kernel
theorem dX3_latch_57 : decode cX3_latch 57 = .ok (.lload 4, 2) := by decide +kernel
theorem dX3_latch_59 : decode cX3_latch 59 = .ok (.ldc2_w 48, 3) := by decide +kernel
theorem dX3_latch_62 : decode cX3_latch 62 = .ok (.lcmp, 1) := by decide +kernel
theorem dX3_latch_63 : decode cX3_latch 63 = .ok (.ifCond .lt 12, 3) := by decide +kernel
theorem dX3_latch_66 : decode cX3_latch 66 = .ok (.lload 4, 2) := by decide +kernel
theorem dX3_latch_68 : decode cX3_latch 68 = .ok (.ldc2_w 50, 3) := by decide +kernel
theorem dX3_latch_71 : decode cX3_latch 71 = .ok (.lcmp, 1) := by decide +kernel
theorem dX3_latch_72 : decode cX3_latch 72 = .ok (.ifCond .le 13, 3) := by decide +kernel
theorem dX3_latch_75 : decode cX3_latch 75 = .ok (.new 43, 3) := by decide +kernel
theorem dX3_latch_78 : decode cX3_latch 78 = .ok (.dup, 1) := by decide +kernel
theorem dX3_latch_79 : decode cX3_latch 79 = .ok (.ldc 52, 2) := by decide +kernel
theorem dX3_latch_81 : decode cX3_latch 81 = .ok (.invokespecial 47, 3) := by decide +kernel
theorem dX3_latch_84 : decode cX3_latch 84 = .ok (.athrow, 1) := by decide +kernel
theorem dX3_latch_85 : decode cX3_latch 85 = .ok (.aload_n 0, 1) := by decide +kernel
theorem dX3_latch_86 : decode cX3_latch 86 = .ok (.getfield 10, 3) := by decide +kernel
theorem dX3_latch_89 : decode cX3_latch 89 = .ok (.iload_n 1, 1) := by decide +kernel
theorem dX3_latch_90 : decode cX3_latch 90 = .ok (.lload_n 2, 1) := by decide +kernel
theorem dX3_latch_91 : decode cX3_latch 91 = .ok (.l2i, 1) := by decide +kernel
theorem dX3_latch_92 : decode cX3_latch 92 = .ok (.lload 4, 2) := by decide +kernel
theorem dX3_latch_94 : decode cX3_latch 94 = .ok (.l2i, 1) := by decide +kernel
theorem dX3_latch_95 : decode cX3_latch 95 = .ok (.invokevirtual 54, 3) := by decide +kernel
theorem dX3_latch_98 : decode cX3_latch 98 = .ok (.ireturn, 1) := by decide +kernel
theorem dX3_make_0 : decode cX3_make 0 = .ok (.iload_n 1, 1) := by decide +kernel
theorem dX3_make_1 : decode cX3_make 1 = .ok (.iconst 1, 1) := by decide +kernel
theorem dX3_make_2 : decode cX3_make 2 = .ok (.if_icmp .lt 9, 3) := by decide +kernel
theorem dX3_make_5 : decode cX3_make 5 = .ok (.iload_n 1, 1) := by decide +kernel
theorem dX3_make_6 : decode cX3_make 6 = .ok (.bipush 8, 2) := by decide +kernel
theorem dX3_make_8 : decode cX3_make 8 = .ok (.if_icmp .le 13, 3) := by decide +kernel
theorem dX3_make_11 : decode cX3_make 11 = .ok (.new 43, 3) := by decide +kernel
theorem dX3_make_14 : decode cX3_make 14 = .ok (.dup, 1) := by decide +kernel
theorem dX3_make_15 : decode cX3_make 15 = .ok (.ldc 58, 2) := by decide +kernel
theorem dX3_make_17 : decode cX3_make 17 = .ok (.invokespecial 47, 3) := by decide +kernel
theorem dX3_make_20 : decode cX3_make 20 = .ok (.athrow, 1) := by decide +kernel
theorem dX3_make_21 : decode cX3_make 21 = .ok (.aload_n 0, 1) := by decide +kernel
theorem dX3_make_22 : decode cX3_make 22 = .ok (.getfield 10, 3) := by decide +kernel
theorem dX3_make_25 : decode cX3_make 25 = .ok (.iload_n 1, 1) := by decide +kernel
theorem dX3_make_26 : decode cX3_make 26 = .ok (.invokevirtual 60, 3) := by decide +kernel
theorem dX3_make_29 : decode cX3_make 29 = .ok (.ireturn, 1) := by decide +kernel
theorem dX3_at_0 : decode cX3_at 0 = .ok (.aload_n 0, 1) := by decide +kernel
theorem dX3_at_1 : decode cX3_at 1 = .ok (.getfield 10, 3) := by decide +kernel
theorem dX3_at_4 : decode cX3_at 4 = .ok (.iload_n 1, 1) := by decide +kernel
theorem dX3_at_5 : decode cX3_at 5 = .ok (.invokevirtual 64, 3) := by decide +kernel
theorem dX3_at_8 : decode cX3_at 8 = .ok (.ifCond .eq 7, 3) := by decide +kernel
theorem dX3_at_11 : decode cX3_at 11 = .ok (.iload_n 2, 1) := by decide +kernel
theorem dX3_at_12 : decode cX3_at 12 = .ok (.ifCond .ge 13, 3) := by decide +kernel
theorem dX3_at_15 : decode cX3_at 15 = .ok (.new 68, 3) := by decide +kernel
theorem dX3_at_18 : decode cX3_at 18 = .ok (.dup, 1) := by decide +kernel
theorem dX3_at_19 : decode cX3_at 19 = .ok (.ldc 70, 2) := by decide +kernel
theorem dX3_at_21 : decode cX3_at 21 = .ok (.invokespecial 72, 3) := by decide +kernel
theorem dX3_at_24 : decode cX3_at 24 = .ok (.athrow, 1) := by decide +kernel
theorem dX3_at_25 : decode cX3_at 25 = .ok (.iload_n 2, 1) := by decide +kernel
theorem dX3_at_26 : decode cX3_at 26 = .ok (.aload_n 0, 1) := by decide +kernel
theorem dX3_at_27 : decode cX3_at 27 = .ok (.getfield 10, 3) := by decide +kernel
theorem dX3_at_30 : decode cX3_at 30 = .ok (.iload_n 1, 1) := by decide +kernel
theorem dX3_at_31 : decode cX3_at 31 = .ok (.invokevirtual 73, 3) := by decide +kernel
theorem dX3_at_34 : decode cX3_at 34 = .ok (.if_icmp .ge 15, 3) := by decide +kernel
theorem dX3_at_37 : decode cX3_at 37 = .ok (.aload_n 0, 1) := by decide +kernel
theorem dX3_at_38 : decode cX3_at 38 = .ok (.getfield 10, 3) := by decide +kernel
theorem dX3_at_41 : decode cX3_at 41 = .ok (.iload_n 1, 1) := by decide +kernel
theorem dX3_at_42 : decode cX3_at 42 = .ok (.iload_n 2, 1) := by decide +kernel
theorem dX3_at_43 : decode cX3_at 43 = .ok (.invokevirtual 76, 3) := by decide +kernel
theorem dX3_at_46 : decode cX3_at 46 = .ok (.goto 4, 3) := by decide +kernel
theorem dX3_at_49 : decode cX3_at 49 = .ok (.iconst (-1), 1) := by decide +kernel
theorem dX3_at_50 : decode cX3_at 50 = .ok (.ireturn, 1) := by decide +kernel
theorem dX3_lockUp_0 : decode cX3_lockUp 0 = .ok (.aload_n 0, 1) := by decide +kernel
theorem dX3_lockUp_1 : decode cX3_lockUp 1 = .ok (.getfield 10, 3) := by decide +kernel
theorem dX3_lockUp_4 : decode cX3_lockUp 4 = .ok (.iload_n 1, 1) := by decide +kernel
theorem dX3_lockUp_5 : decode cX3_lockUp 5 = .ok (.invokevirtual 64, 3) := by decide +kernel
theorem dX3_lockUp_8 : decode cX3_lockUp 8 = .ok (.ifCond .eq 19, 3) := by decide +kernel
theorem dX3_lockUp_11 : decode cX3_lockUp 11 = .ok (.iload_n 2, 1) := by decide +kernel
theorem dX3_lockUp_12 : decode cX3_lockUp 12 = .ok (.ifCond .lt 15, 3) := by decide +kernel
theorem dX3_lockUp_15 : decode cX3_lockUp 15 = .ok (.iload_n 2, 1) := by decide +kernel
theorem dX3_lockUp_16 : decode cX3_lockUp 16 = .ok (.aload_n 0, 1) := by decide +kernel
theorem dX3_lockUp_17 : decode cX3_lockUp 17 = .ok (.getfield 10, 3) := by decide +kernel
theorem dX3_lockUp_20 : decode cX3_lockUp 20 = .ok (.iload_n 1, 1) := by decide +kernel
theorem dX3_lockUp_21 : decode cX3_lockUp 21 = .ok (.invokevirtual 73, 3) := by decide +kernel
theorem dX3_lockUp_24 : decode cX3_lockUp 24 = .ok (.if_icmp .lt 13, 3) := by decide +kernel
theorem dX3_lockUp_27 : decode cX3_lockUp 27 = .ok (.new 68, 3) := by decide +kernel
theorem dX3_lockUp_30 : decode cX3_lockUp 30 = .ok (.dup, 1) := by decide +kernel
theorem dX3_lockUp_31 : decode cX3_lockUp 31 = .ok (.ldc 70, 2) := by decide +kernel
theorem dX3_lockUp_33 : decode cX3_lockUp 33 = .ok (.invokespecial 72, 3) := by decide +kernel
theorem dX3_lockUp_36 : decode cX3_lockUp 36 = .ok (.athrow, 1) := by decide +kernel
theorem dX3_lockUp_37 : decode cX3_lockUp 37 = .ok (.aload_n 0, 1) := by decide +kernel
theorem dX3_lockUp_38 : decode cX3_lockUp 38 = .ok (.getfield 10, 3) := by decide +kernel
theorem dX3_lockUp_41 : decode cX3_lockUp 41 = .ok (.iload_n 1, 1) := by decide +kernel
theorem dX3_lockUp_42 : decode cX3_lockUp 42 = .ok (.iload_n 2, 1) := by decide +kernel
theorem dX3_lockUp_43 : decode cX3_lockUp 43 = .ok (.invokevirtual 80, 3) := by decide +kernel
theorem dX3_lockUp_46 : decode cX3_lockUp 46 = .ok (.ireturn, 1) := by decide +kernel
theorem dX3_travel_0 : decode cX3_travel 0 = .ok (.aload_n 0, 1) := by decide +kernel
theorem dX3_travel_1 : decode cX3_travel 1 = .ok (.getfield 10, 3) := by decide +kernel
theorem dX3_travel_4 : decode cX3_travel 4 = .ok (.invokevirtual 84, 3) := by decide +kernel
theorem dX3_travel_7 : decode cX3_travel 7 = .ok (.lreturn, 1) := by decide +kernel
theorem dX3_improve_0 : decode cX3_improve 0 = .ok (.iload_n 1, 1) := by decide +kernel
theorem dX3_improve_1 : decode cX3_improve 1 = .ok (.ifCond .ge 13, 3) := by decide +kernel
theorem dX3_improve_4 : decode cX3_improve 4 = .ok (.new 43, 3) := by decide +kernel
theorem dX3_improve_7 : decode cX3_improve 7 = .ok (.dup, 1) := by decide +kernel
theorem dX3_improve_8 : decode cX3_improve 8 = .ok (.ldc 88, 2) := by decide +kernel
theorem dX3_improve_10 : decode cX3_improve 10 = .ok (.invokespecial 47, 3) := by decide +kernel
theorem dX3_improve_13 : decode cX3_improve 13 = .ok (.athrow, 1) := by decide +kernel
theorem dX3_improve_14 : decode cX3_improve 14 = .ok (.aload_n 0, 1) := by decide +kernel
theorem dX3_improve_15 : decode cX3_improve 15 = .ok (.getfield 10, 3) := by decide +kernel
theorem dX3_improve_18 : decode cX3_improve 18 = .ok (.iload_n 1, 1) := by decide +kernel
theorem dX3_improve_19 : decode cX3_improve 19 = .ok (.invokevirtual 90, 3) := by decide +kernel
theorem dX3_improve_22 : decode cX3_improve 22 = .ok (.ireturn, 1) := by decide +kernel
theorem dX3_rule_0 : decode cX3_rule 0 = .ok (.iload_n 1, 1) := by decide +kernel
theorem dX3_rule_1 : decode cX3_rule 1 = .ok (.ifCond .lt 12, 3) := by decide +kernel
theorem dX3_rule_4 : decode cX3_rule 4 = .ok (.iload_n 2, 1) := by decide +kernel
theorem dX3_rule_5 : decode cX3_rule 5 = .ok (.ifCond .lt 8, 3) := by decide +kernel
theorem dX3_rule_8 : decode cX3_rule 8 = .ok (.iload_n 2, 1) := by decide +kernel
theorem dX3_rule_9 : decode cX3_rule 9 = .ok (.iconst 1, 1) := by decide +kernel
theorem dX3_rule_10 : decode cX3_rule 10 = .ok (.if_icmp .le 13, 3) := by decide +kernel
theorem dX3_rule_13 : decode cX3_rule 13 = .ok (.new 68, 3) := by decide +kernel
theorem dX3_rule_16 : decode cX3_rule 16 = .ok (.dup, 1) := by decide +kernel
theorem dX3_rule_17 : decode cX3_rule 17 = .ok (.ldc 93, 2) := by decide +kernel
theorem dX3_rule_19 : decode cX3_rule 19 = .ok (.invokespecial 72, 3) := by decide +kernel
theorem dX3_rule_22 : decode cX3_rule 22 = .ok (.athrow, 1) := by decide +kernel
theorem dX3_rule_23 : decode cX3_rule 23 = .ok (.aload_n 0, 1) := by decide +kernel
theorem dX3_rule_24 : decode cX3_rule 24 = .ok (.getfield 10, 3) := by decide +kernel
theorem dX3_rule_27 : decode cX3_rule 27 = .ok (.iload_n 1, 1) := by decide +kernel
theorem dX3_rule_28 : decode cX3_rule 28 = .ok (.iload_n 2, 1) := by decide +kernel
theorem dX3_rule_29 : decode cX3_rule 29 = .ok (.invokevirtual 95, 3) := by decide +kernel
theorem dX3_rule_32 : decode cX3_rule 32 = .ok (.ireturn, 1) := by decide +kernel
theorem dX3_set_0 : decode cX3_set 0 = .ok (.aload_n 0, 1) := by decide +kernel
theorem dX3_set_1 : decode cX3_set 1 = .ok (.iload_n 1, 1) := by decide +kernel
theorem dX3_set_2 : decode cX3_set 2 = .ok (.invokevirtual 98, 3) := by decide +kernel
theorem dX3_set_5 : decode cX3_set 5 = .ok (.aload_n 0, 1) := by decide +kernel
theorem dX3_set_6 : decode cX3_set 6 = .ok (.getfield 10, 3) := by decide +kernel
theorem dX3_set_9 : decode cX3_set 9 = .ok (.iload_n 1, 1) := by decide +kernel
theorem dX3_set_10 : decode cX3_set 10 = .ok (.iload_n 2, 1) := by decide +kernel
theorem dX3_set_11 : decode cX3_set 11 = .ok (.invokevirtual 102, 3) := by decide +kernel
theorem dX3_set_14 : decode cX3_set 14 = .ok (.ireturn, 1) := by decide +kernel
theorem dX3_load_0 : decode cX3_load 0 = .ok (.aload_n 0, 1) := by decide +kernel
theorem dX3_load_1 : decode cX3_load 1 = .ok (.iload_n 1, 1) := by decide +kernel
theorem dX3_load_2 : decode cX3_load 2 = .ok (.invokevirtual 98, 3) := by decide +kernel
theorem dX3_load_5 : decode cX3_load 5 = .ok (.aload_n 0, 1) := by decide +kernel
theorem dX3_load_6 : decode cX3_load 6 = .ok (.getfield 10, 3) := by decide +kernel
theorem dX3_load_9 : decode cX3_load 9 = .ok (.getfield 106, 3) := by decide +kernel
theorem dX3_load_12 : decode cX3_load 12 = .ok (.iload_n 1, 1) := by decide +kernel
theorem dX3_load_13 : decode cX3_load 13 = .ok (.iload_n 2, 1) := by decide +kernel
theorem dX3_load_14 : decode cX3_load 14 = .ok (.invokestatic 110, 3) := by decide +kernel
theorem dX3_load_17 : decode cX3_load 17 = .ok (.iastore, 1) := by decide +kernel
theorem dX3_load_18 : decode cX3_load 18 = .ok (.return_, 1) := by decide +kernel
theorem dX3_value_0 : decode cX3_value 0 = .ok (.aload_n 0, 1) := by decide +kernel
theorem dX3_value_1 : decode cX3_value 1 = .ok (.iload_n 1, 1) := by decide +kernel
theorem dX3_value_2 : decode cX3_value 2 = .ok (.invokevirtual 98, 3) := by decide +kernel
theorem dX3_value_5 : decode cX3_value 5 = .ok (.aload_n 0, 1) := by decide +kernel
theorem dX3_value_6 : decode cX3_value 6 = .ok (.getfield 10, 3) := by decide +kernel
theorem dX3_value_9 : decode cX3_value 9 = .ok (.getfield 106, 3) := by decide +kernel
theorem dX3_value_12 : decode cX3_value 12 = .ok (.iload_n 1, 1) := by decide +kernel
theorem dX3_value_13 : decode cX3_value 13 = .ok (.iaload, 1) := by decide +kernel
theorem dX3_value_14 : decode cX3_value 14 = .ok (.ireturn, 1) := by decide +kernel
theorem dX3_shift_0 : decode cX3_shift 0 = .ok (.aload_n 0, 1) := by decide +kernel
theorem dX3_shift_1 : decode cX3_shift 1 = .ok (.getfield 10, 3) := by decide +kernel
theorem dX3_shift_4 : decode cX3_shift 4 = .ok (.iload_n 1, 1) := by decide +kernel
theorem dX3_shift_5 : decode cX3_shift 5 = .ok (.invokevirtual 113, 3) := by decide +kernel
theorem dX3_shift_8 : decode cX3_shift 8 = .ok (.ireturn, 1) := by decide +kernel
theorem dX3_port_0 : decode cX3_port 0 = .ok (.aload_n 0, 1) := by decide +kernel
theorem dX3_port_1 : decode cX3_port 1 = .ok (.getfield 19, 3) := by decide +kernel
theorem dX3_port_4 : decode cX3_port 4 = .ok (.getfield 116, 3) := by decide +kernel
theorem dX3_port_7 : decode cX3_port 7 = .ok (.bipush 20, 2) := by decide +kernel
theorem dX3_port_9 : decode cX3_port 9 = .ok (.if_icmp .lt 13, 3) := by decide +kernel
theorem dX3_port_12 : decode cX3_port 12 = .ok (.new 36, 3) := by decide +kernel
theorem dX3_port_15 : decode cX3_port 15 = .ok (.dup, 1) := by decide +kernel
theorem dX3_port_16 : decode cX3_port 16 = .ok (.ldc 119, 2) := by decide +kernel
theorem dX3_port_18 : decode cX3_port 18 = .ok (.invokespecial 40, 3) := by decide +kernel
theorem dX3_port_21 : decode cX3_port 21 = .ok (.athrow, 1) := by decide +kernel
theorem dX3_port_22 : decode cX3_port 22 = .ok (.iload_n 1, 1) := by decide +kernel
theorem dX3_port_23 : decode cX3_port 23 = .ok (.ifCond .eq 18, 3) := by decide +kernel
theorem dX3_port_26 : decode cX3_port 26 = .ok (.iload_n 1, 1) := by decide +kernel
theorem dX3_port_27 : decode cX3_port 27 = .ok (.iconst 1, 1) := by decide +kernel
theorem dX3_port_28 : decode cX3_port 28 = .ok (.if_icmp .eq 13, 3) := by decide +kernel
theorem dX3_port_31 : decode cX3_port 31 = .ok (.new 43, 3) := by decide +kernel
theorem dX3_port_34 : decode cX3_port 34 = .ok (.dup, 1) := by decide +kernel
theorem dX3_port_35 : decode cX3_port 35 = .ok (.ldc 121, 2) := by decide +kernel
theorem dX3_port_37 : decode cX3_port 37 = .ok (.invokespecial 47, 3) := by decide +kernel
theorem dX3_port_40 : decode cX3_port 40 = .ok (.athrow, 1) := by decide +kernel
theorem dX3_port_41 : decode cX3_port 41 = .ok (.aload_n 0, 1) := by decide +kernel
theorem dX3_port_42 : decode cX3_port 42 = .ok (.getfield 19, 3) := by decide +kernel
theorem dX3_port_45 : decode cX3_port 45 = .ok (.iload_n 1, 1) := by decide +kernel
theorem dX3_port_46 : decode cX3_port 46 = .ok (.invokevirtual 123, 3) := by decide +kernel
theorem dX3_port_49 : decode cX3_port 49 = .ok (.ireturn, 1) := by decide +kernel
theorem dX3_pin_0 : decode cX3_pin 0 = .ok (.aload_n 0, 1) := by decide +kernel
theorem dX3_pin_1 : decode cX3_pin 1 = .ok (.iload_n 1, 1) := by decide +kernel
theorem dX3_pin_2 : decode cX3_pin 2 = .ok (.invokevirtual 126, 3) := by decide +kernel
theorem dX3_pin_5 : decode cX3_pin 5 = .ok (.aload_n 0, 1) := by decide +kernel
theorem dX3_pin_6 : decode cX3_pin 6 = .ok (.getfield 19, 3) := by decide +kernel
theorem dX3_pin_9 : decode cX3_pin 9 = .ok (.getfield 129, 3) := by decide +kernel
theorem dX3_pin_12 : decode cX3_pin 12 = .ok (.iload_n 1, 1) := by decide +kernel
theorem dX3_pin_13 : decode cX3_pin 13 = .ok (.iload_n 2, 1) := by decide +kernel
theorem dX3_pin_14 : decode cX3_pin 14 = .ok (.invokestatic 110, 3) := by decide +kernel
theorem dX3_pin_17 : decode cX3_pin 17 = .ok (.iastore, 1) := by decide +kernel
theorem dX3_pin_18 : decode cX3_pin 18 = .ok (.return_, 1) := by decide +kernel
theorem dX3_boundary_0 : decode cX3_boundary 0 = .ok (.aload_n 0, 1) := by decide +kernel
theorem dX3_boundary_1 : decode cX3_boundary 1 = .ok (.iload_n 1, 1) := by decide +kernel
theorem dX3_boundary_2 : decode cX3_boundary 2 = .ok (.invokevirtual 126, 3) := by decide +kernel
theorem dX3_boundary_5 : decode cX3_boundary 5 = .ok (.aload_n 0, 1) := by decide +kernel
theorem dX3_boundary_6 : decode cX3_boundary 6 = .ok (.getfield 19, 3) := by decide +kernel
theorem dX3_boundary_9 : decode cX3_boundary 9 = .ok (.iload_n 1, 1) := by decide +kernel
theorem dX3_boundary_10 : decode cX3_boundary 10 = .ok (.aload_n 0, 1) := by decide +kernel
theorem dX3_boundary_11 : decode cX3_boundary 11 = .ok (.getfield 28, 3) := by decide +kernel
theorem dX3_boundary_14 : decode cX3_boundary 14 = .ok (.getfield 145, 3) := by decide +kernel
theorem dX3_boundary_17 : decode cX3_boundary 17 = .ok (.ifCond .ne 7, 3) := by decide +kernel
theorem dX3_boundary_20 : decode cX3_boundary 20 = .ok (.iconst 1, 1) := by decide +kernel
theorem dX3_boundary_21 : decode cX3_boundary 21 = .ok (.goto 4, 3) := by decide +kernel
theorem dX3_boundary_24 : decode cX3_boundary 24 = .ok (.iconst 0, 1) := by decide +kernel
theorem dX3_boundary_25 : decode cX3_boundary 25 = .ok (.invokevirtual 148, 3) := by decide +kernel
theorem dX3_boundary_28 : decode cX3_boundary 28 = .ok (.ireturn, 1) := by decide +kernel
theorem dX3_tick_0 : decode cX3_tick 0 = .ok (.iload_n 1, 1) := by decide +kernel
theorem dX3_tick_1 : decode cX3_tick 1 = .ok (.ifCond .lt 17, 3) := by decide +kernel
theorem dX3_tick_4 : decode cX3_tick 4 = .ok (.iload_n 1, 1) := by decide +kernel
theorem dX3_tick_5 : decode cX3_tick 5 = .ok (.iconst 1, 1) := by decide +kernel
theorem dX3_tick_6 : decode cX3_tick 6 = .ok (.if_icmp .gt 12, 3) := by decide +kernel
theorem dX3_tick_9 : decode cX3_tick 9 = .ok (.iload_n 2, 1) := by decide +kernel
theorem dX3_tick_10 : decode cX3_tick 10 = .ok (.ifCond .lt 8, 3) := by decide +kernel
theorem dX3_tick_13 : decode cX3_tick 13 = .ok (.iload_n 2, 1) := by decide +kernel
theorem dX3_tick_14 : decode cX3_tick 14 = .ok (.iconst 1, 1) := by decide +kernel
theorem dX3_tick_15 : decode cX3_tick 15 = .ok (.if_icmp .le 13, 3) := by decide +kernel
theorem dX3_tick_18 : decode cX3_tick 18 = .ok (.new 43, 3) := by decide +kernel
theorem dX3_tick_21 : decode cX3_tick 21 = .ok (.dup, 1) := by decide +kernel
theorem dX3_tick_22 : decode cX3_tick 22 = .ok (.ldc 132, 2) := by decide +kernel
theorem dX3_tick_24 : decode cX3_tick 24 = .ok (.invokespecial 47, 3) := by decide +kernel
theorem dX3_tick_27 : decode cX3_tick 27 = .ok (.athrow, 1) := by decide +kernel
theorem dX3_tick_28 : decode cX3_tick 28 = .ok (.aload_n 0, 1) := by decide +kernel
theorem dX3_tick_29 : decode cX3_tick 29 = .ok (.getfield 28, 3) := by decide +kernel
theorem dX3_tick_32 : decode cX3_tick 32 = .ok (.iload_n 1, 1) := by decide +kernel
theorem dX3_tick_33 : decode cX3_tick 33 = .ok (.iload_n 2, 1) := by decide +kernel
theorem dX3_tick_34 : decode cX3_tick 34 = .ok (.invokevirtual 134, 3) := by decide +kernel
theorem dX3_tick_37 : decode cX3_tick 37 = .ok (.ireturn, 1) := by decide +kernel
theorem dX3_state_0 : decode cX3_state 0 = .ok (.aload_n 0, 1) := by decide +kernel
theorem dX3_state_1 : decode cX3_state 1 = .ok (.getfield 28, 3) := by decide +kernel
theorem dX3_state_4 : decode cX3_state 4 = .ok (.getfield 137, 3) := by decide +kernel
theorem dX3_state_7 : decode cX3_state 7 = .ok (.ireturn, 1) := by decide +kernel
theorem dX3_go_0 : decode cX3_go 0 = .ok (.iload_n 1, 1) := by decide +kernel
theorem dX3_go_1 : decode cX3_go 1 = .ok (.ifCond .lt 9, 3) := by decide +kernel
theorem dX3_go_4 : decode cX3_go 4 = .ok (.iload_n 1, 1) := by decide +kernel
theorem dX3_go_5 : decode cX3_go 5 = .ok (.bipush 16, 2) := by decide +kernel
theorem dX3_go_7 : decode cX3_go 7 = .ok (.if_icmp .lt 13, 3) := by decide +kernel
theorem dX3_go_10 : decode cX3_go 10 = .ok (.new 43, 3) := by decide +kernel
theorem dX3_go_13 : decode cX3_go 13 = .ok (.dup, 1) := by decide +kernel
theorem dX3_go_14 : decode cX3_go 14 = .ok (.ldc 140, 2) := by decide +kernel
theorem dX3_go_16 : decode cX3_go 16 = .ok (.invokespecial 47, 3) := by decide +kernel
theorem dX3_go_19 : decode cX3_go 19 = .ok (.athrow, 1) := by decide +kernel
theorem dX3_go_20 : decode cX3_go 20 = .ok (.aload_n 0, 1) := by decide +kernel
theorem dX3_go_21 : decode cX3_go 21 = .ok (.getfield 28, 3) := by decide +kernel
theorem dX3_go_24 : decode cX3_go 24 = .ok (.iload_n 1, 1) := by decide +kernel
theorem dX3_go_25 : decode cX3_go 25 = .ok (.invokevirtual 142, 3) := by decide +kernel
theorem dX3_go_28 : decode cX3_go 28 = .ok (.ireturn, 1) := by decide +kernel
theorem dX3_count_0 : decode cX3_count 0 = .ok (.iload_n 1, 1) := by decide +kernel
theorem dX3_count_1 : decode cX3_count 1 = .ok (.tableswitch 75 0 4 #[35, 43, 51, 59, 67], 35) := by decide +kernel
theorem dX3_count_36 : decode cX3_count 36 = .ok (.aload_n 0, 1) := by decide +kernel
theorem dX3_count_37 : decode cX3_count 37 = .ok (.getfield 10, 3) := by decide +kernel
theorem dX3_count_40 : decode cX3_count 40 = .ok (.getfield 32, 3) := by decide +kernel
theorem dX3_count_43 : decode cX3_count 43 = .ok (.ireturn, 1) := by decide +kernel
theorem dX3_count_44 : decode cX3_count 44 = .ok (.aload_n 0, 1) := by decide +kernel
theorem dX3_count_45 : decode cX3_count 45 = .ok (.getfield 10, 3) := by decide +kernel
theorem dX3_count_48 : decode cX3_count 48 = .ok (.getfield 152, 3) := by decide +kernel
theorem dX3_count_51 : decode cX3_count 51 = .ok (.ireturn, 1) := by decide +kernel
theorem dX3_count_52 : decode cX3_count 52 = .ok (.aload_n 0, 1) := by decide +kernel
theorem dX3_count_53 : decode cX3_count 53 = .ok (.getfield 19, 3) := by decide +kernel
theorem dX3_count_56 : decode cX3_count 56 = .ok (.getfield 116, 3) := by decide +kernel
theorem dX3_count_59 : decode cX3_count 59 = .ok (.ireturn, 1) := by decide +kernel
theorem dX3_count_60 : decode cX3_count 60 = .ok (.aload_n 0, 1) := by decide +kernel
theorem dX3_count_61 : decode cX3_count 61 = .ok (.getfield 28, 3) := by decide +kernel
theorem dX3_count_64 : decode cX3_count 64 = .ok (.invokevirtual 155, 3) := by decide +kernel
theorem dX3_count_67 : decode cX3_count 67 = .ok (.ireturn, 1) := by decide +kernel
theorem dX3_count_68 : decode cX3_count 68 = .ok (.aload_n 0, 1) := by decide +kernel
theorem dX3_count_69 : decode cX3_count 69 = .ok (.getfield 28, 3) := by decide +kernel
theorem dX3_count_72 : decode cX3_count 72 = .ok (.getfield 145, 3) := by decide +kernel
theorem dX3_count_75 : decode cX3_count 75 = .ok (.ireturn, 1) := by decide +kernel
theorem dX3_count_76 : decode cX3_count 76 = .ok (.new 68, 3) := by decide +kernel
theorem dX3_count_79 : decode cX3_count 79 = .ok (.dup, 1) := by decide +kernel
theorem dX3_count_80 : decode cX3_count 80 = .ok (.ldc 159, 2) := by decide +kernel
theorem dX3_count_82 : decode cX3_count 82 = .ok (.invokespecial 72, 3) := by decide +kernel
theorem dX3_count_85 : decode cX3_count 85 = .ok (.athrow, 1) := by decide +kernel
set_option maxHeartbeats 4000000 in
set_option maxRecDepth 100000 in
theorem c_ScanRows_asBit (l : Launch) (dC : Nat → ClassId) (dI : Nat → Nat → Nat) (q : Nat → Nat) (cI cZ : ClassId) (sz : Nat) (v : Int32) : Met l yX3_asBit (.code yX3_asBit cX3_asBit 1 (some .int) :: ALLG) ({ frames := 0, cells := 0, slots := 0, locals := 0 }) (va_Pc [.int v] (cP (dC, dI) vwCl [(cI, .int), (cZ, .boolean)] (([] : va_W)) eT sz)) (va_Qi (fun (x : Int32) (_ : Unit) => x = nI (bitN v)) (fun (_ : Unit) => cB (dC, dI) vwCl [(cI, .int), (cZ, .boolean)] ([]) (va_A (([] : va_W)) sz)) (va_A (([] : va_W)) sz)) 0 0 (va_A (([] : va_W)) sz) := by
  refine xm_of (cc := cX3_asBit) (maxL := 1) (ret := some .int) (by decide) rfl (Nat.le_of_ble_eq_true rfl) ?_
  intro p e s m below meth c A hAe hx hb hr hml hts0 hown hlk hin hsz H locs hP hK hD hA hS hE ls hl
  have hts : ∀ w ∈ ALLG, w.before _ s = true := fun w h => hts0 w (List.mem_cons_of_mem _ h)
  rw [← hAe]
  have hl : lv_has ls 1 [(0, .int v)] := hl
  refine lv_iload_n hx hb dX3_asBit_0 rfl (lv_at hl 0 rfl) ?_
  refine lv_if_ne (tgt := 8) hx hb dX3_asBit_1 (by decide) (fun c_1 => ?_) (fun c_1 => ?_)
  · refine lv_iconst (v := nI 1) hx hb dX3_asBit_8 (by decide) ?_
    exact xr_i hx hb hr hlk (u := ()) (by unfold bitN; rw [if_neg (by assumption)]) hP hK hD hS dX3_asBit_9
  · refine lv_iconst (v := nI 0) hx hb dX3_asBit_4 (by decide) ?_
    refine lv_goto (tgt := 9) hx hb dX3_asBit_5 (by decide) ?_
    exact xr_i hx hb hr hlk (u := ()) (by unfold bitN; rw [if_pos (by assumption)]) hP hK hD hS dX3_asBit_9
set_option maxHeartbeats 4000000 in
set_option maxRecDepth 100000 in
theorem c_ScanRows_requireLatch (l : Launch) (dC : Nat → ClassId) (dI : Nat → Nat → Nat) (q : Nat → Nat) (cI cZ : ClassId) (sz : Nat) (r : RS) (k : CS) (a : AS) (i : Nat) (h1 : i < r.n) (h2 : r.n ≤ 32) : Met l yX3_requireLatch (.code yX3_requireLatch cX3_requireLatch 2 none :: ALLG) ({ frames := 0, cells := 0, slots := 0, locals := 0 }) (va_Pc [.ref (q 17), .int (nI i)] (cP (dC, dI) vwCl [(cI, .int), (cZ, .boolean)] (wX q cI cZ r k a) eT sz)) (va_Qv (fun (_ : Unit) => True) (fun (_ : Unit) => cB (dC, dI) vwCl [(cI, .int), (cZ, .boolean)] (wX q cI cZ r k a) (va_A (wX q cI cZ r k a) sz)) (va_A (wX q cI cZ r k a) sz)) 0 0 (va_A (wX q cI cZ r k a) sz) := by
  refine xm_of (cc := cX3_requireLatch) (maxL := 2) (ret := none) (by decide) rfl (Nat.le_of_ble_eq_true rfl) ?_
  intro p e s m below meth c A hAe hx hb hr hml hts0 hown hlk hin hsz H locs hP hK hD hA hS hE ls hl
  have hts : ∀ w ∈ ALLG, w.before _ s = true := fun w h => hts0 w (List.mem_cons_of_mem _ h)
  rw [← hAe]
  have hl : lv_has ls 2 [(0, .ref (q 17)), (1, .int (nI i))] := hl
  refine lv_iload_n hx hb dX3_requireLatch_0 rfl (lv_at hl 1 rfl) ?_
  refine xn_zlt (tgt := 15) hx hb (by omega) dX3_requireLatch_1 (by decide) ?_
  refine lv_iload_n hx hb dX3_requireLatch_4 rfl (lv_at hl 1 rfl) ?_
  refine lv_aload_n hx hb dX3_requireLatch_5 rfl (lv_at hl 0 rfl) ?_
  refine va_get (D := (dC, dI)) (ci := 3) (v := .ref (q 0)) (C := RX3) (T := TX3) (N := 3) hx hb hts inX3 hown hK hP 17 rfl rfl 0 (by decide) (hts _ tw_131) (fun _ h9 => h9) rfl dX3_requireLatch_6 ?_
  refine va_get (D := (dC, dI)) (ci := 2) (v := .int (nI (RS.n r))) (C := RX2) (T := TX2) (N := 12) hx hb hts inX2 hown hK hP 0 rfl rfl 0 (by decide) (hts _ tw_28) (fun _ h9 => h9) rfl dX3_requireLatch_9 ?_
  refine xn_clt (tgt := 25) hx hb (by omega) (by omega) dX3_requireLatch_12 (by decide) (fun c_2 => ?_) (fun c_2 => ?_)
  · exact xr_v hx hb hr hlk (u := ()) trivial hP hK hD hS dX3_requireLatch_25
  · exact absurd (show False by omega) id
set_option maxHeartbeats 4000000 in
set_option maxRecDepth 100000 in
theorem c_ScanRows_requireCell (l : Launch) (dC : Nat → ClassId) (dI : Nat → Nat → Nat) (q : Nat → Nat) (cI cZ : ClassId) (sz : Nat) (r : RS) (k : CS) (a : AS) (i : Nat) (h1 : i < k.n) (h2 : k.n ≤ 20) : Met l yX3_requireCell (.code yX3_requireCell cX3_requireCell 2 none :: ALLG) ({ frames := 0, cells := 0, slots := 0, locals := 0 }) (va_Pc [.ref (q 17), .int (nI i)] (cP (dC, dI) vwCl [(cI, .int), (cZ, .boolean)] (wX q cI cZ r k a) eT sz)) (va_Qv (fun (_ : Unit) => True) (fun (_ : Unit) => cB (dC, dI) vwCl [(cI, .int), (cZ, .boolean)] (wX q cI cZ r k a) (va_A (wX q cI cZ r k a) sz)) (va_A (wX q cI cZ r k a) sz)) 0 0 (va_A (wX q cI cZ r k a) sz) := by
  refine xm_of (cc := cX3_requireCell) (maxL := 2) (ret := none) (by decide) rfl (Nat.le_of_ble_eq_true rfl) ?_
  intro p e s m below meth c A hAe hx hb hr hml hts0 hown hlk hin hsz H locs hP hK hD hA hS hE ls hl
  have hts : ∀ w ∈ ALLG, w.before _ s = true := fun w h => hts0 w (List.mem_cons_of_mem _ h)
  rw [← hAe]
  have hl : lv_has ls 2 [(0, .ref (q 17)), (1, .int (nI i))] := hl
  refine lv_iload_n hx hb dX3_requireCell_0 rfl (lv_at hl 1 rfl) ?_
  refine xn_zlt (tgt := 15) hx hb (by omega) dX3_requireCell_1 (by decide) ?_
  refine lv_iload_n hx hb dX3_requireCell_4 rfl (lv_at hl 1 rfl) ?_
  refine lv_aload_n hx hb dX3_requireCell_5 rfl (lv_at hl 0 rfl) ?_
  refine va_get (D := (dC, dI)) (ci := 3) (v := .ref (q 10)) (C := RX3) (T := TX3) (N := 3) hx hb hts inX3 hown hK hP 17 rfl rfl 1 (by decide) (hts _ tw_132) (fun _ h9 => h9) rfl dX3_requireCell_6 ?_
  refine va_get (D := (dC, dI)) (ci := 1) (v := .int (nI (CS.n k))) (C := RX1) (T := TX1) (N := 5) hx hb hts inX1 hown hK hP 10 rfl rfl 0 (by decide) (hts _ tw_78) (fun _ h9 => h9) rfl dX3_requireCell_9 ?_
  refine xn_clt (tgt := 25) hx hb (by omega) (by omega) dX3_requireCell_12 (by decide) (fun c_2 => ?_) (fun c_2 => ?_)
  · exact xr_v hx hb hr hlk (u := ()) trivial hP hK hD hS dX3_requireCell_25
  · exact absurd (show False by omega) id
set_option maxHeartbeats 4000000 in
set_option maxRecDepth 100000 in
theorem c_ScanRows_latch (l : Launch) (dC : Nat → ClassId) (dI : Nat → Nat → Nat) (q : Nat → Nat) (cI cZ : ClassId) (sz : Nat) (r : RS) (k : CS) (a : AS) (ck : Nat) (xx yy : Int) (h1 : r.n < 32) (h2 : ck < 4) (h3 : -1000 ≤ xx ∧ xx ≤ 1000) (h4 : -1000 ≤ yy ∧ yy ≤ 1000) : Met l yX3_latch (.code yX3_latch cX3_latch 6 (some .int) :: ALLG) ({ frames := 1, cells := 0, slots := 0, locals := 24 }) (va_Pc [.ref (q 17), .int (nI ck), .long (zL xx), .long (zL yy)] (cP (dC, dI) vwCl [(cI, .int), (cZ, .boolean)] (wX q cI cZ r k a) eT sz)) (va_Qi (fun (x : Int32) (u : RS) => x = nI r.n ∧ u = addL r ck xx yy) (fun (u : RS) => cB (dC, dI) vwCl [(cI, .int), (cZ, .boolean)] (wX q cI cZ u k a) (va_A (wX q cI cZ r k a) sz)) (va_A (wX q cI cZ r k a) sz)) 0 0 (va_A (wX q cI cZ r k a) sz) := by
  refine xm_of (cc := cX3_latch) (maxL := 6) (ret := some .int) (by decide) rfl (Nat.le_of_ble_eq_true rfl) ?_
  intro p e s m below meth c A hAe hx hb hr hml hts0 hown hlk hin hsz H locs hP hK hD hA hS hE ls hl
  have hts : ∀ w ∈ ALLG, w.before _ s = true := fun w h => hts0 w (List.mem_cons_of_mem _ h)
  rw [← hAe]
  have hl : lv_has ls 6 [(0, .ref (q 17)), (1, .int (nI ck)), (2, .long (zL xx)), (4, .long (zL yy))] := hl
  refine lv_aload_n hx hb dX3_latch_0 rfl (lv_at hl 0 rfl) ?_
  refine va_get (D := (dC, dI)) (ci := 3) (v := .ref (q 0)) (C := RX3) (T := TX3) (N := 3) hx hb hts inX3 hown hK hP 17 rfl rfl 0 (by decide) (hts _ tw_131) (fun _ h9 => h9) rfl dX3_latch_1 ?_
  refine va_get (D := (dC, dI)) (ci := 2) (v := .int (nI (RS.n r))) (C := RX2) (T := TX2) (N := 12) hx hb hts inX2 hown hK hP 0 rfl rfl 0 (by decide) (hts _ tw_28) (fun _ h9 => h9) rfl dX3_latch_4 ?_
  refine lv_bipush (v := nI 32) hx hb dX3_latch_7 (by decide) ?_
  refine xn_clt (tgt := 22) hx hb (by omega) (by omega) dX3_latch_9 (by decide) (fun c_1 => ?_) (fun c_1 => ?_)
  · refine lv_iload_n hx hb dX3_latch_22 rfl (lv_at hl 1 rfl) ?_
    refine xn_zlt (tgt := 31) hx hb (by omega) dX3_latch_23 (by decide) ?_
    refine lv_iload_n hx hb dX3_latch_26 rfl (lv_at hl 1 rfl) ?_
    refine lv_iconst (v := nI 4) hx hb dX3_latch_27 (by decide) ?_
    refine xn_clt (tgt := 41) hx hb (by omega) (by omega) dX3_latch_28 (by decide) (fun c_3 => ?_) (fun c_3 => ?_)
    · refine lv_lload_n hx hb dX3_latch_41 rfl (lv_at hl 2 rfl) ?_
      refine lv_ldc2 (v := (-1000 : Int64)) hx hb hown (hts _ tw_272) dX3_latch_42 ?_
      refine W.lcmp hx hb dX3_latch_45 ?_
      refine lv_if_lt (tgt := 75) hx hb dX3_latch_46 (by decide) (fun c_4 => ?_) (fun c_4 => ?_)
      · exact absurd ((lg_cmp_lt _ _).mp c_4) (zL_lo h3.1 h3.2)
      · refine lv_lload_n hx hb dX3_latch_49 rfl (lv_at hl 2 rfl) ?_
        refine lv_ldc2 (v := (1000 : Int64)) hx hb hown (hts _ tw_273) dX3_latch_50 ?_
        refine W.lcmp hx hb dX3_latch_53 ?_
        refine lv_if_gt (tgt := 75) hx hb dX3_latch_54 (by decide) (fun c_5 => ?_) (fun c_5 => ?_)
        · exact absurd ((lg_cmp_gt _ _).mp c_5) (zL_hi h3.1 h3.2)
        · refine lv_lload hx hb dX3_latch_57 (lv_at hl 3 rfl) ?_
          refine lv_ldc2 (v := (-1000 : Int64)) hx hb hown (hts _ tw_272) dX3_latch_59 ?_
          refine W.lcmp hx hb dX3_latch_62 ?_
          refine lv_if_lt (tgt := 75) hx hb dX3_latch_63 (by decide) (fun c_6 => ?_) (fun c_6 => ?_)
          · exact absurd ((lg_cmp_lt _ _).mp c_6) (zL_lo h4.1 h4.2)
          · refine lv_lload hx hb dX3_latch_66 (lv_at hl 3 rfl) ?_
            refine lv_ldc2 (v := (1000 : Int64)) hx hb hown (hts _ tw_273) dX3_latch_68 ?_
            refine W.lcmp hx hb dX3_latch_71 ?_
            refine lv_if_le (tgt := 85) hx hb dX3_latch_72 (by decide) (fun c_7 => ?_) (fun c_7 => ?_)
            · refine lv_aload_n hx hb dX3_latch_85 rfl (lv_at hl 0 rfl) ?_
              refine va_get (D := (dC, dI)) (ci := 3) (v := .ref (q 0)) (C := RX3) (T := TX3) (N := 3) hx hb hts inX3 hown hK hP 17 rfl rfl 0 (by decide) (hts _ tw_131) (fun _ h9 => h9) rfl dX3_latch_86 ?_
              refine lv_iload_n hx hb dX3_latch_89 rfl (lv_at hl 1 rfl) ?_
              refine lv_lload_n hx hb dX3_latch_90 rfl (lv_at hl 2 rfl) ?_
              refine lv_l2i hx hb dX3_latch_91 rfl ?_
              refine xt_i (show ((zL xx).toInt32) = zI xx from zL_i xx) ?_
              refine lv_lload hx hb dX3_latch_92 (lv_at hl 3 rfl) ?_
              refine lv_l2i hx hb dX3_latch_94 rfl ?_
              refine xt_i (show ((zL yy).toInt32) = zI yy from zL_i yy) ?_
              refine xc_Vi (As := [.int (nI ck), .int (zI xx), .int (zI yy)]) (wr := wC q cI k ++ wA q cI a ++ wSf q) ⟨hx, hb, hml, hown, hts⟩ (c_Rows_addLatch l dC dI q cI cZ H.size r ck xx yy h1) (cwV 3 hts (gV tw_275 tw_276 tw_277 tw_2 tw_278) rfl rfl rfl (by decide +kernel) ⟨Nat.le_of_ble_eq_true rfl, Nat.le_of_ble_eq_true rfl⟩) rfl hl.1 rfl (Nat.le_of_ble_eq_true rfl) dX3_latch_95 ⟨Nat.zero_le _, Nat.zero_le _⟩ hP hD hK hS hA [0, 1, 2, 3, 4, 5, 6, 7, 8, 9] [10, 11, 12, 13, 14, 15, 16, 17] rfl rfl (by decide) (by decide) (by decide) [0, 1] rfl (q0 := 0) rfl rfl rfl eT_M (trivial) (fun r_8 u_9 H locs w_10 hP hD hS => ?_)
              obtain ⟨rfl, rfl⟩ := w_10
              have hP : va_P (dC, dI) vwCl (wX q cI cZ (addL r ck xx yy) k a) H := hP.sub [8, 9, 10, 11, 12, 13, 14, 15, 16, 17, 0, 1, 2, 3, 4, 5, 6, 7] rfl
              have hD : va_D A (wX q cI cZ (addL r ck xx yy) k a) := hD.sub [8, 9, 10, 11, 12, 13, 14, 15, 16, 17, 0, 1, 2, 3, 4, 5, 6, 7] (by decide) rfl
              exact xr_i hx hb hr hlk (u := addL r ck xx yy) (⟨rfl, rfl⟩) hP hK hD hS dX3_latch_98
            · exact absurd ((lg_cmp_le _ _).mpr (zL_le h4.1 h4.2)) c_7
    · exact absurd (show False by omega) id
  · exact absurd (show False by omega) id
set_option maxHeartbeats 4000000 in
set_option maxRecDepth 100000 in
theorem c_ScanRows_make (l : Launch) (dC : Nat → ClassId) (dI : Nat → Nat → Nat) (q : Nat → Nat) (cI cZ : ClassId) (sz : Nat) (r : RS) (k : CS) (a : AS) (c0 : Nat) (hB : RB r) (h1 : 0 < c0) (h2 : c0 ≤ 8) : Met l yX3_make (.code yX3_make cX3_make 2 (some .int) :: ALLG) ({ frames := 3, cells := 0, slots := 0, locals := 65 }) (va_Pc [.ref (q 17), .int (nI c0)] (cP (dC, dI) vwCl [(cI, .int), (cZ, .boolean)] (wX q cI cZ r k a) eT sz)) (va_Qi (fun (x : Int32) (u : RS) => x = nI (bg r.n c0 1) ∧ u = arrF r c0) (fun (u : RS) => cB (dC, dI) vwCl [(cI, .int), (cZ, .boolean)] (wX q cI cZ u k a) (va_A (wX q cI cZ r k a) sz)) (va_A (wX q cI cZ r k a) sz)) 0 0 (va_A (wX q cI cZ r k a) sz) := by
  refine xm_of (cc := cX3_make) (maxL := 2) (ret := some .int) (by decide) rfl (Nat.le_of_ble_eq_true rfl) ?_
  intro p e s m below meth c A hAe hx hb hr hml hts0 hown hlk hin hsz H locs hP hK hD hA hS hE ls hl
  have hts : ∀ w ∈ ALLG, w.before _ s = true := fun w h => hts0 w (List.mem_cons_of_mem _ h)
  rw [← hAe]
  have hl : lv_has ls 2 [(0, .ref (q 17)), (1, .int (nI c0))] := hl
  refine lv_iload_n hx hb dX3_make_0 rfl (lv_at hl 1 rfl) ?_
  refine lv_iconst (v := nI 1) hx hb dX3_make_1 (by decide) ?_
  refine xn_clt (tgt := 11) hx hb (by omega) (by omega) dX3_make_2 (by decide) (fun c_1 => ?_) (fun c_1 => ?_)
  · exact absurd (show False by omega) id
  · refine lv_iload_n hx hb dX3_make_5 rfl (lv_at hl 1 rfl) ?_
    refine lv_bipush (v := nI 8) hx hb dX3_make_6 (by decide) ?_
    refine xn_cle (tgt := 21) hx hb (by omega) (by omega) dX3_make_8 (by decide) (fun c_2 => ?_) (fun c_2 => ?_)
    · refine lv_aload_n hx hb dX3_make_21 rfl (lv_at hl 0 rfl) ?_
      refine va_get (D := (dC, dI)) (ci := 3) (v := .ref (q 0)) (C := RX3) (T := TX3) (N := 3) hx hb hts inX3 hown hK hP 17 rfl rfl 0 (by decide) (hts _ tw_131) (fun _ h9 => h9) rfl dX3_make_22 ?_
      refine lv_iload_n hx hb dX3_make_25 rfl (lv_at hl 1 rfl) ?_
      refine xc_Vi (As := [.int (nI c0)]) (wr := wC q cI k ++ wA q cI a ++ wSf q) ⟨hx, hb, hml, hown, hts⟩ (c_Rows_arrange l dC dI q cI cZ H.size r c0 hB h1 h2) (cwV 1 hts (gV tw_287 tw_288 tw_289 tw_2 tw_290) rfl rfl rfl (by decide +kernel) ⟨Nat.le_of_ble_eq_true rfl, Nat.le_of_ble_eq_true rfl⟩) rfl hl.1 rfl (Nat.le_of_ble_eq_true rfl) dX3_make_26 ⟨Nat.zero_le _, Nat.zero_le _⟩ hP hD hK hS hA [0, 1, 2, 3, 4, 5, 6, 7, 8, 9] [10, 11, 12, 13, 14, 15, 16, 17] rfl rfl (by decide) (by decide) (by decide) [0, 1] rfl (q0 := 0) rfl rfl rfl eT_M (trivial) (fun r_3 u_4 H locs w_5 hP hD hS => ?_)
      obtain ⟨rfl, rfl⟩ := w_5
      have hP : va_P (dC, dI) vwCl (wX q cI cZ (arrF r c0) k a) H := hP.sub [8, 9, 10, 11, 12, 13, 14, 15, 16, 17, 0, 1, 2, 3, 4, 5, 6, 7] rfl
      have hD : va_D A (wX q cI cZ (arrF r c0) k a) := hD.sub [8, 9, 10, 11, 12, 13, 14, 15, 16, 17, 0, 1, 2, 3, 4, 5, 6, 7] (by decide) rfl
      exact xr_i hx hb hr hlk (u := arrF r c0) (⟨rfl, rfl⟩) hP hK hD hS dX3_make_29
    · exact absurd (show False by omega) id
set_option maxHeartbeats 4000000 in
set_option maxRecDepth 100000 in
theorem c_ScanRows_at (l : Launch) (dC : Nat → ClassId) (dI : Nat → Nat → Nat) (q : Nat → Nat) (cI cZ : ClassId) (sz : Nat) (r : RS) (k : CS) (a : AS) (ch kk : Nat) (h0 : r.c ≤ 8) (h1 : ch < r.c) (h2 : r.st ch ≤ r.st (ch + 1)) (h3 : r.st (ch + 1) ≤ 32) (h4 : kk < 2 ^ 31) : Met l yX3_at (.code yX3_at cX3_at 3 (some .int) :: ALLG) ({ frames := 1, cells := 0, slots := 0, locals := 22 }) (va_Pc [.ref (q 17), .int (nI ch), .int (nI kk)] (cP (dC, dI) vwCl [(cI, .int), (cZ, .boolean)] (wX q cI cZ r k a) eT sz)) (va_Qi (fun (x : Int32) (_ : Unit) => x = zI (atZ r ch kk)) (fun (_ : Unit) => cB (dC, dI) vwCl [(cI, .int), (cZ, .boolean)] (wX q cI cZ r k a) (va_A (wX q cI cZ r k a) sz)) (va_A (wX q cI cZ r k a) sz)) 0 0 (va_A (wX q cI cZ r k a) sz) := by
  refine xm_of (cc := cX3_at) (maxL := 3) (ret := some .int) (by decide) rfl (Nat.le_of_ble_eq_true rfl) ?_
  intro p e s m below meth c A hAe hx hb hr hml hts0 hown hlk hin hsz H locs hP hK hD hA hS hE ls hl
  have hts : ∀ w ∈ ALLG, w.before _ s = true := fun w h => hts0 w (List.mem_cons_of_mem _ h)
  rw [← hAe]
  have hl : lv_has ls 3 [(0, .ref (q 17)), (1, .int (nI ch)), (2, .int (nI kk))] := hl
  refine lv_aload_n hx hb dX3_at_0 rfl (lv_at hl 0 rfl) ?_
  refine va_get (D := (dC, dI)) (ci := 3) (v := .ref (q 0)) (C := RX3) (T := TX3) (N := 3) hx hb hts inX3 hown hK hP 17 rfl rfl 0 (by decide) (hts _ tw_131) (fun _ h9 => h9) rfl dX3_at_1 ?_
  refine lv_iload_n hx hb dX3_at_4 rfl (lv_at hl 1 rfl) ?_
  refine xc_Vi (As := [.int (nI ch)]) (wr := wC q cI k ++ wA q cI a ++ wSf q) ⟨hx, hb, hml, hown, hts⟩ (c_Rows_hasChain l dC dI q cI cZ H.size r (nI ch)) (cwV 1 hts (gV tw_315 tw_316 tw_317 tw_2 tw_318) rfl rfl rfl (by decide +kernel) ⟨Nat.le_of_ble_eq_true rfl, Nat.le_of_ble_eq_true rfl⟩) rfl hl.1 rfl (Nat.le_of_ble_eq_true rfl) dX3_at_5 ⟨Nat.zero_le _, Nat.zero_le _⟩ hP hD hK hS hA [0, 1, 2, 3, 4, 5, 6, 7, 8, 9] [10, 11, 12, 13, 14, 15, 16, 17] rfl rfl (by decide) (by decide) (by decide) [0, 1] rfl (q0 := 0) rfl rfl rfl eT_M (trivial) (fun r_1 u_2 H locs w_3 hP hD hS => ?_)
  obtain rfl := w_3
  have hP : va_P (dC, dI) vwCl (wX q cI cZ r k a) H := hP.sub [8, 9, 10, 11, 12, 13, 14, 15, 16, 17, 0, 1, 2, 3, 4, 5, 6, 7] rfl
  have hD : va_D A (wX q cI cZ r k a) := hD.sub [8, 9, 10, 11, 12, 13, 14, 15, 16, 17, 0, 1, 2, 3, 4, 5, 6, 7] (by decide) rfl
  refine xt_i (show nI (hcN (nI ch) r.c) = nI 1 from congrArg nI (hcN_1 h1 h0)) ?_
  refine xn_zeq (tgt := 15) hx hb (by omega) dX3_at_8 (by decide) (fun c_4 => ?_) (fun c_4 => ?_)
  · exact absurd (show False by omega) id
  · refine lv_iload_n hx hb dX3_at_11 rfl (lv_at hl 2 rfl) ?_
    refine xn_zge (tgt := 25) hx hb (by omega) dX3_at_12 (by decide) ?_
    refine lv_iload_n hx hb dX3_at_25 rfl (lv_at hl 2 rfl) ?_
    refine lv_aload_n hx hb dX3_at_26 rfl (lv_at hl 0 rfl) ?_
    refine va_get (D := (dC, dI)) (ci := 3) (v := .ref (q 0)) (C := RX3) (T := TX3) (N := 3) hx hb hts inX3 hown hK hP 17 rfl rfl 0 (by decide) (hts _ tw_131) (fun _ h9 => h9) rfl dX3_at_27 ?_
    refine lv_iload_n hx hb dX3_at_30 rfl (lv_at hl 1 rfl) ?_
    refine xc_Vi (As := [.int (nI ch)]) (wr := wC q cI k ++ wA q cI a ++ wSf q) ⟨hx, hb, hml, hown, hts⟩ (c_Rows_lengthOf l dC dI q cI cZ H.size r ch (by omega) h2) (cwV 1 hts (gV tw_335 tw_304 tw_305 tw_2 tw_306) rfl rfl rfl (by decide +kernel) ⟨Nat.le_of_ble_eq_true rfl, Nat.le_of_ble_eq_true rfl⟩) rfl hl.1 rfl (Nat.le_of_ble_eq_true rfl) dX3_at_31 ⟨Nat.zero_le _, Nat.zero_le _⟩ hP hD hK hS hA [0, 1, 2, 3, 4, 5, 6, 7, 8, 9] [10, 11, 12, 13, 14, 15, 16, 17] rfl rfl (by decide) (by decide) (by decide) [0, 1] rfl (q0 := 0) rfl rfl rfl eT_M (trivial) (fun r_6 u_7 H locs w_8 hP hD hS => ?_)
    obtain rfl := w_8
    have hP : va_P (dC, dI) vwCl (wX q cI cZ r k a) H := hP.sub [8, 9, 10, 11, 12, 13, 14, 15, 16, 17, 0, 1, 2, 3, 4, 5, 6, 7] rfl
    have hD : va_D A (wX q cI cZ r k a) := hD.sub [8, 9, 10, 11, 12, 13, 14, 15, 16, 17, 0, 1, 2, 3, 4, 5, 6, 7] (by decide) rfl
    refine xn_cge (tgt := 49) hx hb (by omega) (by omega) dX3_at_34 (by decide) (fun c_9 => ?_) (fun c_9 => ?_)
    · refine lv_iconst (v := zI (-1)) hx hb dX3_at_49 (by decide) ?_
      exact xr_i hx hb hr hlk (u := ()) (by unfold atZ; rw [if_neg (by omega)]) hP hK hD hS dX3_at_50
    · refine lv_aload_n hx hb dX3_at_37 rfl (lv_at hl 0 rfl) ?_
      refine va_get (D := (dC, dI)) (ci := 3) (v := .ref (q 0)) (C := RX3) (T := TX3) (N := 3) hx hb hts inX3 hown hK hP 17 rfl rfl 0 (by decide) (hts _ tw_131) (fun _ h9 => h9) rfl dX3_at_38 ?_
      refine lv_iload_n hx hb dX3_at_41 rfl (lv_at hl 1 rfl) ?_
      refine lv_iload_n hx hb dX3_at_42 rfl (lv_at hl 2 rfl) ?_
      refine xc_Vi (As := [.int (nI ch), .int (nI kk)]) (wr := wC q cI k ++ wA q cI a ++ wSf q) ⟨hx, hb, hml, hown, hts⟩ (c_Rows_latchAt l dC dI q cI cZ H.size r ch kk (by omega) (by omega)) (cwV 2 hts (gV tw_336 tw_337 tw_338 tw_2 tw_339) rfl rfl rfl (by decide +kernel) ⟨Nat.le_of_ble_eq_true rfl, Nat.le_of_ble_eq_true rfl⟩) rfl hl.1 rfl (Nat.le_of_ble_eq_true rfl) dX3_at_43 ⟨Nat.zero_le _, Nat.zero_le _⟩ hP hD hK hS hA [0, 1, 2, 3, 4, 5, 6, 7, 8, 9] [10, 11, 12, 13, 14, 15, 16, 17] rfl rfl (by decide) (by decide) (by decide) [0, 1] rfl (q0 := 0) rfl rfl rfl eT_M (trivial) (fun r_10 u_11 H locs w_12 hP hD hS => ?_)
      obtain rfl := w_12
      have hP : va_P (dC, dI) vwCl (wX q cI cZ r k a) H := hP.sub [8, 9, 10, 11, 12, 13, 14, 15, 16, 17, 0, 1, 2, 3, 4, 5, 6, 7] rfl
      have hD : va_D A (wX q cI cZ r k a) := hD.sub [8, 9, 10, 11, 12, 13, 14, 15, 16, 17, 0, 1, 2, 3, 4, 5, 6, 7] (by decide) rfl
      refine lv_goto (tgt := 50) hx hb dX3_at_46 (by decide) ?_
      refine xt_i (show nI (r.rw (r.st ch + kk)) = zI ((r.rw (r.st ch + kk) : Nat) : Int) from (zI_nI _).symm) ?_
      exact xr_i hx hb hr hlk (u := ()) (by unfold atZ; rw [if_pos (by omega)]) hP hK hD hS dX3_at_50
set_option maxHeartbeats 4000000 in
set_option maxRecDepth 100000 in
theorem c_ScanRows_lockUp (l : Launch) (dC : Nat → ClassId) (dI : Nat → Nat → Nat) (q : Nat → Nat) (cI cZ : ClassId) (sz : Nat) (r : RS) (k : CS) (a : AS) (ch kk : Nat) (hB : RB r) (h0 : r.c ≤ 8) (h1 : ch < r.c) (h2 : r.st ch ≤ r.st (ch + 1)) (h3 : r.st (ch + 1) ≤ 32) (h4 : kk < r.st (ch + 1) - r.st ch) : Met l yX3_lockUp (.code yX3_lockUp cX3_lockUp 3 (some .boolean) :: ALLG) ({ frames := 2, cells := 0, slots := 0, locals := 44 }) (va_Pc [.ref (q 17), .int (nI ch), .int (nI kk)] (cP (dC, dI) vwCl [(cI, .int), (cZ, .boolean)] (wX q cI cZ r k a) eT sz)) (va_Qi (fun (x : Int32) (_ : Unit) => x = nI (ccb r (r.st ch + kk))) (fun (_ : Unit) => cB (dC, dI) vwCl [(cI, .int), (cZ, .boolean)] (wX q cI cZ r k a) (va_A (wX q cI cZ r k a) sz)) (va_A (wX q cI cZ r k a) sz)) 0 0 (va_A (wX q cI cZ r k a) sz) := by
  refine xm_of (cc := cX3_lockUp) (maxL := 3) (ret := some .boolean) (by decide) rfl (Nat.le_of_ble_eq_true rfl) ?_
  intro p e s m below meth c A hAe hx hb hr hml hts0 hown hlk hin hsz H locs hP hK hD hA hS hE ls hl
  have hts : ∀ w ∈ ALLG, w.before _ s = true := fun w h => hts0 w (List.mem_cons_of_mem _ h)
  rw [← hAe]
  have g1 := ccb_le r (r.st ch + kk)
  have hl : lv_has ls 3 [(0, .ref (q 17)), (1, .int (nI ch)), (2, .int (nI kk))] := hl
  refine lv_aload_n hx hb dX3_lockUp_0 rfl (lv_at hl 0 rfl) ?_
  refine va_get (D := (dC, dI)) (ci := 3) (v := .ref (q 0)) (C := RX3) (T := TX3) (N := 3) hx hb hts inX3 hown hK hP 17 rfl rfl 0 (by decide) (hts _ tw_131) (fun _ h9 => h9) rfl dX3_lockUp_1 ?_
  refine lv_iload_n hx hb dX3_lockUp_4 rfl (lv_at hl 1 rfl) ?_
  refine xc_Vi (As := [.int (nI ch)]) (wr := wC q cI k ++ wA q cI a ++ wSf q) ⟨hx, hb, hml, hown, hts⟩ (c_Rows_hasChain l dC dI q cI cZ H.size r (nI ch)) (cwV 1 hts (gV tw_315 tw_316 tw_317 tw_2 tw_318) rfl rfl rfl (by decide +kernel) ⟨Nat.le_of_ble_eq_true rfl, Nat.le_of_ble_eq_true rfl⟩) rfl hl.1 rfl (Nat.le_of_ble_eq_true rfl) dX3_lockUp_5 ⟨Nat.zero_le _, Nat.zero_le _⟩ hP hD hK hS hA [0, 1, 2, 3, 4, 5, 6, 7, 8, 9] [10, 11, 12, 13, 14, 15, 16, 17] rfl rfl (by decide) (by decide) (by decide) [0, 1] rfl (q0 := 0) rfl rfl rfl eT_M (trivial) (fun r_1 u_2 H locs w_3 hP hD hS => ?_)
  obtain rfl := w_3
  have hP : va_P (dC, dI) vwCl (wX q cI cZ r k a) H := hP.sub [8, 9, 10, 11, 12, 13, 14, 15, 16, 17, 0, 1, 2, 3, 4, 5, 6, 7] rfl
  have hD : va_D A (wX q cI cZ r k a) := hD.sub [8, 9, 10, 11, 12, 13, 14, 15, 16, 17, 0, 1, 2, 3, 4, 5, 6, 7] (by decide) rfl
  refine xt_i (show nI (hcN (nI ch) r.c) = nI 1 from congrArg nI (hcN_1 h1 h0)) ?_
  refine xn_zeq (tgt := 27) hx hb (by omega) dX3_lockUp_8 (by decide) (fun c_4 => ?_) (fun c_4 => ?_)
  · exact absurd (show False by omega) id
  · refine lv_iload_n hx hb dX3_lockUp_11 rfl (lv_at hl 2 rfl) ?_
    refine xn_zlt (tgt := 27) hx hb (by omega) dX3_lockUp_12 (by decide) ?_
    refine lv_iload_n hx hb dX3_lockUp_15 rfl (lv_at hl 2 rfl) ?_
    refine lv_aload_n hx hb dX3_lockUp_16 rfl (lv_at hl 0 rfl) ?_
    refine va_get (D := (dC, dI)) (ci := 3) (v := .ref (q 0)) (C := RX3) (T := TX3) (N := 3) hx hb hts inX3 hown hK hP 17 rfl rfl 0 (by decide) (hts _ tw_131) (fun _ h9 => h9) rfl dX3_lockUp_17 ?_
    refine lv_iload_n hx hb dX3_lockUp_20 rfl (lv_at hl 1 rfl) ?_
    refine xc_Vi (As := [.int (nI ch)]) (wr := wC q cI k ++ wA q cI a ++ wSf q) ⟨hx, hb, hml, hown, hts⟩ (c_Rows_lengthOf l dC dI q cI cZ H.size r ch (by omega) h2) (cwV 1 hts (gV tw_335 tw_304 tw_305 tw_2 tw_306) rfl rfl rfl (by decide +kernel) ⟨Nat.le_of_ble_eq_true rfl, Nat.le_of_ble_eq_true rfl⟩) rfl hl.1 rfl (Nat.le_of_ble_eq_true rfl) dX3_lockUp_21 ⟨Nat.zero_le _, Nat.zero_le _⟩ hP hD hK hS hA [0, 1, 2, 3, 4, 5, 6, 7, 8, 9] [10, 11, 12, 13, 14, 15, 16, 17] rfl rfl (by decide) (by decide) (by decide) [0, 1] rfl (q0 := 0) rfl rfl rfl eT_M (trivial) (fun r_6 u_7 H locs w_8 hP hD hS => ?_)
    obtain rfl := w_8
    have hP : va_P (dC, dI) vwCl (wX q cI cZ r k a) H := hP.sub [8, 9, 10, 11, 12, 13, 14, 15, 16, 17, 0, 1, 2, 3, 4, 5, 6, 7] rfl
    have hD : va_D A (wX q cI cZ r k a) := hD.sub [8, 9, 10, 11, 12, 13, 14, 15, 16, 17, 0, 1, 2, 3, 4, 5, 6, 7] (by decide) rfl
    refine xn_clt (tgt := 37) hx hb (by omega) (by omega) dX3_lockUp_24 (by decide) (fun c_9 => ?_) (fun c_9 => ?_)
    · refine lv_aload_n hx hb dX3_lockUp_37 rfl (lv_at hl 0 rfl) ?_
      refine va_get (D := (dC, dI)) (ci := 3) (v := .ref (q 0)) (C := RX3) (T := TX3) (N := 3) hx hb hts inX3 hown hK hP 17 rfl rfl 0 (by decide) (hts _ tw_131) (fun _ h9 => h9) rfl dX3_lockUp_38 ?_
      refine lv_iload_n hx hb dX3_lockUp_41 rfl (lv_at hl 1 rfl) ?_
      refine lv_iload_n hx hb dX3_lockUp_42 rfl (lv_at hl 2 rfl) ?_
      refine xc_Vi (As := [.int (nI ch), .int (nI kk)]) (wr := wC q cI k ++ wA q cI a ++ wSf q) ⟨hx, hb, hml, hown, hts⟩ (c_Rows_clockChangesBehind l dC dI q cI cZ H.size r ch kk hB (by omega) (by omega)) (cwV 2 hts (gV tw_347 tw_348 tw_349 tw_2 tw_350) rfl rfl rfl (by decide +kernel) ⟨Nat.le_of_ble_eq_true rfl, Nat.le_of_ble_eq_true rfl⟩) rfl hl.1 rfl (Nat.le_of_ble_eq_true rfl) dX3_lockUp_43 ⟨Nat.zero_le _, Nat.zero_le _⟩ hP hD hK hS hA [0, 1, 2, 3, 4, 5, 6, 7, 8, 9] [10, 11, 12, 13, 14, 15, 16, 17] rfl rfl (by decide) (by decide) (by decide) [0, 1] rfl (q0 := 0) rfl rfl rfl eT_M (trivial) (fun r_10 u_11 H locs w_12 hP hD hS => ?_)
      obtain rfl := w_12
      have hP : va_P (dC, dI) vwCl (wX q cI cZ r k a) H := hP.sub [8, 9, 10, 11, 12, 13, 14, 15, 16, 17, 0, 1, 2, 3, 4, 5, 6, 7] rfl
      have hD : va_D A (wX q cI cZ r k a) := hD.sub [8, 9, 10, 11, 12, 13, 14, 15, 16, 17, 0, 1, 2, 3, 4, 5, 6, 7] (by decide) rfl
      exact xr_z hx hb hr hlk (nar01v (by omega)) (u := ()) rfl hP hK hD hS dX3_lockUp_46
    · exact absurd (show False by omega) id
set_option maxHeartbeats 4000000 in
set_option maxRecDepth 100000 in
theorem c_ScanRows_travel (l : Launch) (dC : Nat → ClassId) (dI : Nat → Nat → Nat) (q : Nat → Nat) (cI cZ : ClassId) (sz : Nat) (r : RS) (k : CS) (a : AS) (hB : RB r) : Met l yX3_travel (.code yX3_travel cX3_travel 1 (some .long) :: ALLG) ({ frames := 3, cells := 0, slots := 0, locals := 70 }) (va_Pc [.ref (q 17)] (cP (dC, dI) vwCl [(cI, .int), (cZ, .boolean)] (wX q cI cZ r k a) eT sz)) (va_Ql (fun (x : Int64) (_ : Unit) => x = lN (sumN (wb r) r.p)) (fun (_ : Unit) => cB (dC, dI) vwCl [(cI, .int), (cZ, .boolean)] (wX q cI cZ r k a) (va_A (wX q cI cZ r k a) sz)) (va_A (wX q cI cZ r k a) sz)) 0 0 (va_A (wX q cI cZ r k a) sz) := by
  refine xm_of (cc := cX3_travel) (maxL := 1) (ret := some .long) (by decide) rfl (Nat.le_of_ble_eq_true rfl) ?_
  intro p e s m below meth c A hAe hx hb hr hml hts0 hown hlk hin hsz H locs hP hK hD hA hS hE ls hl
  have hts : ∀ w ∈ ALLG, w.before _ s = true := fun w h => hts0 w (List.mem_cons_of_mem _ h)
  rw [← hAe]
  have hl : lv_has ls 1 [(0, .ref (q 17))] := hl
  refine lv_aload_n hx hb dX3_travel_0 rfl (lv_at hl 0 rfl) ?_
  refine va_get (D := (dC, dI)) (ci := 3) (v := .ref (q 0)) (C := RX3) (T := TX3) (N := 3) hx hb hts inX3 hown hK hP 17 rfl rfl 0 (by decide) (hts _ tw_131) (fun _ h9 => h9) rfl dX3_travel_1 ?_
  refine xc_Vl (As := []) (wr := wC q cI k ++ wA q cI a ++ wSf q) ⟨hx, hb, hml, hown, hts⟩ (c_Rows_wholeWay l dC dI q cI cZ H.size r hB) (cwV 0 hts (gV tw_145 tw_146 tw_147 tw_2 tw_148) rfl rfl rfl (by decide +kernel) ⟨Nat.le_of_ble_eq_true rfl, Nat.le_of_ble_eq_true rfl⟩) rfl hl.1 rfl (Nat.le_of_ble_eq_true rfl) dX3_travel_4 ⟨Nat.zero_le _, Nat.zero_le _⟩ hP hD hK hS hA [0, 1, 2, 3, 4, 5, 6, 7, 8, 9] [10, 11, 12, 13, 14, 15, 16, 17] rfl rfl (by decide) (by decide) (by decide) [0, 1] rfl (q0 := 0) rfl rfl rfl eT_M (trivial) (fun r_1 u_2 H locs w_3 hP hD hS => ?_)
  obtain rfl := w_3
  have hP : va_P (dC, dI) vwCl (wX q cI cZ r k a) H := hP.sub [8, 9, 10, 11, 12, 13, 14, 15, 16, 17, 0, 1, 2, 3, 4, 5, 6, 7] rfl
  have hD : va_D A (wX q cI cZ r k a) := hD.sub [8, 9, 10, 11, 12, 13, 14, 15, 16, 17, 0, 1, 2, 3, 4, 5, 6, 7] (by decide) rfl
  exact xr_l hx hb hr hlk (u := ()) rfl hP hK hD hS dX3_travel_7
set_option maxHeartbeats 4000000 in
set_option maxRecDepth 100000 in
theorem c_ScanRows_improve (l : Launch) (dC : Nat → ClassId) (dI : Nat → Nat → Nat) (q : Nat → Nat) (cI cZ : ClassId) (sz : Nat) (r : RS) (k : CS) (a : AS) (n0 : Nat) (hB : RB r) (hC : RC r) (h1 : n0 < 2 ^ 31) : Met l yX3_improve (.code yX3_improve cX3_improve 2 (some .int) :: ALLG) ({ frames := 6, cells := 0, slots := 0, locals := 135 }) (va_Pc [.ref (q 17), .int (nI n0)] (cP (dC, dI) vwCl [(cI, .int), (cZ, .boolean)] (wX q cI cZ r k a) eT sz)) (va_Qi (fun (x : Int32) (u : RS) => ∃ kq, kq ≤ n0 ∧ x = nI kq ∧ impR n0 r kq u) (fun (u : RS) => cB (dC, dI) vwCl [(cI, .int), (cZ, .boolean)] (wX q cI cZ u k a) (va_A (wX q cI cZ r k a) sz)) (va_A (wX q cI cZ r k a) sz)) 0 0 (va_A (wX q cI cZ r k a) sz) := by
  refine xm_of (cc := cX3_improve) (maxL := 2) (ret := some .int) (by decide) rfl (Nat.le_of_ble_eq_true rfl) ?_
  intro p e s m below meth c A hAe hx hb hr hml hts0 hown hlk hin hsz H locs hP hK hD hA hS hE ls hl
  have hts : ∀ w ∈ ALLG, w.before _ s = true := fun w h => hts0 w (List.mem_cons_of_mem _ h)
  rw [← hAe]
  have hl : lv_has ls 2 [(0, .ref (q 17)), (1, .int (nI n0))] := hl
  refine lv_iload_n hx hb dX3_improve_0 rfl (lv_at hl 1 rfl) ?_
  refine xn_zge (tgt := 14) hx hb (by omega) dX3_improve_1 (by decide) ?_
  refine lv_aload_n hx hb dX3_improve_14 rfl (lv_at hl 0 rfl) ?_
  refine va_get (D := (dC, dI)) (ci := 3) (v := .ref (q 0)) (C := RX3) (T := TX3) (N := 3) hx hb hts inX3 hown hK hP 17 rfl rfl 0 (by decide) (hts _ tw_131) (fun _ h9 => h9) rfl dX3_improve_15 ?_
  refine lv_iload_n hx hb dX3_improve_18 rfl (lv_at hl 1 rfl) ?_
  refine xc_Vi (As := [.int (nI n0)]) (wr := wC q cI k ++ wA q cI a ++ wSf q) ⟨hx, hb, hml, hown, hts⟩ (c_Rows_exchangeUpTo l dC dI q cI cZ H.size r n0 hB hC h1) (cwV 1 hts (gV tw_359 tw_360 tw_361 tw_2 tw_362) rfl rfl rfl (by decide +kernel) ⟨Nat.le_of_ble_eq_true rfl, Nat.le_of_ble_eq_true rfl⟩) rfl hl.1 rfl (Nat.le_of_ble_eq_true rfl) dX3_improve_19 ⟨Nat.zero_le _, Nat.zero_le _⟩ hP hD hK hS hA [0, 1, 2, 3, 4, 5, 6, 7, 8, 9] [10, 11, 12, 13, 14, 15, 16, 17] rfl rfl (by decide) (by decide) (by decide) [0, 1] rfl (q0 := 0) rfl rfl rfl eT_M (trivial) (fun r_2 u_3 H locs w_4 hP hD hS => ?_)
  obtain ⟨kq, kq1, rfl, kq2⟩ := w_4
  have hP : va_P (dC, dI) vwCl (wX q cI cZ u_3 k a) H := hP.sub [8, 9, 10, 11, 12, 13, 14, 15, 16, 17, 0, 1, 2, 3, 4, 5, 6, 7] rfl
  have hD : va_D A (wX q cI cZ u_3 k a) := hD.sub [8, 9, 10, 11, 12, 13, 14, 15, 16, 17, 0, 1, 2, 3, 4, 5, 6, 7] (by decide) rfl
  exact xr_i hx hb hr hlk (u := u_3) (⟨kq, kq1, rfl, kq2⟩) hP hK hD hS dX3_improve_22
set_option maxHeartbeats 4000000 in
set_option maxRecDepth 100000 in
theorem c_ScanRows_rule (l : Launch) (dC : Nat → ClassId) (dI : Nat → Nat → Nat) (q : Nat → Nat) (cI cZ : ClassId) (sz : Nat) (r : RS) (k : CS) (a : AS) (kq w0 : Nat) (hB : RB r) (h1 : kq < 2 ^ 31) (h2 : w0 < 2) : Met l yX3_rule (.code yX3_rule cX3_rule 3 (some .int) :: ALLG) ({ frames := 2, cells := 0, slots := 0, locals := 47 }) (va_Pc [.ref (q 17), .int (nI kq), .int (nI w0)] (cP (dC, dI) vwCl [(cI, .int), (cZ, .boolean)] (wX q cI cZ r k a) eT sz)) (va_Qi (fun (x : Int32) (_ : Unit) => rulR (brT r) (2 * r.n) kq w0 x) (fun (_ : Unit) => cB (dC, dI) vwCl [(cI, .int), (cZ, .boolean)] (wX q cI cZ r k a) (va_A (wX q cI cZ r k a) sz)) (va_A (wX q cI cZ r k a) sz)) 0 0 (va_A (wX q cI cZ r k a) sz) := by
  refine xm_of (cc := cX3_rule) (maxL := 3) (ret := some .int) (by decide) rfl (Nat.le_of_ble_eq_true rfl) ?_
  intro p e s m below meth c A hAe hx hb hr hml hts0 hown hlk hin hsz H locs hP hK hD hA hS hE ls hl
  have hts : ∀ w ∈ ALLG, w.before _ s = true := fun w h => hts0 w (List.mem_cons_of_mem _ h)
  rw [← hAe]
  have hl : lv_has ls 3 [(0, .ref (q 17)), (1, .int (nI kq)), (2, .int (nI w0))] := hl
  refine lv_iload_n hx hb dX3_rule_0 rfl (lv_at hl 1 rfl) ?_
  refine xn_zlt (tgt := 13) hx hb (by omega) dX3_rule_1 (by decide) ?_
  refine lv_iload_n hx hb dX3_rule_4 rfl (lv_at hl 2 rfl) ?_
  refine xn_zlt (tgt := 13) hx hb (by omega) dX3_rule_5 (by decide) ?_
  refine lv_iload_n hx hb dX3_rule_8 rfl (lv_at hl 2 rfl) ?_
  refine lv_iconst (v := nI 1) hx hb dX3_rule_9 (by decide) ?_
  refine xn_cle (tgt := 23) hx hb (by omega) (by omega) dX3_rule_10 (by decide) (fun c_3 => ?_) (fun c_3 => ?_)
  · refine lv_aload_n hx hb dX3_rule_23 rfl (lv_at hl 0 rfl) ?_
    refine va_get (D := (dC, dI)) (ci := 3) (v := .ref (q 0)) (C := RX3) (T := TX3) (N := 3) hx hb hts inX3 hown hK hP 17 rfl rfl 0 (by decide) (hts _ tw_131) (fun _ h9 => h9) rfl dX3_rule_24 ?_
    refine lv_iload_n hx hb dX3_rule_27 rfl (lv_at hl 1 rfl) ?_
    refine lv_iload_n hx hb dX3_rule_28 rfl (lv_at hl 2 rfl) ?_
    refine xc_Vi (As := [.int (nI kq), .int (nI w0)]) (wr := wC q cI k ++ wA q cI a ++ wSf q) ⟨hx, hb, hml, hown, hts⟩ (c_Rows_brokenRule l dC dI q cI cZ H.size r kq w0 hB h1 h2) (cwV 2 hts (gV tw_391 tw_392 tw_393 tw_2 tw_394) rfl rfl rfl (by decide +kernel) ⟨Nat.le_of_ble_eq_true rfl, Nat.le_of_ble_eq_true rfl⟩) rfl hl.1 rfl (Nat.le_of_ble_eq_true rfl) dX3_rule_29 ⟨Nat.zero_le _, Nat.zero_le _⟩ hP hD hK hS hA [0, 1, 2, 3, 4, 5, 6, 7, 8, 9] [10, 11, 12, 13, 14, 15, 16, 17] rfl rfl (by decide) (by decide) (by decide) [0, 1] rfl (q0 := 0) rfl rfl rfl eT_M (trivial) (fun r_4 u_5 H locs w_6 hP hD hS => ?_)
    have hq := w_6
    have hP : va_P (dC, dI) vwCl (wX q cI cZ r k a) H := hP.sub [8, 9, 10, 11, 12, 13, 14, 15, 16, 17, 0, 1, 2, 3, 4, 5, 6, 7] rfl
    have hD : va_D A (wX q cI cZ r k a) := hD.sub [8, 9, 10, 11, 12, 13, 14, 15, 16, 17, 0, 1, 2, 3, 4, 5, 6, 7] (by decide) rfl
    exact xr_i hx hb hr hlk (u := ()) hq hP hK hD hS dX3_rule_32
  · exact absurd (show False by omega) id
set_option maxHeartbeats 4000000 in
set_option maxRecDepth 100000 in
theorem c_ScanRows_set (l : Launch) (dC : Nat → ClassId) (dI : Nat → Nat → Nat) (q : Nat → Nat) (cI cZ : ClassId) (sz : Nat) (r : RS) (k : CS) (a : AS) (i f : Nat) (hB : RB r) (h1 : i < r.n) (h2 : f < 2) : Met l yX3_set (.code yX3_set cX3_set 3 (some .boolean) :: ALLG) ({ frames := 1, cells := 0, slots := 0, locals := 23 }) (va_Pc [.ref (q 17), .int (nI i), .int (nI f)] (cP (dC, dI) vwCl [(cI, .int), (cZ, .boolean)] (wX q cI cZ r k a) eT sz)) (va_Qi (fun (x : Int32) (u : RS) => x = nI (if r.fl i = f then 0 else 1) ∧ u = r.s_fl (va_up r.fl i f)) (fun (u : RS) => cB (dC, dI) vwCl [(cI, .int), (cZ, .boolean)] (wX q cI cZ u k a) (va_A (wX q cI cZ r k a) sz)) (va_A (wX q cI cZ r k a) sz)) 0 0 (va_A (wX q cI cZ r k a) sz) := by
  refine xm_of (cc := cX3_set) (maxL := 3) (ret := some .boolean) (by decide) rfl (Nat.le_of_ble_eq_true rfl) ?_
  intro p e s m below meth c A hAe hx hb hr hml hts0 hown hlk hin hsz H locs hP hK hD hA hS hE ls hl
  have hts : ∀ w ∈ ALLG, w.before _ s = true := fun w h => hts0 w (List.mem_cons_of_mem _ h)
  rw [← hAe]
  have b_n := hB.1
  have b_c := hB.2.1
  have b_p := hB.2.2.1
  have g9 : (if r.fl i = f then 0 else 1) < 2 := by split <;> decide
  have hl : lv_has ls 3 [(0, .ref (q 17)), (1, .int (nI i)), (2, .int (nI f))] := hl
  refine lv_aload_n hx hb dX3_set_0 rfl (lv_at hl 0 rfl) ?_
  refine lv_iload_n hx hb dX3_set_1 rfl (lv_at hl 1 rfl) ?_
  refine xc_Vv (As := [.int (nI i)]) (wr := []) ⟨hx, hb, hml, hown, hts⟩ (c_ScanRows_requireLatch l dC dI q cI cZ H.size r k a i h1 (by omega)) (cwV 1 hts (gV tw_406 tw_408 sw_13 tw_1 tw_409) rfl rfl rfl (by decide +kernel) ⟨Nat.le_of_ble_eq_true rfl, Nat.le_of_ble_eq_true rfl⟩) rfl hl.1 rfl (Nat.le_of_ble_eq_true rfl) dX3_set_2 ⟨Nat.zero_le _, Nat.zero_le _⟩ hP hD hK hS hA [0, 1, 2, 3, 4, 5, 6, 7, 8, 9, 10, 11, 12, 13, 14, 15, 16, 17] [] rfl rfl (by decide) (by decide) (by decide) [0, 1] rfl (q0 := 17) rfl rfl rfl eT_M (trivial) (fun u_2 H locs w_3 hP hD hS => ?_)
  have hP : va_P (dC, dI) vwCl (wX q cI cZ r k a) H := hP
  have hD : va_D A (wX q cI cZ r k a) := hD
  refine lv_aload_n hx hb dX3_set_5 rfl (lv_at hl 0 rfl) ?_
  refine va_get (D := (dC, dI)) (ci := 3) (v := .ref (q 0)) (C := RX3) (T := TX3) (N := 3) hx hb hts inX3 hown hK hP 17 rfl rfl 0 (by decide) (hts _ tw_131) (fun _ h9 => h9) rfl dX3_set_6 ?_
  refine lv_iload_n hx hb dX3_set_9 rfl (lv_at hl 1 rfl) ?_
  refine lv_iload_n hx hb dX3_set_10 rfl (lv_at hl 2 rfl) ?_
  refine xc_Vi (As := [.int (nI i), .int (nI f)]) (wr := wC q cI k ++ wA q cI a ++ wSf q) ⟨hx, hb, hml, hown, hts⟩ (c_Rows_changeSet l dC dI q cI cZ H.size r i f hB (by omega) h2) (cwV 2 hts (gV tw_411 tw_412 tw_413 tw_2 tw_414) rfl rfl rfl (by decide +kernel) ⟨Nat.le_of_ble_eq_true rfl, Nat.le_of_ble_eq_true rfl⟩) rfl hl.1 rfl (Nat.le_of_ble_eq_true rfl) dX3_set_11 ⟨Nat.zero_le _, Nat.zero_le _⟩ hP hD hK hS hA [0, 1, 2, 3, 4, 5, 6, 7, 8, 9] [10, 11, 12, 13, 14, 15, 16, 17] rfl rfl (by decide) (by decide) (by decide) [0, 1] rfl (q0 := 0) rfl rfl rfl eT_M (trivial) (fun r_4 u_5 H locs w_6 hP hD hS => ?_)
  obtain ⟨rfl, rfl⟩ := w_6
  have hP : va_P (dC, dI) vwCl (wX q cI cZ (RS.s_fl r (va_up (RS.fl r) i f)) k a) H := hP.sub [8, 9, 10, 11, 12, 13, 14, 15, 16, 17, 0, 1, 2, 3, 4, 5, 6, 7] rfl
  have hD : va_D A (wX q cI cZ (RS.s_fl r (va_up (RS.fl r) i f)) k a) := hD.sub [8, 9, 10, 11, 12, 13, 14, 15, 16, 17, 0, 1, 2, 3, 4, 5, 6, 7] (by decide) rfl
  exact xr_z hx hb hr hlk (nar01v (by omega)) (u := RS.s_fl r (va_up (RS.fl r) i f)) (⟨rfl, rfl⟩) hP hK hD hS dX3_set_14
set_option maxHeartbeats 4000000 in
set_option maxRecDepth 100000 in
theorem c_ScanRows_load (l : Launch) (dC : Nat → ClassId) (dI : Nat → Nat → Nat) (q : Nat → Nat) (cI cZ : ClassId) (sz : Nat) (r : RS) (k : CS) (a : AS) (i : Nat) (v : Int32) (hB : RB r) (h1 : i < r.n) : Met l yX3_load (.code yX3_load cX3_load 3 none :: ALLG) ({ frames := 1, cells := 0, slots := 0, locals := 21 }) (va_Pc [.ref (q 17), .int (nI i), .int v] (cP (dC, dI) vwCl [(cI, .int), (cZ, .boolean)] (wX q cI cZ r k a) eT sz)) (va_Qv (fun (u : RS) => u = r.s_vb (va_up r.vb i (bitN v))) (fun (u : RS) => cB (dC, dI) vwCl [(cI, .int), (cZ, .boolean)] (wX q cI cZ u k a) (va_A (wX q cI cZ r k a) sz)) (va_A (wX q cI cZ r k a) sz)) 0 0 (va_A (wX q cI cZ r k a) sz) := by
  refine xm_of (cc := cX3_load) (maxL := 3) (ret := none) (by decide) rfl (Nat.le_of_ble_eq_true rfl) ?_
  intro p e s m below meth c A hAe hx hb hr hml hts0 hown hlk hin hsz H locs hP hK hD hA hS hE ls hl
  have hts : ∀ w ∈ ALLG, w.before _ s = true := fun w h => hts0 w (List.mem_cons_of_mem _ h)
  rw [← hAe]
  have b_n := hB.1
  have b_c := hB.2.1
  have b_p := hB.2.2.1
  have hl : lv_has ls 3 [(0, .ref (q 17)), (1, .int (nI i)), (2, .int v)] := hl
  refine lv_aload_n hx hb dX3_load_0 rfl (lv_at hl 0 rfl) ?_
  refine lv_iload_n hx hb dX3_load_1 rfl (lv_at hl 1 rfl) ?_
  refine xc_Vv (As := [.int (nI i)]) (wr := []) ⟨hx, hb, hml, hown, hts⟩ (c_ScanRows_requireLatch l dC dI q cI cZ H.size r k a i h1 (by omega)) (cwV 1 hts (gV tw_406 tw_408 sw_13 tw_1 tw_409) rfl rfl rfl (by decide +kernel) ⟨Nat.le_of_ble_eq_true rfl, Nat.le_of_ble_eq_true rfl⟩) rfl hl.1 rfl (Nat.le_of_ble_eq_true rfl) dX3_load_2 ⟨Nat.zero_le _, Nat.zero_le _⟩ hP hD hK hS hA [0, 1, 2, 3, 4, 5, 6, 7, 8, 9, 10, 11, 12, 13, 14, 15, 16, 17] [] rfl rfl (by decide) (by decide) (by decide) [0, 1] rfl (q0 := 17) rfl rfl rfl eT_M (trivial) (fun u_2 H locs w_3 hP hD hS => ?_)
  have hP : va_P (dC, dI) vwCl (wX q cI cZ r k a) H := hP
  have hD : va_D A (wX q cI cZ r k a) := hD
  refine lv_aload_n hx hb dX3_load_5 rfl (lv_at hl 0 rfl) ?_
  refine va_get (D := (dC, dI)) (ci := 3) (v := .ref (q 0)) (C := RX3) (T := TX3) (N := 3) hx hb hts inX3 hown hK hP 17 rfl rfl 0 (by decide) (hts _ tw_131) (fun _ h9 => h9) rfl dX3_load_6 ?_
  refine va_get (D := (dC, dI)) (ci := 2) (v := .ref (q 1)) (C := RX2) (T := TX2) (N := 12) hx hb hts inX2 hown hK hP 0 rfl rfl 3 (by decide) (hts _ tw_34) (fun _ h9 => h9) rfl dX3_load_9 ?_
  refine lv_iload_n hx hb dX3_load_12 rfl (lv_at hl 1 rfl) ?_
  refine lv_iload_n hx hb dX3_load_13 rfl (lv_at hl 2 rfl) ?_
  refine xc_Si (As := [.int v]) (wr := wX q cI cZ r k a) ⟨hx, hb, hml, hown, hts⟩ (c_ScanRows_asBit l dC dI q cI cZ H.size v) (cwS 1 hts (gS tw_422 tw_423 tw_1 tw_424) rfl rfl rfl (by decide +kernel) ⟨Nat.le_of_ble_eq_true rfl, Nat.le_of_ble_eq_true rfl⟩) rfl hl.1 rfl (Nat.le_of_ble_eq_true rfl) dX3_load_14 ⟨Nat.zero_le _, Nat.zero_le _⟩ hP hD hK hS hA [] [0, 1, 2, 3, 4, 5, 6, 7, 8, 9, 10, 11, 12, 13, 14, 15, 16, 17] rfl rfl (by decide) (by decide) (by decide) [0, 1] rfl eT_M (trivial) (fun r_4 u_5 H locs w_6 hP hD hS => ?_)
  obtain rfl := w_6
  have hP : va_P (dC, dI) vwCl (wX q cI cZ r k a) H := hP
  have hD : va_D A (wX q cI cZ r k a) := hD
  refine xa_ist hx hb hK hP hD hS 1 0 rfl rfl (by omega) (by decide) (aN_up _ _ _) dX3_load_17 (fun H locs hP hD hS => ?_)
  have hP : va_P (dC, dI) vwCl (wX q cI cZ (RS.s_vb r (va_up (RS.vb r) i (bitN v))) k a) H := hP
  have hD : va_D A (wX q cI cZ (RS.s_vb r (va_up (RS.vb r) i (bitN v))) k a) := hD
  exact xr_v hx hb hr hlk (u := RS.s_vb r (va_up (RS.vb r) i (bitN v))) rfl hP hK hD hS dX3_load_18
set_option maxHeartbeats 4000000 in
set_option maxRecDepth 100000 in
theorem c_ScanRows_value (l : Launch) (dC : Nat → ClassId) (dI : Nat → Nat → Nat) (q : Nat → Nat) (cI cZ : ClassId) (sz : Nat) (r : RS) (k : CS) (a : AS) (i : Nat) (hB : RB r) (h1 : i < r.n) : Met l yX3_value (.code yX3_value cX3_value 2 (some .int) :: ALLG) ({ frames := 1, cells := 0, slots := 0, locals := 21 }) (va_Pc [.ref (q 17), .int (nI i)] (cP (dC, dI) vwCl [(cI, .int), (cZ, .boolean)] (wX q cI cZ r k a) eT sz)) (va_Qi (fun (x : Int32) (_ : Unit) => x = nI (r.vb i)) (fun (_ : Unit) => cB (dC, dI) vwCl [(cI, .int), (cZ, .boolean)] (wX q cI cZ r k a) (va_A (wX q cI cZ r k a) sz)) (va_A (wX q cI cZ r k a) sz)) 0 0 (va_A (wX q cI cZ r k a) sz) := by
  refine xm_of (cc := cX3_value) (maxL := 2) (ret := some .int) (by decide) rfl (Nat.le_of_ble_eq_true rfl) ?_
  intro p e s m below meth c A hAe hx hb hr hml hts0 hown hlk hin hsz H locs hP hK hD hA hS hE ls hl
  have hts : ∀ w ∈ ALLG, w.before _ s = true := fun w h => hts0 w (List.mem_cons_of_mem _ h)
  rw [← hAe]
  have b_n := hB.1
  have b_c := hB.2.1
  have b_p := hB.2.2.1
  have hl : lv_has ls 2 [(0, .ref (q 17)), (1, .int (nI i))] := hl
  refine lv_aload_n hx hb dX3_value_0 rfl (lv_at hl 0 rfl) ?_
  refine lv_iload_n hx hb dX3_value_1 rfl (lv_at hl 1 rfl) ?_
  refine xc_Vv (As := [.int (nI i)]) (wr := []) ⟨hx, hb, hml, hown, hts⟩ (c_ScanRows_requireLatch l dC dI q cI cZ H.size r k a i h1 (by omega)) (cwV 1 hts (gV tw_406 tw_408 sw_13 tw_1 tw_409) rfl rfl rfl (by decide +kernel) ⟨Nat.le_of_ble_eq_true rfl, Nat.le_of_ble_eq_true rfl⟩) rfl hl.1 rfl (Nat.le_of_ble_eq_true rfl) dX3_value_2 ⟨Nat.zero_le _, Nat.zero_le _⟩ hP hD hK hS hA [0, 1, 2, 3, 4, 5, 6, 7, 8, 9, 10, 11, 12, 13, 14, 15, 16, 17] [] rfl rfl (by decide) (by decide) (by decide) [0, 1] rfl (q0 := 17) rfl rfl rfl eT_M (trivial) (fun u_2 H locs w_3 hP hD hS => ?_)
  have hP : va_P (dC, dI) vwCl (wX q cI cZ r k a) H := hP
  have hD : va_D A (wX q cI cZ r k a) := hD
  refine lv_aload_n hx hb dX3_value_5 rfl (lv_at hl 0 rfl) ?_
  refine va_get (D := (dC, dI)) (ci := 3) (v := .ref (q 0)) (C := RX3) (T := TX3) (N := 3) hx hb hts inX3 hown hK hP 17 rfl rfl 0 (by decide) (hts _ tw_131) (fun _ h9 => h9) rfl dX3_value_6 ?_
  refine va_get (D := (dC, dI)) (ci := 2) (v := .ref (q 1)) (C := RX2) (T := TX2) (N := 12) hx hb hts inX2 hown hK hP 0 rfl rfl 3 (by decide) (hts _ tw_34) (fun _ h9 => h9) rfl dX3_value_9 ?_
  refine lv_iload_n hx hb dX3_value_12 rfl (lv_at hl 1 rfl) ?_
  refine xa_ild hx hb hK hP 1 0 rfl rfl (v := nI ((RS.vb r) i)) (by omega) (by decide) rfl dX3_value_13 ?_
  exact xr_i hx hb hr hlk (u := ()) rfl hP hK hD hS dX3_value_14
set_option maxHeartbeats 4000000 in
set_option maxRecDepth 100000 in
theorem c_ScanRows_shift (l : Launch) (dC : Nat → ClassId) (dI : Nat → Nat → Nat) (q : Nat → Nat) (cI cZ : ClassId) (sz : Nat) (r : RS) (k : CS) (a : AS) (bits : Int32) (hB : RB r) : Met l yX3_shift (.code yX3_shift cX3_shift 2 (some .int) :: ALLG) ({ frames := 2, cells := 0, slots := 0, locals := 51 }) (va_Pc [.ref (q 17), .int bits] (cP (dC, dI) vwCl [(cI, .int), (cZ, .boolean)] (wX q cI cZ r k a) eT sz)) (va_Qi (fun (x : Int32) (u : RS) => x = (shC r bits r.c).1 ∧ u = r.s_vb (shC r bits r.c).2) (fun (u : RS) => cB (dC, dI) vwCl [(cI, .int), (cZ, .boolean)] (wX q cI cZ u k a) (va_A (wX q cI cZ r k a) sz)) (va_A (wX q cI cZ r k a) sz)) 0 0 (va_A (wX q cI cZ r k a) sz) := by
  refine xm_of (cc := cX3_shift) (maxL := 2) (ret := some .int) (by decide) rfl (Nat.le_of_ble_eq_true rfl) ?_
  intro p e s m below meth c A hAe hx hb hr hml hts0 hown hlk hin hsz H locs hP hK hD hA hS hE ls hl
  have hts : ∀ w ∈ ALLG, w.before _ s = true := fun w h => hts0 w (List.mem_cons_of_mem _ h)
  rw [← hAe]
  have hl : lv_has ls 2 [(0, .ref (q 17)), (1, .int bits)] := hl
  refine lv_aload_n hx hb dX3_shift_0 rfl (lv_at hl 0 rfl) ?_
  refine va_get (D := (dC, dI)) (ci := 3) (v := .ref (q 0)) (C := RX3) (T := TX3) (N := 3) hx hb hts inX3 hown hK hP 17 rfl rfl 0 (by decide) (hts _ tw_131) (fun _ h9 => h9) rfl dX3_shift_1 ?_
  refine lv_iload_n hx hb dX3_shift_4 rfl (lv_at hl 1 rfl) ?_
  refine xc_Vi (As := [.int bits]) (wr := wC q cI k ++ wA q cI a ++ wSf q) ⟨hx, hb, hml, hown, hts⟩ (c_Rows_shiftChains l dC dI q cI cZ H.size r bits hB) (cwV 1 hts (gV tw_164 tw_165 tw_166 tw_2 tw_167) rfl rfl rfl (by decide +kernel) ⟨Nat.le_of_ble_eq_true rfl, Nat.le_of_ble_eq_true rfl⟩) rfl hl.1 rfl (Nat.le_of_ble_eq_true rfl) dX3_shift_5 ⟨Nat.zero_le _, Nat.zero_le _⟩ hP hD hK hS hA [0, 1, 2, 3, 4, 5, 6, 7, 8, 9] [10, 11, 12, 13, 14, 15, 16, 17] rfl rfl (by decide) (by decide) (by decide) [0, 1] rfl (q0 := 0) rfl rfl rfl eT_M (trivial) (fun r_1 u_2 H locs w_3 hP hD hS => ?_)
  obtain ⟨rfl, rfl⟩ := w_3
  have hP : va_P (dC, dI) vwCl (wX q cI cZ (RS.s_vb r (shC r bits r.c).2) k a) H := hP.sub [8, 9, 10, 11, 12, 13, 14, 15, 16, 17, 0, 1, 2, 3, 4, 5, 6, 7] rfl
  have hD : va_D A (wX q cI cZ (RS.s_vb r (shC r bits r.c).2) k a) := hD.sub [8, 9, 10, 11, 12, 13, 14, 15, 16, 17, 0, 1, 2, 3, 4, 5, 6, 7] (by decide) rfl
  exact xr_i hx hb hr hlk (u := RS.s_vb r (shC r bits r.c).2) (⟨rfl, rfl⟩) hP hK hD hS dX3_shift_8
set_option maxHeartbeats 4000000 in
set_option maxRecDepth 100000 in
theorem c_ScanRows_port (l : Launch) (dC : Nat → ClassId) (dI : Nat → Nat → Nat) (q : Nat → Nat) (cI cZ : ClassId) (sz : Nat) (r : RS) (k : CS) (a : AS) (kd : Nat) (h1 : k.n < 20) (h2 : kd < 2) : Met l yX3_port (.code yX3_port cX3_port 2 (some .int) :: ALLG) ({ frames := 1, cells := 0, slots := 0, locals := 22 }) (va_Pc [.ref (q 17), .int (nI kd)] (cP (dC, dI) vwCl [(cI, .int), (cZ, .boolean)] (wX q cI cZ r k a) eT sz)) (va_Qi (fun (x : Int32) (u : CS) => x = nI k.n ∧ u = (k.s_ki (va_up k.ki k.n kd)).s_n (k.n + 1)) (fun (u : CS) => cB (dC, dI) vwCl [(cI, .int), (cZ, .boolean)] (wX q cI cZ r u a) (va_A (wX q cI cZ r k a) sz)) (va_A (wX q cI cZ r k a) sz)) 0 0 (va_A (wX q cI cZ r k a) sz) := by
  refine xm_of (cc := cX3_port) (maxL := 2) (ret := some .int) (by decide) rfl (Nat.le_of_ble_eq_true rfl) ?_
  intro p e s m below meth c A hAe hx hb hr hml hts0 hown hlk hin hsz H locs hP hK hD hA hS hE ls hl
  have hts : ∀ w ∈ ALLG, w.before _ s = true := fun w h => hts0 w (List.mem_cons_of_mem _ h)
  rw [← hAe]
  have hl : lv_has ls 2 [(0, .ref (q 17)), (1, .int (nI kd))] := hl
  refine lv_aload_n hx hb dX3_port_0 rfl (lv_at hl 0 rfl) ?_
  refine va_get (D := (dC, dI)) (ci := 3) (v := .ref (q 10)) (C := RX3) (T := TX3) (N := 3) hx hb hts inX3 hown hK hP 17 rfl rfl 1 (by decide) (hts _ tw_132) (fun _ h9 => h9) rfl dX3_port_1 ?_
  refine va_get (D := (dC, dI)) (ci := 1) (v := .int (nI (CS.n k))) (C := RX1) (T := TX1) (N := 5) hx hb hts inX1 hown hK hP 10 rfl rfl 0 (by decide) (hts _ tw_78) (fun _ h9 => h9) rfl dX3_port_4 ?_
  refine lv_bipush (v := nI 20) hx hb dX3_port_7 (by decide) ?_
  refine xn_clt (tgt := 22) hx hb (by omega) (by omega) dX3_port_9 (by decide) (fun c_1 => ?_) (fun c_1 => ?_)
  · refine lv_iload_n hx hb dX3_port_22 rfl (lv_at hl 1 rfl) ?_
    refine xn_zeq (tgt := 41) hx hb (by omega) dX3_port_23 (by decide) (fun c_2 => ?_) (fun c_2 => ?_)
    · refine lv_aload_n hx hb dX3_port_41 rfl (lv_at hl 0 rfl) ?_
      refine va_get (D := (dC, dI)) (ci := 3) (v := .ref (q 10)) (C := RX3) (T := TX3) (N := 3) hx hb hts inX3 hown hK hP 17 rfl rfl 1 (by decide) (hts _ tw_132) (fun _ h9 => h9) rfl dX3_port_42 ?_
      refine lv_iload_n hx hb dX3_port_45 rfl (lv_at hl 1 rfl) ?_
      refine xc_Vi (As := [.int (nI kd)]) (wr := wR q cI cZ r ++ wA q cI a ++ wSf q) ⟨hx, hb, hml, hown, hts⟩ (c_Cells_addCell l dC dI q cI cZ H.size k kd h1) (cwV 1 hts (gV tw_441 tw_442 tw_443 tw_3 tw_444) rfl rfl rfl (by decide +kernel) ⟨Nat.le_of_ble_eq_true rfl, Nat.le_of_ble_eq_true rfl⟩) rfl hl.1 rfl (Nat.le_of_ble_eq_true rfl) dX3_port_46 ⟨Nat.zero_le _, Nat.zero_le _⟩ hP hD hK hS hA [10, 11, 12, 13, 14] [0, 1, 2, 3, 4, 5, 6, 7, 8, 9, 15, 16, 17] rfl rfl (by decide) (by decide) (by decide) [0, 1] rfl (q0 := 0) rfl rfl rfl eT_M (trivial) (fun r_3 u_4 H locs w_5 hP hD hS => ?_)
      obtain ⟨rfl, rfl⟩ := w_5
      have hP : va_P (dC, dI) vwCl (wX q cI cZ r (CS.s_n (CS.s_ki k (va_up (CS.ki k) (CS.n k) kd)) (CS.n k + 1)) a) H := hP.sub [0, 1, 2, 3, 4, 5, 6, 7, 8, 9, 13, 14, 15, 16, 17, 10, 11, 12] rfl
      have hD : va_D A (wX q cI cZ r (CS.s_n (CS.s_ki k (va_up (CS.ki k) (CS.n k) kd)) (CS.n k + 1)) a) := hD.sub [0, 1, 2, 3, 4, 5, 6, 7, 8, 9, 13, 14, 15, 16, 17, 10, 11, 12] (by decide) rfl
      exact xr_i hx hb hr hlk (u := CS.s_n (CS.s_ki k (va_up (CS.ki k) (CS.n k) kd)) (CS.n k + 1)) (⟨rfl, rfl⟩) hP hK hD hS dX3_port_49
    · refine lv_iload_n hx hb dX3_port_26 rfl (lv_at hl 1 rfl) ?_
      refine lv_iconst (v := nI 1) hx hb dX3_port_27 (by decide) ?_
      refine xn_ceq (tgt := 41) hx hb (by omega) (by omega) dX3_port_28 (by decide) (fun c_6 => ?_) (fun c_6 => ?_)
      · refine lv_aload_n hx hb dX3_port_41 rfl (lv_at hl 0 rfl) ?_
        refine va_get (D := (dC, dI)) (ci := 3) (v := .ref (q 10)) (C := RX3) (T := TX3) (N := 3) hx hb hts inX3 hown hK hP 17 rfl rfl 1 (by decide) (hts _ tw_132) (fun _ h9 => h9) rfl dX3_port_42 ?_
        refine lv_iload_n hx hb dX3_port_45 rfl (lv_at hl 1 rfl) ?_
        refine xc_Vi (As := [.int (nI kd)]) (wr := wR q cI cZ r ++ wA q cI a ++ wSf q) ⟨hx, hb, hml, hown, hts⟩ (c_Cells_addCell l dC dI q cI cZ H.size k kd h1) (cwV 1 hts (gV tw_441 tw_442 tw_443 tw_3 tw_444) rfl rfl rfl (by decide +kernel) ⟨Nat.le_of_ble_eq_true rfl, Nat.le_of_ble_eq_true rfl⟩) rfl hl.1 rfl (Nat.le_of_ble_eq_true rfl) dX3_port_46 ⟨Nat.zero_le _, Nat.zero_le _⟩ hP hD hK hS hA [10, 11, 12, 13, 14] [0, 1, 2, 3, 4, 5, 6, 7, 8, 9, 15, 16, 17] rfl rfl (by decide) (by decide) (by decide) [0, 1] rfl (q0 := 0) rfl rfl rfl eT_M (trivial) (fun r_7 u_8 H locs w_9 hP hD hS => ?_)
        obtain ⟨rfl, rfl⟩ := w_9
        have hP : va_P (dC, dI) vwCl (wX q cI cZ r (CS.s_n (CS.s_ki k (va_up (CS.ki k) (CS.n k) kd)) (CS.n k + 1)) a) H := hP.sub [0, 1, 2, 3, 4, 5, 6, 7, 8, 9, 13, 14, 15, 16, 17, 10, 11, 12] rfl
        have hD : va_D A (wX q cI cZ r (CS.s_n (CS.s_ki k (va_up (CS.ki k) (CS.n k) kd)) (CS.n k + 1)) a) := hD.sub [0, 1, 2, 3, 4, 5, 6, 7, 8, 9, 13, 14, 15, 16, 17, 10, 11, 12] (by decide) rfl
        exact xr_i hx hb hr hlk (u := CS.s_n (CS.s_ki k (va_up (CS.ki k) (CS.n k) kd)) (CS.n k + 1)) (⟨rfl, rfl⟩) hP hK hD hS dX3_port_49
      · exact absurd (show False by omega) id
  · exact absurd (show False by omega) id
set_option maxHeartbeats 4000000 in
set_option maxRecDepth 100000 in
theorem c_ScanRows_pin (l : Launch) (dC : Nat → ClassId) (dI : Nat → Nat → Nat) (q : Nat → Nat) (cI cZ : ClassId) (sz : Nat) (r : RS) (k : CS) (a : AS) (i : Nat) (v : Int32) (h1 : i < k.n) (h2 : k.n ≤ 20) : Met l yX3_pin (.code yX3_pin cX3_pin 3 none :: ALLG) ({ frames := 1, cells := 0, slots := 0, locals := 21 }) (va_Pc [.ref (q 17), .int (nI i), .int v] (cP (dC, dI) vwCl [(cI, .int), (cZ, .boolean)] (wX q cI cZ r k a) eT sz)) (va_Qv (fun (u : CS) => u = k.s_pin (va_up k.pin i (bitN v))) (fun (u : CS) => cB (dC, dI) vwCl [(cI, .int), (cZ, .boolean)] (wX q cI cZ r u a) (va_A (wX q cI cZ r k a) sz)) (va_A (wX q cI cZ r k a) sz)) 0 0 (va_A (wX q cI cZ r k a) sz) := by
  refine xm_of (cc := cX3_pin) (maxL := 3) (ret := none) (by decide) rfl (Nat.le_of_ble_eq_true rfl) ?_
  intro p e s m below meth c A hAe hx hb hr hml hts0 hown hlk hin hsz H locs hP hK hD hA hS hE ls hl
  have hts : ∀ w ∈ ALLG, w.before _ s = true := fun w h => hts0 w (List.mem_cons_of_mem _ h)
  rw [← hAe]
  have hl : lv_has ls 3 [(0, .ref (q 17)), (1, .int (nI i)), (2, .int v)] := hl
  refine lv_aload_n hx hb dX3_pin_0 rfl (lv_at hl 0 rfl) ?_
  refine lv_iload_n hx hb dX3_pin_1 rfl (lv_at hl 1 rfl) ?_
  refine xc_Vv (As := [.int (nI i)]) (wr := []) ⟨hx, hb, hml, hown, hts⟩ (c_ScanRows_requireCell l dC dI q cI cZ H.size r k a i h1 (by omega)) (cwV 1 hts (gV tw_452 tw_454 sw_14 tw_1 tw_455) rfl rfl rfl (by decide +kernel) ⟨Nat.le_of_ble_eq_true rfl, Nat.le_of_ble_eq_true rfl⟩) rfl hl.1 rfl (Nat.le_of_ble_eq_true rfl) dX3_pin_2 ⟨Nat.zero_le _, Nat.zero_le _⟩ hP hD hK hS hA [0, 1, 2, 3, 4, 5, 6, 7, 8, 9, 10, 11, 12, 13, 14, 15, 16, 17] [] rfl rfl (by decide) (by decide) (by decide) [0, 1] rfl (q0 := 17) rfl rfl rfl eT_M (trivial) (fun u_2 H locs w_3 hP hD hS => ?_)
  have hP : va_P (dC, dI) vwCl (wX q cI cZ r k a) H := hP
  have hD : va_D A (wX q cI cZ r k a) := hD
  refine lv_aload_n hx hb dX3_pin_5 rfl (lv_at hl 0 rfl) ?_
  refine va_get (D := (dC, dI)) (ci := 3) (v := .ref (q 10)) (C := RX3) (T := TX3) (N := 3) hx hb hts inX3 hown hK hP 17 rfl rfl 1 (by decide) (hts _ tw_132) (fun _ h9 => h9) rfl dX3_pin_6 ?_
  refine va_get (D := (dC, dI)) (ci := 1) (v := .ref (q 11)) (C := RX1) (T := TX1) (N := 5) hx hb hts inX1 hown hK hP 10 rfl rfl 1 (by decide) (hts _ tw_80) (fun _ h9 => h9) rfl dX3_pin_9 ?_
  refine lv_iload_n hx hb dX3_pin_12 rfl (lv_at hl 1 rfl) ?_
  refine lv_iload_n hx hb dX3_pin_13 rfl (lv_at hl 2 rfl) ?_
  refine xc_Si (As := [.int v]) (wr := wX q cI cZ r k a) ⟨hx, hb, hml, hown, hts⟩ (c_ScanRows_asBit l dC dI q cI cZ H.size v) (cwS 1 hts (gS tw_422 tw_423 tw_1 tw_424) rfl rfl rfl (by decide +kernel) ⟨Nat.le_of_ble_eq_true rfl, Nat.le_of_ble_eq_true rfl⟩) rfl hl.1 rfl (Nat.le_of_ble_eq_true rfl) dX3_pin_14 ⟨Nat.zero_le _, Nat.zero_le _⟩ hP hD hK hS hA [] [0, 1, 2, 3, 4, 5, 6, 7, 8, 9, 10, 11, 12, 13, 14, 15, 16, 17] rfl rfl (by decide) (by decide) (by decide) [0, 1] rfl eT_M (trivial) (fun r_4 u_5 H locs w_6 hP hD hS => ?_)
  obtain rfl := w_6
  have hP : va_P (dC, dI) vwCl (wX q cI cZ r k a) H := hP
  have hD : va_D A (wX q cI cZ r k a) := hD
  refine xa_ist hx hb hK hP hD hS 11 0 rfl rfl (by omega) (by decide) (aN_up _ _ _) dX3_pin_17 (fun H locs hP hD hS => ?_)
  have hP : va_P (dC, dI) vwCl (wX q cI cZ r (CS.s_pin k (va_up (CS.pin k) i (bitN v))) a) H := hP
  have hD : va_D A (wX q cI cZ r (CS.s_pin k (va_up (CS.pin k) i (bitN v))) a) := hD
  exact xr_v hx hb hr hlk (u := CS.s_pin k (va_up (CS.pin k) i (bitN v))) rfl hP hK hD hS dX3_pin_18
set_option maxHeartbeats 4000000 in
set_option maxRecDepth 100000 in
theorem c_ScanRows_boundary (l : Launch) (dC : Nat → ClassId) (dI : Nat → Nat → Nat) (q : Nat → Nat) (cI cZ : ClassId) (sz : Nat) (r : RS) (k : CS) (a : AS) (i : Nat) (h1 : i < k.n) (h2 : k.n ≤ 20) (h3 : k.ki i < 2) (h4 : a.co < 16) : Met l yX3_boundary (.code yX3_boundary cX3_boundary 2 (some .int) :: ALLG) ({ frames := 1, cells := 0, slots := 0, locals := 22 }) (va_Pc [.ref (q 17), .int (nI i)] (cP (dC, dI) vwCl [(cI, .int), (cZ, .boolean)] (wX q cI cZ r k a) eT sz)) (va_Qi (fun (x : Int32) (_ : Unit) => x = nI (drv k i (if a.co = 0 then 1 else 0))) (fun (_ : Unit) => cB (dC, dI) vwCl [(cI, .int), (cZ, .boolean)] (wX q cI cZ r k a) (va_A (wX q cI cZ r k a) sz)) (va_A (wX q cI cZ r k a) sz)) 0 0 (va_A (wX q cI cZ r k a) sz) := by
  refine xm_of (cc := cX3_boundary) (maxL := 2) (ret := some .int) (by decide) rfl (Nat.le_of_ble_eq_true rfl) ?_
  intro p e s m below meth c A hAe hx hb hr hml hts0 hown hlk hin hsz H locs hP hK hD hA hS hE ls hl
  have hts : ∀ w ∈ ALLG, w.before _ s = true := fun w h => hts0 w (List.mem_cons_of_mem _ h)
  rw [← hAe]
  have hl : lv_has ls 2 [(0, .ref (q 17)), (1, .int (nI i))] := hl
  refine lv_aload_n hx hb dX3_boundary_0 rfl (lv_at hl 0 rfl) ?_
  refine lv_iload_n hx hb dX3_boundary_1 rfl (lv_at hl 1 rfl) ?_
  refine xc_Vv (As := [.int (nI i)]) (wr := []) ⟨hx, hb, hml, hown, hts⟩ (c_ScanRows_requireCell l dC dI q cI cZ H.size r k a i h1 (by omega)) (cwV 1 hts (gV tw_452 tw_454 sw_14 tw_1 tw_455) rfl rfl rfl (by decide +kernel) ⟨Nat.le_of_ble_eq_true rfl, Nat.le_of_ble_eq_true rfl⟩) rfl hl.1 rfl (Nat.le_of_ble_eq_true rfl) dX3_boundary_2 ⟨Nat.zero_le _, Nat.zero_le _⟩ hP hD hK hS hA [0, 1, 2, 3, 4, 5, 6, 7, 8, 9, 10, 11, 12, 13, 14, 15, 16, 17] [] rfl rfl (by decide) (by decide) (by decide) [0, 1] rfl (q0 := 17) rfl rfl rfl eT_M (trivial) (fun u_2 H locs w_3 hP hD hS => ?_)
  have hP : va_P (dC, dI) vwCl (wX q cI cZ r k a) H := hP
  have hD : va_D A (wX q cI cZ r k a) := hD
  refine lv_aload_n hx hb dX3_boundary_5 rfl (lv_at hl 0 rfl) ?_
  refine va_get (D := (dC, dI)) (ci := 3) (v := .ref (q 10)) (C := RX3) (T := TX3) (N := 3) hx hb hts inX3 hown hK hP 17 rfl rfl 1 (by decide) (hts _ tw_132) (fun _ h9 => h9) rfl dX3_boundary_6 ?_
  refine lv_iload_n hx hb dX3_boundary_9 rfl (lv_at hl 1 rfl) ?_
  refine lv_aload_n hx hb dX3_boundary_10 rfl (lv_at hl 0 rfl) ?_
  refine va_get (D := (dC, dI)) (ci := 3) (v := .ref (q 15)) (C := RX3) (T := TX3) (N := 3) hx hb hts inX3 hown hK hP 17 rfl rfl 2 (by decide) (hts _ tw_133) (fun _ h9 => h9) rfl dX3_boundary_11 ?_
  refine va_get (D := (dC, dI)) (ci := 0) (v := .int (nI (AS.co a))) (C := RX0) (T := TX0) (N := 9) hx hb hts inX0 hown hK hP 15 rfl rfl 1 (by decide) (hts _ tw_104) (fun _ h9 => h9) rfl dX3_boundary_14 ?_
  refine xn_zne (tgt := 24) hx hb (by omega) dX3_boundary_17 (by decide) (fun c_4 => ?_) (fun c_4 => ?_)
  · refine lv_iconst (v := nI 0) hx hb dX3_boundary_24 (by decide) ?_
    refine xc_Vi (As := [.int (nI i), .int (nI 0)]) (wr := wR q cI cZ r ++ wA q cI a ++ wSf q) ⟨hx, hb, hml, hown, hts⟩ (c_Cells_drivenAt l dC dI q cI cZ H.size k i 0 (by omega) (by decide) h3) (cwV 2 hts (gV tw_550 tw_551 tw_552 tw_3 tw_553) rfl rfl rfl (by decide +kernel) ⟨Nat.le_of_ble_eq_true rfl, Nat.le_of_ble_eq_true rfl⟩) rfl hl.1 rfl (Nat.le_of_ble_eq_true rfl) dX3_boundary_25 ⟨Nat.zero_le _, Nat.zero_le _⟩ hP hD hK hS hA [10, 11, 12, 13, 14] [0, 1, 2, 3, 4, 5, 6, 7, 8, 9, 15, 16, 17] rfl rfl (by decide) (by decide) (by decide) [0, 1] rfl (q0 := 0) rfl rfl rfl eT_M (trivial) (fun r_5 u_6 H locs w_7 hP hD hS => ?_)
    obtain rfl := w_7
    have hP : va_P (dC, dI) vwCl (wX q cI cZ r k a) H := hP.sub [0, 1, 2, 3, 4, 5, 6, 7, 8, 9, 13, 14, 15, 16, 17, 10, 11, 12] rfl
    have hD : va_D A (wX q cI cZ r k a) := hD.sub [0, 1, 2, 3, 4, 5, 6, 7, 8, 9, 13, 14, 15, 16, 17, 10, 11, 12] (by decide) rfl
    exact xr_i hx hb hr hlk (u := ()) (by rw [if_neg (by omega)]) hP hK hD hS dX3_boundary_28
  · refine lv_iconst (v := nI 1) hx hb dX3_boundary_20 (by decide) ?_
    refine lv_goto (tgt := 25) hx hb dX3_boundary_21 (by decide) ?_
    refine xc_Vi (As := [.int (nI i), .int (nI 1)]) (wr := wR q cI cZ r ++ wA q cI a ++ wSf q) ⟨hx, hb, hml, hown, hts⟩ (c_Cells_drivenAt l dC dI q cI cZ H.size k i 1 (by omega) (by decide) h3) (cwV 2 hts (gV tw_550 tw_551 tw_552 tw_3 tw_553) rfl rfl rfl (by decide +kernel) ⟨Nat.le_of_ble_eq_true rfl, Nat.le_of_ble_eq_true rfl⟩) rfl hl.1 rfl (Nat.le_of_ble_eq_true rfl) dX3_boundary_25 ⟨Nat.zero_le _, Nat.zero_le _⟩ hP hD hK hS hA [10, 11, 12, 13, 14] [0, 1, 2, 3, 4, 5, 6, 7, 8, 9, 15, 16, 17] rfl rfl (by decide) (by decide) (by decide) [0, 1] rfl (q0 := 0) rfl rfl rfl eT_M (trivial) (fun r_8 u_9 H locs w_10 hP hD hS => ?_)
    obtain rfl := w_10
    have hP : va_P (dC, dI) vwCl (wX q cI cZ r k a) H := hP.sub [0, 1, 2, 3, 4, 5, 6, 7, 8, 9, 13, 14, 15, 16, 17, 10, 11, 12] rfl
    have hD : va_D A (wX q cI cZ r k a) := hD.sub [0, 1, 2, 3, 4, 5, 6, 7, 8, 9, 13, 14, 15, 16, 17, 10, 11, 12] (by decide) rfl
    exact xr_i hx hb hr hlk (u := ()) (by rw [if_pos (by assumption)]) hP hK hD hS dX3_boundary_28
set_option maxHeartbeats 4000000 in
set_option maxRecDepth 100000 in
theorem c_ScanRows_tick (l : Launch) (dC : Nat → ClassId) (dI : Nat → Nat → Nat) (q : Nat → Nat) (cI cZ : ClassId) (sz : Nat) (r : RS) (k : CS) (a : AS) (tN m0 b : Nat) (hY : YB (r, k, a)) (hm2 : m0 < 2) (hb2 : b < 2) : Met l yX3_tick (.code yX3_tick cX3_tick 3 (some .int) :: ALLG) ({ frames := 5, cells := 0, slots := 0, locals := 113 }) (va_Pc [.ref (q 17), .int (nI m0), .int (nI b)] (cP (dC, dI) vwCl [(cI, .int), (cZ, .boolean)] (wX q cI cZ r k a) (eN tN (va_A (wX q cI cZ r k a) sz)) sz)) (va_Qi (fun (x : Int32) (u : RS × CS × AS) => x = zI (stepF r k a m0 b).1 ∧ u = (stepF r k a m0 b).2) (fun (u : RS × CS × AS) => cB (dC, dI) vwCl [(cI, .int), (cZ, .boolean)] (wX q cI cZ u.1 u.2.1 u.2.2) (va_A (wX q cI cZ r k a) sz)) (va_A (wX q cI cZ r k a) sz)) 0 0 (va_A (wX q cI cZ r k a) sz) := by
  refine xm_of (cc := cX3_tick) (maxL := 3) (ret := some .int) (by decide) rfl (Nat.le_of_ble_eq_true rfl) ?_
  intro p e s m below meth c A hAe hx hb hr hml hts0 hown hlk hin hsz H locs hP hK hD hA hS hE ls hl
  have hts : ∀ w ∈ ALLG, w.before _ s = true := fun w h => hts0 w (List.mem_cons_of_mem _ h)
  rw [← hAe]
  rw [← hAe] at hE
  have hl : lv_has ls 3 [(0, .ref (q 17)), (1, .int (nI m0)), (2, .int (nI b))] := hl
  refine lv_iload_n hx hb dX3_tick_0 rfl (lv_at hl 1 rfl) ?_
  refine xn_zlt (tgt := 18) hx hb (by omega) dX3_tick_1 (by decide) ?_
  refine lv_iload_n hx hb dX3_tick_4 rfl (lv_at hl 1 rfl) ?_
  refine lv_iconst (v := nI 1) hx hb dX3_tick_5 (by decide) ?_
  refine xn_cgt (tgt := 18) hx hb (by omega) (by omega) dX3_tick_6 (by decide) (fun c_2 => ?_) (fun c_2 => ?_)
  · exact absurd (show False by omega) id
  · refine lv_iload_n hx hb dX3_tick_9 rfl (lv_at hl 2 rfl) ?_
    refine xn_zlt (tgt := 18) hx hb (by omega) dX3_tick_10 (by decide) ?_
    refine lv_iload_n hx hb dX3_tick_13 rfl (lv_at hl 2 rfl) ?_
    refine lv_iconst (v := nI 1) hx hb dX3_tick_14 (by decide) ?_
    refine xn_cle (tgt := 28) hx hb (by omega) (by omega) dX3_tick_15 (by decide) (fun c_4 => ?_) (fun c_4 => ?_)
    · refine lv_aload_n hx hb dX3_tick_28 rfl (lv_at hl 0 rfl) ?_
      refine va_get (D := (dC, dI)) (ci := 3) (v := .ref (q 15)) (C := RX3) (T := TX3) (N := 3) hx hb hts inX3 hown hK hP 17 rfl rfl 2 (by decide) (hts _ tw_133) (fun _ h9 => h9) rfl dX3_tick_29 ?_
      refine lv_iload_n hx hb dX3_tick_32 rfl (lv_at hl 1 rfl) ?_
      refine lv_iload_n hx hb dX3_tick_33 rfl (lv_at hl 2 rfl) ?_
      refine xc_Vi (As := [.int (nI m0), .int (nI b)]) (wr := wSf q) ⟨hx, hb, hml, hown, hts⟩ (c_Access_step l dC dI q cI cZ H.size r k a tN m0 b hY hm2 hb2) (cwV 2 hts (gV tw_465 tw_466 tw_467 tw_4 tw_468) rfl rfl rfl (by decide +kernel) ⟨Nat.le_of_ble_eq_true rfl, Nat.le_of_ble_eq_true rfl⟩) rfl hl.1 rfl (Nat.le_of_ble_eq_true rfl) dX3_tick_34 ⟨Nat.zero_le _, Nat.zero_le _⟩ hP hD hK hS hA [0, 1, 2, 3, 4, 5, 6, 7, 8, 9, 10, 11, 12, 13, 14, 15, 16] [17] rfl rfl (by decide) (by decide) (by decide) [0, 1] rfl (q0 := 15) rfl rfl rfl (eN_M _ _) (eN_kn hE hS (va_free (wc := wY q cI cZ r k a) hD hS hA [0, 1, 2, 3, 4, 5, 6, 7, 8, 9, 10, 11, 12, 13, 14, 15, 16] rfl)) (fun r_5 u_6 H locs w_7 hP hD hS => ?_)
      obtain ⟨rfl, rfl⟩ := w_7
      have hP : va_P (dC, dI) vwCl (wX q cI cZ (((stepF r k a m0 b).2).1) (((stepF r k a m0 b).2).2.1) (((stepF r k a m0 b).2).2.2)) H := hP.sub [1, 2, 3, 4, 5, 6, 7, 8, 9, 10, 11, 12, 13, 14, 15, 16, 17, 0] rfl
      have hD : va_D A (wX q cI cZ (((stepF r k a m0 b).2).1) (((stepF r k a m0 b).2).2.1) (((stepF r k a m0 b).2).2.2)) := hD.sub [1, 2, 3, 4, 5, 6, 7, 8, 9, 10, 11, 12, 13, 14, 15, 16, 17, 0] (by decide) rfl
      exact xr_i hx hb hr hlk (u := (((stepF r k a m0 b).2).1, ((stepF r k a m0 b).2).2.1, ((stepF r k a m0 b).2).2.2)) (⟨rfl, rfl⟩) hP hK hD hS dX3_tick_37
    · exact absurd (show False by omega) id
set_option maxHeartbeats 4000000 in
set_option maxRecDepth 100000 in
theorem c_ScanRows_state (l : Launch) (dC : Nat → ClassId) (dI : Nat → Nat → Nat) (q : Nat → Nat) (cI cZ : ClassId) (sz : Nat) (r : RS) (k : CS) (a : AS) : Met l yX3_state (.code yX3_state cX3_state 1 (some .int) :: ALLG) ({ frames := 0, cells := 0, slots := 0, locals := 0 }) (va_Pc [.ref (q 17)] (cP (dC, dI) vwCl [(cI, .int), (cZ, .boolean)] (wX q cI cZ r k a) eT sz)) (va_Qi (fun (x : Int32) (_ : Unit) => x = nI a.st) (fun (_ : Unit) => cB (dC, dI) vwCl [(cI, .int), (cZ, .boolean)] (wX q cI cZ r k a) (va_A (wX q cI cZ r k a) sz)) (va_A (wX q cI cZ r k a) sz)) 0 0 (va_A (wX q cI cZ r k a) sz) := by
  refine xm_of (cc := cX3_state) (maxL := 1) (ret := some .int) (by decide) rfl (Nat.le_of_ble_eq_true rfl) ?_
  intro p e s m below meth c A hAe hx hb hr hml hts0 hown hlk hin hsz H locs hP hK hD hA hS hE ls hl
  have hts : ∀ w ∈ ALLG, w.before _ s = true := fun w h => hts0 w (List.mem_cons_of_mem _ h)
  rw [← hAe]
  have hl : lv_has ls 1 [(0, .ref (q 17))] := hl
  refine lv_aload_n hx hb dX3_state_0 rfl (lv_at hl 0 rfl) ?_
  refine va_get (D := (dC, dI)) (ci := 3) (v := .ref (q 15)) (C := RX3) (T := TX3) (N := 3) hx hb hts inX3 hown hK hP 17 rfl rfl 2 (by decide) (hts _ tw_133) (fun _ h9 => h9) rfl dX3_state_1 ?_
  refine va_get (D := (dC, dI)) (ci := 0) (v := .int (nI (AS.st a))) (C := RX0) (T := TX0) (N := 9) hx hb hts inX0 hown hK hP 15 rfl rfl 0 (by decide) (hts _ tw_102) (fun _ h9 => h9) rfl dX3_state_4 ?_
  exact xr_i hx hb hr hlk (u := ()) rfl hP hK hD hS dX3_state_7
set_option maxHeartbeats 4000000 in
set_option maxRecDepth 100000 in
theorem c_ScanRows_go (l : Launch) (dC : Nat → ClassId) (dI : Nat → Nat → Nat) (q : Nat → Nat) (cI cZ : ClassId) (sz : Nat) (r : RS) (k : CS) (a : AS) (tN goal : Nat) (hY : YB (r, k, a)) (hg : goal < 16) : Met l yX3_go (.code yX3_go cX3_go 2 (some .int) :: ALLG) ({ frames := 6, cells := 0, slots := 0, locals := 136 }) (va_Pc [.ref (q 17), .int (nI goal)] (cP (dC, dI) vwCl [(cI, .int), (cZ, .boolean)] (wX q cI cZ r k a) (eN tN (va_A (wX q cI cZ r k a) sz)) sz)) (va_Qi (fun (x : Int32) (u : RS × CS × AS) => x = nI (mtF goal a.tk a.st) ∧ u = goIt (r, k, a.s_tk (mtF goal a.tk)) (mtF goal a.tk a.st)) (fun (u : RS × CS × AS) => cB (dC, dI) vwCl [(cI, .int), (cZ, .boolean)] (wX q cI cZ u.1 u.2.1 u.2.2) (va_A (wX q cI cZ r k a) sz)) (va_A (wX q cI cZ r k a) sz)) 0 0 (va_A (wX q cI cZ r k a) sz) := by
  refine xm_of (cc := cX3_go) (maxL := 2) (ret := some .int) (by decide) rfl (Nat.le_of_ble_eq_true rfl) ?_
  intro p e s m below meth c A hAe hx hb hr hml hts0 hown hlk hin hsz H locs hP hK hD hA hS hE ls hl
  have hts : ∀ w ∈ ALLG, w.before _ s = true := fun w h => hts0 w (List.mem_cons_of_mem _ h)
  rw [← hAe]
  rw [← hAe] at hE
  have hl : lv_has ls 2 [(0, .ref (q 17)), (1, .int (nI goal))] := hl
  refine lv_iload_n hx hb dX3_go_0 rfl (lv_at hl 1 rfl) ?_
  refine xn_zlt (tgt := 10) hx hb (by omega) dX3_go_1 (by decide) ?_
  refine lv_iload_n hx hb dX3_go_4 rfl (lv_at hl 1 rfl) ?_
  refine lv_bipush (v := nI 16) hx hb dX3_go_5 (by decide) ?_
  refine xn_clt (tgt := 20) hx hb (by omega) (by omega) dX3_go_7 (by decide) (fun c_2 => ?_) (fun c_2 => ?_)
  · refine lv_aload_n hx hb dX3_go_20 rfl (lv_at hl 0 rfl) ?_
    refine va_get (D := (dC, dI)) (ci := 3) (v := .ref (q 15)) (C := RX3) (T := TX3) (N := 3) hx hb hts inX3 hown hK hP 17 rfl rfl 2 (by decide) (hts _ tw_133) (fun _ h9 => h9) rfl dX3_go_21 ?_
    refine lv_iload_n hx hb dX3_go_24 rfl (lv_at hl 1 rfl) ?_
    refine xc_Vi (As := [.int (nI goal)]) (wr := wSf q) ⟨hx, hb, hml, hown, hts⟩ (c_Access_stepUntil l dC dI q cI cZ H.size r k a tN goal hY hg) (cwV 1 hts (gV tw_527 tw_528 tw_529 tw_4 tw_530) rfl rfl rfl (by decide +kernel) ⟨Nat.le_of_ble_eq_true rfl, Nat.le_of_ble_eq_true rfl⟩) rfl hl.1 rfl (Nat.le_of_ble_eq_true rfl) dX3_go_25 ⟨Nat.zero_le _, Nat.zero_le _⟩ hP hD hK hS hA [0, 1, 2, 3, 4, 5, 6, 7, 8, 9, 10, 11, 12, 13, 14, 15, 16] [17] rfl rfl (by decide) (by decide) (by decide) [0, 1] rfl (q0 := 15) rfl rfl rfl (eN_M _ _) (eN_kn hE hS (va_free (wc := wY q cI cZ r k a) hD hS hA [0, 1, 2, 3, 4, 5, 6, 7, 8, 9, 10, 11, 12, 13, 14, 15, 16] rfl)) (fun r_3 u_4 H locs w_5 hP hD hS => ?_)
    obtain ⟨rfl, rfl⟩ := w_5
    have hP : va_P (dC, dI) vwCl (wX q cI cZ ((goIt (r, k, a.s_tk (mtF goal a.tk)) (mtF goal a.tk a.st)).1) ((goIt (r, k, a.s_tk (mtF goal a.tk)) (mtF goal a.tk a.st)).2.1) ((goIt (r, k, a.s_tk (mtF goal a.tk)) (mtF goal a.tk a.st)).2.2)) H := hP.sub [1, 2, 3, 4, 5, 6, 7, 8, 9, 10, 11, 12, 13, 14, 15, 16, 17, 0] rfl
    have hD : va_D A (wX q cI cZ ((goIt (r, k, a.s_tk (mtF goal a.tk)) (mtF goal a.tk a.st)).1) ((goIt (r, k, a.s_tk (mtF goal a.tk)) (mtF goal a.tk a.st)).2.1) ((goIt (r, k, a.s_tk (mtF goal a.tk)) (mtF goal a.tk a.st)).2.2)) := hD.sub [1, 2, 3, 4, 5, 6, 7, 8, 9, 10, 11, 12, 13, 14, 15, 16, 17, 0] (by decide) rfl
    exact xr_i hx hb hr hlk (u := ((goIt (r, k, a.s_tk (mtF goal a.tk)) (mtF goal a.tk a.st)).1, (goIt (r, k, a.s_tk (mtF goal a.tk)) (mtF goal a.tk a.st)).2.1, (goIt (r, k, a.s_tk (mtF goal a.tk)) (mtF goal a.tk a.st)).2.2)) (⟨rfl, rfl⟩) hP hK hD hS dX3_go_28
  · exact absurd (show False by omega) id
set_option maxHeartbeats 4000000 in
set_option maxRecDepth 100000 in
theorem c_ScanRows_count (l : Launch) (dC : Nat → ClassId) (dI : Nat → Nat → Nat) (q : Nat → Nat) (cI cZ : ClassId) (sz : Nat) (r : RS) (k : CS) (a : AS) (w0 : Nat) (h1 : a.co < 16) (h2 : k.n ≤ 20) (h3 : r.p ≤ 32) (h4 : w0 < 5) : Met l yX3_count (.code yX3_count cX3_count 2 (some .int) :: ALLG) ({ frames := 2, cells := 0, slots := 0, locals := 40 }) (va_Pc [.ref (q 17), .int (nI w0)] (cP (dC, dI) vwCl [(cI, .int), (cZ, .boolean)] (wX q cI cZ r k a) eT sz)) (va_Qi (fun (x : Int32) (_ : Unit) => x = nI (cntF r k a w0)) (fun (_ : Unit) => cB (dC, dI) vwCl [(cI, .int), (cZ, .boolean)] (wX q cI cZ r k a) (va_A (wX q cI cZ r k a) sz)) (va_A (wX q cI cZ r k a) sz)) 0 0 (va_A (wX q cI cZ r k a) sz) := by
  refine xm_of (cc := cX3_count) (maxL := 2) (ret := some .int) (by decide) rfl (Nat.le_of_ble_eq_true rfl) ?_
  intro p e s m below meth c A hAe hx hb hr hml hts0 hown hlk hin hsz H locs hP hK hD hA hS hE ls hl
  have hts : ∀ w ∈ ALLG, w.before _ s = true := fun w h => hts0 w (List.mem_cons_of_mem _ h)
  rw [← hAe]
  have hl : lv_has ls 2 [(0, .ref (q 17)), (1, .int (nI w0))] := hl
  refine lv_iload_n hx hb dX3_count_0 rfl (lv_at hl 1 rfl) ?_
  by_cases k_1 : w0 = 0
  · refine lv_tableIn (tgt := 36) hx hb dX3_count_1 (by rw [k_1]; decide) (by rw [k_1]; decide) (by rw [k_1]; rfl) (by decide) ?_
    refine lv_aload_n hx hb dX3_count_36 rfl (lv_at hl 0 rfl) ?_
    refine va_get (D := (dC, dI)) (ci := 3) (v := .ref (q 0)) (C := RX3) (T := TX3) (N := 3) hx hb hts inX3 hown hK hP 17 rfl rfl 0 (by decide) (hts _ tw_131) (fun _ h9 => h9) rfl dX3_count_37 ?_
    refine va_get (D := (dC, dI)) (ci := 2) (v := .int (nI (RS.n r))) (C := RX2) (T := TX2) (N := 12) hx hb hts inX2 hown hK hP 0 rfl rfl 0 (by decide) (hts _ tw_28) (fun _ h9 => h9) rfl dX3_count_40 ?_
    exact xr_i hx hb hr hlk (u := ()) (by unfold cntF; simp [k_1]) hP hK hD hS dX3_count_43
  · by_cases k_2 : w0 = 1
    · refine lv_tableIn (tgt := 44) hx hb dX3_count_1 (by rw [k_2]; decide) (by rw [k_2]; decide) (by rw [k_2]; rfl) (by decide) ?_
      refine lv_aload_n hx hb dX3_count_44 rfl (lv_at hl 0 rfl) ?_
      refine va_get (D := (dC, dI)) (ci := 3) (v := .ref (q 0)) (C := RX3) (T := TX3) (N := 3) hx hb hts inX3 hown hK hP 17 rfl rfl 0 (by decide) (hts _ tw_131) (fun _ h9 => h9) rfl dX3_count_45 ?_
      refine va_get (D := (dC, dI)) (ci := 2) (v := .int (nI (RS.c r))) (C := RX2) (T := TX2) (N := 12) hx hb hts inX2 hown hK hP 0 rfl rfl 1 (by decide) (hts _ tw_30) (fun _ h9 => h9) rfl dX3_count_48 ?_
      exact xr_i hx hb hr hlk (u := ()) (by unfold cntF; simp [k_2]) hP hK hD hS dX3_count_51
    · by_cases k_3 : w0 = 2
      · refine lv_tableIn (tgt := 52) hx hb dX3_count_1 (by rw [k_3]; decide) (by rw [k_3]; decide) (by rw [k_3]; rfl) (by decide) ?_
        refine lv_aload_n hx hb dX3_count_52 rfl (lv_at hl 0 rfl) ?_
        refine va_get (D := (dC, dI)) (ci := 3) (v := .ref (q 10)) (C := RX3) (T := TX3) (N := 3) hx hb hts inX3 hown hK hP 17 rfl rfl 1 (by decide) (hts _ tw_132) (fun _ h9 => h9) rfl dX3_count_53 ?_
        refine va_get (D := (dC, dI)) (ci := 1) (v := .int (nI (CS.n k))) (C := RX1) (T := TX1) (N := 5) hx hb hts inX1 hown hK hP 10 rfl rfl 0 (by decide) (hts _ tw_78) (fun _ h9 => h9) rfl dX3_count_56 ?_
        exact xr_i hx hb hr hlk (u := ()) (by unfold cntF; simp [k_3]) hP hK hD hS dX3_count_59
      · by_cases k_4 : w0 = 3
        · refine lv_tableIn (tgt := 60) hx hb dX3_count_1 (by rw [k_4]; decide) (by rw [k_4]; decide) (by rw [k_4]; rfl) (by decide) ?_
          refine lv_aload_n hx hb dX3_count_60 rfl (lv_at hl 0 rfl) ?_
          refine va_get (D := (dC, dI)) (ci := 3) (v := .ref (q 15)) (C := RX3) (T := TX3) (N := 3) hx hb hts inX3 hown hK hP 17 rfl rfl 2 (by decide) (hts _ tw_133) (fun _ h9 => h9) rfl dX3_count_61 ?_
          refine xc_Vi (As := []) (wr := wSf q) ⟨hx, hb, hml, hown, hts⟩ (c_Access_registerLength l dC dI q cI cZ H.size r k a h1 h2 h3) (cwV 0 hts (gV tw_561 tw_562 tw_563 tw_4 tw_564) rfl rfl rfl (by decide +kernel) ⟨Nat.le_of_ble_eq_true rfl, Nat.le_of_ble_eq_true rfl⟩) rfl hl.1 rfl (Nat.le_of_ble_eq_true rfl) dX3_count_64 ⟨Nat.zero_le _, Nat.zero_le _⟩ hP hD hK hS hA [0, 1, 2, 3, 4, 5, 6, 7, 8, 9, 10, 11, 12, 13, 14, 15, 16] [17] rfl rfl (by decide) (by decide) (by decide) [0, 1] rfl (q0 := 15) rfl rfl rfl eT_M (trivial) (fun r_5 u_6 H locs w_7 hP hD hS => ?_)
          obtain rfl := w_7
          have hP : va_P (dC, dI) vwCl (wX q cI cZ r k a) H := hP.sub [1, 2, 3, 4, 5, 6, 7, 8, 9, 10, 11, 12, 13, 14, 15, 16, 17, 0] rfl
          have hD : va_D A (wX q cI cZ r k a) := hD.sub [1, 2, 3, 4, 5, 6, 7, 8, 9, 10, 11, 12, 13, 14, 15, 16, 17, 0] (by decide) rfl
          exact xr_i hx hb hr hlk (u := ()) (by unfold cntF; simp [k_4]) hP hK hD hS dX3_count_67
        · by_cases k_8 : w0 = 4
          · refine lv_tableIn (tgt := 68) hx hb dX3_count_1 (by rw [k_8]; decide) (by rw [k_8]; decide) (by rw [k_8]; rfl) (by decide) ?_
            refine lv_aload_n hx hb dX3_count_68 rfl (lv_at hl 0 rfl) ?_
            refine va_get (D := (dC, dI)) (ci := 3) (v := .ref (q 15)) (C := RX3) (T := TX3) (N := 3) hx hb hts inX3 hown hK hP 17 rfl rfl 2 (by decide) (hts _ tw_133) (fun _ h9 => h9) rfl dX3_count_69 ?_
            refine va_get (D := (dC, dI)) (ci := 0) (v := .int (nI (AS.co a))) (C := RX0) (T := TX0) (N := 9) hx hb hts inX0 hown hK hP 15 rfl rfl 1 (by decide) (hts _ tw_104) (fun _ h9 => h9) rfl dX3_count_72 ?_
            exact xr_i hx hb hr hlk (u := ()) (by unfold cntF; simp [k_8]) hP hK hD hS dX3_count_75
          · refine lv_tableOut (tgt := 76) hx hb dX3_count_1 (by rw [nI_toInt (by omega)]; omega) (by decide) ?_
            exact absurd (show False by omega) id
end
section
abbrev MS : Type := Nat × Int32 × (Nat → Nat) × (Nat → Int) × (Nat → Int) × (Nat → Nat) × (Nat → Nat) × Nat × (Nat → Nat) × Nat × (Nat → Nat) × Nat × (Nat → Nat) × (Nat → Nat) × (Nat → Nat) × (Nat → Nat) × Nat × (Nat → Nat) × Nat × Nat × Nat × Nat × (Nat → Nat)
abbrev MS.th (r : MS) : Nat := r.1
abbrev MS.nu (r : MS) : Int32 := r.2.1
abbrev MS.ck (r : MS) : Nat → Nat := r.2.2.1
abbrev MS.xx (r : MS) : Nat → Int := r.2.2.2.1
abbrev MS.yy (r : MS) : Nat → Int := r.2.2.2.2.1
abbrev MS.vb (r : MS) : Nat → Nat := r.2.2.2.2.2.1
abbrev MS.fl (r : MS) : Nat → Nat := r.2.2.2.2.2.2.1
abbrev MS.n (r : MS) : Nat := r.2.2.2.2.2.2.2.1
abbrev MS.rw (r : MS) : Nat → Nat := r.2.2.2.2.2.2.2.2.1
abbrev MS.p (r : MS) : Nat := r.2.2.2.2.2.2.2.2.2.1
abbrev MS.st (r : MS) : Nat → Nat := r.2.2.2.2.2.2.2.2.2.2.1
abbrev MS.c (r : MS) : Nat := r.2.2.2.2.2.2.2.2.2.2.2.1
abbrev MS.ki (r : MS) : Nat → Nat := r.2.2.2.2.2.2.2.2.2.2.2.2.1
abbrev MS.pin (r : MS) : Nat → Nat := r.2.2.2.2.2.2.2.2.2.2.2.2.2.1
abbrev MS.he (r : MS) : Nat → Nat := r.2.2.2.2.2.2.2.2.2.2.2.2.2.2.1
abbrev MS.ir (r : MS) : Nat → Nat := r.2.2.2.2.2.2.2.2.2.2.2.2.2.2.2.1
abbrev MS.cn (r : MS) : Nat := r.2.2.2.2.2.2.2.2.2.2.2.2.2.2.2.2.1
abbrev MS.nb (r : MS) : Nat → Nat := r.2.2.2.2.2.2.2.2.2.2.2.2.2.2.2.2.2.1
abbrev MS.by_ (r : MS) : Nat := r.2.2.2.2.2.2.2.2.2.2.2.2.2.2.2.2.2.2.1
abbrev MS.cr (r : MS) : Nat := r.2.2.2.2.2.2.2.2.2.2.2.2.2.2.2.2.2.2.2.1
abbrev MS.co (r : MS) : Nat := r.2.2.2.2.2.2.2.2.2.2.2.2.2.2.2.2.2.2.2.2.1
abbrev MS.sa (r : MS) : Nat := r.2.2.2.2.2.2.2.2.2.2.2.2.2.2.2.2.2.2.2.2.2.1
abbrev MS.fa (r : MS) : Nat → Nat := r.2.2.2.2.2.2.2.2.2.2.2.2.2.2.2.2.2.2.2.2.2.2
abbrev MS.s_th (r : MS) (v : Nat) : MS := (v, r.2.1, r.2.2.1, r.2.2.2.1, r.2.2.2.2.1, r.2.2.2.2.2.1, r.2.2.2.2.2.2.1, r.2.2.2.2.2.2.2.1, r.2.2.2.2.2.2.2.2.1, r.2.2.2.2.2.2.2.2.2.1, r.2.2.2.2.2.2.2.2.2.2.1, r.2.2.2.2.2.2.2.2.2.2.2.1, r.2.2.2.2.2.2.2.2.2.2.2.2.1, r.2.2.2.2.2.2.2.2.2.2.2.2.2.1, r.2.2.2.2.2.2.2.2.2.2.2.2.2.2.1, r.2.2.2.2.2.2.2.2.2.2.2.2.2.2.2.1, r.2.2.2.2.2.2.2.2.2.2.2.2.2.2.2.2.1, r.2.2.2.2.2.2.2.2.2.2.2.2.2.2.2.2.2.1, r.2.2.2.2.2.2.2.2.2.2.2.2.2.2.2.2.2.2.1, r.2.2.2.2.2.2.2.2.2.2.2.2.2.2.2.2.2.2.2.1, r.2.2.2.2.2.2.2.2.2.2.2.2.2.2.2.2.2.2.2.2.1, r.2.2.2.2.2.2.2.2.2.2.2.2.2.2.2.2.2.2.2.2.2.1, r.2.2.2.2.2.2.2.2.2.2.2.2.2.2.2.2.2.2.2.2.2.2)
abbrev MS.s_nu (r : MS) (v : Int32) : MS := (r.1, v, r.2.2.1, r.2.2.2.1, r.2.2.2.2.1, r.2.2.2.2.2.1, r.2.2.2.2.2.2.1, r.2.2.2.2.2.2.2.1, r.2.2.2.2.2.2.2.2.1, r.2.2.2.2.2.2.2.2.2.1, r.2.2.2.2.2.2.2.2.2.2.1, r.2.2.2.2.2.2.2.2.2.2.2.1, r.2.2.2.2.2.2.2.2.2.2.2.2.1, r.2.2.2.2.2.2.2.2.2.2.2.2.2.1, r.2.2.2.2.2.2.2.2.2.2.2.2.2.2.1, r.2.2.2.2.2.2.2.2.2.2.2.2.2.2.2.1, r.2.2.2.2.2.2.2.2.2.2.2.2.2.2.2.2.1, r.2.2.2.2.2.2.2.2.2.2.2.2.2.2.2.2.2.1, r.2.2.2.2.2.2.2.2.2.2.2.2.2.2.2.2.2.2.1, r.2.2.2.2.2.2.2.2.2.2.2.2.2.2.2.2.2.2.2.1, r.2.2.2.2.2.2.2.2.2.2.2.2.2.2.2.2.2.2.2.2.1, r.2.2.2.2.2.2.2.2.2.2.2.2.2.2.2.2.2.2.2.2.2.1, r.2.2.2.2.2.2.2.2.2.2.2.2.2.2.2.2.2.2.2.2.2.2)
abbrev MS.s_ck (r : MS) (v : Nat → Nat) : MS := (r.1, r.2.1, v, r.2.2.2.1, r.2.2.2.2.1, r.2.2.2.2.2.1, r.2.2.2.2.2.2.1, r.2.2.2.2.2.2.2.1, r.2.2.2.2.2.2.2.2.1, r.2.2.2.2.2.2.2.2.2.1, r.2.2.2.2.2.2.2.2.2.2.1, r.2.2.2.2.2.2.2.2.2.2.2.1, r.2.2.2.2.2.2.2.2.2.2.2.2.1, r.2.2.2.2.2.2.2.2.2.2.2.2.2.1, r.2.2.2.2.2.2.2.2.2.2.2.2.2.2.1, r.2.2.2.2.2.2.2.2.2.2.2.2.2.2.2.1, r.2.2.2.2.2.2.2.2.2.2.2.2.2.2.2.2.1, r.2.2.2.2.2.2.2.2.2.2.2.2.2.2.2.2.2.1, r.2.2.2.2.2.2.2.2.2.2.2.2.2.2.2.2.2.2.1, r.2.2.2.2.2.2.2.2.2.2.2.2.2.2.2.2.2.2.2.1, r.2.2.2.2.2.2.2.2.2.2.2.2.2.2.2.2.2.2.2.2.1, r.2.2.2.2.2.2.2.2.2.2.2.2.2.2.2.2.2.2.2.2.2.1, r.2.2.2.2.2.2.2.2.2.2.2.2.2.2.2.2.2.2.2.2.2.2)
abbrev MS.s_xx (r : MS) (v : Nat → Int) : MS := (r.1, r.2.1, r.2.2.1, v, r.2.2.2.2.1, r.2.2.2.2.2.1, r.2.2.2.2.2.2.1, r.2.2.2.2.2.2.2.1, r.2.2.2.2.2.2.2.2.1, r.2.2.2.2.2.2.2.2.2.1, r.2.2.2.2.2.2.2.2.2.2.1, r.2.2.2.2.2.2.2.2.2.2.2.1, r.2.2.2.2.2.2.2.2.2.2.2.2.1, r.2.2.2.2.2.2.2.2.2.2.2.2.2.1, r.2.2.2.2.2.2.2.2.2.2.2.2.2.2.1, r.2.2.2.2.2.2.2.2.2.2.2.2.2.2.2.1, r.2.2.2.2.2.2.2.2.2.2.2.2.2.2.2.2.1, r.2.2.2.2.2.2.2.2.2.2.2.2.2.2.2.2.2.1, r.2.2.2.2.2.2.2.2.2.2.2.2.2.2.2.2.2.2.1, r.2.2.2.2.2.2.2.2.2.2.2.2.2.2.2.2.2.2.2.1, r.2.2.2.2.2.2.2.2.2.2.2.2.2.2.2.2.2.2.2.2.1, r.2.2.2.2.2.2.2.2.2.2.2.2.2.2.2.2.2.2.2.2.2.1, r.2.2.2.2.2.2.2.2.2.2.2.2.2.2.2.2.2.2.2.2.2.2)
abbrev MS.s_yy (r : MS) (v : Nat → Int) : MS := (r.1, r.2.1, r.2.2.1, r.2.2.2.1, v, r.2.2.2.2.2.1, r.2.2.2.2.2.2.1, r.2.2.2.2.2.2.2.1, r.2.2.2.2.2.2.2.2.1, r.2.2.2.2.2.2.2.2.2.1, r.2.2.2.2.2.2.2.2.2.2.1, r.2.2.2.2.2.2.2.2.2.2.2.1, r.2.2.2.2.2.2.2.2.2.2.2.2.1, r.2.2.2.2.2.2.2.2.2.2.2.2.2.1, r.2.2.2.2.2.2.2.2.2.2.2.2.2.2.1, r.2.2.2.2.2.2.2.2.2.2.2.2.2.2.2.1, r.2.2.2.2.2.2.2.2.2.2.2.2.2.2.2.2.1, r.2.2.2.2.2.2.2.2.2.2.2.2.2.2.2.2.2.1, r.2.2.2.2.2.2.2.2.2.2.2.2.2.2.2.2.2.2.1, r.2.2.2.2.2.2.2.2.2.2.2.2.2.2.2.2.2.2.2.1, r.2.2.2.2.2.2.2.2.2.2.2.2.2.2.2.2.2.2.2.2.1, r.2.2.2.2.2.2.2.2.2.2.2.2.2.2.2.2.2.2.2.2.2.1, r.2.2.2.2.2.2.2.2.2.2.2.2.2.2.2.2.2.2.2.2.2.2)
abbrev MS.s_vb (r : MS) (v : Nat → Nat) : MS := (r.1, r.2.1, r.2.2.1, r.2.2.2.1, r.2.2.2.2.1, v, r.2.2.2.2.2.2.1, r.2.2.2.2.2.2.2.1, r.2.2.2.2.2.2.2.2.1, r.2.2.2.2.2.2.2.2.2.1, r.2.2.2.2.2.2.2.2.2.2.1, r.2.2.2.2.2.2.2.2.2.2.2.1, r.2.2.2.2.2.2.2.2.2.2.2.2.1, r.2.2.2.2.2.2.2.2.2.2.2.2.2.1, r.2.2.2.2.2.2.2.2.2.2.2.2.2.2.1, r.2.2.2.2.2.2.2.2.2.2.2.2.2.2.2.1, r.2.2.2.2.2.2.2.2.2.2.2.2.2.2.2.2.1, r.2.2.2.2.2.2.2.2.2.2.2.2.2.2.2.2.2.1, r.2.2.2.2.2.2.2.2.2.2.2.2.2.2.2.2.2.2.1, r.2.2.2.2.2.2.2.2.2.2.2.2.2.2.2.2.2.2.2.1, r.2.2.2.2.2.2.2.2.2.2.2.2.2.2.2.2.2.2.2.2.1, r.2.2.2.2.2.2.2.2.2.2.2.2.2.2.2.2.2.2.2.2.2.1, r.2.2.2.2.2.2.2.2.2.2.2.2.2.2.2.2.2.2.2.2.2.2)
abbrev MS.s_fl (r : MS) (v : Nat → Nat) : MS := (r.1, r.2.1, r.2.2.1, r.2.2.2.1, r.2.2.2.2.1, r.2.2.2.2.2.1, v, r.2.2.2.2.2.2.2.1, r.2.2.2.2.2.2.2.2.1, r.2.2.2.2.2.2.2.2.2.1, r.2.2.2.2.2.2.2.2.2.2.1, r.2.2.2.2.2.2.2.2.2.2.2.1, r.2.2.2.2.2.2.2.2.2.2.2.2.1, r.2.2.2.2.2.2.2.2.2.2.2.2.2.1, r.2.2.2.2.2.2.2.2.2.2.2.2.2.2.1, r.2.2.2.2.2.2.2.2.2.2.2.2.2.2.2.1, r.2.2.2.2.2.2.2.2.2.2.2.2.2.2.2.2.1, r.2.2.2.2.2.2.2.2.2.2.2.2.2.2.2.2.2.1, r.2.2.2.2.2.2.2.2.2.2.2.2.2.2.2.2.2.2.1, r.2.2.2.2.2.2.2.2.2.2.2.2.2.2.2.2.2.2.2.1, r.2.2.2.2.2.2.2.2.2.2.2.2.2.2.2.2.2.2.2.2.1, r.2.2.2.2.2.2.2.2.2.2.2.2.2.2.2.2.2.2.2.2.2.1, r.2.2.2.2.2.2.2.2.2.2.2.2.2.2.2.2.2.2.2.2.2.2)
abbrev MS.s_n (r : MS) (v : Nat) : MS := (r.1, r.2.1, r.2.2.1, r.2.2.2.1, r.2.2.2.2.1, r.2.2.2.2.2.1, r.2.2.2.2.2.2.1, v, r.2.2.2.2.2.2.2.2.1, r.2.2.2.2.2.2.2.2.2.1, r.2.2.2.2.2.2.2.2.2.2.1, r.2.2.2.2.2.2.2.2.2.2.2.1, r.2.2.2.2.2.2.2.2.2.2.2.2.1, r.2.2.2.2.2.2.2.2.2.2.2.2.2.1, r.2.2.2.2.2.2.2.2.2.2.2.2.2.2.1, r.2.2.2.2.2.2.2.2.2.2.2.2.2.2.2.1, r.2.2.2.2.2.2.2.2.2.2.2.2.2.2.2.2.1, r.2.2.2.2.2.2.2.2.2.2.2.2.2.2.2.2.2.1, r.2.2.2.2.2.2.2.2.2.2.2.2.2.2.2.2.2.2.1, r.2.2.2.2.2.2.2.2.2.2.2.2.2.2.2.2.2.2.2.1, r.2.2.2.2.2.2.2.2.2.2.2.2.2.2.2.2.2.2.2.2.1, r.2.2.2.2.2.2.2.2.2.2.2.2.2.2.2.2.2.2.2.2.2.1, r.2.2.2.2.2.2.2.2.2.2.2.2.2.2.2.2.2.2.2.2.2.2)
abbrev MS.s_rw (r : MS) (v : Nat → Nat) : MS := (r.1, r.2.1, r.2.2.1, r.2.2.2.1, r.2.2.2.2.1, r.2.2.2.2.2.1, r.2.2.2.2.2.2.1, r.2.2.2.2.2.2.2.1, v, r.2.2.2.2.2.2.2.2.2.1, r.2.2.2.2.2.2.2.2.2.2.1, r.2.2.2.2.2.2.2.2.2.2.2.1, r.2.2.2.2.2.2.2.2.2.2.2.2.1, r.2.2.2.2.2.2.2.2.2.2.2.2.2.1, r.2.2.2.2.2.2.2.2.2.2.2.2.2.2.1, r.2.2.2.2.2.2.2.2.2.2.2.2.2.2.2.1, r.2.2.2.2.2.2.2.2.2.2.2.2.2.2.2.2.1, r.2.2.2.2.2.2.2.2.2.2.2.2.2.2.2.2.2.1, r.2.2.2.2.2.2.2.2.2.2.2.2.2.2.2.2.2.2.1, r.2.2.2.2.2.2.2.2.2.2.2.2.2.2.2.2.2.2.2.1, r.2.2.2.2.2.2.2.2.2.2.2.2.2.2.2.2.2.2.2.2.1, r.2.2.2.2.2.2.2.2.2.2.2.2.2.2.2.2.2.2.2.2.2.1, r.2.2.2.2.2.2.2.2.2.2.2.2.2.2.2.2.2.2.2.2.2.2)
abbrev MS.s_p (r : MS) (v : Nat) : MS := (r.1, r.2.1, r.2.2.1, r.2.2.2.1, r.2.2.2.2.1, r.2.2.2.2.2.1, r.2.2.2.2.2.2.1, r.2.2.2.2.2.2.2.1, r.2.2.2.2.2.2.2.2.1, v, r.2.2.2.2.2.2.2.2.2.2.1, r.2.2.2.2.2.2.2.2.2.2.2.1, r.2.2.2.2.2.2.2.2.2.2.2.2.1, r.2.2.2.2.2.2.2.2.2.2.2.2.2.1, r.2.2.2.2.2.2.2.2.2.2.2.2.2.2.1, r.2.2.2.2.2.2.2.2.2.2.2.2.2.2.2.1, r.2.2.2.2.2.2.2.2.2.2.2.2.2.2.2.2.1, r.2.2.2.2.2.2.2.2.2.2.2.2.2.2.2.2.2.1, r.2.2.2.2.2.2.2.2.2.2.2.2.2.2.2.2.2.2.1, r.2.2.2.2.2.2.2.2.2.2.2.2.2.2.2.2.2.2.2.1, r.2.2.2.2.2.2.2.2.2.2.2.2.2.2.2.2.2.2.2.2.1, r.2.2.2.2.2.2.2.2.2.2.2.2.2.2.2.2.2.2.2.2.2.1, r.2.2.2.2.2.2.2.2.2.2.2.2.2.2.2.2.2.2.2.2.2.2)
abbrev MS.s_st (r : MS) (v : Nat → Nat) : MS := (r.1, r.2.1, r.2.2.1, r.2.2.2.1, r.2.2.2.2.1, r.2.2.2.2.2.1, r.2.2.2.2.2.2.1, r.2.2.2.2.2.2.2.1, r.2.2.2.2.2.2.2.2.1, r.2.2.2.2.2.2.2.2.2.1, v, r.2.2.2.2.2.2.2.2.2.2.2.1, r.2.2.2.2.2.2.2.2.2.2.2.2.1, r.2.2.2.2.2.2.2.2.2.2.2.2.2.1, r.2.2.2.2.2.2.2.2.2.2.2.2.2.2.1, r.2.2.2.2.2.2.2.2.2.2.2.2.2.2.2.1, r.2.2.2.2.2.2.2.2.2.2.2.2.2.2.2.2.1, r.2.2.2.2.2.2.2.2.2.2.2.2.2.2.2.2.2.1, r.2.2.2.2.2.2.2.2.2.2.2.2.2.2.2.2.2.2.1, r.2.2.2.2.2.2.2.2.2.2.2.2.2.2.2.2.2.2.2.1, r.2.2.2.2.2.2.2.2.2.2.2.2.2.2.2.2.2.2.2.2.1, r.2.2.2.2.2.2.2.2.2.2.2.2.2.2.2.2.2.2.2.2.2.1, r.2.2.2.2.2.2.2.2.2.2.2.2.2.2.2.2.2.2.2.2.2.2)
abbrev MS.s_c (r : MS) (v : Nat) : MS := (r.1, r.2.1, r.2.2.1, r.2.2.2.1, r.2.2.2.2.1, r.2.2.2.2.2.1, r.2.2.2.2.2.2.1, r.2.2.2.2.2.2.2.1, r.2.2.2.2.2.2.2.2.1, r.2.2.2.2.2.2.2.2.2.1, r.2.2.2.2.2.2.2.2.2.2.1, v, r.2.2.2.2.2.2.2.2.2.2.2.2.1, r.2.2.2.2.2.2.2.2.2.2.2.2.2.1, r.2.2.2.2.2.2.2.2.2.2.2.2.2.2.1, r.2.2.2.2.2.2.2.2.2.2.2.2.2.2.2.1, r.2.2.2.2.2.2.2.2.2.2.2.2.2.2.2.2.1, r.2.2.2.2.2.2.2.2.2.2.2.2.2.2.2.2.2.1, r.2.2.2.2.2.2.2.2.2.2.2.2.2.2.2.2.2.2.1, r.2.2.2.2.2.2.2.2.2.2.2.2.2.2.2.2.2.2.2.1, r.2.2.2.2.2.2.2.2.2.2.2.2.2.2.2.2.2.2.2.2.1, r.2.2.2.2.2.2.2.2.2.2.2.2.2.2.2.2.2.2.2.2.2.1, r.2.2.2.2.2.2.2.2.2.2.2.2.2.2.2.2.2.2.2.2.2.2)
abbrev MS.s_ki (r : MS) (v : Nat → Nat) : MS := (r.1, r.2.1, r.2.2.1, r.2.2.2.1, r.2.2.2.2.1, r.2.2.2.2.2.1, r.2.2.2.2.2.2.1, r.2.2.2.2.2.2.2.1, r.2.2.2.2.2.2.2.2.1, r.2.2.2.2.2.2.2.2.2.1, r.2.2.2.2.2.2.2.2.2.2.1, r.2.2.2.2.2.2.2.2.2.2.2.1, v, r.2.2.2.2.2.2.2.2.2.2.2.2.2.1, r.2.2.2.2.2.2.2.2.2.2.2.2.2.2.1, r.2.2.2.2.2.2.2.2.2.2.2.2.2.2.2.1, r.2.2.2.2.2.2.2.2.2.2.2.2.2.2.2.2.1, r.2.2.2.2.2.2.2.2.2.2.2.2.2.2.2.2.2.1, r.2.2.2.2.2.2.2.2.2.2.2.2.2.2.2.2.2.2.1, r.2.2.2.2.2.2.2.2.2.2.2.2.2.2.2.2.2.2.2.1, r.2.2.2.2.2.2.2.2.2.2.2.2.2.2.2.2.2.2.2.2.1, r.2.2.2.2.2.2.2.2.2.2.2.2.2.2.2.2.2.2.2.2.2.1, r.2.2.2.2.2.2.2.2.2.2.2.2.2.2.2.2.2.2.2.2.2.2)
abbrev MS.s_pin (r : MS) (v : Nat → Nat) : MS := (r.1, r.2.1, r.2.2.1, r.2.2.2.1, r.2.2.2.2.1, r.2.2.2.2.2.1, r.2.2.2.2.2.2.1, r.2.2.2.2.2.2.2.1, r.2.2.2.2.2.2.2.2.1, r.2.2.2.2.2.2.2.2.2.1, r.2.2.2.2.2.2.2.2.2.2.1, r.2.2.2.2.2.2.2.2.2.2.2.1, r.2.2.2.2.2.2.2.2.2.2.2.2.1, v, r.2.2.2.2.2.2.2.2.2.2.2.2.2.2.1, r.2.2.2.2.2.2.2.2.2.2.2.2.2.2.2.1, r.2.2.2.2.2.2.2.2.2.2.2.2.2.2.2.2.1, r.2.2.2.2.2.2.2.2.2.2.2.2.2.2.2.2.2.1, r.2.2.2.2.2.2.2.2.2.2.2.2.2.2.2.2.2.2.1, r.2.2.2.2.2.2.2.2.2.2.2.2.2.2.2.2.2.2.2.1, r.2.2.2.2.2.2.2.2.2.2.2.2.2.2.2.2.2.2.2.2.1, r.2.2.2.2.2.2.2.2.2.2.2.2.2.2.2.2.2.2.2.2.2.1, r.2.2.2.2.2.2.2.2.2.2.2.2.2.2.2.2.2.2.2.2.2.2)
abbrev MS.s_he (r : MS) (v : Nat → Nat) : MS := (r.1, r.2.1, r.2.2.1, r.2.2.2.1, r.2.2.2.2.1, r.2.2.2.2.2.1, r.2.2.2.2.2.2.1, r.2.2.2.2.2.2.2.1, r.2.2.2.2.2.2.2.2.1, r.2.2.2.2.2.2.2.2.2.1, r.2.2.2.2.2.2.2.2.2.2.1, r.2.2.2.2.2.2.2.2.2.2.2.1, r.2.2.2.2.2.2.2.2.2.2.2.2.1, r.2.2.2.2.2.2.2.2.2.2.2.2.2.1, v, r.2.2.2.2.2.2.2.2.2.2.2.2.2.2.2.1, r.2.2.2.2.2.2.2.2.2.2.2.2.2.2.2.2.1, r.2.2.2.2.2.2.2.2.2.2.2.2.2.2.2.2.2.1, r.2.2.2.2.2.2.2.2.2.2.2.2.2.2.2.2.2.2.1, r.2.2.2.2.2.2.2.2.2.2.2.2.2.2.2.2.2.2.2.1, r.2.2.2.2.2.2.2.2.2.2.2.2.2.2.2.2.2.2.2.2.1, r.2.2.2.2.2.2.2.2.2.2.2.2.2.2.2.2.2.2.2.2.2.1, r.2.2.2.2.2.2.2.2.2.2.2.2.2.2.2.2.2.2.2.2.2.2)
abbrev MS.s_ir (r : MS) (v : Nat → Nat) : MS := (r.1, r.2.1, r.2.2.1, r.2.2.2.1, r.2.2.2.2.1, r.2.2.2.2.2.1, r.2.2.2.2.2.2.1, r.2.2.2.2.2.2.2.1, r.2.2.2.2.2.2.2.2.1, r.2.2.2.2.2.2.2.2.2.1, r.2.2.2.2.2.2.2.2.2.2.1, r.2.2.2.2.2.2.2.2.2.2.2.1, r.2.2.2.2.2.2.2.2.2.2.2.2.1, r.2.2.2.2.2.2.2.2.2.2.2.2.2.1, r.2.2.2.2.2.2.2.2.2.2.2.2.2.2.1, v, r.2.2.2.2.2.2.2.2.2.2.2.2.2.2.2.2.1, r.2.2.2.2.2.2.2.2.2.2.2.2.2.2.2.2.2.1, r.2.2.2.2.2.2.2.2.2.2.2.2.2.2.2.2.2.2.1, r.2.2.2.2.2.2.2.2.2.2.2.2.2.2.2.2.2.2.2.1, r.2.2.2.2.2.2.2.2.2.2.2.2.2.2.2.2.2.2.2.2.1, r.2.2.2.2.2.2.2.2.2.2.2.2.2.2.2.2.2.2.2.2.2.1, r.2.2.2.2.2.2.2.2.2.2.2.2.2.2.2.2.2.2.2.2.2.2)
abbrev MS.s_cn (r : MS) (v : Nat) : MS := (r.1, r.2.1, r.2.2.1, r.2.2.2.1, r.2.2.2.2.1, r.2.2.2.2.2.1, r.2.2.2.2.2.2.1, r.2.2.2.2.2.2.2.1, r.2.2.2.2.2.2.2.2.1, r.2.2.2.2.2.2.2.2.2.1, r.2.2.2.2.2.2.2.2.2.2.1, r.2.2.2.2.2.2.2.2.2.2.2.1, r.2.2.2.2.2.2.2.2.2.2.2.2.1, r.2.2.2.2.2.2.2.2.2.2.2.2.2.1, r.2.2.2.2.2.2.2.2.2.2.2.2.2.2.1, r.2.2.2.2.2.2.2.2.2.2.2.2.2.2.2.1, v, r.2.2.2.2.2.2.2.2.2.2.2.2.2.2.2.2.2.1, r.2.2.2.2.2.2.2.2.2.2.2.2.2.2.2.2.2.2.1, r.2.2.2.2.2.2.2.2.2.2.2.2.2.2.2.2.2.2.2.1, r.2.2.2.2.2.2.2.2.2.2.2.2.2.2.2.2.2.2.2.2.1, r.2.2.2.2.2.2.2.2.2.2.2.2.2.2.2.2.2.2.2.2.2.1, r.2.2.2.2.2.2.2.2.2.2.2.2.2.2.2.2.2.2.2.2.2.2)
abbrev MS.s_nb (r : MS) (v : Nat → Nat) : MS := (r.1, r.2.1, r.2.2.1, r.2.2.2.1, r.2.2.2.2.1, r.2.2.2.2.2.1, r.2.2.2.2.2.2.1, r.2.2.2.2.2.2.2.1, r.2.2.2.2.2.2.2.2.1, r.2.2.2.2.2.2.2.2.2.1, r.2.2.2.2.2.2.2.2.2.2.1, r.2.2.2.2.2.2.2.2.2.2.2.1, r.2.2.2.2.2.2.2.2.2.2.2.2.1, r.2.2.2.2.2.2.2.2.2.2.2.2.2.1, r.2.2.2.2.2.2.2.2.2.2.2.2.2.2.1, r.2.2.2.2.2.2.2.2.2.2.2.2.2.2.2.1, r.2.2.2.2.2.2.2.2.2.2.2.2.2.2.2.2.1, v, r.2.2.2.2.2.2.2.2.2.2.2.2.2.2.2.2.2.2.1, r.2.2.2.2.2.2.2.2.2.2.2.2.2.2.2.2.2.2.2.1, r.2.2.2.2.2.2.2.2.2.2.2.2.2.2.2.2.2.2.2.2.1, r.2.2.2.2.2.2.2.2.2.2.2.2.2.2.2.2.2.2.2.2.2.1, r.2.2.2.2.2.2.2.2.2.2.2.2.2.2.2.2.2.2.2.2.2.2)
abbrev MS.s_by_ (r : MS) (v : Nat) : MS := (r.1, r.2.1, r.2.2.1, r.2.2.2.1, r.2.2.2.2.1, r.2.2.2.2.2.1, r.2.2.2.2.2.2.1, r.2.2.2.2.2.2.2.1, r.2.2.2.2.2.2.2.2.1, r.2.2.2.2.2.2.2.2.2.1, r.2.2.2.2.2.2.2.2.2.2.1, r.2.2.2.2.2.2.2.2.2.2.2.1, r.2.2.2.2.2.2.2.2.2.2.2.2.1, r.2.2.2.2.2.2.2.2.2.2.2.2.2.1, r.2.2.2.2.2.2.2.2.2.2.2.2.2.2.1, r.2.2.2.2.2.2.2.2.2.2.2.2.2.2.2.1, r.2.2.2.2.2.2.2.2.2.2.2.2.2.2.2.2.1, r.2.2.2.2.2.2.2.2.2.2.2.2.2.2.2.2.2.1, v, r.2.2.2.2.2.2.2.2.2.2.2.2.2.2.2.2.2.2.2.1, r.2.2.2.2.2.2.2.2.2.2.2.2.2.2.2.2.2.2.2.2.1, r.2.2.2.2.2.2.2.2.2.2.2.2.2.2.2.2.2.2.2.2.2.1, r.2.2.2.2.2.2.2.2.2.2.2.2.2.2.2.2.2.2.2.2.2.2)
abbrev MS.s_cr (r : MS) (v : Nat) : MS := (r.1, r.2.1, r.2.2.1, r.2.2.2.1, r.2.2.2.2.1, r.2.2.2.2.2.1, r.2.2.2.2.2.2.1, r.2.2.2.2.2.2.2.1, r.2.2.2.2.2.2.2.2.1, r.2.2.2.2.2.2.2.2.2.1, r.2.2.2.2.2.2.2.2.2.2.1, r.2.2.2.2.2.2.2.2.2.2.2.1, r.2.2.2.2.2.2.2.2.2.2.2.2.1, r.2.2.2.2.2.2.2.2.2.2.2.2.2.1, r.2.2.2.2.2.2.2.2.2.2.2.2.2.2.1, r.2.2.2.2.2.2.2.2.2.2.2.2.2.2.2.1, r.2.2.2.2.2.2.2.2.2.2.2.2.2.2.2.2.1, r.2.2.2.2.2.2.2.2.2.2.2.2.2.2.2.2.2.1, r.2.2.2.2.2.2.2.2.2.2.2.2.2.2.2.2.2.2.1, v, r.2.2.2.2.2.2.2.2.2.2.2.2.2.2.2.2.2.2.2.2.1, r.2.2.2.2.2.2.2.2.2.2.2.2.2.2.2.2.2.2.2.2.2.1, r.2.2.2.2.2.2.2.2.2.2.2.2.2.2.2.2.2.2.2.2.2.2)
abbrev MS.s_co (r : MS) (v : Nat) : MS := (r.1, r.2.1, r.2.2.1, r.2.2.2.1, r.2.2.2.2.1, r.2.2.2.2.2.1, r.2.2.2.2.2.2.1, r.2.2.2.2.2.2.2.1, r.2.2.2.2.2.2.2.2.1, r.2.2.2.2.2.2.2.2.2.1, r.2.2.2.2.2.2.2.2.2.2.1, r.2.2.2.2.2.2.2.2.2.2.2.1, r.2.2.2.2.2.2.2.2.2.2.2.2.1, r.2.2.2.2.2.2.2.2.2.2.2.2.2.1, r.2.2.2.2.2.2.2.2.2.2.2.2.2.2.1, r.2.2.2.2.2.2.2.2.2.2.2.2.2.2.2.1, r.2.2.2.2.2.2.2.2.2.2.2.2.2.2.2.2.1, r.2.2.2.2.2.2.2.2.2.2.2.2.2.2.2.2.2.1, r.2.2.2.2.2.2.2.2.2.2.2.2.2.2.2.2.2.2.1, r.2.2.2.2.2.2.2.2.2.2.2.2.2.2.2.2.2.2.2.1, v, r.2.2.2.2.2.2.2.2.2.2.2.2.2.2.2.2.2.2.2.2.2.1, r.2.2.2.2.2.2.2.2.2.2.2.2.2.2.2.2.2.2.2.2.2.2)
abbrev MS.s_sa (r : MS) (v : Nat) : MS := (r.1, r.2.1, r.2.2.1, r.2.2.2.1, r.2.2.2.2.1, r.2.2.2.2.2.1, r.2.2.2.2.2.2.1, r.2.2.2.2.2.2.2.1, r.2.2.2.2.2.2.2.2.1, r.2.2.2.2.2.2.2.2.2.1, r.2.2.2.2.2.2.2.2.2.2.1, r.2.2.2.2.2.2.2.2.2.2.2.1, r.2.2.2.2.2.2.2.2.2.2.2.2.1, r.2.2.2.2.2.2.2.2.2.2.2.2.2.1, r.2.2.2.2.2.2.2.2.2.2.2.2.2.2.1, r.2.2.2.2.2.2.2.2.2.2.2.2.2.2.2.1, r.2.2.2.2.2.2.2.2.2.2.2.2.2.2.2.2.1, r.2.2.2.2.2.2.2.2.2.2.2.2.2.2.2.2.2.1, r.2.2.2.2.2.2.2.2.2.2.2.2.2.2.2.2.2.2.1, r.2.2.2.2.2.2.2.2.2.2.2.2.2.2.2.2.2.2.2.1, r.2.2.2.2.2.2.2.2.2.2.2.2.2.2.2.2.2.2.2.2.1, v, r.2.2.2.2.2.2.2.2.2.2.2.2.2.2.2.2.2.2.2.2.2.2)
abbrev MS.s_fa (r : MS) (v : Nat → Nat) : MS := (r.1, r.2.1, r.2.2.1, r.2.2.2.1, r.2.2.2.2.1, r.2.2.2.2.2.1, r.2.2.2.2.2.2.1, r.2.2.2.2.2.2.2.1, r.2.2.2.2.2.2.2.2.1, r.2.2.2.2.2.2.2.2.2.1, r.2.2.2.2.2.2.2.2.2.2.1, r.2.2.2.2.2.2.2.2.2.2.2.1, r.2.2.2.2.2.2.2.2.2.2.2.2.1, r.2.2.2.2.2.2.2.2.2.2.2.2.2.1, r.2.2.2.2.2.2.2.2.2.2.2.2.2.2.1, r.2.2.2.2.2.2.2.2.2.2.2.2.2.2.2.1, r.2.2.2.2.2.2.2.2.2.2.2.2.2.2.2.2.1, r.2.2.2.2.2.2.2.2.2.2.2.2.2.2.2.2.2.1, r.2.2.2.2.2.2.2.2.2.2.2.2.2.2.2.2.2.2.1, r.2.2.2.2.2.2.2.2.2.2.2.2.2.2.2.2.2.2.2.1, r.2.2.2.2.2.2.2.2.2.2.2.2.2.2.2.2.2.2.2.2.1, r.2.2.2.2.2.2.2.2.2.2.2.2.2.2.2.2.2.2.2.2.2.1, v)
abbrev wM (q : Nat → Nat) (cI cZ : ClassId) (y : MS) : va_W := [(q 0, .inr (4, [.int (nI (MS.th y)), .int (MS.nu y), .ref (q 1), .ref (q 2), .ref (q 3), .ref (q 4), .ref (q 5), .int (nI (MS.n y)), .ref (q 6), .int (nI (MS.p y)), .ref (q 7), .int (nI (MS.c y)), .ref (q 8), .ref (q 9), .ref (q 10), .ref (q 11), .int (nI (MS.cn y)), .ref (q 12), .int (nI (MS.by_ y)), .int (nI (MS.cr y)), .int (nI (MS.co y)), .int (nI (MS.sa y)), .ref (q 13)])), (q 1, .inl (cI, 32, .inl (aN (MS.ck y)))), (q 2, .inl (cI, 32, .inl (aZ (MS.xx y)))), (q 3, .inl (cI, 32, .inl (aZ (MS.yy y)))), (q 4, .inl (cI, 32, .inl (aN (MS.vb y)))), (q 5, .inl (cZ, 32, .inl (aN (MS.fl y)))), (q 6, .inl (cI, 32, .inl (aN (MS.rw y)))), (q 7, .inl (cI, 9, .inl (aN (MS.st y)))), (q 8, .inl (cI, 20, .inl (aN (MS.ki y)))), (q 9, .inl (cI, 20, .inl (aN (MS.pin y)))), (q 10, .inl (cI, 20, .inl (aN (MS.he y)))), (q 11, .inl (cI, 20, .inl (aN (MS.ir y)))), (q 12, .inl (cI, 32, .inl (aN (MS.nb y)))), (q 13, .inl (cI, 16, .inl (aN (MS.fa y))))]
/-! the reference: its state, and what its methods do -/
abbrev toR (y : MS) : RS := (y.n, y.c, y.p, y.vb, y.ck, y.xx, y.yy, y.fl, (fun _ => 0), y.rw, (fun _ => 0), y.st)
abbrev toK (y : MS) : CS := (y.cn, y.pin, y.ki, y.he, y.ir)
def MB (y : MS) : Prop := RB (toR y) ∧ CB (toK y) ∧ y.by_ < 2 ∧ y.cr < 16 ∧ y.co < 16 ∧ y.sa < 16 ∧ ∀ j, y.nb j < 2
def mLatch (y : MS) (ck : Nat) (xx yy : Int) : MS := ((((y.s_th 0).s_ck (va_up y.ck y.n ck)).s_xx (va_up y.xx y.n xx)).s_yy (va_up y.yy y.n yy)).s_n (y.n + 1)
def ibN (r : RS) (a b : Nat) : Nat := if r.ck a = r.ck b then (if r.xx a = r.xx b then (if r.yy a = r.yy b then (if a < b then 1 else 0) else (if r.yy a < r.yy b then 1 else 0)) else (if r.xx a < r.xx b then 1 else 0)) else (if r.ck a < r.ck b then 1 else 0)
theorem ibN_le (r : RS) (a b : Nat) : ibN r a b ≤ 1 := by unfold ibN; split <;> (try split) <;> (try split) <;> (try split) <;> omega
theorem ibN_self (r : RS) (a : Nat) : ibN r a a = 0 := by unfold ibN; simp
def rk (r : RS) (a n : Nat) : Nat := sumN (fun t => ibN r t a) n
theorem rk_le (r : RS) (a n : Nat) : rk r a n ≤ n := by
  have := sumN_le (f := fun t => ibN r t a) (m := 1) (fun k => ibN_le r k a) n
  unfold rk; omega
theorem rk_lt (r : RS) {a n : Nat} (h : a < n) : rk r a n < n := by
  induction n with
  | zero => omega
  | succ n ih =>
    show rk r a n + ibN r n a < n + 1
    by_cases e : a = n
    · rw [e, ibN_self]; have := rk_le r n n; omega
    · have := ih (by omega); have := ibN_le r n a; omega
def mkR (r : RS) : Nat → (Nat → Nat)
  | 0 => r.rw
  | i + 1 => va_up (mkR r i) (rk r i r.n) i
def mMake (y : MS) (c0 : Nat) : MS := ((((y.s_th 0).s_rw (mkR (toR y) y.n)).s_p y.n).s_c c0).s_st (cpN (bg y.n c0) y.st (c0 + 1))
def mLk (y : MS) (ch k : Nat) : Nat := if y.st ch + k + 1 = y.st (ch + 1) then 0 else if y.ck (y.rw (y.st ch + k)) = y.ck (y.rw (y.st ch + k + 1)) then 0 else 1
def dM (y : MS) (p : Nat) : Nat := (y.xx (y.rw p) - y.xx (y.rw (p + 1))).natAbs + (y.yy (y.rw p) - y.yy (y.rw (p + 1))).natAbs
def trC (y : MS) : Nat → Nat
  | 0 => 0
  | i + 1 => trC y i + sumN (fun t => dM y (y.st i + t)) (y.st (i + 1) - y.st i - 1)
def plF (g : Nat → Nat) (t : Nat) : Nat → Int
  | 0 => -1
  | n + 1 => if plF g t n ≠ -1 then plF g t n else if g n = t then (n : Int) else -1
theorem plF_st {g : Nat → Nat} {t i : Nat} {v : Int} (h : plF g t i = v) (hv : v ≠ -1) (n : Nat) : plF g t (i + n) = v := by
  induction n with
  | zero => exact h
  | succ n ih => show plF g t (i + n + 1) = v; unfold plF; rw [ih, if_pos hv]
theorem plF_no {g : Nat → Nat} {t i : Nat} (h : plF g t i = -1) (hn : g i ≠ t) : plF g t (i + 1) = -1 := by
  unfold plF; rw [if_neg (fun z => z h), if_neg hn]
theorem plF_yes {g : Nat → Nat} {t i : Nat} (h : plF g t i = -1) (hn : g i = t) : plF g t (i + 1) = (i : Int) := by
  unfold plF; rw [if_neg (fun z => z h), if_pos hn]
theorem plF_b (g : Nat → Nat) (t n : Nat) : -1 ≤ plF g t n ∧ plF g t n < n := by
  induction n with
  | zero => unfold plF; omega
  | succ n ih => unfold plF; split
                 · omega
                 · split <;> omega
def mX (y : MS) (i j : Nat) : MS := y.s_rw (va_up (va_up y.rw i (y.rw j)) j (y.rw i))
theorem mX2 (y : MS) (i j : Nat) : mX (mX y i j) i j = y := by
  have e : va_up (va_up (mX y i j).rw i ((mX y i j).rw j)) j ((mX y i j).rw i) = y.rw := by
    show va_up (va_up (va_up (va_up y.rw i (y.rw j)) j (y.rw i)) i (va_up (va_up y.rw i (y.rw j)) j (y.rw i) j)) j (va_up (va_up y.rw i (y.rw j)) j (y.rw i) i) = y.rw
    funext k; unfold va_up
    by_cases h1 : k = j <;> by_cases h2 : k = i <;> by_cases h3 : i = j <;> simp_all
  show MS.s_rw (mX y i j) (va_up (va_up (mX y i j).rw i ((mX y i j).rw j)) j ((mX y i j).rw i)) = y
  rw [e]
  rfl
theorem sumN_congr {f g : Nat → Nat} {n : Nat} (h : ∀ k, k < n → f k = g k) : sumN f n = sumN g n := by
  induction n with
  | zero => rfl
  | succ n ih => show sumN f n + f n = sumN g n + g n; rw [ih (fun k hk => h k (by omega)), h n (by omega)]
theorem dM_le {y : MS} (h : RB (toR y)) (p : Nat) : dM y p ≤ 4000 := by
  have g2 := h.2.2.2.2.2.1 (y.rw p)
  have g3 := h.2.2.2.2.2.1 (y.rw (p + 1))
  have g4 := h.2.2.2.2.2.2.1 (y.rw p)
  have g5 := h.2.2.2.2.2.2.1 (y.rw (p + 1))
  unfold dM
  have e1 : (toR y).xx = y.xx := rfl
  have e2 : (toR y).yy = y.yy := rfl
  rw [e1] at g2 g3
  rw [e2] at g4 g5
  omega
theorem trC_le {y : MS} (h : RB (toR y)) (i : Nat) : trC y i ≤ i * 128000 := by
  induction i with
  | zero => exact Nat.le_refl 0
  | succ i ih =>
    have g1 := sumN_le (f := fun t => dM y (y.st i + t)) (m := 4000) (fun k => dM_le h _) (y.st (i + 1) - y.st i - 1)
    have g2 : y.st (i + 1) ≤ 32 := h.2.2.2.2.2.2.2.2.2.2.2 (i + 1)
    have g3 : (y.st (i + 1) - y.st i - 1) * 4000 ≤ 32 * 4000 := Nat.mul_le_mul_right _ (by omega)
    show trC y i + sumN (fun t => dM y (y.st i + t)) (y.st (i + 1) - y.st i - 1) ≤ (i + 1) * 128000
    rw [Nat.add_mul]
    omega
def mBad (ck : Int32) (xl yl : Int64) : Prop := ¬ (¬ ck < 0 ∧ ¬ nI 3 < ck ∧ ¬ xl < (-1000) ∧ ¬ (1000 : Int64) < xl ∧ ¬ yl < (-1000) ∧ ¬ (1000 : Int64) < yl)
theorem sw_25 : Cond.selects "ScanRowsModel" (⟨"ScanRowsModel", "isBefore", "(II)Z"⟩ : MethodName) (⟨"ScanRowsModel", "isBefore", "(II)Z"⟩ : MethodName) ∈ ALLG := al_s (i := 25) (by decide +kernel) (by decide +kernel)
theorem tw_5 : (Cond.initialized "ScanRowsModel") ∈ ALLG := al_t (i := 5) (by decide +kernel) (by decide +kernel)
theorem tw_572 : (Cond.fieldLink "ScanRowsModel" (57 : Nat) "ScanRowsModel" "thrown" "I") ∈ ALLG := al_t (i := 572) (by decide +kernel) (by decide +kernel)
theorem tw_574 : (Cond.fieldLink "ScanRowsModel" (7 : Nat) "ScanRowsModel" "clocks" "[I") ∈ ALLG := al_t (i := 574) (by decide +kernel) (by decide +kernel)
theorem tw_575 : (Cond.fieldLink "ScanRowsModel" (13 : Nat) "ScanRowsModel" "xs" "[I") ∈ ALLG := al_t (i := 575) (by decide +kernel) (by decide +kernel)
theorem tw_576 : (Cond.fieldLink "ScanRowsModel" (16 : Nat) "ScanRowsModel" "ys" "[I") ∈ ALLG := al_t (i := 576) (by decide +kernel) (by decide +kernel)
theorem tw_579 : (Cond.fieldLink "ScanRowsModel" (60 : Nat) "ScanRowsModel" "latches" "I") ∈ ALLG := al_t (i := 579) (by decide +kernel) (by decide +kernel)
theorem tw_580 : (Cond.fieldLink "ScanRowsModel" (26 : Nat) "ScanRowsModel" "row" "[I") ∈ ALLG := al_t (i := 580) (by decide +kernel) (by decide +kernel)
theorem tw_581 : (Cond.fieldLink "ScanRowsModel" (77 : Nat) "ScanRowsModel" "chained" "I") ∈ ALLG := al_t (i := 581) (by decide +kernel) (by decide +kernel)
theorem tw_582 : (Cond.fieldLink "ScanRowsModel" (29 : Nat) "ScanRowsModel" "begins" "[I") ∈ ALLG := al_t (i := 582) (by decide +kernel) (by decide +kernel)
theorem tw_583 : (Cond.fieldLink "ScanRowsModel" (63 : Nat) "ScanRowsModel" "chains" "I") ∈ ALLG := al_t (i := 583) (by decide +kernel) (by decide +kernel)
theorem tw_588 : (Cond.fieldLink "ScanRowsModel" (66 : Nat) "ScanRowsModel" "cells" "I") ∈ ALLG := al_t (i := 588) (by decide +kernel) (by decide +kernel)
theorem tw_650 : (Cond.constantLong "ScanRowsModel" (69 : Nat) (-1000 : Int64)) ∈ ALLG := al_t (i := 650) (by decide +kernel) (by decide +kernel)
theorem tw_651 : (Cond.constantLong "ScanRowsModel" (71 : Nat) (1000 : Int64)) ∈ ALLG := al_t (i := 651) (by decide +kernel) (by decide +kernel)
theorem tw_656 : (Cond.methodLink "ScanRowsModel" (73 : Nat) ({ cls := "ScanRowsModel", name := "isBefore", desc := "(II)Z" } : Jvm.MethodName)) ∈ ALLG := al_t (i := 656) (by decide +kernel) (by decide +kernel)
theorem tw_658 : (Cond.instanceMethod ({ cls := "ScanRowsModel", name := "isBefore", desc := "(II)Z" } : Jvm.MethodName)) ∈ ALLG := al_t (i := 658) (by decide +kernel) (by decide +kernel)
theorem tw_659 : (Cond.code ({ cls := "ScanRowsModel", name := "isBefore", desc := "(II)Z" } : Jvm.MethodName) prog_6_method_7_code (3 : Nat) (Option.some FieldType.boolean)) ∈ ALLG := al_t (i := 659) (by decide +kernel) (by decide +kernel)
theorem dX4_isLatch_0 : decode cX4_isLatch 0 = .ok (.iload_n 1, 1) := by decide +kernel
theorem dX4_isLatch_1 : decode cX4_isLatch 1 = .ok (.ifCond .lt 15, 3) := by decide +kernel
theorem dX4_isLatch_4 : decode cX4_isLatch 4 = .ok (.iload_n 1, 1) := by decide +kernel
theorem dX4_isLatch_5 : decode cX4_isLatch 5 = .ok (.aload_n 0, 1) := by decide +kernel
theorem dX4_isLatch_6 : decode cX4_isLatch 6 = .ok (.getfield 60, 3) := by decide +kernel
theorem dX4_isLatch_9 : decode cX4_isLatch 9 = .ok (.if_icmp .ge 7, 3) := by decide +kernel
theorem dX4_isLatch_12 : decode cX4_isLatch 12 = .ok (.iconst 1, 1) := by decide +kernel
theorem dX4_isLatch_13 : decode cX4_isLatch 13 = .ok (.goto 4, 3) := by decide +kernel
theorem dX4_isLatch_16 : decode cX4_isLatch 16 = .ok (.iconst 0, 1) := by decide +kernel
theorem dX4_isLatch_17 : decode cX4_isLatch 17 = .ok (.ireturn, 1) := by decide +kernel
theorem dX4_isChain_0 : decode cX4_isChain 0 = .ok (.iload_n 1, 1) := by decide +kernel
theorem dX4_isChain_1 : decode cX4_isChain 1 = .ok (.ifCond .lt 15, 3) := by decide +kernel
theorem dX4_isChain_4 : decode cX4_isChain 4 = .ok (.iload_n 1, 1) := by decide +kernel
theorem dX4_isChain_5 : decode cX4_isChain 5 = .ok (.aload_n 0, 1) := by decide +kernel
theorem dX4_isChain_6 : decode cX4_isChain 6 = .ok (.getfield 63, 3) := by decide +kernel
theorem dX4_isChain_9 : decode cX4_isChain 9 = .ok (.if_icmp .ge 7, 3) := by decide +kernel
theorem dX4_isChain_12 : decode cX4_isChain 12 = .ok (.iconst 1, 1) := by decide +kernel
theorem dX4_isChain_13 : decode cX4_isChain 13 = .ok (.goto 4, 3) := by decide +kernel
theorem dX4_isChain_16 : decode cX4_isChain 16 = .ok (.iconst 0, 1) := by decide +kernel
theorem dX4_isChain_17 : decode cX4_isChain 17 = .ok (.ireturn, 1) := by decide +kernel
theorem dX4_isCell_0 : decode cX4_isCell 0 = .ok (.iload_n 1, 1) := by decide +kernel
theorem dX4_isCell_1 : decode cX4_isCell 1 = .ok (.ifCond .lt 15, 3) := by decide +kernel
theorem dX4_isCell_4 : decode cX4_isCell 4 = .ok (.iload_n 1, 1) := by decide +kernel
theorem dX4_isCell_5 : decode cX4_isCell 5 = .ok (.aload_n 0, 1) := by decide +kernel
theorem dX4_isCell_6 : decode cX4_isCell 6 = .ok (.getfield 66, 3) := by decide +kernel
theorem dX4_isCell_9 : decode cX4_isCell 9 = .ok (.if_icmp .ge 7, 3) := by decide +kernel
theorem dX4_isCell_12 : decode cX4_isCell 12 = .ok (.iconst 1, 1) := by decide +kernel
theorem dX4_isCell_13 : decode cX4_isCell 13 = .ok (.goto 4, 3) := by decide +kernel
theorem dX4_isCell_16 : decode cX4_isCell 16 = .ok (.iconst 0, 1) := by decide +kernel
theorem dX4_isCell_17 : decode cX4_isCell 17 = .ok (.ireturn, 1) := by decide +kernel
theorem dX4_thrown_0 : decode cX4_thrown 0 = .ok (.aload_n 0, 1) := by decide +kernel
theorem dX4_thrown_1 : decode cX4_thrown 1 = .ok (.getfield 57, 3) := by decide +kernel
theorem dX4_thrown_4 : decode cX4_thrown 4 = .ok (.ireturn, 1) := by decide +kernel
theorem dX4_latch_0 : decode cX4_latch 0 = .ok (.iload_n 1, 1) := by decide +kernel
theorem dX4_latch_1 : decode cX4_latch 1 = .ok (.ifCond .lt 46, 3) := by decide +kernel
theorem dX4_latch_4 : decode cX4_latch 4 = .ok (.iload_n 1, 1) := by decide +kernel
theorem dX4_latch_5 : decode cX4_latch 5 = .ok (.iconst 3, 1) := by decide +kernel
theorem dX4_latch_6 : decode cX4_latch 6 = .ok (.if_icmp .gt 41, 3) := by decide +kernel
theorem dX4_latch_9 : decode cX4_latch 9 = .ok (.lload_n 2, 1) := by decide +kernel
theorem dX4_latch_10 : decode cX4_latch 10 = .ok (.ldc2_w 69, 3) := by decide +kernel
theorem dX4_latch_13 : decode cX4_latch 13 = .ok (.lcmp, 1) := by decide +kernel
theorem dX4_latch_14 : decode cX4_latch 14 = .ok (.ifCond .lt 33, 3) := by decide +kernel
theorem dX4_latch_17 : decode cX4_latch 17 = .ok (.lload_n 2, 1) := by decide +kernel
theorem dX4_latch_18 : decode cX4_latch 18 = .ok (.ldc2_w 71, 3) := by decide +kernel
theorem dX4_latch_21 : decode cX4_latch 21 = .ok (.lcmp, 1) := by decide +kernel
theorem dX4_latch_22 : decode cX4_latch 22 = .ok (.ifCond .gt 25, 3) := by decide +kernel
theorem dX4_latch_25 : decode cX4_latch 25 = .ok (.lload 4, 2) := by decide +kernel
theorem dX4_latch_27 : decode cX4_latch 27 = .ok (.ldc2_w 69, 3) := by decide +kernel
theorem dX4_latch_30 : decode cX4_latch 30 = .ok (.lcmp, 1) := by decide +kernel
theorem dX4_latch_31 : decode cX4_latch 31 = .ok (.ifCond .lt 16, 3) := by decide +kernel
theorem dX4_latch_34 : decode cX4_latch 34 = .ok (.lload 4, 2) := by decide +kernel
theorem dX4_latch_36 : decode cX4_latch 36 = .ok (.ldc2_w 71, 3) := by decide +kernel
theorem dX4_latch_39 : decode cX4_latch 39 = .ok (.lcmp, 1) := by decide +kernel
theorem dX4_latch_40 : decode cX4_latch 40 = .ok (.ifCond .gt 7, 3) := by decide +kernel
theorem dX4_latch_43 : decode cX4_latch 43 = .ok (.iconst 1, 1) := by decide +kernel
theorem dX4_latch_44 : decode cX4_latch 44 = .ok (.goto 4, 3) := by decide +kernel
theorem dX4_latch_47 : decode cX4_latch 47 = .ok (.iconst 0, 1) := by decide +kernel
theorem dX4_latch_48 : decode cX4_latch 48 = .ok (.istore 6, 2) := by decide +kernel
theorem dX4_latch_50 : decode cX4_latch 50 = .ok (.aload_n 0, 1) := by decide +kernel
theorem dX4_latch_51 : decode cX4_latch 51 = .ok (.aload_n 0, 1) := by decide +kernel
theorem dX4_latch_52 : decode cX4_latch 52 = .ok (.getfield 60, 3) := by decide +kernel
theorem dX4_latch_55 : decode cX4_latch 55 = .ok (.bipush 32, 2) := by decide +kernel
theorem dX4_latch_57 : decode cX4_latch 57 = .ok (.if_icmp .ne 7, 3) := by decide +kernel
theorem dX4_latch_60 : decode cX4_latch 60 = .ok (.iconst 1, 1) := by decide +kernel
theorem dX4_latch_61 : decode cX4_latch 61 = .ok (.goto 13, 3) := by decide +kernel
theorem dX4_latch_64 : decode cX4_latch 64 = .ok (.iload 6, 2) := by decide +kernel
theorem dX4_latch_66 : decode cX4_latch 66 = .ok (.ifCond .ne 7, 3) := by decide +kernel
theorem dX4_latch_69 : decode cX4_latch 69 = .ok (.iconst 2, 1) := by decide +kernel
theorem dX4_latch_70 : decode cX4_latch 70 = .ok (.goto 4, 3) := by decide +kernel
theorem dX4_latch_73 : decode cX4_latch 73 = .ok (.iconst 0, 1) := by decide +kernel
theorem dX4_latch_74 : decode cX4_latch 74 = .ok (.putfield 57, 3) := by decide +kernel
theorem dX4_latch_77 : decode cX4_latch 77 = .ok (.aload_n 0, 1) := by decide +kernel
theorem dX4_latch_78 : decode cX4_latch 78 = .ok (.getfield 57, 3) := by decide +kernel
theorem dX4_latch_81 : decode cX4_latch 81 = .ok (.ifCond .le 5, 3) := by decide +kernel
theorem dX4_latch_84 : decode cX4_latch 84 = .ok (.iconst 0, 1) := by decide +kernel
theorem dX4_latch_85 : decode cX4_latch 85 = .ok (.ireturn, 1) := by decide +kernel
theorem dX4_latch_86 : decode cX4_latch 86 = .ok (.aload_n 0, 1) := by decide +kernel
theorem dX4_latch_87 : decode cX4_latch 87 = .ok (.getfield 7, 3) := by decide +kernel
theorem dX4_latch_90 : decode cX4_latch 90 = .ok (.aload_n 0, 1) := by decide +kernel
theorem dX4_latch_91 : decode cX4_latch 91 = .ok (.getfield 60, 3) := by decide +kernel
theorem dX4_latch_94 : decode cX4_latch 94 = .ok (.iload_n 1, 1) := by decide +kernel
theorem dX4_latch_95 : decode cX4_latch 95 = .ok (.iastore, 1) := by decide +kernel
theorem dX4_latch_96 : decode cX4_latch 96 = .ok (.aload_n 0, 1) := by decide +kernel
theorem dX4_latch_97 : decode cX4_latch 97 = .ok (.getfield 13, 3) := by decide +kernel
theorem dX4_latch_100 : decode cX4_latch 100 = .ok (.aload_n 0, 1) := by decide +kernel
theorem dX4_latch_101 : decode cX4_latch 101 = .ok (.getfield 60, 3) := by decide +kernel
theorem dX4_latch_104 : decode cX4_latch 104 = .ok (.lload_n 2, 1) := by decide +kernel
theorem dX4_latch_105 : decode cX4_latch 105 = .ok (.l2i, 1) := by decide +kernel
theorem dX4_latch_106 : decode cX4_latch 106 = .ok (.iastore, 1) := by decide +kernel
theorem dX4_latch_107 : decode cX4_latch 107 = .ok (.aload_n 0, 1) := by decide +kernel
theorem dX4_latch_108 : decode cX4_latch 108 = .ok (.getfield 16, 3) := by decide +kernel
theorem dX4_latch_111 : decode cX4_latch 111 = .ok (.aload_n 0, 1) := by decide +kernel
theorem dX4_latch_112 : decode cX4_latch 112 = .ok (.getfield 60, 3) := by decide +kernel
theorem dX4_latch_115 : decode cX4_latch 115 = .ok (.lload 4, 2) := by decide +kernel
theorem dX4_latch_117 : decode cX4_latch 117 = .ok (.l2i, 1) := by decide +kernel
theorem dX4_latch_118 : decode cX4_latch 118 = .ok (.iastore, 1) := by decide +kernel
theorem dX4_latch_119 : decode cX4_latch 119 = .ok (.aload_n 0, 1) := by decide +kernel
theorem dX4_latch_120 : decode cX4_latch 120 = .ok (.dup, 1) := by decide +kernel
theorem dX4_latch_121 : decode cX4_latch 121 = .ok (.getfield 60, 3) := by decide +kernel
theorem dX4_latch_124 : decode cX4_latch 124 = .ok (.iconst 1, 1) := by decide +kernel
theorem dX4_latch_125 : decode cX4_latch 125 = .ok (.iadd, 1) := by decide +kernel
theorem dX4_latch_126 : decode cX4_latch 126 = .ok (.putfield 60, 3) := by decide +kernel
theorem dX4_latch_129 : decode cX4_latch 129 = .ok (.aload_n 0, 1) := by decide +kernel
theorem dX4_latch_130 : decode cX4_latch 130 = .ok (.getfield 60, 3) := by decide +kernel
theorem dX4_latch_133 : decode cX4_latch 133 = .ok (.iconst 1, 1) := by decide +kernel
theorem dX4_latch_134 : decode cX4_latch 134 = .ok (.isub, 1) := by decide +kernel
theorem dX4_latch_135 : decode cX4_latch 135 = .ok (.ireturn, 1) := by decide +kernel
theorem dX4_isBefore_0 : decode cX4_isBefore 0 = .ok (.aload_n 0, 1) := by decide +kernel
theorem dX4_isBefore_1 : decode cX4_isBefore 1 = .ok (.getfield 7, 3) := by decide +kernel
theorem dX4_isBefore_4 : decode cX4_isBefore 4 = .ok (.iload_n 1, 1) := by decide +kernel
theorem dX4_isBefore_5 : decode cX4_isBefore 5 = .ok (.iaload, 1) := by decide +kernel
theorem dX4_isBefore_6 : decode cX4_isBefore 6 = .ok (.aload_n 0, 1) := by decide +kernel
theorem dX4_isBefore_7 : decode cX4_isBefore 7 = .ok (.getfield 7, 3) := by decide +kernel
theorem dX4_isBefore_10 : decode cX4_isBefore 10 = .ok (.iload_n 2, 1) := by decide +kernel
theorem dX4_isBefore_11 : decode cX4_isBefore 11 = .ok (.iaload, 1) := by decide +kernel
theorem dX4_isBefore_12 : decode cX4_isBefore 12 = .ok (.if_icmp .eq 24, 3) := by decide +kernel
theorem dX4_isBefore_15 : decode cX4_isBefore 15 = .ok (.aload_n 0, 1) := by decide +kernel
theorem dX4_isBefore_16 : decode cX4_isBefore 16 = .ok (.getfield 7, 3) := by decide +kernel
theorem dX4_isBefore_19 : decode cX4_isBefore 19 = .ok (.iload_n 1, 1) := by decide +kernel
theorem dX4_isBefore_20 : decode cX4_isBefore 20 = .ok (.iaload, 1) := by decide +kernel
theorem dX4_isBefore_21 : decode cX4_isBefore 21 = .ok (.aload_n 0, 1) := by decide +kernel
theorem dX4_isBefore_22 : decode cX4_isBefore 22 = .ok (.getfield 7, 3) := by decide +kernel
theorem dX4_isBefore_25 : decode cX4_isBefore 25 = .ok (.iload_n 2, 1) := by decide +kernel
theorem dX4_isBefore_26 : decode cX4_isBefore 26 = .ok (.iaload, 1) := by decide +kernel
theorem dX4_isBefore_27 : decode cX4_isBefore 27 = .ok (.if_icmp .ge 7, 3) := by decide +kernel
theorem dX4_isBefore_30 : decode cX4_isBefore 30 = .ok (.iconst 1, 1) := by decide +kernel
theorem dX4_isBefore_31 : decode cX4_isBefore 31 = .ok (.goto 4, 3) := by decide +kernel
theorem dX4_isBefore_34 : decode cX4_isBefore 34 = .ok (.iconst 0, 1) := by decide +kernel
theorem dX4_isBefore_35 : decode cX4_isBefore 35 = .ok (.ireturn, 1) := by decide +kernel
theorem dX4_isBefore_36 : decode cX4_isBefore 36 = .ok (.aload_n 0, 1) := by decide +kernel
theorem dX4_isBefore_37 : decode cX4_isBefore 37 = .ok (.getfield 13, 3) := by decide +kernel
theorem dX4_isBefore_40 : decode cX4_isBefore 40 = .ok (.iload_n 1, 1) := by decide +kernel
theorem dX4_isBefore_41 : decode cX4_isBefore 41 = .ok (.iaload, 1) := by decide +kernel
theorem dX4_isBefore_42 : decode cX4_isBefore 42 = .ok (.aload_n 0, 1) := by decide +kernel
theorem dX4_isBefore_43 : decode cX4_isBefore 43 = .ok (.getfield 13, 3) := by decide +kernel
theorem dX4_isBefore_46 : decode cX4_isBefore 46 = .ok (.iload_n 2, 1) := by decide +kernel
theorem dX4_isBefore_47 : decode cX4_isBefore 47 = .ok (.iaload, 1) := by decide +kernel
theorem dX4_isBefore_48 : decode cX4_isBefore 48 = .ok (.if_icmp .eq 24, 3) := by decide +kernel
theorem dX4_isBefore_51 : decode cX4_isBefore 51 = .ok (.aload_n 0, 1) := by decide +kernel
theorem dX4_isBefore_52 : decode cX4_isBefore 52 = .ok (.getfield 13, 3) := by decide +kernel
theorem dX4_isBefore_55 : decode cX4_isBefore 55 = .ok (.iload_n 1, 1) := by decide +kernel
theorem dX4_isBefore_56 : decode cX4_isBefore 56 = .ok (.iaload, 1) := by decide +kernel
theorem dX4_isBefore_57 : decode cX4_isBefore 57 = .ok (.aload_n 0, 1) := by decide +kernel
theorem dX4_isBefore_58 : decode cX4_isBefore 58 = .ok (.getfield 13, 3) := by decide +kernel
theorem dX4_isBefore_61 : decode cX4_isBefore 61 = .ok (.iload_n 2, 1) := by decide +kernel
theorem dX4_isBefore_62 : decode cX4_isBefore 62 = .ok (.iaload, 1) := by decide +kernel
theorem dX4_isBefore_63 : decode cX4_isBefore 63 = .ok (.if_icmp .ge 7, 3) := by decide +kernel
theorem dX4_isBefore_66 : decode cX4_isBefore 66 = .ok (.iconst 1, 1) := by decide +kernel
theorem dX4_isBefore_67 : decode cX4_isBefore 67 = .ok (.goto 4, 3) := by decide +kernel
theorem dX4_isBefore_70 : decode cX4_isBefore 70 = .ok (.iconst 0, 1) := by decide +kernel
theorem dX4_isBefore_71 : decode cX4_isBefore 71 = .ok (.ireturn, 1) := by decide +kernel
theorem dX4_isBefore_72 : decode cX4_isBefore 72 = .ok (.aload_n 0, 1) := by decide +kernel
theorem dX4_isBefore_73 : decode cX4_isBefore 73 = .ok (.getfield 16, 3) := by decide +kernel
theorem dX4_isBefore_76 : decode cX4_isBefore 76 = .ok (.iload_n 1, 1) := by decide +kernel
theorem dX4_isBefore_77 : decode cX4_isBefore 77 = .ok (.iaload, 1) := by decide +kernel
theorem dX4_isBefore_78 : decode cX4_isBefore 78 = .ok (.aload_n 0, 1) := by decide +kernel
theorem dX4_isBefore_79 : decode cX4_isBefore 79 = .ok (.getfield 16, 3) := by decide +kernel
theorem dX4_isBefore_82 : decode cX4_isBefore 82 = .ok (.iload_n 2, 1) := by decide +kernel
theorem dX4_isBefore_83 : decode cX4_isBefore 83 = .ok (.iaload, 1) := by decide +kernel
theorem dX4_isBefore_84 : decode cX4_isBefore 84 = .ok (.if_icmp .eq 26, 3) := by decide +kernel
theorem dX4_isBefore_87 : decode cX4_isBefore 87 = .ok (.aload_n 0, 1) := by decide +kernel
theorem dX4_isBefore_88 : decode cX4_isBefore 88 = .ok (.getfield 16, 3) := by decide +kernel
theorem dX4_isBefore_91 : decode cX4_isBefore 91 = .ok (.iload_n 1, 1) := by decide +kernel
theorem dX4_isBefore_92 : decode cX4_isBefore 92 = .ok (.iaload, 1) := by decide +kernel
theorem dX4_isBefore_93 : decode cX4_isBefore 93 = .ok (.aload_n 0, 1) := by decide +kernel
theorem dX4_isBefore_94 : decode cX4_isBefore 94 = .ok (.getfield 16, 3) := by decide +kernel
theorem dX4_isBefore_97 : decode cX4_isBefore 97 = .ok (.iload_n 2, 1) := by decide +kernel
theorem dX4_isBefore_98 : decode cX4_isBefore 98 = .ok (.iaload, 1) := by decide +kernel
theorem dX4_isBefore_99 : decode cX4_isBefore 99 = .ok (.if_icmp .ge 7, 3) := by decide +kernel
theorem dX4_isBefore_102 : decode cX4_isBefore 102 = .ok (.iconst 1, 1) := by decide +kernel
theorem dX4_isBefore_103 : decode cX4_isBefore 103 = .ok (.goto 17, 3) := by decide +kernel
theorem dX4_isBefore_106 : decode cX4_isBefore 106 = .ok (.iconst 0, 1) := by decide +kernel
theorem dX4_isBefore_107 : decode cX4_isBefore 107 = .ok (.goto 13, 3) := by decide +kernel
theorem dX4_isBefore_110 : decode cX4_isBefore 110 = .ok (.iload_n 1, 1) := by decide +kernel
theorem dX4_isBefore_111 : decode cX4_isBefore 111 = .ok (.iload_n 2, 1) := by decide +kernel
theorem dX4_isBefore_112 : decode cX4_isBefore 112 = .ok (.if_icmp .ge 7, 3) := by decide +kernel
theorem dX4_isBefore_115 : decode cX4_isBefore 115 = .ok (.iconst 1, 1) := by decide +kernel
theorem dX4_isBefore_116 : decode cX4_isBefore 116 = .ok (.goto 4, 3) := by decide +kernel
theorem dX4_isBefore_119 : decode cX4_isBefore 119 = .ok (.iconst 0, 1) := by decide +kernel
theorem dX4_isBefore_120 : decode cX4_isBefore 120 = .ok (.ireturn, 1) := by decide +kernel
theorem dX4_make_0 : decode cX4_make 0 = .ok (.aload_n 0, 1) := by decide +kernel
theorem dX4_make_1 : decode cX4_make 1 = .ok (.iload_n 1, 1) := by decide +kernel
theorem dX4_make_2 : decode cX4_make 2 = .ok (.iconst 1, 1) := by decide +kernel
theorem dX4_make_3 : decode cX4_make 3 = .ok (.if_icmp .lt 9, 3) := by decide +kernel
theorem dX4_make_6 : decode cX4_make 6 = .ok (.iload_n 1, 1) := by decide +kernel
theorem dX4_make_7 : decode cX4_make 7 = .ok (.bipush 8, 2) := by decide +kernel
theorem dX4_make_9 : decode cX4_make 9 = .ok (.if_icmp .le 7, 3) := by decide +kernel
theorem dX4_make_12 : decode cX4_make 12 = .ok (.iconst 1, 1) := by decide +kernel
theorem dX4_make_13 : decode cX4_make 13 = .ok (.goto 4, 3) := by decide +kernel
theorem dX4_make_16 : decode cX4_make 16 = .ok (.iconst 0, 1) := by decide +kernel
theorem dX4_make_17 : decode cX4_make 17 = .ok (.putfield 57, 3) := by decide +kernel
theorem dX4_make_20 : decode cX4_make 20 = .ok (.aload_n 0, 1) := by decide +kernel
theorem dX4_make_21 : decode cX4_make 21 = .ok (.getfield 57, 3) := by decide +kernel
theorem dX4_make_24 : decode cX4_make 24 = .ok (.ifCond .le 5, 3) := by decide +kernel
theorem dX4_make_27 : decode cX4_make 27 = .ok (.iconst 0, 1) := by decide +kernel
theorem dX4_make_28 : decode cX4_make 28 = .ok (.ireturn, 1) := by decide +kernel
theorem dX4_make_29 : decode cX4_make 29 = .ok (.iconst 0, 1) := by decide +kernel
theorem dX4_make_30 : decode cX4_make 30 = .ok (.istore_n 2, 1) := by decide +kernel
theorem dX4_make_31 : decode cX4_make 31 = .ok (.iload_n 2, 1) := by decide +kernel
theorem dX4_make_32 : decode cX4_make 32 = .ok (.aload_n 0, 1) := by decide +kernel
theorem dX4_make_33 : decode cX4_make 33 = .ok (.getfield 60, 3) := by decide +kernel
theorem dX4_make_36 : decode cX4_make 36 = .ok (.if_icmp .ge 54, 3) := by decide +kernel
theorem dX4_make_39 : decode cX4_make 39 = .ok (.iconst 0, 1) := by decide +kernel
theorem dX4_make_40 : decode cX4_make 40 = .ok (.istore_n 3, 1) := by decide +kernel
theorem dX4_make_41 : decode cX4_make 41 = .ok (.iconst 0, 1) := by decide +kernel
theorem dX4_make_42 : decode cX4_make 42 = .ok (.istore 4, 2) := by decide +kernel
theorem dX4_make_44 : decode cX4_make 44 = .ok (.iload 4, 2) := by decide +kernel
theorem dX4_make_46 : decode cX4_make 46 = .ok (.aload_n 0, 1) := by decide +kernel
theorem dX4_make_47 : decode cX4_make 47 = .ok (.getfield 60, 3) := by decide +kernel
theorem dX4_make_50 : decode cX4_make 50 = .ok (.if_icmp .ge 27, 3) := by decide +kernel
theorem dX4_make_53 : decode cX4_make 53 = .ok (.aload_n 0, 1) := by decide +kernel
theorem dX4_make_54 : decode cX4_make 54 = .ok (.iload 4, 2) := by decide +kernel
theorem dX4_make_56 : decode cX4_make 56 = .ok (.iload_n 2, 1) := by decide +kernel
theorem dX4_make_57 : decode cX4_make 57 = .ok (.invokevirtual 73, 3) := by decide +kernel
theorem dX4_make_60 : decode cX4_make 60 = .ok (.ifCond .eq 9, 3) := by decide +kernel
theorem dX4_make_63 : decode cX4_make 63 = .ok (.iload_n 3, 1) := by decide +kernel
theorem dX4_make_64 : decode cX4_make 64 = .ok (.iconst 1, 1) := by decide +kernel
theorem dX4_make_65 : decode cX4_make 65 = .ok (.iadd, 1) := by decide +kernel
theorem dX4_make_66 : decode cX4_make 66 = .ok (.goto 4, 3) := by decide +kernel
theorem dX4_make_69 : decode cX4_make 69 = .ok (.iload_n 3, 1) := by decide +kernel
theorem dX4_make_70 : decode cX4_make 70 = .ok (.istore_n 3, 1) := by decide +kernel
theorem dX4_make_71 : decode cX4_make 71 = .ok (.iinc 4 1, 3) := by decide +kernel
theorem dX4_make_74 : decode cX4_make 74 = .ok (.goto (-30), 3) := by decide +kernel
theorem dX4_make_77 : decode cX4_make 77 = .ok (.aload_n 0, 1) := by decide +kernel
theorem dX4_make_78 : decode cX4_make 78 = .ok (.getfield 26, 3) := by decide +kernel
theorem dX4_make_81 : decode cX4_make 81 = .ok (.iload_n 3, 1) := by decide +kernel
theorem dX4_make_82 : decode cX4_make 82 = .ok (.iload_n 2, 1) := by decide +kernel
theorem dX4_make_83 : decode cX4_make 83 = .ok (.iastore, 1) := by decide +kernel
theorem dX4_make_84 : decode cX4_make 84 = .ok (.iinc 2 1, 3) := by decide +kernel
theorem dX4_make_87 : decode cX4_make 87 = .ok (.goto (-56), 3) := by decide +kernel
theorem dX4_make_90 : decode cX4_make 90 = .ok (.aload_n 0, 1) := by decide +kernel
theorem dX4_make_91 : decode cX4_make 91 = .ok (.aload_n 0, 1) := by decide +kernel
theorem dX4_make_92 : decode cX4_make 92 = .ok (.getfield 60, 3) := by decide +kernel
theorem dX4_make_95 : decode cX4_make 95 = .ok (.putfield 77, 3) := by decide +kernel
theorem dX4_make_98 : decode cX4_make 98 = .ok (.aload_n 0, 1) := by decide +kernel
theorem dX4_make_99 : decode cX4_make 99 = .ok (.iload_n 1, 1) := by decide +kernel
theorem dX4_make_100 : decode cX4_make 100 = .ok (.putfield 63, 3) := by decide +kernel
theorem dX4_make_103 : decode cX4_make 103 = .ok (.aload_n 0, 1) := by decide +kernel
theorem dX4_make_104 : decode cX4_make 104 = .ok (.getfield 29, 3) := by decide +kernel
theorem dX4_make_107 : decode cX4_make 107 = .ok (.iconst 0, 1) := by decide +kernel
theorem dX4_make_108 : decode cX4_make 108 = .ok (.iconst 0, 1) := by decide +kernel
theorem dX4_make_109 : decode cX4_make 109 = .ok (.iastore, 1) := by decide +kernel
theorem dX4_make_110 : decode cX4_make 110 = .ok (.iconst 0, 1) := by decide +kernel
theorem dX4_make_111 : decode cX4_make 111 = .ok (.istore_n 2, 1) := by decide +kernel
theorem dX4_make_112 : decode cX4_make 112 = .ok (.iload_n 2, 1) := by decide +kernel
theorem dX4_make_113 : decode cX4_make 113 = .ok (.iload_n 1, 1) := by decide +kernel
theorem dX4_make_114 : decode cX4_make 114 = .ok (.if_icmp .ge 46, 3) := by decide +kernel
theorem dX4_make_117 : decode cX4_make 117 = .ok (.aload_n 0, 1) := by decide +kernel
theorem dX4_make_118 : decode cX4_make 118 = .ok (.getfield 29, 3) := by decide +kernel
theorem dX4_make_121 : decode cX4_make 121 = .ok (.iload_n 2, 1) := by decide +kernel
theorem dX4_make_122 : decode cX4_make 122 = .ok (.iconst 1, 1) := by decide +kernel
theorem dX4_make_123 : decode cX4_make 123 = .ok (.iadd, 1) := by decide +kernel
theorem dX4_make_124 : decode cX4_make 124 = .ok (.aload_n 0, 1) := by decide +kernel
theorem dX4_make_125 : decode cX4_make 125 = .ok (.getfield 29, 3) := by decide +kernel
theorem dX4_make_128 : decode cX4_make 128 = .ok (.iload_n 2, 1) := by decide +kernel
theorem dX4_make_129 : decode cX4_make 129 = .ok (.iaload, 1) := by decide +kernel
theorem dX4_make_130 : decode cX4_make 130 = .ok (.aload_n 0, 1) := by decide +kernel
theorem dX4_make_131 : decode cX4_make 131 = .ok (.getfield 60, 3) := by decide +kernel
theorem dX4_make_134 : decode cX4_make 134 = .ok (.iload_n 1, 1) := by decide +kernel
theorem dX4_make_135 : decode cX4_make 135 = .ok (.idiv, 1) := by decide +kernel
theorem dX4_make_136 : decode cX4_make 136 = .ok (.iadd, 1) := by decide +kernel
theorem dX4_make_137 : decode cX4_make 137 = .ok (.iload_n 2, 1) := by decide +kernel
theorem dX4_make_138 : decode cX4_make 138 = .ok (.aload_n 0, 1) := by decide +kernel
theorem dX4_make_139 : decode cX4_make 139 = .ok (.getfield 60, 3) := by decide +kernel
theorem dX4_make_142 : decode cX4_make 142 = .ok (.iload_n 1, 1) := by decide +kernel
theorem dX4_make_143 : decode cX4_make 143 = .ok (.irem, 1) := by decide +kernel
theorem dX4_make_144 : decode cX4_make 144 = .ok (.if_icmp .ge 7, 3) := by decide +kernel
theorem dX4_make_147 : decode cX4_make 147 = .ok (.iconst 1, 1) := by decide +kernel
theorem dX4_make_148 : decode cX4_make 148 = .ok (.goto 4, 3) := by decide +kernel
theorem dX4_make_151 : decode cX4_make 151 = .ok (.iconst 0, 1) := by decide +kernel
theorem dX4_make_152 : decode cX4_make 152 = .ok (.iadd, 1) := by decide +kernel
theorem dX4_make_153 : decode cX4_make 153 = .ok (.iastore, 1) := by decide +kernel
theorem dX4_make_154 : decode cX4_make 154 = .ok (.iinc 2 1, 3) := by decide +kernel
theorem dX4_make_157 : decode cX4_make 157 = .ok (.goto (-45), 3) := by decide +kernel
theorem dX4_make_160 : decode cX4_make 160 = .ok (.aload_n 0, 1) := by decide +kernel
theorem dX4_make_161 : decode cX4_make 161 = .ok (.getfield 29, 3) := by decide +kernel
theorem dX4_make_164 : decode cX4_make 164 = .ok (.iconst 1, 1) := by decide +kernel
theorem dX4_make_165 : decode cX4_make 165 = .ok (.iaload, 1) := by decide +kernel
theorem dX4_make_166 : decode cX4_make 166 = .ok (.ireturn, 1) := by decide +kernel
set_option maxHeartbeats 4000000 in
set_option maxRecDepth 100000 in
theorem c_ScanRowsModel_isLatch (l : Launch) (dC : Nat → ClassId) (dI : Nat → Nat → Nat) (q : Nat → Nat) (cI cZ : ClassId) (sz : Nat) (y : MS) (v : Int32) : Met l yX4_isLatch (.code yX4_isLatch cX4_isLatch 2 (some .boolean) :: ALLG) ({ frames := 0, cells := 0, slots := 0, locals := 0 }) (va_Pc [.ref (q 0), .int v] (cP (dC, dI) vwCl [(cI, .int), (cZ, .boolean)] (wM q cI cZ y) eT sz)) (va_Qi (fun (x : Int32) (_ : Unit) => x = nI (hcN v y.n)) (fun (_ : Unit) => cB (dC, dI) vwCl [(cI, .int), (cZ, .boolean)] (wM q cI cZ y) (va_A (wM q cI cZ y) sz)) (va_A (wM q cI cZ y) sz)) 0 0 (va_A (wM q cI cZ y) sz) := by
  refine xm_of (cc := cX4_isLatch) (maxL := 2) (ret := some .boolean) (by decide) rfl (Nat.le_of_ble_eq_true rfl) ?_
  intro p e s m below meth c A hAe hx hb hr hml hts0 hown hlk hin hsz H locs hP hK hD hA hS hE ls hl
  have hts : ∀ w ∈ ALLG, w.before _ s = true := fun w h => hts0 w (List.mem_cons_of_mem _ h)
  rw [← hAe]
  have hl : lv_has ls 2 [(0, .ref (q 0)), (1, .int v)] := hl
  refine lv_iload_n hx hb dX4_isLatch_0 rfl (lv_at hl 1 rfl) ?_
  refine lv_if_lt (tgt := 16) hx hb dX4_isLatch_1 (by decide) (fun c_1 => ?_) (fun c_1 => ?_)
  · refine lv_iconst (v := nI 0) hx hb dX4_isLatch_16 (by decide) ?_
    exact xr_z hx hb hr hlk (by decide) (u := ()) (by unfold hcN; first | rw [if_pos ⟨by assumption, Int32.not_le.mp (by assumption)⟩] | rw [if_neg (fun h => h.1 (by assumption))] | rw [if_neg (fun h => absurd (by assumption) (Int32.not_le.mpr h.2))]) hP hK hD hS dX4_isLatch_17
  · refine lv_iload_n hx hb dX4_isLatch_4 rfl (lv_at hl 1 rfl) ?_
    refine lv_aload_n hx hb dX4_isLatch_5 rfl (lv_at hl 0 rfl) ?_
    refine va_get (D := (dC, dI)) (ci := 4) (v := .int (nI (MS.n y))) (C := RX4) (T := TX4) (N := 23) hx hb hts inX4 hown hK hP 0 rfl rfl 7 (by decide) (hts _ tw_579) (fun _ h9 => h9) rfl dX4_isLatch_6 ?_
    refine lv_icmp_ge (tgt := 16) hx hb dX4_isLatch_9 (by decide) (fun c_2 => ?_) (fun c_2 => ?_)
    · refine lv_iconst (v := nI 0) hx hb dX4_isLatch_16 (by decide) ?_
      exact xr_z hx hb hr hlk (by decide) (u := ()) (by unfold hcN; first | rw [if_pos ⟨by assumption, Int32.not_le.mp (by assumption)⟩] | rw [if_neg (fun h => h.1 (by assumption))] | rw [if_neg (fun h => absurd (by assumption) (Int32.not_le.mpr h.2))]) hP hK hD hS dX4_isLatch_17
    · refine lv_iconst (v := nI 1) hx hb dX4_isLatch_12 (by decide) ?_
      refine lv_goto (tgt := 17) hx hb dX4_isLatch_13 (by decide) ?_
      exact xr_z hx hb hr hlk (by decide) (u := ()) (by unfold hcN; first | rw [if_pos ⟨by assumption, Int32.not_le.mp (by assumption)⟩] | rw [if_neg (fun h => h.1 (by assumption))] | rw [if_neg (fun h => absurd (by assumption) (Int32.not_le.mpr h.2))]) hP hK hD hS dX4_isLatch_17
set_option maxHeartbeats 4000000 in
set_option maxRecDepth 100000 in
theorem c_ScanRowsModel_isChain (l : Launch) (dC : Nat → ClassId) (dI : Nat → Nat → Nat) (q : Nat → Nat) (cI cZ : ClassId) (sz : Nat) (y : MS) (v : Int32) : Met l yX4_isChain (.code yX4_isChain cX4_isChain 2 (some .boolean) :: ALLG) ({ frames := 0, cells := 0, slots := 0, locals := 0 }) (va_Pc [.ref (q 0), .int v] (cP (dC, dI) vwCl [(cI, .int), (cZ, .boolean)] (wM q cI cZ y) eT sz)) (va_Qi (fun (x : Int32) (_ : Unit) => x = nI (hcN v y.c)) (fun (_ : Unit) => cB (dC, dI) vwCl [(cI, .int), (cZ, .boolean)] (wM q cI cZ y) (va_A (wM q cI cZ y) sz)) (va_A (wM q cI cZ y) sz)) 0 0 (va_A (wM q cI cZ y) sz) := by
  refine xm_of (cc := cX4_isChain) (maxL := 2) (ret := some .boolean) (by decide) rfl (Nat.le_of_ble_eq_true rfl) ?_
  intro p e s m below meth c A hAe hx hb hr hml hts0 hown hlk hin hsz H locs hP hK hD hA hS hE ls hl
  have hts : ∀ w ∈ ALLG, w.before _ s = true := fun w h => hts0 w (List.mem_cons_of_mem _ h)
  rw [← hAe]
  have hl : lv_has ls 2 [(0, .ref (q 0)), (1, .int v)] := hl
  refine lv_iload_n hx hb dX4_isChain_0 rfl (lv_at hl 1 rfl) ?_
  refine lv_if_lt (tgt := 16) hx hb dX4_isChain_1 (by decide) (fun c_1 => ?_) (fun c_1 => ?_)
  · refine lv_iconst (v := nI 0) hx hb dX4_isChain_16 (by decide) ?_
    exact xr_z hx hb hr hlk (by decide) (u := ()) (by unfold hcN; first | rw [if_pos ⟨by assumption, Int32.not_le.mp (by assumption)⟩] | rw [if_neg (fun h => h.1 (by assumption))] | rw [if_neg (fun h => absurd (by assumption) (Int32.not_le.mpr h.2))]) hP hK hD hS dX4_isChain_17
  · refine lv_iload_n hx hb dX4_isChain_4 rfl (lv_at hl 1 rfl) ?_
    refine lv_aload_n hx hb dX4_isChain_5 rfl (lv_at hl 0 rfl) ?_
    refine va_get (D := (dC, dI)) (ci := 4) (v := .int (nI (MS.c y))) (C := RX4) (T := TX4) (N := 23) hx hb hts inX4 hown hK hP 0 rfl rfl 11 (by decide) (hts _ tw_583) (fun _ h9 => h9) rfl dX4_isChain_6 ?_
    refine lv_icmp_ge (tgt := 16) hx hb dX4_isChain_9 (by decide) (fun c_2 => ?_) (fun c_2 => ?_)
    · refine lv_iconst (v := nI 0) hx hb dX4_isChain_16 (by decide) ?_
      exact xr_z hx hb hr hlk (by decide) (u := ()) (by unfold hcN; first | rw [if_pos ⟨by assumption, Int32.not_le.mp (by assumption)⟩] | rw [if_neg (fun h => h.1 (by assumption))] | rw [if_neg (fun h => absurd (by assumption) (Int32.not_le.mpr h.2))]) hP hK hD hS dX4_isChain_17
    · refine lv_iconst (v := nI 1) hx hb dX4_isChain_12 (by decide) ?_
      refine lv_goto (tgt := 17) hx hb dX4_isChain_13 (by decide) ?_
      exact xr_z hx hb hr hlk (by decide) (u := ()) (by unfold hcN; first | rw [if_pos ⟨by assumption, Int32.not_le.mp (by assumption)⟩] | rw [if_neg (fun h => h.1 (by assumption))] | rw [if_neg (fun h => absurd (by assumption) (Int32.not_le.mpr h.2))]) hP hK hD hS dX4_isChain_17
set_option maxHeartbeats 4000000 in
set_option maxRecDepth 100000 in
theorem c_ScanRowsModel_isCell (l : Launch) (dC : Nat → ClassId) (dI : Nat → Nat → Nat) (q : Nat → Nat) (cI cZ : ClassId) (sz : Nat) (y : MS) (v : Int32) : Met l yX4_isCell (.code yX4_isCell cX4_isCell 2 (some .boolean) :: ALLG) ({ frames := 0, cells := 0, slots := 0, locals := 0 }) (va_Pc [.ref (q 0), .int v] (cP (dC, dI) vwCl [(cI, .int), (cZ, .boolean)] (wM q cI cZ y) eT sz)) (va_Qi (fun (x : Int32) (_ : Unit) => x = nI (hcN v y.cn)) (fun (_ : Unit) => cB (dC, dI) vwCl [(cI, .int), (cZ, .boolean)] (wM q cI cZ y) (va_A (wM q cI cZ y) sz)) (va_A (wM q cI cZ y) sz)) 0 0 (va_A (wM q cI cZ y) sz) := by
  refine xm_of (cc := cX4_isCell) (maxL := 2) (ret := some .boolean) (by decide) rfl (Nat.le_of_ble_eq_true rfl) ?_
  intro p e s m below meth c A hAe hx hb hr hml hts0 hown hlk hin hsz H locs hP hK hD hA hS hE ls hl
  have hts : ∀ w ∈ ALLG, w.before _ s = true := fun w h => hts0 w (List.mem_cons_of_mem _ h)
  rw [← hAe]
  have hl : lv_has ls 2 [(0, .ref (q 0)), (1, .int v)] := hl
  refine lv_iload_n hx hb dX4_isCell_0 rfl (lv_at hl 1 rfl) ?_
  refine lv_if_lt (tgt := 16) hx hb dX4_isCell_1 (by decide) (fun c_1 => ?_) (fun c_1 => ?_)
  · refine lv_iconst (v := nI 0) hx hb dX4_isCell_16 (by decide) ?_
    exact xr_z hx hb hr hlk (by decide) (u := ()) (by unfold hcN; first | rw [if_pos ⟨by assumption, Int32.not_le.mp (by assumption)⟩] | rw [if_neg (fun h => h.1 (by assumption))] | rw [if_neg (fun h => absurd (by assumption) (Int32.not_le.mpr h.2))]) hP hK hD hS dX4_isCell_17
  · refine lv_iload_n hx hb dX4_isCell_4 rfl (lv_at hl 1 rfl) ?_
    refine lv_aload_n hx hb dX4_isCell_5 rfl (lv_at hl 0 rfl) ?_
    refine va_get (D := (dC, dI)) (ci := 4) (v := .int (nI (MS.cn y))) (C := RX4) (T := TX4) (N := 23) hx hb hts inX4 hown hK hP 0 rfl rfl 16 (by decide) (hts _ tw_588) (fun _ h9 => h9) rfl dX4_isCell_6 ?_
    refine lv_icmp_ge (tgt := 16) hx hb dX4_isCell_9 (by decide) (fun c_2 => ?_) (fun c_2 => ?_)
    · refine lv_iconst (v := nI 0) hx hb dX4_isCell_16 (by decide) ?_
      exact xr_z hx hb hr hlk (by decide) (u := ()) (by unfold hcN; first | rw [if_pos ⟨by assumption, Int32.not_le.mp (by assumption)⟩] | rw [if_neg (fun h => h.1 (by assumption))] | rw [if_neg (fun h => absurd (by assumption) (Int32.not_le.mpr h.2))]) hP hK hD hS dX4_isCell_17
    · refine lv_iconst (v := nI 1) hx hb dX4_isCell_12 (by decide) ?_
      refine lv_goto (tgt := 17) hx hb dX4_isCell_13 (by decide) ?_
      exact xr_z hx hb hr hlk (by decide) (u := ()) (by unfold hcN; first | rw [if_pos ⟨by assumption, Int32.not_le.mp (by assumption)⟩] | rw [if_neg (fun h => h.1 (by assumption))] | rw [if_neg (fun h => absurd (by assumption) (Int32.not_le.mpr h.2))]) hP hK hD hS dX4_isCell_17
set_option maxHeartbeats 4000000 in
set_option maxRecDepth 100000 in
theorem c_ScanRowsModel_thrown (l : Launch) (dC : Nat → ClassId) (dI : Nat → Nat → Nat) (q : Nat → Nat) (cI cZ : ClassId) (sz : Nat) (y : MS) : Met l yX4_thrown (.code yX4_thrown cX4_thrown 1 (some .int) :: ALLG) ({ frames := 0, cells := 0, slots := 0, locals := 0 }) (va_Pc [.ref (q 0)] (cP (dC, dI) vwCl [(cI, .int), (cZ, .boolean)] (wM q cI cZ y) eT sz)) (va_Qi (fun (x : Int32) (_ : Unit) => x = nI y.th) (fun (_ : Unit) => cB (dC, dI) vwCl [(cI, .int), (cZ, .boolean)] (wM q cI cZ y) (va_A (wM q cI cZ y) sz)) (va_A (wM q cI cZ y) sz)) 0 0 (va_A (wM q cI cZ y) sz) := by
  refine xm_of (cc := cX4_thrown) (maxL := 1) (ret := some .int) (by decide) rfl (Nat.le_of_ble_eq_true rfl) ?_
  intro p e s m below meth c A hAe hx hb hr hml hts0 hown hlk hin hsz H locs hP hK hD hA hS hE ls hl
  have hts : ∀ w ∈ ALLG, w.before _ s = true := fun w h => hts0 w (List.mem_cons_of_mem _ h)
  rw [← hAe]
  have hl : lv_has ls 1 [(0, .ref (q 0))] := hl
  refine lv_aload_n hx hb dX4_thrown_0 rfl (lv_at hl 0 rfl) ?_
  refine va_get (D := (dC, dI)) (ci := 4) (v := .int (nI (MS.th y))) (C := RX4) (T := TX4) (N := 23) hx hb hts inX4 hown hK hP 0 rfl rfl 0 (by decide) (hts _ tw_572) (fun _ h9 => h9) rfl dX4_thrown_1 ?_
  exact xr_i hx hb hr hlk (u := ()) rfl hP hK hD hS dX4_thrown_4
set_option maxHeartbeats 4000000 in
set_option maxRecDepth 100000 in
theorem c_ScanRowsModel_latch (l : Launch) (dC : Nat → ClassId) (dI : Nat → Nat → Nat) (q : Nat → Nat) (cI cZ : ClassId) (sz : Nat) (y : MS) (ck : Nat) (xx yy : Int) (h1 : y.n < 32) (h2 : ck < 4) (h3 : -1000 ≤ xx ∧ xx ≤ 1000) (h4 : -1000 ≤ yy ∧ yy ≤ 1000) : Met l yX4_latch (.code yX4_latch cX4_latch 7 (some .int) :: ALLG) ({ frames := 0, cells := 0, slots := 0, locals := 0 }) (va_Pc [.ref (q 0), .int (nI ck), .long (zL xx), .long (zL yy)] (cP (dC, dI) vwCl [(cI, .int), (cZ, .boolean)] (wM q cI cZ y) eT sz)) (va_Qi (fun (x : Int32) (u : MS) => x = nI y.n ∧ u = mLatch y ck xx yy) (fun (u : MS) => cB (dC, dI) vwCl [(cI, .int), (cZ, .boolean)] (wM q cI cZ u) (va_A (wM q cI cZ y) sz)) (va_A (wM q cI cZ y) sz)) 0 0 (va_A (wM q cI cZ y) sz) := by
  refine xm_of (cc := cX4_latch) (maxL := 7) (ret := some .int) (by decide) rfl (Nat.le_of_ble_eq_true rfl) ?_
  intro p e s m below meth c A hAe hx hb hr hml hts0 hown hlk hin hsz H locs hP hK hD hA hS hE ls hl
  have hts : ∀ w ∈ ALLG, w.before _ s = true := fun w h => hts0 w (List.mem_cons_of_mem _ h)
  rw [← hAe]
  have hl : lv_has ls 7 [(0, .ref (q 0)), (1, .int (nI ck)), (2, .long (zL xx)), (4, .long (zL yy))] := hl
  refine lv_iload_n hx hb dX4_latch_0 rfl (lv_at hl 1 rfl) ?_
  refine xn_zlt (tgt := 47) hx hb (by omega) dX4_latch_1 (by decide) ?_
  refine lv_iload_n hx hb dX4_latch_4 rfl (lv_at hl 1 rfl) ?_
  refine lv_iconst (v := nI 3) hx hb dX4_latch_5 (by decide) ?_
  refine xn_cgt (tgt := 47) hx hb (by omega) (by omega) dX4_latch_6 (by decide) (fun c_2 => ?_) (fun c_2 => ?_)
  · exact absurd (show False by omega) id
  · refine lv_lload_n hx hb dX4_latch_9 rfl (lv_at hl 2 rfl) ?_
    refine lv_ldc2 (v := (-1000 : Int64)) hx hb hown (hts _ tw_650) dX4_latch_10 ?_
    refine W.lcmp hx hb dX4_latch_13 ?_
    refine lv_if_lt (tgt := 47) hx hb dX4_latch_14 (by decide) (fun c_3 => ?_) (fun c_3 => ?_)
    · exact absurd ((lg_cmp_lt _ _).mp c_3) (zL_lo h3.1 h3.2)
    · refine lv_lload_n hx hb dX4_latch_17 rfl (lv_at hl 2 rfl) ?_
      refine lv_ldc2 (v := (1000 : Int64)) hx hb hown (hts _ tw_651) dX4_latch_18 ?_
      refine W.lcmp hx hb dX4_latch_21 ?_
      refine lv_if_gt (tgt := 47) hx hb dX4_latch_22 (by decide) (fun c_4 => ?_) (fun c_4 => ?_)
      · exact absurd ((lg_cmp_gt _ _).mp c_4) (zL_hi h3.1 h3.2)
      · refine lv_lload hx hb dX4_latch_25 (lv_at hl 3 rfl) ?_
        refine lv_ldc2 (v := (-1000 : Int64)) hx hb hown (hts _ tw_650) dX4_latch_27 ?_
        refine W.lcmp hx hb dX4_latch_30 ?_
        refine lv_if_lt (tgt := 47) hx hb dX4_latch_31 (by decide) (fun c_5 => ?_) (fun c_5 => ?_)
        · exact absurd ((lg_cmp_lt _ _).mp c_5) (zL_lo h4.1 h4.2)
        · refine lv_lload hx hb dX4_latch_34 (lv_at hl 3 rfl) ?_
          refine lv_ldc2 (v := (1000 : Int64)) hx hb hown (hts _ tw_651) dX4_latch_36 ?_
          refine W.lcmp hx hb dX4_latch_39 ?_
          refine lv_if_gt (tgt := 47) hx hb dX4_latch_40 (by decide) (fun c_6 => ?_) (fun c_6 => ?_)
          · exact absurd ((lg_cmp_gt _ _).mp c_6) (zL_hi h4.1 h4.2)
          · refine lv_iconst (v := nI 1) hx hb dX4_latch_43 (by decide) ?_
            refine lv_goto (tgt := 48) hx hb dX4_latch_44 (by decide) ?_
            refine lv_istore (lv' := [(6, .int (nI 1)), (0, .ref (q 0)), (1, .int (nI ck)), (2, .long (zL xx)), (4, .long (zL yy))]) hx hb dX4_latch_48 hl (by decide) rfl (fun ls hl => ?_)
            refine lv_aload_n hx hb dX4_latch_50 rfl (lv_at hl 1 rfl) ?_
            refine lv_aload_n hx hb dX4_latch_51 rfl (lv_at hl 1 rfl) ?_
            refine va_get (D := (dC, dI)) (ci := 4) (v := .int (nI (MS.n y))) (C := RX4) (T := TX4) (N := 23) hx hb hts inX4 hown hK hP 0 rfl rfl 7 (by decide) (hts _ tw_579) (fun _ h9 => h9) rfl dX4_latch_52 ?_
            refine lv_bipush (v := nI 32) hx hb dX4_latch_55 (by decide) ?_
            refine xn_cne (tgt := 64) hx hb (by omega) (by omega) dX4_latch_57 (by decide) (fun c_7 => ?_) (fun c_7 => ?_)
            · refine lv_iload hx hb dX4_latch_64 (lv_at hl 0 rfl) ?_
              refine xn_zne (tgt := 73) hx hb (by omega) dX4_latch_66 (by decide) (fun c_8 => ?_) (fun c_8 => ?_)
              · refine lv_iconst (v := nI 0) hx hb dX4_latch_73 (by decide) ?_
                refine va_put (D := (dC, dI)) (ci := 4) (v := .int (nI 0)) (ty := .int) (C := RX4) (T := TX4) (N := 23) hx hb hts inX4 tyX4 tyX4_ok nmX4 hown hK hP hD hS 0 rfl rfl 0 (by decide) (hts _ tw_572) (fun _ h9 => h9) rfl (by decide +kernel) rfl rfl (Nat.le_of_ble_eq_true rfl) dX4_latch_74 (fun H locs hP hD hS => ?_)
                have hP : va_P (dC, dI) vwCl (wM q cI cZ (MS.s_th y 0)) H := hP
                have hD : va_D A (wM q cI cZ (MS.s_th y 0)) := hD
                refine lv_aload_n hx hb dX4_latch_77 rfl (lv_at hl 1 rfl) ?_
                refine va_get (D := (dC, dI)) (ci := 4) (v := .int (nI 0)) (C := RX4) (T := TX4) (N := 23) hx hb hts inX4 hown hK hP 0 rfl rfl 0 (by decide) (hts _ tw_572) (fun _ h9 => h9) rfl dX4_latch_78 ?_
                refine xn_zle (tgt := 86) hx hb (by omega) dX4_latch_81 (by decide) (fun c_9 => ?_) (fun c_9 => ?_)
                · refine lv_aload_n hx hb dX4_latch_86 rfl (lv_at hl 1 rfl) ?_
                  refine va_get (D := (dC, dI)) (ci := 4) (v := .ref (q 1)) (C := RX4) (T := TX4) (N := 23) hx hb hts inX4 hown hK hP 0 rfl rfl 2 (by decide) (hts _ tw_574) (fun _ h9 => h9) rfl dX4_latch_87 ?_
                  refine lv_aload_n hx hb dX4_latch_90 rfl (lv_at hl 1 rfl) ?_
                  refine va_get (D := (dC, dI)) (ci := 4) (v := .int (nI (MS.n y))) (C := RX4) (T := TX4) (N := 23) hx hb hts inX4 hown hK hP 0 rfl rfl 7 (by decide) (hts _ tw_579) (fun _ h9 => h9) rfl dX4_latch_91 ?_
                  refine lv_iload_n hx hb dX4_latch_94 rfl (lv_at hl 2 rfl) ?_
                  refine xa_ist hx hb hK hP hD hS 1 0 rfl rfl (by omega) (by decide) (aN_up _ _ _) dX4_latch_95 (fun H locs hP hD hS => ?_)
                  have hP : va_P (dC, dI) vwCl (wM q cI cZ (MS.s_ck (MS.s_th y 0) (va_up (MS.ck y) (MS.n y) ck))) H := hP
                  have hD : va_D A (wM q cI cZ (MS.s_ck (MS.s_th y 0) (va_up (MS.ck y) (MS.n y) ck))) := hD
                  refine lv_aload_n hx hb dX4_latch_96 rfl (lv_at hl 1 rfl) ?_
                  refine va_get (D := (dC, dI)) (ci := 4) (v := .ref (q 2)) (C := RX4) (T := TX4) (N := 23) hx hb hts inX4 hown hK hP 0 rfl rfl 3 (by decide) (hts _ tw_575) (fun _ h9 => h9) rfl dX4_latch_97 ?_
                  refine lv_aload_n hx hb dX4_latch_100 rfl (lv_at hl 1 rfl) ?_
                  refine va_get (D := (dC, dI)) (ci := 4) (v := .int (nI (MS.n y))) (C := RX4) (T := TX4) (N := 23) hx hb hts inX4 hown hK hP 0 rfl rfl 7 (by decide) (hts _ tw_579) (fun _ h9 => h9) rfl dX4_latch_101 ?_
                  refine lv_lload_n hx hb dX4_latch_104 rfl (lv_at hl 3 rfl) ?_
                  refine lv_l2i hx hb dX4_latch_105 rfl ?_
                  refine xt_i (show ((zL xx).toInt32) = zI xx from zL_i xx) ?_
                  refine xa_ist hx hb hK hP hD hS 2 0 rfl rfl (by omega) (by decide) (aZ_up _ _ _) dX4_latch_106 (fun H locs hP hD hS => ?_)
                  have hP : va_P (dC, dI) vwCl (wM q cI cZ (MS.s_xx (MS.s_ck (MS.s_th y 0) (va_up (MS.ck y) (MS.n y) ck)) (va_up (MS.xx y) (MS.n y) xx))) H := hP
                  have hD : va_D A (wM q cI cZ (MS.s_xx (MS.s_ck (MS.s_th y 0) (va_up (MS.ck y) (MS.n y) ck)) (va_up (MS.xx y) (MS.n y) xx))) := hD
                  refine lv_aload_n hx hb dX4_latch_107 rfl (lv_at hl 1 rfl) ?_
                  refine va_get (D := (dC, dI)) (ci := 4) (v := .ref (q 3)) (C := RX4) (T := TX4) (N := 23) hx hb hts inX4 hown hK hP 0 rfl rfl 4 (by decide) (hts _ tw_576) (fun _ h9 => h9) rfl dX4_latch_108 ?_
                  refine lv_aload_n hx hb dX4_latch_111 rfl (lv_at hl 1 rfl) ?_
                  refine va_get (D := (dC, dI)) (ci := 4) (v := .int (nI (MS.n y))) (C := RX4) (T := TX4) (N := 23) hx hb hts inX4 hown hK hP 0 rfl rfl 7 (by decide) (hts _ tw_579) (fun _ h9 => h9) rfl dX4_latch_112 ?_
                  refine lv_lload hx hb dX4_latch_115 (lv_at hl 4 rfl) ?_
                  refine lv_l2i hx hb dX4_latch_117 rfl ?_
                  refine xt_i (show ((zL yy).toInt32) = zI yy from zL_i yy) ?_
                  refine xa_ist hx hb hK hP hD hS 3 0 rfl rfl (by omega) (by decide) (aZ_up _ _ _) dX4_latch_118 (fun H locs hP hD hS => ?_)
                  have hP : va_P (dC, dI) vwCl (wM q cI cZ (MS.s_yy (MS.s_xx (MS.s_ck (MS.s_th y 0) (va_up (MS.ck y) (MS.n y) ck)) (va_up (MS.xx y) (MS.n y) xx)) (va_up (MS.yy y) (MS.n y) yy))) H := hP
                  have hD : va_D A (wM q cI cZ (MS.s_yy (MS.s_xx (MS.s_ck (MS.s_th y 0) (va_up (MS.ck y) (MS.n y) ck)) (va_up (MS.xx y) (MS.n y) xx)) (va_up (MS.yy y) (MS.n y) yy))) := hD
                  refine lv_aload_n hx hb dX4_latch_119 rfl (lv_at hl 1 rfl) ?_
                  refine lv_dup hx hb dX4_latch_120 rfl ?_
                  refine va_get (D := (dC, dI)) (ci := 4) (v := .int (nI (MS.n y))) (C := RX4) (T := TX4) (N := 23) hx hb hts inX4 hown hK hP 0 rfl rfl 7 (by decide) (hts _ tw_579) (fun _ h9 => h9) rfl dX4_latch_121 ?_
                  refine lv_iconst (v := nI 1) hx hb dX4_latch_124 (by decide) ?_
                  refine xn_add hx hb dX4_latch_125 ?_
                  refine va_put (D := (dC, dI)) (ci := 4) (v := .int (nI ((MS.n y) + 1))) (ty := .int) (C := RX4) (T := TX4) (N := 23) hx hb hts inX4 tyX4 tyX4_ok nmX4 hown hK hP hD hS 0 rfl rfl 7 (by decide) (hts _ tw_579) (fun _ h9 => h9) rfl (by decide +kernel) rfl rfl (Nat.le_of_ble_eq_true rfl) dX4_latch_126 (fun H locs hP hD hS => ?_)
                  have hP : va_P (dC, dI) vwCl (wM q cI cZ (MS.s_n (MS.s_yy (MS.s_xx (MS.s_ck (MS.s_th y 0) (va_up (MS.ck y) (MS.n y) ck)) (va_up (MS.xx y) (MS.n y) xx)) (va_up (MS.yy y) (MS.n y) yy)) ((MS.n y) + 1))) H := hP
                  have hD : va_D A (wM q cI cZ (MS.s_n (MS.s_yy (MS.s_xx (MS.s_ck (MS.s_th y 0) (va_up (MS.ck y) (MS.n y) ck)) (va_up (MS.xx y) (MS.n y) xx)) (va_up (MS.yy y) (MS.n y) yy)) ((MS.n y) + 1))) := hD
                  refine lv_aload_n hx hb dX4_latch_129 rfl (lv_at hl 1 rfl) ?_
                  refine va_get (D := (dC, dI)) (ci := 4) (v := .int (nI ((MS.n y) + 1))) (C := RX4) (T := TX4) (N := 23) hx hb hts inX4 hown hK hP 0 rfl rfl 7 (by decide) (hts _ tw_579) (fun _ h9 => h9) rfl dX4_latch_130 ?_
                  refine lv_iconst (v := nI 1) hx hb dX4_latch_133 (by decide) ?_
                  refine xn_sub hx hb (by omega) dX4_latch_134 ?_
                  exact xr_i hx hb hr hlk (u := MS.s_n (MS.s_yy (MS.s_xx (MS.s_ck (MS.s_th y 0) (va_up (MS.ck y) (MS.n y) ck)) (va_up (MS.xx y) (MS.n y) xx)) (va_up (MS.yy y) (MS.n y) yy)) ((MS.n y) + 1)) (⟨by rw [Nat.add_sub_cancel], rfl⟩) hP hK hD hS dX4_latch_135
                · exact absurd (show False by omega) id
              · exact absurd (show False by omega) id
            · exact absurd (show False by omega) id
set_option maxHeartbeats 4000000 in
set_option maxRecDepth 100000 in
theorem c_M_latch1 (l : Launch) (dC : Nat → ClassId) (dI : Nat → Nat → Nat) (q : Nat → Nat) (cI cZ : ClassId) (sz : Nat) (y : MS) (ck : Int32) (xl yl : Int64) (h1 : y.n = 32) : Met l yX4_latch (.code yX4_latch cX4_latch 7 (some .int) :: ALLG) ({ frames := 0, cells := 0, slots := 0, locals := 0 }) (va_Pc [.ref (q 0), .int ck, .long xl, .long yl] (cP (dC, dI) vwCl [(cI, .int), (cZ, .boolean)] (wM q cI cZ y) eT sz)) (va_Qi (fun (x : Int32) (u : MS) => x = nI 0 ∧ u = y.s_th 1) (fun (u : MS) => cB (dC, dI) vwCl [(cI, .int), (cZ, .boolean)] (wM q cI cZ u) (va_A (wM q cI cZ y) sz)) (va_A (wM q cI cZ y) sz)) 0 0 (va_A (wM q cI cZ y) sz) := by
  refine xm_of (cc := cX4_latch) (maxL := 7) (ret := some .int) (by decide) rfl (Nat.le_of_ble_eq_true rfl) ?_
  intro p e s m below meth c A hAe hx hb hr hml hts0 hown hlk hin hsz H locs hP hK hD hA hS hE ls hl
  have hts : ∀ w ∈ ALLG, w.before _ s = true := fun w h => hts0 w (List.mem_cons_of_mem _ h)
  rw [← hAe]
  have hl : lv_has ls 7 [(0, .ref (q 0)), (1, .int ck), (2, .long xl), (4, .long yl)] := hl
  refine lv_iload_n hx hb dX4_latch_0 rfl (lv_at hl 1 rfl) ?_
  refine lv_if_lt (tgt := 47) hx hb dX4_latch_1 (by decide) (fun c_1 => ?_) (fun c_1 => ?_)
  · refine lv_iconst (v := nI 0) hx hb dX4_latch_47 (by decide) ?_
    refine lv_istore (lv' := [(6, .int (nI 0)), (0, .ref (q 0)), (1, .int ck), (2, .long xl), (4, .long yl)]) hx hb dX4_latch_48 hl (by decide) rfl (fun ls hl => ?_)
    refine lv_aload_n hx hb dX4_latch_50 rfl (lv_at hl 1 rfl) ?_
    refine lv_aload_n hx hb dX4_latch_51 rfl (lv_at hl 1 rfl) ?_
    refine va_get (D := (dC, dI)) (ci := 4) (v := .int (nI (MS.n y))) (C := RX4) (T := TX4) (N := 23) hx hb hts inX4 hown hK hP 0 rfl rfl 7 (by decide) (hts _ tw_579) (fun _ h9 => h9) rfl dX4_latch_52 ?_
    refine lv_bipush (v := nI 32) hx hb dX4_latch_55 (by decide) ?_
    refine xn_cne (tgt := 64) hx hb (by omega) (by omega) dX4_latch_57 (by decide) (fun c_2 => ?_) (fun c_2 => ?_)
    · exact absurd (show False by omega) id
    · refine lv_iconst (v := nI 1) hx hb dX4_latch_60 (by decide) ?_
      refine lv_goto (tgt := 74) hx hb dX4_latch_61 (by decide) ?_
      refine va_put (D := (dC, dI)) (ci := 4) (v := .int (nI 1)) (ty := .int) (C := RX4) (T := TX4) (N := 23) hx hb hts inX4 tyX4 tyX4_ok nmX4 hown hK hP hD hS 0 rfl rfl 0 (by decide) (hts _ tw_572) (fun _ h9 => h9) rfl (by decide +kernel) rfl rfl (Nat.le_of_ble_eq_true rfl) dX4_latch_74 (fun H locs hP hD hS => ?_)
      have hP : va_P (dC, dI) vwCl (wM q cI cZ (MS.s_th y 1)) H := hP
      have hD : va_D A (wM q cI cZ (MS.s_th y 1)) := hD
      refine lv_aload_n hx hb dX4_latch_77 rfl (lv_at hl 1 rfl) ?_
      refine va_get (D := (dC, dI)) (ci := 4) (v := .int (nI 1)) (C := RX4) (T := TX4) (N := 23) hx hb hts inX4 hown hK hP 0 rfl rfl 0 (by decide) (hts _ tw_572) (fun _ h9 => h9) rfl dX4_latch_78 ?_
      refine xn_zle (tgt := 86) hx hb (by omega) dX4_latch_81 (by decide) (fun c_3 => ?_) (fun c_3 => ?_)
      · exact absurd (show False by omega) id
      · refine lv_iconst (v := nI 0) hx hb dX4_latch_84 (by decide) ?_
        exact xr_i hx hb hr hlk (u := MS.s_th y 1) (⟨rfl, rfl⟩) hP hK hD hS dX4_latch_85
  · refine lv_iload_n hx hb dX4_latch_4 rfl (lv_at hl 1 rfl) ?_
    refine lv_iconst (v := nI 3) hx hb dX4_latch_5 (by decide) ?_
    refine lv_icmp_gt (tgt := 47) hx hb dX4_latch_6 (by decide) (fun c_4 => ?_) (fun c_4 => ?_)
    · refine lv_iconst (v := nI 0) hx hb dX4_latch_47 (by decide) ?_
      refine lv_istore (lv' := [(6, .int (nI 0)), (0, .ref (q 0)), (1, .int ck), (2, .long xl), (4, .long yl)]) hx hb dX4_latch_48 hl (by decide) rfl (fun ls hl => ?_)
      refine lv_aload_n hx hb dX4_latch_50 rfl (lv_at hl 1 rfl) ?_
      refine lv_aload_n hx hb dX4_latch_51 rfl (lv_at hl 1 rfl) ?_
      refine va_get (D := (dC, dI)) (ci := 4) (v := .int (nI (MS.n y))) (C := RX4) (T := TX4) (N := 23) hx hb hts inX4 hown hK hP 0 rfl rfl 7 (by decide) (hts _ tw_579) (fun _ h9 => h9) rfl dX4_latch_52 ?_
      refine lv_bipush (v := nI 32) hx hb dX4_latch_55 (by decide) ?_
      refine xn_cne (tgt := 64) hx hb (by omega) (by omega) dX4_latch_57 (by decide) (fun c_5 => ?_) (fun c_5 => ?_)
      · exact absurd (show False by omega) id
      · refine lv_iconst (v := nI 1) hx hb dX4_latch_60 (by decide) ?_
        refine lv_goto (tgt := 74) hx hb dX4_latch_61 (by decide) ?_
        refine va_put (D := (dC, dI)) (ci := 4) (v := .int (nI 1)) (ty := .int) (C := RX4) (T := TX4) (N := 23) hx hb hts inX4 tyX4 tyX4_ok nmX4 hown hK hP hD hS 0 rfl rfl 0 (by decide) (hts _ tw_572) (fun _ h9 => h9) rfl (by decide +kernel) rfl rfl (Nat.le_of_ble_eq_true rfl) dX4_latch_74 (fun H locs hP hD hS => ?_)
        have hP : va_P (dC, dI) vwCl (wM q cI cZ (MS.s_th y 1)) H := hP
        have hD : va_D A (wM q cI cZ (MS.s_th y 1)) := hD
        refine lv_aload_n hx hb dX4_latch_77 rfl (lv_at hl 1 rfl) ?_
        refine va_get (D := (dC, dI)) (ci := 4) (v := .int (nI 1)) (C := RX4) (T := TX4) (N := 23) hx hb hts inX4 hown hK hP 0 rfl rfl 0 (by decide) (hts _ tw_572) (fun _ h9 => h9) rfl dX4_latch_78 ?_
        refine xn_zle (tgt := 86) hx hb (by omega) dX4_latch_81 (by decide) (fun c_6 => ?_) (fun c_6 => ?_)
        · exact absurd (show False by omega) id
        · refine lv_iconst (v := nI 0) hx hb dX4_latch_84 (by decide) ?_
          exact xr_i hx hb hr hlk (u := MS.s_th y 1) (⟨rfl, rfl⟩) hP hK hD hS dX4_latch_85
    · refine lv_lload_n hx hb dX4_latch_9 rfl (lv_at hl 2 rfl) ?_
      refine lv_ldc2 (v := (-1000 : Int64)) hx hb hown (hts _ tw_650) dX4_latch_10 ?_
      refine W.lcmp hx hb dX4_latch_13 ?_
      refine lv_if_lt (tgt := 47) hx hb dX4_latch_14 (by decide) (fun c_7 => ?_) (fun c_7 => ?_)
      · refine lv_iconst (v := nI 0) hx hb dX4_latch_47 (by decide) ?_
        refine lv_istore (lv' := [(6, .int (nI 0)), (0, .ref (q 0)), (1, .int ck), (2, .long xl), (4, .long yl)]) hx hb dX4_latch_48 hl (by decide) rfl (fun ls hl => ?_)
        refine lv_aload_n hx hb dX4_latch_50 rfl (lv_at hl 1 rfl) ?_
        refine lv_aload_n hx hb dX4_latch_51 rfl (lv_at hl 1 rfl) ?_
        refine va_get (D := (dC, dI)) (ci := 4) (v := .int (nI (MS.n y))) (C := RX4) (T := TX4) (N := 23) hx hb hts inX4 hown hK hP 0 rfl rfl 7 (by decide) (hts _ tw_579) (fun _ h9 => h9) rfl dX4_latch_52 ?_
        refine lv_bipush (v := nI 32) hx hb dX4_latch_55 (by decide) ?_
        refine xn_cne (tgt := 64) hx hb (by omega) (by omega) dX4_latch_57 (by decide) (fun c_8 => ?_) (fun c_8 => ?_)
        · exact absurd (show False by omega) id
        · refine lv_iconst (v := nI 1) hx hb dX4_latch_60 (by decide) ?_
          refine lv_goto (tgt := 74) hx hb dX4_latch_61 (by decide) ?_
          refine va_put (D := (dC, dI)) (ci := 4) (v := .int (nI 1)) (ty := .int) (C := RX4) (T := TX4) (N := 23) hx hb hts inX4 tyX4 tyX4_ok nmX4 hown hK hP hD hS 0 rfl rfl 0 (by decide) (hts _ tw_572) (fun _ h9 => h9) rfl (by decide +kernel) rfl rfl (Nat.le_of_ble_eq_true rfl) dX4_latch_74 (fun H locs hP hD hS => ?_)
          have hP : va_P (dC, dI) vwCl (wM q cI cZ (MS.s_th y 1)) H := hP
          have hD : va_D A (wM q cI cZ (MS.s_th y 1)) := hD
          refine lv_aload_n hx hb dX4_latch_77 rfl (lv_at hl 1 rfl) ?_
          refine va_get (D := (dC, dI)) (ci := 4) (v := .int (nI 1)) (C := RX4) (T := TX4) (N := 23) hx hb hts inX4 hown hK hP 0 rfl rfl 0 (by decide) (hts _ tw_572) (fun _ h9 => h9) rfl dX4_latch_78 ?_
          refine xn_zle (tgt := 86) hx hb (by omega) dX4_latch_81 (by decide) (fun c_9 => ?_) (fun c_9 => ?_)
          · exact absurd (show False by omega) id
          · refine lv_iconst (v := nI 0) hx hb dX4_latch_84 (by decide) ?_
            exact xr_i hx hb hr hlk (u := MS.s_th y 1) (⟨rfl, rfl⟩) hP hK hD hS dX4_latch_85
      · refine lv_lload_n hx hb dX4_latch_17 rfl (lv_at hl 2 rfl) ?_
        refine lv_ldc2 (v := (1000 : Int64)) hx hb hown (hts _ tw_651) dX4_latch_18 ?_
        refine W.lcmp hx hb dX4_latch_21 ?_
        refine lv_if_gt (tgt := 47) hx hb dX4_latch_22 (by decide) (fun c_10 => ?_) (fun c_10 => ?_)
        · refine lv_iconst (v := nI 0) hx hb dX4_latch_47 (by decide) ?_
          refine lv_istore (lv' := [(6, .int (nI 0)), (0, .ref (q 0)), (1, .int ck), (2, .long xl), (4, .long yl)]) hx hb dX4_latch_48 hl (by decide) rfl (fun ls hl => ?_)
          refine lv_aload_n hx hb dX4_latch_50 rfl (lv_at hl 1 rfl) ?_
          refine lv_aload_n hx hb dX4_latch_51 rfl (lv_at hl 1 rfl) ?_
          refine va_get (D := (dC, dI)) (ci := 4) (v := .int (nI (MS.n y))) (C := RX4) (T := TX4) (N := 23) hx hb hts inX4 hown hK hP 0 rfl rfl 7 (by decide) (hts _ tw_579) (fun _ h9 => h9) rfl dX4_latch_52 ?_
          refine lv_bipush (v := nI 32) hx hb dX4_latch_55 (by decide) ?_
          refine xn_cne (tgt := 64) hx hb (by omega) (by omega) dX4_latch_57 (by decide) (fun c_11 => ?_) (fun c_11 => ?_)
          · exact absurd (show False by omega) id
          · refine lv_iconst (v := nI 1) hx hb dX4_latch_60 (by decide) ?_
            refine lv_goto (tgt := 74) hx hb dX4_latch_61 (by decide) ?_
            refine va_put (D := (dC, dI)) (ci := 4) (v := .int (nI 1)) (ty := .int) (C := RX4) (T := TX4) (N := 23) hx hb hts inX4 tyX4 tyX4_ok nmX4 hown hK hP hD hS 0 rfl rfl 0 (by decide) (hts _ tw_572) (fun _ h9 => h9) rfl (by decide +kernel) rfl rfl (Nat.le_of_ble_eq_true rfl) dX4_latch_74 (fun H locs hP hD hS => ?_)
            have hP : va_P (dC, dI) vwCl (wM q cI cZ (MS.s_th y 1)) H := hP
            have hD : va_D A (wM q cI cZ (MS.s_th y 1)) := hD
            refine lv_aload_n hx hb dX4_latch_77 rfl (lv_at hl 1 rfl) ?_
            refine va_get (D := (dC, dI)) (ci := 4) (v := .int (nI 1)) (C := RX4) (T := TX4) (N := 23) hx hb hts inX4 hown hK hP 0 rfl rfl 0 (by decide) (hts _ tw_572) (fun _ h9 => h9) rfl dX4_latch_78 ?_
            refine xn_zle (tgt := 86) hx hb (by omega) dX4_latch_81 (by decide) (fun c_12 => ?_) (fun c_12 => ?_)
            · exact absurd (show False by omega) id
            · refine lv_iconst (v := nI 0) hx hb dX4_latch_84 (by decide) ?_
              exact xr_i hx hb hr hlk (u := MS.s_th y 1) (⟨rfl, rfl⟩) hP hK hD hS dX4_latch_85
        · refine lv_lload hx hb dX4_latch_25 (lv_at hl 3 rfl) ?_
          refine lv_ldc2 (v := (-1000 : Int64)) hx hb hown (hts _ tw_650) dX4_latch_27 ?_
          refine W.lcmp hx hb dX4_latch_30 ?_
          refine lv_if_lt (tgt := 47) hx hb dX4_latch_31 (by decide) (fun c_13 => ?_) (fun c_13 => ?_)
          · refine lv_iconst (v := nI 0) hx hb dX4_latch_47 (by decide) ?_
            refine lv_istore (lv' := [(6, .int (nI 0)), (0, .ref (q 0)), (1, .int ck), (2, .long xl), (4, .long yl)]) hx hb dX4_latch_48 hl (by decide) rfl (fun ls hl => ?_)
            refine lv_aload_n hx hb dX4_latch_50 rfl (lv_at hl 1 rfl) ?_
            refine lv_aload_n hx hb dX4_latch_51 rfl (lv_at hl 1 rfl) ?_
            refine va_get (D := (dC, dI)) (ci := 4) (v := .int (nI (MS.n y))) (C := RX4) (T := TX4) (N := 23) hx hb hts inX4 hown hK hP 0 rfl rfl 7 (by decide) (hts _ tw_579) (fun _ h9 => h9) rfl dX4_latch_52 ?_
            refine lv_bipush (v := nI 32) hx hb dX4_latch_55 (by decide) ?_
            refine xn_cne (tgt := 64) hx hb (by omega) (by omega) dX4_latch_57 (by decide) (fun c_14 => ?_) (fun c_14 => ?_)
            · exact absurd (show False by omega) id
            · refine lv_iconst (v := nI 1) hx hb dX4_latch_60 (by decide) ?_
              refine lv_goto (tgt := 74) hx hb dX4_latch_61 (by decide) ?_
              refine va_put (D := (dC, dI)) (ci := 4) (v := .int (nI 1)) (ty := .int) (C := RX4) (T := TX4) (N := 23) hx hb hts inX4 tyX4 tyX4_ok nmX4 hown hK hP hD hS 0 rfl rfl 0 (by decide) (hts _ tw_572) (fun _ h9 => h9) rfl (by decide +kernel) rfl rfl (Nat.le_of_ble_eq_true rfl) dX4_latch_74 (fun H locs hP hD hS => ?_)
              have hP : va_P (dC, dI) vwCl (wM q cI cZ (MS.s_th y 1)) H := hP
              have hD : va_D A (wM q cI cZ (MS.s_th y 1)) := hD
              refine lv_aload_n hx hb dX4_latch_77 rfl (lv_at hl 1 rfl) ?_
              refine va_get (D := (dC, dI)) (ci := 4) (v := .int (nI 1)) (C := RX4) (T := TX4) (N := 23) hx hb hts inX4 hown hK hP 0 rfl rfl 0 (by decide) (hts _ tw_572) (fun _ h9 => h9) rfl dX4_latch_78 ?_
              refine xn_zle (tgt := 86) hx hb (by omega) dX4_latch_81 (by decide) (fun c_15 => ?_) (fun c_15 => ?_)
              · exact absurd (show False by omega) id
              · refine lv_iconst (v := nI 0) hx hb dX4_latch_84 (by decide) ?_
                exact xr_i hx hb hr hlk (u := MS.s_th y 1) (⟨rfl, rfl⟩) hP hK hD hS dX4_latch_85
          · refine lv_lload hx hb dX4_latch_34 (lv_at hl 3 rfl) ?_
            refine lv_ldc2 (v := (1000 : Int64)) hx hb hown (hts _ tw_651) dX4_latch_36 ?_
            refine W.lcmp hx hb dX4_latch_39 ?_
            refine lv_if_gt (tgt := 47) hx hb dX4_latch_40 (by decide) (fun c_16 => ?_) (fun c_16 => ?_)
            · refine lv_iconst (v := nI 0) hx hb dX4_latch_47 (by decide) ?_
              refine lv_istore (lv' := [(6, .int (nI 0)), (0, .ref (q 0)), (1, .int ck), (2, .long xl), (4, .long yl)]) hx hb dX4_latch_48 hl (by decide) rfl (fun ls hl => ?_)
              refine lv_aload_n hx hb dX4_latch_50 rfl (lv_at hl 1 rfl) ?_
              refine lv_aload_n hx hb dX4_latch_51 rfl (lv_at hl 1 rfl) ?_
              refine va_get (D := (dC, dI)) (ci := 4) (v := .int (nI (MS.n y))) (C := RX4) (T := TX4) (N := 23) hx hb hts inX4 hown hK hP 0 rfl rfl 7 (by decide) (hts _ tw_579) (fun _ h9 => h9) rfl dX4_latch_52 ?_
              refine lv_bipush (v := nI 32) hx hb dX4_latch_55 (by decide) ?_
              refine xn_cne (tgt := 64) hx hb (by omega) (by omega) dX4_latch_57 (by decide) (fun c_17 => ?_) (fun c_17 => ?_)
              · exact absurd (show False by omega) id
              · refine lv_iconst (v := nI 1) hx hb dX4_latch_60 (by decide) ?_
                refine lv_goto (tgt := 74) hx hb dX4_latch_61 (by decide) ?_
                refine va_put (D := (dC, dI)) (ci := 4) (v := .int (nI 1)) (ty := .int) (C := RX4) (T := TX4) (N := 23) hx hb hts inX4 tyX4 tyX4_ok nmX4 hown hK hP hD hS 0 rfl rfl 0 (by decide) (hts _ tw_572) (fun _ h9 => h9) rfl (by decide +kernel) rfl rfl (Nat.le_of_ble_eq_true rfl) dX4_latch_74 (fun H locs hP hD hS => ?_)
                have hP : va_P (dC, dI) vwCl (wM q cI cZ (MS.s_th y 1)) H := hP
                have hD : va_D A (wM q cI cZ (MS.s_th y 1)) := hD
                refine lv_aload_n hx hb dX4_latch_77 rfl (lv_at hl 1 rfl) ?_
                refine va_get (D := (dC, dI)) (ci := 4) (v := .int (nI 1)) (C := RX4) (T := TX4) (N := 23) hx hb hts inX4 hown hK hP 0 rfl rfl 0 (by decide) (hts _ tw_572) (fun _ h9 => h9) rfl dX4_latch_78 ?_
                refine xn_zle (tgt := 86) hx hb (by omega) dX4_latch_81 (by decide) (fun c_18 => ?_) (fun c_18 => ?_)
                · exact absurd (show False by omega) id
                · refine lv_iconst (v := nI 0) hx hb dX4_latch_84 (by decide) ?_
                  exact xr_i hx hb hr hlk (u := MS.s_th y 1) (⟨rfl, rfl⟩) hP hK hD hS dX4_latch_85
            · refine lv_iconst (v := nI 1) hx hb dX4_latch_43 (by decide) ?_
              refine lv_goto (tgt := 48) hx hb dX4_latch_44 (by decide) ?_
              refine lv_istore (lv' := [(6, .int (nI 1)), (0, .ref (q 0)), (1, .int ck), (2, .long xl), (4, .long yl)]) hx hb dX4_latch_48 hl (by decide) rfl (fun ls hl => ?_)
              refine lv_aload_n hx hb dX4_latch_50 rfl (lv_at hl 1 rfl) ?_
              refine lv_aload_n hx hb dX4_latch_51 rfl (lv_at hl 1 rfl) ?_
              refine va_get (D := (dC, dI)) (ci := 4) (v := .int (nI (MS.n y))) (C := RX4) (T := TX4) (N := 23) hx hb hts inX4 hown hK hP 0 rfl rfl 7 (by decide) (hts _ tw_579) (fun _ h9 => h9) rfl dX4_latch_52 ?_
              refine lv_bipush (v := nI 32) hx hb dX4_latch_55 (by decide) ?_
              refine xn_cne (tgt := 64) hx hb (by omega) (by omega) dX4_latch_57 (by decide) (fun c_19 => ?_) (fun c_19 => ?_)
              · exact absurd (show False by omega) id
              · refine lv_iconst (v := nI 1) hx hb dX4_latch_60 (by decide) ?_
                refine lv_goto (tgt := 74) hx hb dX4_latch_61 (by decide) ?_
                refine va_put (D := (dC, dI)) (ci := 4) (v := .int (nI 1)) (ty := .int) (C := RX4) (T := TX4) (N := 23) hx hb hts inX4 tyX4 tyX4_ok nmX4 hown hK hP hD hS 0 rfl rfl 0 (by decide) (hts _ tw_572) (fun _ h9 => h9) rfl (by decide +kernel) rfl rfl (Nat.le_of_ble_eq_true rfl) dX4_latch_74 (fun H locs hP hD hS => ?_)
                have hP : va_P (dC, dI) vwCl (wM q cI cZ (MS.s_th y 1)) H := hP
                have hD : va_D A (wM q cI cZ (MS.s_th y 1)) := hD
                refine lv_aload_n hx hb dX4_latch_77 rfl (lv_at hl 1 rfl) ?_
                refine va_get (D := (dC, dI)) (ci := 4) (v := .int (nI 1)) (C := RX4) (T := TX4) (N := 23) hx hb hts inX4 hown hK hP 0 rfl rfl 0 (by decide) (hts _ tw_572) (fun _ h9 => h9) rfl dX4_latch_78 ?_
                refine xn_zle (tgt := 86) hx hb (by omega) dX4_latch_81 (by decide) (fun c_20 => ?_) (fun c_20 => ?_)
                · exact absurd (show False by omega) id
                · refine lv_iconst (v := nI 0) hx hb dX4_latch_84 (by decide) ?_
                  exact xr_i hx hb hr hlk (u := MS.s_th y 1) (⟨rfl, rfl⟩) hP hK hD hS dX4_latch_85
set_option maxHeartbeats 4000000 in
set_option maxRecDepth 100000 in
theorem c_M_latch2 (l : Launch) (dC : Nat → ClassId) (dI : Nat → Nat → Nat) (q : Nat → Nat) (cI cZ : ClassId) (sz : Nat) (y : MS) (ck : Int32) (xl yl : Int64) (h1 : y.n < 32) (h2 : mBad ck xl yl) : Met l yX4_latch (.code yX4_latch cX4_latch 7 (some .int) :: ALLG) ({ frames := 0, cells := 0, slots := 0, locals := 0 }) (va_Pc [.ref (q 0), .int ck, .long xl, .long yl] (cP (dC, dI) vwCl [(cI, .int), (cZ, .boolean)] (wM q cI cZ y) eT sz)) (va_Qi (fun (x : Int32) (u : MS) => x = nI 0 ∧ u = y.s_th 2) (fun (u : MS) => cB (dC, dI) vwCl [(cI, .int), (cZ, .boolean)] (wM q cI cZ u) (va_A (wM q cI cZ y) sz)) (va_A (wM q cI cZ y) sz)) 0 0 (va_A (wM q cI cZ y) sz) := by
  refine xm_of (cc := cX4_latch) (maxL := 7) (ret := some .int) (by decide) rfl (Nat.le_of_ble_eq_true rfl) ?_
  intro p e s m below meth c A hAe hx hb hr hml hts0 hown hlk hin hsz H locs hP hK hD hA hS hE ls hl
  have hts : ∀ w ∈ ALLG, w.before _ s = true := fun w h => hts0 w (List.mem_cons_of_mem _ h)
  rw [← hAe]
  have hl : lv_has ls 7 [(0, .ref (q 0)), (1, .int ck), (2, .long xl), (4, .long yl)] := hl
  refine lv_iload_n hx hb dX4_latch_0 rfl (lv_at hl 1 rfl) ?_
  refine lv_if_lt (tgt := 47) hx hb dX4_latch_1 (by decide) (fun c_1 => ?_) (fun c_1 => ?_)
  · refine lv_iconst (v := nI 0) hx hb dX4_latch_47 (by decide) ?_
    refine lv_istore (lv' := [(6, .int (nI 0)), (0, .ref (q 0)), (1, .int ck), (2, .long xl), (4, .long yl)]) hx hb dX4_latch_48 hl (by decide) rfl (fun ls hl => ?_)
    refine lv_aload_n hx hb dX4_latch_50 rfl (lv_at hl 1 rfl) ?_
    refine lv_aload_n hx hb dX4_latch_51 rfl (lv_at hl 1 rfl) ?_
    refine va_get (D := (dC, dI)) (ci := 4) (v := .int (nI (MS.n y))) (C := RX4) (T := TX4) (N := 23) hx hb hts inX4 hown hK hP 0 rfl rfl 7 (by decide) (hts _ tw_579) (fun _ h9 => h9) rfl dX4_latch_52 ?_
    refine lv_bipush (v := nI 32) hx hb dX4_latch_55 (by decide) ?_
    refine xn_cne (tgt := 64) hx hb (by omega) (by omega) dX4_latch_57 (by decide) (fun c_2 => ?_) (fun c_2 => ?_)
    · refine lv_iload hx hb dX4_latch_64 (lv_at hl 0 rfl) ?_
      refine xn_zne (tgt := 73) hx hb (by omega) dX4_latch_66 (by decide) (fun c_3 => ?_) (fun c_3 => ?_)
      · exact absurd (show False by omega) id
      · refine lv_iconst (v := nI 2) hx hb dX4_latch_69 (by decide) ?_
        refine lv_goto (tgt := 74) hx hb dX4_latch_70 (by decide) ?_
        refine va_put (D := (dC, dI)) (ci := 4) (v := .int (nI 2)) (ty := .int) (C := RX4) (T := TX4) (N := 23) hx hb hts inX4 tyX4 tyX4_ok nmX4 hown hK hP hD hS 0 rfl rfl 0 (by decide) (hts _ tw_572) (fun _ h9 => h9) rfl (by decide +kernel) rfl rfl (Nat.le_of_ble_eq_true rfl) dX4_latch_74 (fun H locs hP hD hS => ?_)
        have hP : va_P (dC, dI) vwCl (wM q cI cZ (MS.s_th y 2)) H := hP
        have hD : va_D A (wM q cI cZ (MS.s_th y 2)) := hD
        refine lv_aload_n hx hb dX4_latch_77 rfl (lv_at hl 1 rfl) ?_
        refine va_get (D := (dC, dI)) (ci := 4) (v := .int (nI 2)) (C := RX4) (T := TX4) (N := 23) hx hb hts inX4 hown hK hP 0 rfl rfl 0 (by decide) (hts _ tw_572) (fun _ h9 => h9) rfl dX4_latch_78 ?_
        refine xn_zle (tgt := 86) hx hb (by omega) dX4_latch_81 (by decide) (fun c_4 => ?_) (fun c_4 => ?_)
        · exact absurd (show False by omega) id
        · refine lv_iconst (v := nI 0) hx hb dX4_latch_84 (by decide) ?_
          exact xr_i hx hb hr hlk (u := MS.s_th y 2) (⟨rfl, rfl⟩) hP hK hD hS dX4_latch_85
    · exact absurd (show False by omega) id
  · refine lv_iload_n hx hb dX4_latch_4 rfl (lv_at hl 1 rfl) ?_
    refine lv_iconst (v := nI 3) hx hb dX4_latch_5 (by decide) ?_
    refine lv_icmp_gt (tgt := 47) hx hb dX4_latch_6 (by decide) (fun c_5 => ?_) (fun c_5 => ?_)
    · refine lv_iconst (v := nI 0) hx hb dX4_latch_47 (by decide) ?_
      refine lv_istore (lv' := [(6, .int (nI 0)), (0, .ref (q 0)), (1, .int ck), (2, .long xl), (4, .long yl)]) hx hb dX4_latch_48 hl (by decide) rfl (fun ls hl => ?_)
      refine lv_aload_n hx hb dX4_latch_50 rfl (lv_at hl 1 rfl) ?_
      refine lv_aload_n hx hb dX4_latch_51 rfl (lv_at hl 1 rfl) ?_
      refine va_get (D := (dC, dI)) (ci := 4) (v := .int (nI (MS.n y))) (C := RX4) (T := TX4) (N := 23) hx hb hts inX4 hown hK hP 0 rfl rfl 7 (by decide) (hts _ tw_579) (fun _ h9 => h9) rfl dX4_latch_52 ?_
      refine lv_bipush (v := nI 32) hx hb dX4_latch_55 (by decide) ?_
      refine xn_cne (tgt := 64) hx hb (by omega) (by omega) dX4_latch_57 (by decide) (fun c_6 => ?_) (fun c_6 => ?_)
      · refine lv_iload hx hb dX4_latch_64 (lv_at hl 0 rfl) ?_
        refine xn_zne (tgt := 73) hx hb (by omega) dX4_latch_66 (by decide) (fun c_7 => ?_) (fun c_7 => ?_)
        · exact absurd (show False by omega) id
        · refine lv_iconst (v := nI 2) hx hb dX4_latch_69 (by decide) ?_
          refine lv_goto (tgt := 74) hx hb dX4_latch_70 (by decide) ?_
          refine va_put (D := (dC, dI)) (ci := 4) (v := .int (nI 2)) (ty := .int) (C := RX4) (T := TX4) (N := 23) hx hb hts inX4 tyX4 tyX4_ok nmX4 hown hK hP hD hS 0 rfl rfl 0 (by decide) (hts _ tw_572) (fun _ h9 => h9) rfl (by decide +kernel) rfl rfl (Nat.le_of_ble_eq_true rfl) dX4_latch_74 (fun H locs hP hD hS => ?_)
          have hP : va_P (dC, dI) vwCl (wM q cI cZ (MS.s_th y 2)) H := hP
          have hD : va_D A (wM q cI cZ (MS.s_th y 2)) := hD
          refine lv_aload_n hx hb dX4_latch_77 rfl (lv_at hl 1 rfl) ?_
          refine va_get (D := (dC, dI)) (ci := 4) (v := .int (nI 2)) (C := RX4) (T := TX4) (N := 23) hx hb hts inX4 hown hK hP 0 rfl rfl 0 (by decide) (hts _ tw_572) (fun _ h9 => h9) rfl dX4_latch_78 ?_
          refine xn_zle (tgt := 86) hx hb (by omega) dX4_latch_81 (by decide) (fun c_8 => ?_) (fun c_8 => ?_)
          · exact absurd (show False by omega) id
          · refine lv_iconst (v := nI 0) hx hb dX4_latch_84 (by decide) ?_
            exact xr_i hx hb hr hlk (u := MS.s_th y 2) (⟨rfl, rfl⟩) hP hK hD hS dX4_latch_85
      · exact absurd (show False by omega) id
    · refine lv_lload_n hx hb dX4_latch_9 rfl (lv_at hl 2 rfl) ?_
      refine lv_ldc2 (v := (-1000 : Int64)) hx hb hown (hts _ tw_650) dX4_latch_10 ?_
      refine W.lcmp hx hb dX4_latch_13 ?_
      refine lv_if_lt (tgt := 47) hx hb dX4_latch_14 (by decide) (fun c_9 => ?_) (fun c_9 => ?_)
      · refine lv_iconst (v := nI 0) hx hb dX4_latch_47 (by decide) ?_
        refine lv_istore (lv' := [(6, .int (nI 0)), (0, .ref (q 0)), (1, .int ck), (2, .long xl), (4, .long yl)]) hx hb dX4_latch_48 hl (by decide) rfl (fun ls hl => ?_)
        refine lv_aload_n hx hb dX4_latch_50 rfl (lv_at hl 1 rfl) ?_
        refine lv_aload_n hx hb dX4_latch_51 rfl (lv_at hl 1 rfl) ?_
        refine va_get (D := (dC, dI)) (ci := 4) (v := .int (nI (MS.n y))) (C := RX4) (T := TX4) (N := 23) hx hb hts inX4 hown hK hP 0 rfl rfl 7 (by decide) (hts _ tw_579) (fun _ h9 => h9) rfl dX4_latch_52 ?_
        refine lv_bipush (v := nI 32) hx hb dX4_latch_55 (by decide) ?_
        refine xn_cne (tgt := 64) hx hb (by omega) (by omega) dX4_latch_57 (by decide) (fun c_10 => ?_) (fun c_10 => ?_)
        · refine lv_iload hx hb dX4_latch_64 (lv_at hl 0 rfl) ?_
          refine xn_zne (tgt := 73) hx hb (by omega) dX4_latch_66 (by decide) (fun c_11 => ?_) (fun c_11 => ?_)
          · exact absurd (show False by omega) id
          · refine lv_iconst (v := nI 2) hx hb dX4_latch_69 (by decide) ?_
            refine lv_goto (tgt := 74) hx hb dX4_latch_70 (by decide) ?_
            refine va_put (D := (dC, dI)) (ci := 4) (v := .int (nI 2)) (ty := .int) (C := RX4) (T := TX4) (N := 23) hx hb hts inX4 tyX4 tyX4_ok nmX4 hown hK hP hD hS 0 rfl rfl 0 (by decide) (hts _ tw_572) (fun _ h9 => h9) rfl (by decide +kernel) rfl rfl (Nat.le_of_ble_eq_true rfl) dX4_latch_74 (fun H locs hP hD hS => ?_)
            have hP : va_P (dC, dI) vwCl (wM q cI cZ (MS.s_th y 2)) H := hP
            have hD : va_D A (wM q cI cZ (MS.s_th y 2)) := hD
            refine lv_aload_n hx hb dX4_latch_77 rfl (lv_at hl 1 rfl) ?_
            refine va_get (D := (dC, dI)) (ci := 4) (v := .int (nI 2)) (C := RX4) (T := TX4) (N := 23) hx hb hts inX4 hown hK hP 0 rfl rfl 0 (by decide) (hts _ tw_572) (fun _ h9 => h9) rfl dX4_latch_78 ?_
            refine xn_zle (tgt := 86) hx hb (by omega) dX4_latch_81 (by decide) (fun c_12 => ?_) (fun c_12 => ?_)
            · exact absurd (show False by omega) id
            · refine lv_iconst (v := nI 0) hx hb dX4_latch_84 (by decide) ?_
              exact xr_i hx hb hr hlk (u := MS.s_th y 2) (⟨rfl, rfl⟩) hP hK hD hS dX4_latch_85
        · exact absurd (show False by omega) id
      · refine lv_lload_n hx hb dX4_latch_17 rfl (lv_at hl 2 rfl) ?_
        refine lv_ldc2 (v := (1000 : Int64)) hx hb hown (hts _ tw_651) dX4_latch_18 ?_
        refine W.lcmp hx hb dX4_latch_21 ?_
        refine lv_if_gt (tgt := 47) hx hb dX4_latch_22 (by decide) (fun c_13 => ?_) (fun c_13 => ?_)
        · refine lv_iconst (v := nI 0) hx hb dX4_latch_47 (by decide) ?_
          refine lv_istore (lv' := [(6, .int (nI 0)), (0, .ref (q 0)), (1, .int ck), (2, .long xl), (4, .long yl)]) hx hb dX4_latch_48 hl (by decide) rfl (fun ls hl => ?_)
          refine lv_aload_n hx hb dX4_latch_50 rfl (lv_at hl 1 rfl) ?_
          refine lv_aload_n hx hb dX4_latch_51 rfl (lv_at hl 1 rfl) ?_
          refine va_get (D := (dC, dI)) (ci := 4) (v := .int (nI (MS.n y))) (C := RX4) (T := TX4) (N := 23) hx hb hts inX4 hown hK hP 0 rfl rfl 7 (by decide) (hts _ tw_579) (fun _ h9 => h9) rfl dX4_latch_52 ?_
          refine lv_bipush (v := nI 32) hx hb dX4_latch_55 (by decide) ?_
          refine xn_cne (tgt := 64) hx hb (by omega) (by omega) dX4_latch_57 (by decide) (fun c_14 => ?_) (fun c_14 => ?_)
          · refine lv_iload hx hb dX4_latch_64 (lv_at hl 0 rfl) ?_
            refine xn_zne (tgt := 73) hx hb (by omega) dX4_latch_66 (by decide) (fun c_15 => ?_) (fun c_15 => ?_)
            · exact absurd (show False by omega) id
            · refine lv_iconst (v := nI 2) hx hb dX4_latch_69 (by decide) ?_
              refine lv_goto (tgt := 74) hx hb dX4_latch_70 (by decide) ?_
              refine va_put (D := (dC, dI)) (ci := 4) (v := .int (nI 2)) (ty := .int) (C := RX4) (T := TX4) (N := 23) hx hb hts inX4 tyX4 tyX4_ok nmX4 hown hK hP hD hS 0 rfl rfl 0 (by decide) (hts _ tw_572) (fun _ h9 => h9) rfl (by decide +kernel) rfl rfl (Nat.le_of_ble_eq_true rfl) dX4_latch_74 (fun H locs hP hD hS => ?_)
              have hP : va_P (dC, dI) vwCl (wM q cI cZ (MS.s_th y 2)) H := hP
              have hD : va_D A (wM q cI cZ (MS.s_th y 2)) := hD
              refine lv_aload_n hx hb dX4_latch_77 rfl (lv_at hl 1 rfl) ?_
              refine va_get (D := (dC, dI)) (ci := 4) (v := .int (nI 2)) (C := RX4) (T := TX4) (N := 23) hx hb hts inX4 hown hK hP 0 rfl rfl 0 (by decide) (hts _ tw_572) (fun _ h9 => h9) rfl dX4_latch_78 ?_
              refine xn_zle (tgt := 86) hx hb (by omega) dX4_latch_81 (by decide) (fun c_16 => ?_) (fun c_16 => ?_)
              · exact absurd (show False by omega) id
              · refine lv_iconst (v := nI 0) hx hb dX4_latch_84 (by decide) ?_
                exact xr_i hx hb hr hlk (u := MS.s_th y 2) (⟨rfl, rfl⟩) hP hK hD hS dX4_latch_85
          · exact absurd (show False by omega) id
        · refine lv_lload hx hb dX4_latch_25 (lv_at hl 3 rfl) ?_
          refine lv_ldc2 (v := (-1000 : Int64)) hx hb hown (hts _ tw_650) dX4_latch_27 ?_
          refine W.lcmp hx hb dX4_latch_30 ?_
          refine lv_if_lt (tgt := 47) hx hb dX4_latch_31 (by decide) (fun c_17 => ?_) (fun c_17 => ?_)
          · refine lv_iconst (v := nI 0) hx hb dX4_latch_47 (by decide) ?_
            refine lv_istore (lv' := [(6, .int (nI 0)), (0, .ref (q 0)), (1, .int ck), (2, .long xl), (4, .long yl)]) hx hb dX4_latch_48 hl (by decide) rfl (fun ls hl => ?_)
            refine lv_aload_n hx hb dX4_latch_50 rfl (lv_at hl 1 rfl) ?_
            refine lv_aload_n hx hb dX4_latch_51 rfl (lv_at hl 1 rfl) ?_
            refine va_get (D := (dC, dI)) (ci := 4) (v := .int (nI (MS.n y))) (C := RX4) (T := TX4) (N := 23) hx hb hts inX4 hown hK hP 0 rfl rfl 7 (by decide) (hts _ tw_579) (fun _ h9 => h9) rfl dX4_latch_52 ?_
            refine lv_bipush (v := nI 32) hx hb dX4_latch_55 (by decide) ?_
            refine xn_cne (tgt := 64) hx hb (by omega) (by omega) dX4_latch_57 (by decide) (fun c_18 => ?_) (fun c_18 => ?_)
            · refine lv_iload hx hb dX4_latch_64 (lv_at hl 0 rfl) ?_
              refine xn_zne (tgt := 73) hx hb (by omega) dX4_latch_66 (by decide) (fun c_19 => ?_) (fun c_19 => ?_)
              · exact absurd (show False by omega) id
              · refine lv_iconst (v := nI 2) hx hb dX4_latch_69 (by decide) ?_
                refine lv_goto (tgt := 74) hx hb dX4_latch_70 (by decide) ?_
                refine va_put (D := (dC, dI)) (ci := 4) (v := .int (nI 2)) (ty := .int) (C := RX4) (T := TX4) (N := 23) hx hb hts inX4 tyX4 tyX4_ok nmX4 hown hK hP hD hS 0 rfl rfl 0 (by decide) (hts _ tw_572) (fun _ h9 => h9) rfl (by decide +kernel) rfl rfl (Nat.le_of_ble_eq_true rfl) dX4_latch_74 (fun H locs hP hD hS => ?_)
                have hP : va_P (dC, dI) vwCl (wM q cI cZ (MS.s_th y 2)) H := hP
                have hD : va_D A (wM q cI cZ (MS.s_th y 2)) := hD
                refine lv_aload_n hx hb dX4_latch_77 rfl (lv_at hl 1 rfl) ?_
                refine va_get (D := (dC, dI)) (ci := 4) (v := .int (nI 2)) (C := RX4) (T := TX4) (N := 23) hx hb hts inX4 hown hK hP 0 rfl rfl 0 (by decide) (hts _ tw_572) (fun _ h9 => h9) rfl dX4_latch_78 ?_
                refine xn_zle (tgt := 86) hx hb (by omega) dX4_latch_81 (by decide) (fun c_20 => ?_) (fun c_20 => ?_)
                · exact absurd (show False by omega) id
                · refine lv_iconst (v := nI 0) hx hb dX4_latch_84 (by decide) ?_
                  exact xr_i hx hb hr hlk (u := MS.s_th y 2) (⟨rfl, rfl⟩) hP hK hD hS dX4_latch_85
            · exact absurd (show False by omega) id
          · refine lv_lload hx hb dX4_latch_34 (lv_at hl 3 rfl) ?_
            refine lv_ldc2 (v := (1000 : Int64)) hx hb hown (hts _ tw_651) dX4_latch_36 ?_
            refine W.lcmp hx hb dX4_latch_39 ?_
            refine lv_if_gt (tgt := 47) hx hb dX4_latch_40 (by decide) (fun c_21 => ?_) (fun c_21 => ?_)
            · refine lv_iconst (v := nI 0) hx hb dX4_latch_47 (by decide) ?_
              refine lv_istore (lv' := [(6, .int (nI 0)), (0, .ref (q 0)), (1, .int ck), (2, .long xl), (4, .long yl)]) hx hb dX4_latch_48 hl (by decide) rfl (fun ls hl => ?_)
              refine lv_aload_n hx hb dX4_latch_50 rfl (lv_at hl 1 rfl) ?_
              refine lv_aload_n hx hb dX4_latch_51 rfl (lv_at hl 1 rfl) ?_
              refine va_get (D := (dC, dI)) (ci := 4) (v := .int (nI (MS.n y))) (C := RX4) (T := TX4) (N := 23) hx hb hts inX4 hown hK hP 0 rfl rfl 7 (by decide) (hts _ tw_579) (fun _ h9 => h9) rfl dX4_latch_52 ?_
              refine lv_bipush (v := nI 32) hx hb dX4_latch_55 (by decide) ?_
              refine xn_cne (tgt := 64) hx hb (by omega) (by omega) dX4_latch_57 (by decide) (fun c_22 => ?_) (fun c_22 => ?_)
              · refine lv_iload hx hb dX4_latch_64 (lv_at hl 0 rfl) ?_
                refine xn_zne (tgt := 73) hx hb (by omega) dX4_latch_66 (by decide) (fun c_23 => ?_) (fun c_23 => ?_)
                · exact absurd (show False by omega) id
                · refine lv_iconst (v := nI 2) hx hb dX4_latch_69 (by decide) ?_
                  refine lv_goto (tgt := 74) hx hb dX4_latch_70 (by decide) ?_
                  refine va_put (D := (dC, dI)) (ci := 4) (v := .int (nI 2)) (ty := .int) (C := RX4) (T := TX4) (N := 23) hx hb hts inX4 tyX4 tyX4_ok nmX4 hown hK hP hD hS 0 rfl rfl 0 (by decide) (hts _ tw_572) (fun _ h9 => h9) rfl (by decide +kernel) rfl rfl (Nat.le_of_ble_eq_true rfl) dX4_latch_74 (fun H locs hP hD hS => ?_)
                  have hP : va_P (dC, dI) vwCl (wM q cI cZ (MS.s_th y 2)) H := hP
                  have hD : va_D A (wM q cI cZ (MS.s_th y 2)) := hD
                  refine lv_aload_n hx hb dX4_latch_77 rfl (lv_at hl 1 rfl) ?_
                  refine va_get (D := (dC, dI)) (ci := 4) (v := .int (nI 2)) (C := RX4) (T := TX4) (N := 23) hx hb hts inX4 hown hK hP 0 rfl rfl 0 (by decide) (hts _ tw_572) (fun _ h9 => h9) rfl dX4_latch_78 ?_
                  refine xn_zle (tgt := 86) hx hb (by omega) dX4_latch_81 (by decide) (fun c_24 => ?_) (fun c_24 => ?_)
                  · exact absurd (show False by omega) id
                  · refine lv_iconst (v := nI 0) hx hb dX4_latch_84 (by decide) ?_
                    exact xr_i hx hb hr hlk (u := MS.s_th y 2) (⟨rfl, rfl⟩) hP hK hD hS dX4_latch_85
              · exact absurd (show False by omega) id
            · exact absurd ⟨c_1, c_5, fun z => c_9 ((lg_cmp_lt _ _).mpr z), fun z => c_13 ((lg_cmp_gt _ _).mpr z), fun z => c_17 ((lg_cmp_lt _ _).mpr z), fun z => c_21 ((lg_cmp_gt _ _).mpr z)⟩ h2
set_option maxHeartbeats 4000000 in
set_option maxRecDepth 100000 in
theorem c_ScanRowsModel_isBefore (l : Launch) (dC : Nat → ClassId) (dI : Nat → Nat → Nat) (q : Nat → Nat) (cI cZ : ClassId) (sz : Nat) (y : MS) (i j : Nat) (hM : MB y) (h1 : i < 32) (h2 : j < 32) : Met l yX4_isBefore (.code yX4_isBefore cX4_isBefore 3 (some .boolean) :: ALLG) ({ frames := 0, cells := 0, slots := 0, locals := 0 }) (va_Pc [.ref (q 0), .int (nI i), .int (nI j)] (cP (dC, dI) vwCl [(cI, .int), (cZ, .boolean)] (wM q cI cZ y) eT sz)) (va_Qi (fun (x : Int32) (_ : Unit) => x = nI (ibN (toR y) i j)) (fun (_ : Unit) => cB (dC, dI) vwCl [(cI, .int), (cZ, .boolean)] (wM q cI cZ y) (va_A (wM q cI cZ y) sz)) (va_A (wM q cI cZ y) sz)) 0 0 (va_A (wM q cI cZ y) sz) := by
  refine xm_of (cc := cX4_isBefore) (maxL := 3) (ret := some .boolean) (by decide) rfl (Nat.le_of_ble_eq_true rfl) ?_
  intro p e s m below meth c A hAe hx hb hr hml hts0 hown hlk hin hsz H locs hP hK hD hA hS hE ls hl
  have hts : ∀ w ∈ ALLG, w.before _ s = true := fun w h => hts0 w (List.mem_cons_of_mem _ h)
  rw [← hAe]
  have hM0 := hM
  have b_n : y.n ≤ 32 := hM.1.1
  have b_c : y.c ≤ 8 := hM.1.2.1
  have b_p : y.p ≤ y.n := hM.1.2.2.1
  have b_vb : ∀ z, y.vb z < 2 := hM.1.2.2.2.1
  have b_ck : ∀ z, y.ck z < 4 := hM.1.2.2.2.2.1
  have b_xx : ∀ z, -1000 ≤ y.xx z ∧ y.xx z ≤ 1000 := hM.1.2.2.2.2.2.1
  have b_yy : ∀ z, -1000 ≤ y.yy z ∧ y.yy z ≤ 1000 := hM.1.2.2.2.2.2.2.1
  have b_fl : ∀ z, y.fl z < 2 := hM.1.2.2.2.2.2.2.2.1
  have b_rw : ∀ z, y.rw z < 32 := hM.1.2.2.2.2.2.2.2.2.2.1
  have b_st : ∀ z, y.st z ≤ 32 := hM.1.2.2.2.2.2.2.2.2.2.2.2
  have g1 := b_ck i
  have g2 := b_ck j
  have g3 := b_xx i
  have g4 := b_xx j
  have g5 := b_yy i
  have g6 := b_yy j
  have hl : lv_has ls 3 [(0, .ref (q 0)), (1, .int (nI i)), (2, .int (nI j))] := hl
  refine lv_aload_n hx hb dX4_isBefore_0 rfl (lv_at hl 0 rfl) ?_
  refine va_get (D := (dC, dI)) (ci := 4) (v := .ref (q 1)) (C := RX4) (T := TX4) (N := 23) hx hb hts inX4 hown hK hP 0 rfl rfl 2 (by decide) (hts _ tw_574) (fun _ h9 => h9) rfl dX4_isBefore_1 ?_
  refine lv_iload_n hx hb dX4_isBefore_4 rfl (lv_at hl 1 rfl) ?_
  refine xa_ild hx hb hK hP 1 0 rfl rfl (v := nI ((MS.ck y) i)) (by omega) (by decide) rfl dX4_isBefore_5 ?_
  refine lv_aload_n hx hb dX4_isBefore_6 rfl (lv_at hl 0 rfl) ?_
  refine va_get (D := (dC, dI)) (ci := 4) (v := .ref (q 1)) (C := RX4) (T := TX4) (N := 23) hx hb hts inX4 hown hK hP 0 rfl rfl 2 (by decide) (hts _ tw_574) (fun _ h9 => h9) rfl dX4_isBefore_7 ?_
  refine lv_iload_n hx hb dX4_isBefore_10 rfl (lv_at hl 2 rfl) ?_
  refine xa_ild hx hb hK hP 1 0 rfl rfl (v := nI ((MS.ck y) j)) (by omega) (by decide) rfl dX4_isBefore_11 ?_
  refine xn_ceq (tgt := 36) hx hb (by omega) (by omega) dX4_isBefore_12 (by decide) (fun c_1 => ?_) (fun c_1 => ?_)
  · refine lv_aload_n hx hb dX4_isBefore_36 rfl (lv_at hl 0 rfl) ?_
    refine va_get (D := (dC, dI)) (ci := 4) (v := .ref (q 2)) (C := RX4) (T := TX4) (N := 23) hx hb hts inX4 hown hK hP 0 rfl rfl 3 (by decide) (hts _ tw_575) (fun _ h9 => h9) rfl dX4_isBefore_37 ?_
    refine lv_iload_n hx hb dX4_isBefore_40 rfl (lv_at hl 1 rfl) ?_
    refine xa_ild hx hb hK hP 2 0 rfl rfl (v := zI ((MS.xx y) i)) (by omega) (by decide) rfl dX4_isBefore_41 ?_
    refine lv_aload_n hx hb dX4_isBefore_42 rfl (lv_at hl 0 rfl) ?_
    refine va_get (D := (dC, dI)) (ci := 4) (v := .ref (q 2)) (C := RX4) (T := TX4) (N := 23) hx hb hts inX4 hown hK hP 0 rfl rfl 3 (by decide) (hts _ tw_575) (fun _ h9 => h9) rfl dX4_isBefore_43 ?_
    refine lv_iload_n hx hb dX4_isBefore_46 rfl (lv_at hl 2 rfl) ?_
    refine xa_ild hx hb hK hP 2 0 rfl rfl (v := zI ((MS.xx y) j)) (by omega) (by decide) rfl dX4_isBefore_47 ?_
    refine xz_ceq (tgt := 72) hx hb (by omega) (by omega) (by omega) (by omega) dX4_isBefore_48 (by decide) (fun c_2 => ?_) (fun c_2 => ?_)
    · refine lv_aload_n hx hb dX4_isBefore_72 rfl (lv_at hl 0 rfl) ?_
      refine va_get (D := (dC, dI)) (ci := 4) (v := .ref (q 3)) (C := RX4) (T := TX4) (N := 23) hx hb hts inX4 hown hK hP 0 rfl rfl 4 (by decide) (hts _ tw_576) (fun _ h9 => h9) rfl dX4_isBefore_73 ?_
      refine lv_iload_n hx hb dX4_isBefore_76 rfl (lv_at hl 1 rfl) ?_
      refine xa_ild hx hb hK hP 3 0 rfl rfl (v := zI ((MS.yy y) i)) (by omega) (by decide) rfl dX4_isBefore_77 ?_
      refine lv_aload_n hx hb dX4_isBefore_78 rfl (lv_at hl 0 rfl) ?_
      refine va_get (D := (dC, dI)) (ci := 4) (v := .ref (q 3)) (C := RX4) (T := TX4) (N := 23) hx hb hts inX4 hown hK hP 0 rfl rfl 4 (by decide) (hts _ tw_576) (fun _ h9 => h9) rfl dX4_isBefore_79 ?_
      refine lv_iload_n hx hb dX4_isBefore_82 rfl (lv_at hl 2 rfl) ?_
      refine xa_ild hx hb hK hP 3 0 rfl rfl (v := zI ((MS.yy y) j)) (by omega) (by decide) rfl dX4_isBefore_83 ?_
      refine xz_ceq (tgt := 110) hx hb (by omega) (by omega) (by omega) (by omega) dX4_isBefore_84 (by decide) (fun c_3 => ?_) (fun c_3 => ?_)
      · refine lv_iload_n hx hb dX4_isBefore_110 rfl (lv_at hl 1 rfl) ?_
        refine lv_iload_n hx hb dX4_isBefore_111 rfl (lv_at hl 2 rfl) ?_
        refine xn_cge (tgt := 119) hx hb (by omega) (by omega) dX4_isBefore_112 (by decide) (fun c_4 => ?_) (fun c_4 => ?_)
        · refine lv_iconst (v := nI 0) hx hb dX4_isBefore_119 (by decide) ?_
          exact xr_z hx hb hr hlk (by decide) (u := ()) (by unfold ibN; rw [if_pos (by assumption), if_pos (by assumption), if_pos (by assumption), if_neg (by omega)]) hP hK hD hS dX4_isBefore_120
        · refine lv_iconst (v := nI 1) hx hb dX4_isBefore_115 (by decide) ?_
          refine lv_goto (tgt := 120) hx hb dX4_isBefore_116 (by decide) ?_
          exact xr_z hx hb hr hlk (by decide) (u := ()) (by unfold ibN; rw [if_pos (by assumption), if_pos (by assumption), if_pos (by assumption), if_pos (by omega)]) hP hK hD hS dX4_isBefore_120
      · refine lv_aload_n hx hb dX4_isBefore_87 rfl (lv_at hl 0 rfl) ?_
        refine va_get (D := (dC, dI)) (ci := 4) (v := .ref (q 3)) (C := RX4) (T := TX4) (N := 23) hx hb hts inX4 hown hK hP 0 rfl rfl 4 (by decide) (hts _ tw_576) (fun _ h9 => h9) rfl dX4_isBefore_88 ?_
        refine lv_iload_n hx hb dX4_isBefore_91 rfl (lv_at hl 1 rfl) ?_
        refine xa_ild hx hb hK hP 3 0 rfl rfl (v := zI ((MS.yy y) i)) (by omega) (by decide) rfl dX4_isBefore_92 ?_
        refine lv_aload_n hx hb dX4_isBefore_93 rfl (lv_at hl 0 rfl) ?_
        refine va_get (D := (dC, dI)) (ci := 4) (v := .ref (q 3)) (C := RX4) (T := TX4) (N := 23) hx hb hts inX4 hown hK hP 0 rfl rfl 4 (by decide) (hts _ tw_576) (fun _ h9 => h9) rfl dX4_isBefore_94 ?_
        refine lv_iload_n hx hb dX4_isBefore_97 rfl (lv_at hl 2 rfl) ?_
        refine xa_ild hx hb hK hP 3 0 rfl rfl (v := zI ((MS.yy y) j)) (by omega) (by decide) rfl dX4_isBefore_98 ?_
        refine xz_cge (tgt := 106) hx hb (by omega) (by omega) (by omega) (by omega) dX4_isBefore_99 (by decide) (fun c_5 => ?_) (fun c_5 => ?_)
        · refine lv_iconst (v := nI 0) hx hb dX4_isBefore_106 (by decide) ?_
          refine lv_goto (tgt := 120) hx hb dX4_isBefore_107 (by decide) ?_
          exact xr_z hx hb hr hlk (by decide) (u := ()) (by unfold ibN; rw [if_pos (by assumption), if_pos (by assumption), if_neg (by assumption), if_neg (show ¬ y.yy i < y.yy j by omega)]) hP hK hD hS dX4_isBefore_120
        · refine lv_iconst (v := nI 1) hx hb dX4_isBefore_102 (by decide) ?_
          refine lv_goto (tgt := 120) hx hb dX4_isBefore_103 (by decide) ?_
          exact xr_z hx hb hr hlk (by decide) (u := ()) (by unfold ibN; rw [if_pos (by assumption), if_pos (by assumption), if_neg (by assumption), if_pos (show y.yy i < y.yy j by omega)]) hP hK hD hS dX4_isBefore_120
    · refine lv_aload_n hx hb dX4_isBefore_51 rfl (lv_at hl 0 rfl) ?_
      refine va_get (D := (dC, dI)) (ci := 4) (v := .ref (q 2)) (C := RX4) (T := TX4) (N := 23) hx hb hts inX4 hown hK hP 0 rfl rfl 3 (by decide) (hts _ tw_575) (fun _ h9 => h9) rfl dX4_isBefore_52 ?_
      refine lv_iload_n hx hb dX4_isBefore_55 rfl (lv_at hl 1 rfl) ?_
      refine xa_ild hx hb hK hP 2 0 rfl rfl (v := zI ((MS.xx y) i)) (by omega) (by decide) rfl dX4_isBefore_56 ?_
      refine lv_aload_n hx hb dX4_isBefore_57 rfl (lv_at hl 0 rfl) ?_
      refine va_get (D := (dC, dI)) (ci := 4) (v := .ref (q 2)) (C := RX4) (T := TX4) (N := 23) hx hb hts inX4 hown hK hP 0 rfl rfl 3 (by decide) (hts _ tw_575) (fun _ h9 => h9) rfl dX4_isBefore_58 ?_
      refine lv_iload_n hx hb dX4_isBefore_61 rfl (lv_at hl 2 rfl) ?_
      refine xa_ild hx hb hK hP 2 0 rfl rfl (v := zI ((MS.xx y) j)) (by omega) (by decide) rfl dX4_isBefore_62 ?_
      refine xz_cge (tgt := 70) hx hb (by omega) (by omega) (by omega) (by omega) dX4_isBefore_63 (by decide) (fun c_6 => ?_) (fun c_6 => ?_)
      · refine lv_iconst (v := nI 0) hx hb dX4_isBefore_70 (by decide) ?_
        exact xr_z hx hb hr hlk (by decide) (u := ()) (by unfold ibN; rw [if_pos (by assumption), if_neg (by assumption), if_neg (show ¬ y.xx i < y.xx j by omega)]) hP hK hD hS dX4_isBefore_71
      · refine lv_iconst (v := nI 1) hx hb dX4_isBefore_66 (by decide) ?_
        refine lv_goto (tgt := 71) hx hb dX4_isBefore_67 (by decide) ?_
        exact xr_z hx hb hr hlk (by decide) (u := ()) (by unfold ibN; rw [if_pos (by assumption), if_neg (by assumption), if_pos (show y.xx i < y.xx j by omega)]) hP hK hD hS dX4_isBefore_71
  · refine lv_aload_n hx hb dX4_isBefore_15 rfl (lv_at hl 0 rfl) ?_
    refine va_get (D := (dC, dI)) (ci := 4) (v := .ref (q 1)) (C := RX4) (T := TX4) (N := 23) hx hb hts inX4 hown hK hP 0 rfl rfl 2 (by decide) (hts _ tw_574) (fun _ h9 => h9) rfl dX4_isBefore_16 ?_
    refine lv_iload_n hx hb dX4_isBefore_19 rfl (lv_at hl 1 rfl) ?_
    refine xa_ild hx hb hK hP 1 0 rfl rfl (v := nI ((MS.ck y) i)) (by omega) (by decide) rfl dX4_isBefore_20 ?_
    refine lv_aload_n hx hb dX4_isBefore_21 rfl (lv_at hl 0 rfl) ?_
    refine va_get (D := (dC, dI)) (ci := 4) (v := .ref (q 1)) (C := RX4) (T := TX4) (N := 23) hx hb hts inX4 hown hK hP 0 rfl rfl 2 (by decide) (hts _ tw_574) (fun _ h9 => h9) rfl dX4_isBefore_22 ?_
    refine lv_iload_n hx hb dX4_isBefore_25 rfl (lv_at hl 2 rfl) ?_
    refine xa_ild hx hb hK hP 1 0 rfl rfl (v := nI ((MS.ck y) j)) (by omega) (by decide) rfl dX4_isBefore_26 ?_
    refine xn_cge (tgt := 34) hx hb (by omega) (by omega) dX4_isBefore_27 (by decide) (fun c_7 => ?_) (fun c_7 => ?_)
    · refine lv_iconst (v := nI 0) hx hb dX4_isBefore_34 (by decide) ?_
      exact xr_z hx hb hr hlk (by decide) (u := ()) (by unfold ibN; rw [if_neg (by assumption), if_neg (show ¬ y.ck i < y.ck j by omega)]) hP hK hD hS dX4_isBefore_35
    · refine lv_iconst (v := nI 1) hx hb dX4_isBefore_30 (by decide) ?_
      refine lv_goto (tgt := 35) hx hb dX4_isBefore_31 (by decide) ?_
      exact xr_z hx hb hr hlk (by decide) (u := ()) (by unfold ibN; rw [if_neg (by assumption), if_pos (show y.ck i < y.ck j by omega)]) hP hK hD hS dX4_isBefore_35
set_option maxHeartbeats 4000000 in
set_option maxRecDepth 100000 in
theorem c_ScanRowsModel_make (l : Launch) (dC : Nat → ClassId) (dI : Nat → Nat → Nat) (q : Nat → Nat) (cI cZ : ClassId) (sz : Nat) (y : MS) (c0 : Nat) (hM : MB y) (h1 : 0 < c0) (h2 : c0 ≤ 8) : Met l yX4_make (.code yX4_make cX4_make 5 (some .int) :: ALLG) ({ frames := 1, cells := 0, slots := 0, locals := 22 }) (va_Pc [.ref (q 0), .int (nI c0)] (cP (dC, dI) vwCl [(cI, .int), (cZ, .boolean)] (wM q cI cZ y) eT sz)) (va_Qi (fun (x : Int32) (u : MS) => x = nI (bg y.n c0 1) ∧ u = mMake y c0) (fun (u : MS) => cB (dC, dI) vwCl [(cI, .int), (cZ, .boolean)] (wM q cI cZ u) (va_A (wM q cI cZ y) sz)) (va_A (wM q cI cZ y) sz)) 0 0 (va_A (wM q cI cZ y) sz) := by
  refine xm_of (cc := cX4_make) (maxL := 5) (ret := some .int) (by decide) rfl (Nat.le_of_ble_eq_true rfl) ?_
  intro p e s m below meth c A hAe hx hb hr hml hts0 hown hlk hin hsz H locs hP hK hD hA hS hE ls hl
  have hts : ∀ w ∈ ALLG, w.before _ s = true := fun w h => hts0 w (List.mem_cons_of_mem _ h)
  rw [← hAe]
  have hM0 := hM
  have b_n : y.n ≤ 32 := hM.1.1
  have b_c : y.c ≤ 8 := hM.1.2.1
  have b_p : y.p ≤ y.n := hM.1.2.2.1
  have b_vb : ∀ z, y.vb z < 2 := hM.1.2.2.2.1
  have b_ck : ∀ z, y.ck z < 4 := hM.1.2.2.2.2.1
  have b_xx : ∀ z, -1000 ≤ y.xx z ∧ y.xx z ≤ 1000 := hM.1.2.2.2.2.2.1
  have b_yy : ∀ z, -1000 ≤ y.yy z ∧ y.yy z ≤ 1000 := hM.1.2.2.2.2.2.2.1
  have b_fl : ∀ z, y.fl z < 2 := hM.1.2.2.2.2.2.2.2.1
  have b_rw : ∀ z, y.rw z < 32 := hM.1.2.2.2.2.2.2.2.2.2.1
  have b_st : ∀ z, y.st z ≤ 32 := hM.1.2.2.2.2.2.2.2.2.2.2.2
  have g6 := Nat.div_le_self y.n c0
  have g7 := Nat.mod_lt y.n h1
  have hl : lv_has ls 5 [(0, .ref (q 0)), (1, .int (nI c0))] := hl
  refine lv_aload_n hx hb dX4_make_0 rfl (lv_at hl 0 rfl) ?_
  refine lv_iload_n hx hb dX4_make_1 rfl (lv_at hl 1 rfl) ?_
  refine lv_iconst (v := nI 1) hx hb dX4_make_2 (by decide) ?_
  refine xn_clt (tgt := 12) hx hb (by omega) (by omega) dX4_make_3 (by decide) (fun c_1 => ?_) (fun c_1 => ?_)
  · exact absurd (show False by omega) id
  · refine lv_iload_n hx hb dX4_make_6 rfl (lv_at hl 1 rfl) ?_
    refine lv_bipush (v := nI 8) hx hb dX4_make_7 (by decide) ?_
    refine xn_cle (tgt := 16) hx hb (by omega) (by omega) dX4_make_9 (by decide) (fun c_2 => ?_) (fun c_2 => ?_)
    · refine lv_iconst (v := nI 0) hx hb dX4_make_16 (by decide) ?_
      refine va_put (D := (dC, dI)) (ci := 4) (v := .int (nI 0)) (ty := .int) (C := RX4) (T := TX4) (N := 23) hx hb hts inX4 tyX4 tyX4_ok nmX4 hown hK hP hD hS 0 rfl rfl 0 (by decide) (hts _ tw_572) (fun _ h9 => h9) rfl (by decide +kernel) rfl rfl (Nat.le_of_ble_eq_true rfl) dX4_make_17 (fun H locs hP hD hS => ?_)
      have hP : va_P (dC, dI) vwCl (wM q cI cZ (MS.s_th y 0)) H := hP
      have hD : va_D A (wM q cI cZ (MS.s_th y 0)) := hD
      refine lv_aload_n hx hb dX4_make_20 rfl (lv_at hl 0 rfl) ?_
      refine va_get (D := (dC, dI)) (ci := 4) (v := .int (nI 0)) (C := RX4) (T := TX4) (N := 23) hx hb hts inX4 hown hK hP 0 rfl rfl 0 (by decide) (hts _ tw_572) (fun _ h9 => h9) rfl dX4_make_21 ?_
      refine xn_zle (tgt := 29) hx hb (by omega) dX4_make_24 (by decide) (fun c_3 => ?_) (fun c_3 => ?_)
      · refine lv_iconst (v := nI 0) hx hb dX4_make_29 (by decide) ?_
        refine lv_istore_n (lv' := [(2, .int (nI 0)), (0, .ref (q 0)), (1, .int (nI c0))]) hx hb dX4_make_30 rfl hl (by decide) rfl (fun ls hl => ?_)
        have L31 : ∀ (fuel : Nat) (i : Nat) (g : Nat → Nat), (i ≤ y.n) → (g = mkR (toR y) i) → (∀ z, g z < 32) → y.n - i < fuel → ∀ (H : Heap) (locs : List Loc), va_P (dC, dI) vwCl (wM q cI cZ (MS.s_rw (MS.s_th y 0) g)) H → va_D A (wM q cI cZ (MS.s_rw (MS.s_th y 0) g)) → va_S A s.heap H locs → ∀ ls : Array Slot, lv_has ls 5 [(0, .ref (q 0)), (1, .int (nI c0)), (2, .int (nI i))] → W p l e ({ frames := 1, cells := 0, slots := 0, locals := 22 } : Room) s m ([.ref (q 0), .int (nI c0)] : List Value).toArray below meth c H locs 0 0 (MQ below (va_Qi (fun (x : Int32) (u : MS) => x = nI (bg y.n c0 1) ∧ u = mMake y c0) (fun (u : MS) => cB (dC, dI) vwCl [(cI, .int), (cZ, .boolean)] (wM q cI cZ u) (A)) (A)) ([.ref (q 0), .int (nI c0)] : List Value).toArray s 0 0 A) (F0 m 31 ls []) := by
          intro fuel
          induction fuel with
          | zero => intro i g i1 e1 b_g hm H locs hP hD hS ls hl; exact absurd hm (Nat.not_lt_zero _)
          | succ fuel ih31 =>
            intro i g i1 e1 b_g hm H locs hP hD hS ls hl
            refine lv_iload_n hx hb dX4_make_31 rfl (lv_at hl 2 rfl) ?_
            refine lv_aload_n hx hb dX4_make_32 rfl (lv_at hl 0 rfl) ?_
            refine va_get (D := (dC, dI)) (ci := 4) (v := .int (nI (MS.n y))) (C := RX4) (T := TX4) (N := 23) hx hb hts inX4 hown hK hP 0 rfl rfl 7 (by decide) (hts _ tw_579) (fun _ h9 => h9) rfl dX4_make_33 ?_
            refine xn_cge (tgt := 90) hx hb (by omega) (by omega) dX4_make_36 (by decide) (fun c_4 => ?_) (fun c_4 => ?_)
            · have e4 : g = mkR (toR y) y.n := by rw [e1, show i = y.n by omega]
              subst e4
              refine lv_aload_n hx hb dX4_make_90 rfl (lv_at hl 0 rfl) ?_
              refine lv_aload_n hx hb dX4_make_91 rfl (lv_at hl 0 rfl) ?_
              refine va_get (D := (dC, dI)) (ci := 4) (v := .int (nI (MS.n y))) (C := RX4) (T := TX4) (N := 23) hx hb hts inX4 hown hK hP 0 rfl rfl 7 (by decide) (hts _ tw_579) (fun _ h9 => h9) rfl dX4_make_92 ?_
              refine va_put (D := (dC, dI)) (ci := 4) (v := .int (nI (MS.n y))) (ty := .int) (C := RX4) (T := TX4) (N := 23) hx hb hts inX4 tyX4 tyX4_ok nmX4 hown hK hP hD hS 0 rfl rfl 9 (by decide) (hts _ tw_581) (fun _ h9 => h9) rfl (by decide +kernel) rfl rfl (Nat.le_of_ble_eq_true rfl) dX4_make_95 (fun H locs hP hD hS => ?_)
              have hP : va_P (dC, dI) vwCl (wM q cI cZ (MS.s_p (MS.s_rw (MS.s_th y 0) (mkR (toR y) y.n)) (MS.n y))) H := hP
              have hD : va_D A (wM q cI cZ (MS.s_p (MS.s_rw (MS.s_th y 0) (mkR (toR y) y.n)) (MS.n y))) := hD
              refine lv_aload_n hx hb dX4_make_98 rfl (lv_at hl 0 rfl) ?_
              refine lv_iload_n hx hb dX4_make_99 rfl (lv_at hl 1 rfl) ?_
              refine va_put (D := (dC, dI)) (ci := 4) (v := .int (nI c0)) (ty := .int) (C := RX4) (T := TX4) (N := 23) hx hb hts inX4 tyX4 tyX4_ok nmX4 hown hK hP hD hS 0 rfl rfl 11 (by decide) (hts _ tw_583) (fun _ h9 => h9) rfl (by decide +kernel) rfl rfl (Nat.le_of_ble_eq_true rfl) dX4_make_100 (fun H locs hP hD hS => ?_)
              have hP : va_P (dC, dI) vwCl (wM q cI cZ (MS.s_c (MS.s_p (MS.s_rw (MS.s_th y 0) (mkR (toR y) y.n)) (MS.n y)) c0)) H := hP
              have hD : va_D A (wM q cI cZ (MS.s_c (MS.s_p (MS.s_rw (MS.s_th y 0) (mkR (toR y) y.n)) (MS.n y)) c0)) := hD
              refine lv_aload_n hx hb dX4_make_103 rfl (lv_at hl 0 rfl) ?_
              refine va_get (D := (dC, dI)) (ci := 4) (v := .ref (q 7)) (C := RX4) (T := TX4) (N := 23) hx hb hts inX4 hown hK hP 0 rfl rfl 10 (by decide) (hts _ tw_582) (fun _ h9 => h9) rfl dX4_make_104 ?_
              refine lv_iconst (v := nI 0) hx hb dX4_make_107 (by decide) ?_
              refine lv_iconst (v := nI 0) hx hb dX4_make_108 (by decide) ?_
              refine xa_ist hx hb hK hP hD hS 7 0 rfl rfl (by omega) (by decide) (aN_up _ _ _) dX4_make_109 (fun H locs hP hD hS => ?_)
              have hP : va_P (dC, dI) vwCl (wM q cI cZ (MS.s_st (MS.s_c (MS.s_p (MS.s_rw (MS.s_th y 0) (mkR (toR y) y.n)) (MS.n y)) c0) (va_up (MS.st y) 0 0))) H := hP
              have hD : va_D A (wM q cI cZ (MS.s_st (MS.s_c (MS.s_p (MS.s_rw (MS.s_th y 0) (mkR (toR y) y.n)) (MS.n y)) c0) (va_up (MS.st y) 0 0))) := hD
              refine lv_iconst (v := nI 0) hx hb dX4_make_110 (by decide) ?_
              refine lv_istore_n (lv' := [(2, .int (nI 0)), (0, .ref (q 0)), (1, .int (nI c0))]) hx hb dX4_make_111 rfl hl (by decide) rfl (fun ls hl => ?_)
              have e8 : va_up y.st 0 0 = cpN (bg y.n c0) y.st (0 + 1) := by rw [← cpN_s, cpN_0]; rfl
              have hP : va_P (dC, dI) vwCl (wM q cI cZ (MS.s_st (MS.s_c (MS.s_p (MS.s_rw (MS.s_th y 0) (mkR (toR y) y.n)) y.n) c0) (cpN (bg y.n c0) y.st (0 + 1)))) H := by rw [← e8]; exact hP
              have hD : va_D A (wM q cI cZ (MS.s_st (MS.s_c (MS.s_p (MS.s_rw (MS.s_th y 0) (mkR (toR y) y.n)) y.n) c0) (cpN (bg y.n c0) y.st (0 + 1)))) := by rw [← e8]; exact hD
              have L112 : ∀ (fuel : Nat) (i : Nat), (i ≤ c0) → c0 - i < fuel → ∀ (H : Heap) (locs : List Loc), va_P (dC, dI) vwCl (wM q cI cZ (MS.s_st (MS.s_c (MS.s_p (MS.s_rw (MS.s_th y 0) (mkR (toR y) y.n)) y.n) c0) (cpN (bg y.n c0) y.st (i + 1)))) H → va_D A (wM q cI cZ (MS.s_st (MS.s_c (MS.s_p (MS.s_rw (MS.s_th y 0) (mkR (toR y) y.n)) y.n) c0) (cpN (bg y.n c0) y.st (i + 1)))) → va_S A s.heap H locs → ∀ ls : Array Slot, lv_has ls 5 [(0, .ref (q 0)), (1, .int (nI c0)), (2, .int (nI i))] → W p l e ({ frames := 1, cells := 0, slots := 0, locals := 22 } : Room) s m ([.ref (q 0), .int (nI c0)] : List Value).toArray below meth c H locs 0 0 (MQ below (va_Qi (fun (x : Int32) (u : MS) => x = nI (bg y.n c0 1) ∧ u = mMake y c0) (fun (u : MS) => cB (dC, dI) vwCl [(cI, .int), (cZ, .boolean)] (wM q cI cZ u) (A)) (A)) ([.ref (q 0), .int (nI c0)] : List Value).toArray s 0 0 A) (F0 m 112 ls []) := by
                intro fuel
                induction fuel with
                | zero => intro i i1 hm H locs hP hD hS ls hl; exact absurd hm (Nat.not_lt_zero _)
                | succ fuel ih112 =>
                  intro i i1 hm H locs hP hD hS ls hl
                  refine lv_iload_n hx hb dX4_make_112 rfl (lv_at hl 2 rfl) ?_
                  refine lv_iload_n hx hb dX4_make_113 rfl (lv_at hl 1 rfl) ?_
                  refine xn_cge (tgt := 160) hx hb (by omega) (by omega) dX4_make_114 (by decide) (fun c_5 => ?_) (fun c_5 => ?_)
                  · refine lv_aload_n hx hb dX4_make_160 rfl (lv_at hl 0 rfl) ?_
                    refine va_get (D := (dC, dI)) (ci := 4) (v := .ref (q 7)) (C := RX4) (T := TX4) (N := 23) hx hb hts inX4 hown hK hP 0 rfl rfl 10 (by decide) (hts _ tw_582) (fun _ h9 => h9) rfl dX4_make_161 ?_
                    refine lv_iconst (v := nI 1) hx hb dX4_make_164 (by decide) ?_
                    refine xa_ild hx hb hK hP 7 0 rfl rfl (v := nI ((cpN (bg y.n c0) y.st (i + 1)) 1)) (by omega) (by decide) rfl dX4_make_165 ?_
                    refine xt_i (show nI ((cpN (bg y.n c0) y.st (i + 1)) 1) = nI (bg y.n c0 1) from congrArg nI (by unfold cpN; rw [if_pos (by omega)])) ?_
                    exact xr_i hx hb hr hlk (u := MS.s_st (MS.s_c (MS.s_p (MS.s_rw (MS.s_th y 0) (mkR (toR y) y.n)) y.n) c0) (cpN (bg y.n c0) y.st (i + 1))) (⟨rfl, by rw [show i = c0 by omega]; rfl⟩) hP hK hD hS dX4_make_166
                  · refine lv_aload_n hx hb dX4_make_117 rfl (lv_at hl 0 rfl) ?_
                    refine va_get (D := (dC, dI)) (ci := 4) (v := .ref (q 7)) (C := RX4) (T := TX4) (N := 23) hx hb hts inX4 hown hK hP 0 rfl rfl 10 (by decide) (hts _ tw_582) (fun _ h9 => h9) rfl dX4_make_118 ?_
                    refine lv_iload_n hx hb dX4_make_121 rfl (lv_at hl 2 rfl) ?_
                    refine lv_iconst (v := nI 1) hx hb dX4_make_122 (by decide) ?_
                    refine xn_add hx hb dX4_make_123 ?_
                    refine lv_aload_n hx hb dX4_make_124 rfl (lv_at hl 0 rfl) ?_
                    refine va_get (D := (dC, dI)) (ci := 4) (v := .ref (q 7)) (C := RX4) (T := TX4) (N := 23) hx hb hts inX4 hown hK hP 0 rfl rfl 10 (by decide) (hts _ tw_582) (fun _ h9 => h9) rfl dX4_make_125 ?_
                    refine lv_iload_n hx hb dX4_make_128 rfl (lv_at hl 2 rfl) ?_
                    refine xa_ild hx hb hK hP 7 0 rfl rfl (v := nI ((cpN (bg y.n c0) y.st (i + 1)) i)) (by omega) (by decide) rfl dX4_make_129 ?_
                    refine xt_i (show nI ((cpN (bg y.n c0) y.st (i + 1)) i) = nI (bg y.n c0 i) from congrArg nI (by unfold cpN; rw [if_pos (by omega)])) ?_
                    refine lv_aload_n hx hb dX4_make_130 rfl (lv_at hl 0 rfl) ?_
                    refine va_get (D := (dC, dI)) (ci := 4) (v := .int (nI (MS.n y))) (C := RX4) (T := TX4) (N := 23) hx hb hts inX4 hown hK hP 0 rfl rfl 7 (by decide) (hts _ tw_579) (fun _ h9 => h9) rfl dX4_make_131 ?_
                    refine lv_iload_n hx hb dX4_make_134 rfl (lv_at hl 1 rfl) ?_
                    refine xn_div hx hb (by omega) (by omega) (by omega) dX4_make_135 ?_
                    refine xn_add hx hb dX4_make_136 ?_
                    refine lv_iload_n hx hb dX4_make_137 rfl (lv_at hl 2 rfl) ?_
                    refine lv_aload_n hx hb dX4_make_138 rfl (lv_at hl 0 rfl) ?_
                    refine va_get (D := (dC, dI)) (ci := 4) (v := .int (nI (MS.n y))) (C := RX4) (T := TX4) (N := 23) hx hb hts inX4 hown hK hP 0 rfl rfl 7 (by decide) (hts _ tw_579) (fun _ h9 => h9) rfl dX4_make_139 ?_
                    refine lv_iload_n hx hb dX4_make_142 rfl (lv_at hl 1 rfl) ?_
                    refine xn_rem hx hb (by omega) (by omega) (by omega) dX4_make_143 ?_
                    refine xn_cge (tgt := 151) hx hb (by omega) (by omega) dX4_make_144 (by decide) (fun c_6 => ?_) (fun c_6 => ?_)
                    · refine lv_iconst (v := nI 0) hx hb dX4_make_151 (by decide) ?_
                      refine xn_add hx hb dX4_make_152 ?_
                      refine xt_i (show nI (((bg y.n c0 i) + ((MS.n y) / c0)) + 0) = nI (bg y.n c0 (i + 1)) from congrArg nI (bg_s0 (by omega))) ?_
                      refine xa_ist hx hb hK hP hD hS 7 0 rfl rfl (by omega) (by decide) (aN_up _ _ _) dX4_make_153 (fun H locs hP hD hS => ?_)
                      have hP : va_P (dC, dI) vwCl (wM q cI cZ (MS.s_st (MS.s_st (MS.s_c (MS.s_p (MS.s_rw (MS.s_th y 0) (mkR (toR y) y.n)) y.n) c0) (cpN (bg y.n c0) y.st (i + 1))) (va_up (cpN (bg y.n c0) y.st (i + 1)) (i + 1) (bg y.n c0 (i + 1))))) H := hP
                      have hD : va_D A (wM q cI cZ (MS.s_st (MS.s_st (MS.s_c (MS.s_p (MS.s_rw (MS.s_th y 0) (mkR (toR y) y.n)) y.n) c0) (cpN (bg y.n c0) y.st (i + 1))) (va_up (cpN (bg y.n c0) y.st (i + 1)) (i + 1) (bg y.n c0 (i + 1))))) := hD
                      rw [cpN_s] at hP hD
                      refine lv_iinc (v := nI (i + 1)) (lv' := [(2, .int (nI (i + 1))), (0, .ref (q 0)), (1, .int (nI c0))]) hx hb dX4_make_154 hl (k := 2) rfl (nI_1 _) (by decide) rfl (fun ls hl => ?_)
                      refine lv_goto (tgt := 112) hx hb dX4_make_157 (by decide) ?_
                      exact ih112 (i + 1) (by omega) (by omega) H locs hP hD hS ls (lv_sub hl [1, 2, 0] rfl)
                    · refine lv_iconst (v := nI 1) hx hb dX4_make_147 (by decide) ?_
                      refine lv_goto (tgt := 152) hx hb dX4_make_148 (by decide) ?_
                      refine xn_add hx hb dX4_make_152 ?_
                      refine xt_i (show nI (((bg y.n c0 i) + ((MS.n y) / c0)) + 1) = nI (bg y.n c0 (i + 1)) from congrArg nI (bg_s1 (by omega))) ?_
                      refine xa_ist hx hb hK hP hD hS 7 0 rfl rfl (by omega) (by decide) (aN_up _ _ _) dX4_make_153 (fun H locs hP hD hS => ?_)
                      have hP : va_P (dC, dI) vwCl (wM q cI cZ (MS.s_st (MS.s_st (MS.s_c (MS.s_p (MS.s_rw (MS.s_th y 0) (mkR (toR y) y.n)) y.n) c0) (cpN (bg y.n c0) y.st (i + 1))) (va_up (cpN (bg y.n c0) y.st (i + 1)) (i + 1) (bg y.n c0 (i + 1))))) H := hP
                      have hD : va_D A (wM q cI cZ (MS.s_st (MS.s_st (MS.s_c (MS.s_p (MS.s_rw (MS.s_th y 0) (mkR (toR y) y.n)) y.n) c0) (cpN (bg y.n c0) y.st (i + 1))) (va_up (cpN (bg y.n c0) y.st (i + 1)) (i + 1) (bg y.n c0 (i + 1))))) := hD
                      rw [cpN_s] at hP hD
                      refine lv_iinc (v := nI (i + 1)) (lv' := [(2, .int (nI (i + 1))), (0, .ref (q 0)), (1, .int (nI c0))]) hx hb dX4_make_154 hl (k := 2) rfl (nI_1 _) (by decide) rfl (fun ls hl => ?_)
                      refine lv_goto (tgt := 112) hx hb dX4_make_157 (by decide) ?_
                      exact ih112 (i + 1) (by omega) (by omega) H locs hP hD hS ls (lv_sub hl [1, 2, 0] rfl)
              exact L112 ((c0 - 0) + 1) 0 (by omega) (Nat.lt_succ_self _) H locs hP hD hS ls (lv_sub hl [1, 2, 0] rfl)
            · refine lv_iconst (v := nI 0) hx hb dX4_make_39 (by decide) ?_
              refine lv_istore_n (lv' := [(3, .int (nI 0)), (0, .ref (q 0)), (1, .int (nI c0)), (2, .int (nI i))]) hx hb dX4_make_40 rfl hl (by decide) rfl (fun ls hl => ?_)
              refine lv_iconst (v := nI 0) hx hb dX4_make_41 (by decide) ?_
              refine lv_istore (lv' := [(4, .int (nI 0)), (3, .int (nI 0)), (0, .ref (q 0)), (1, .int (nI c0)), (2, .int (nI i))]) hx hb dX4_make_42 hl (by decide) rfl (fun ls hl => ?_)
              have L44 : ∀ (fuel : Nat) (j : Nat) (bf : Nat), (j ≤ y.n) → (bf = rk (toR y) i j) → y.n - j < fuel → ∀ (H : Heap) (locs : List Loc), va_P (dC, dI) vwCl (wM q cI cZ (MS.s_rw (MS.s_th y 0) g)) H → va_D A (wM q cI cZ (MS.s_rw (MS.s_th y 0) g)) → va_S A s.heap H locs → ∀ ls : Array Slot, lv_has ls 5 [(0, .ref (q 0)), (1, .int (nI c0)), (2, .int (nI i)), (3, .int (nI bf)), (4, .int (nI j))] → W p l e ({ frames := 1, cells := 0, slots := 0, locals := 22 } : Room) s m ([.ref (q 0), .int (nI c0)] : List Value).toArray below meth c H locs 0 0 (MQ below (va_Qi (fun (x : Int32) (u : MS) => x = nI (bg y.n c0 1) ∧ u = mMake y c0) (fun (u : MS) => cB (dC, dI) vwCl [(cI, .int), (cZ, .boolean)] (wM q cI cZ u) (A)) (A)) ([.ref (q 0), .int (nI c0)] : List Value).toArray s 0 0 A) (F0 m 44 ls []) := by
                intro fuel
                induction fuel with
                | zero => intro j bf j1 e2 hm H locs hP hD hS ls hl; exact absurd hm (Nat.not_lt_zero _)
                | succ fuel ih44 =>
                  intro j bf j1 e2 hm H locs hP hD hS ls hl
                  refine lv_iload hx hb dX4_make_44 (lv_at hl 4 rfl) ?_
                  refine lv_aload_n hx hb dX4_make_46 rfl (lv_at hl 0 rfl) ?_
                  refine va_get (D := (dC, dI)) (ci := 4) (v := .int (nI (MS.n y))) (C := RX4) (T := TX4) (N := 23) hx hb hts inX4 hown hK hP 0 rfl rfl 7 (by decide) (hts _ tw_579) (fun _ h9 => h9) rfl dX4_make_47 ?_
                  refine xn_cge (tgt := 77) hx hb (by omega) (by omega) dX4_make_50 (by decide) (fun c_7 => ?_) (fun c_7 => ?_)
                  · have g9 := rk_lt (toR y) (show i < y.n by omega)
                    have e7 : bf = rk (toR y) i y.n := by rw [e2, show j = y.n by omega]
                    refine lv_aload_n hx hb dX4_make_77 rfl (lv_at hl 0 rfl) ?_
                    refine va_get (D := (dC, dI)) (ci := 4) (v := .ref (q 6)) (C := RX4) (T := TX4) (N := 23) hx hb hts inX4 hown hK hP 0 rfl rfl 8 (by decide) (hts _ tw_580) (fun _ h9 => h9) rfl dX4_make_78 ?_
                    refine lv_iload_n hx hb dX4_make_81 rfl (lv_at hl 3 rfl) ?_
                    refine lv_iload_n hx hb dX4_make_82 rfl (lv_at hl 2 rfl) ?_
                    refine xa_ist hx hb hK hP hD hS 6 0 rfl rfl (by omega) (by decide) (aN_up _ _ _) dX4_make_83 (fun H locs hP hD hS => ?_)
                    have hP : va_P (dC, dI) vwCl (wM q cI cZ (MS.s_rw (MS.s_rw (MS.s_th y 0) g) (va_up g bf i))) H := hP
                    have hD : va_D A (wM q cI cZ (MS.s_rw (MS.s_rw (MS.s_th y 0) g) (va_up g bf i))) := hD
                    refine lv_iinc (v := nI (i + 1)) (lv' := [(2, .int (nI (i + 1))), (0, .ref (q 0)), (1, .int (nI c0)), (3, .int (nI bf)), (4, .int (nI j))]) hx hb dX4_make_84 hl (k := 2) rfl (nI_1 _) (by decide) rfl (fun ls hl => ?_)
                    refine lv_goto (tgt := 31) hx hb dX4_make_87 (by decide) ?_
                    exact ih31 (i + 1) (va_up g bf i) (by omega) (by rw [e1, e7]; rfl) (up_lt b_g (by omega) _) (by omega) H locs hP hD hS ls (lv_sub hl [1, 2, 0] rfl)
                  · have g1 := ibN_le (toR y) j i
                    refine lv_aload_n hx hb dX4_make_53 rfl (lv_at hl 0 rfl) ?_
                    refine lv_iload hx hb dX4_make_54 (lv_at hl 4 rfl) ?_
                    refine lv_iload_n hx hb dX4_make_56 rfl (lv_at hl 2 rfl) ?_
                    refine xc_Vi (As := [.int (nI j), .int (nI i)]) (wr := []) ⟨hx, hb, hml, hown, hts⟩ (c_ScanRowsModel_isBefore l dC dI q cI cZ H.size (MS.s_rw (MS.s_th y 0) g) j i ⟨RB_rw hM0.1 b_g, hM0.2⟩ (by omega) (by omega)) (cwV 2 hts (gV tw_656 tw_658 sw_25 tw_5 tw_659) rfl rfl rfl (by decide +kernel) ⟨Nat.le_of_ble_eq_true rfl, Nat.le_of_ble_eq_true rfl⟩) rfl hl.1 rfl (Nat.le_of_ble_eq_true rfl) dX4_make_57 ⟨Nat.zero_le _, Nat.zero_le _⟩ hP hD hK hS hA [0, 1, 2, 3, 4, 5, 6, 7, 8, 9, 10, 11, 12, 13] [] rfl rfl (by decide) (by decide) (by decide) [0, 1] rfl (q0 := 0) rfl rfl rfl eT_M (trivial) (fun r_8 u_9 H locs w_10 hP hD hS => ?_)
                    obtain rfl := w_10
                    have hP : va_P (dC, dI) vwCl (wM q cI cZ (MS.s_rw (MS.s_th y 0) g)) H := hP
                    have hD : va_D A (wM q cI cZ (MS.s_rw (MS.s_th y 0) g)) := hD
                    refine xt_i (show nI (ibN (toR (MS.s_rw (MS.s_th y 0) g)) j i) = nI (ibN (toR y) j i) from rfl) ?_
                    refine xn_zeq (tgt := 69) hx hb (by omega) dX4_make_60 (by decide) (fun c_11 => ?_) (fun c_11 => ?_)
                    · refine lv_iload_n hx hb dX4_make_69 rfl (lv_at hl 3 rfl) ?_
                      refine lv_istore_n (lv' := [(3, .int (nI bf)), (0, .ref (q 0)), (1, .int (nI c0)), (2, .int (nI i)), (4, .int (nI j))]) hx hb dX4_make_70 rfl hl (by decide) rfl (fun ls hl => ?_)
                      refine lv_iinc (v := nI (j + 1)) (lv' := [(4, .int (nI (j + 1))), (3, .int (nI bf)), (0, .ref (q 0)), (1, .int (nI c0)), (2, .int (nI i))]) hx hb dX4_make_71 hl (k := 4) rfl (nI_1 _) (by decide) rfl (fun ls hl => ?_)
                      refine lv_goto (tgt := 44) hx hb dX4_make_74 (by decide) ?_
                      exact ih44 (j + 1) bf (by omega) (by show _ = rk (toR y) i j + ibN (toR y) j i; omega) (by omega) H locs hP hD hS ls (lv_sub hl [2, 3, 4, 1, 0] rfl)
                    · refine lv_iload_n hx hb dX4_make_63 rfl (lv_at hl 3 rfl) ?_
                      refine lv_iconst (v := nI 1) hx hb dX4_make_64 (by decide) ?_
                      refine xn_add hx hb dX4_make_65 ?_
                      refine lv_goto (tgt := 70) hx hb dX4_make_66 (by decide) ?_
                      refine lv_istore_n (lv' := [(3, .int (nI (bf + 1))), (0, .ref (q 0)), (1, .int (nI c0)), (2, .int (nI i)), (4, .int (nI j))]) hx hb dX4_make_70 rfl hl (by decide) rfl (fun ls hl => ?_)
                      refine lv_iinc (v := nI (j + 1)) (lv' := [(4, .int (nI (j + 1))), (3, .int (nI (bf + 1))), (0, .ref (q 0)), (1, .int (nI c0)), (2, .int (nI i))]) hx hb dX4_make_71 hl (k := 4) rfl (nI_1 _) (by decide) rfl (fun ls hl => ?_)
                      refine lv_goto (tgt := 44) hx hb dX4_make_74 (by decide) ?_
                      exact ih44 (j + 1) (bf + 1) (by omega) (by show _ = rk (toR y) i j + ibN (toR y) j i; omega) (by omega) H locs hP hD hS ls (lv_sub hl [2, 3, 4, 1, 0] rfl)
              exact L44 ((y.n - 0) + 1) 0 0 (Nat.zero_le _) rfl (Nat.lt_succ_self _) H locs hP hD hS ls (lv_sub hl [2, 3, 4, 1, 0] rfl)
        exact L31 ((y.n - 0) + 1) 0 (MS.rw y) (Nat.zero_le _) rfl b_rw (Nat.lt_succ_self _) H locs hP hD hS ls (lv_sub hl [1, 2, 0] rfl)
      · exact absurd (show False by omega) id
    · exact absurd (show False by omega) id
set_option maxHeartbeats 4000000 in
set_option maxRecDepth 100000 in
theorem c_M_make1 (l : Launch) (dC : Nat → ClassId) (dI : Nat → Nat → Nat) (q : Nat → Nat) (cI cZ : ClassId) (sz : Nat) (y : MS) (v : Int32) (h1 : v < nI 1 ∨ ¬ v ≤ nI 8) : Met l yX4_make (.code yX4_make cX4_make 5 (some .int) :: ALLG) ({ frames := 0, cells := 0, slots := 0, locals := 0 }) (va_Pc [.ref (q 0), .int v] (cP (dC, dI) vwCl [(cI, .int), (cZ, .boolean)] (wM q cI cZ y) eT sz)) (va_Qi (fun (x : Int32) (u : MS) => x = nI 0 ∧ u = y.s_th 1) (fun (u : MS) => cB (dC, dI) vwCl [(cI, .int), (cZ, .boolean)] (wM q cI cZ u) (va_A (wM q cI cZ y) sz)) (va_A (wM q cI cZ y) sz)) 0 0 (va_A (wM q cI cZ y) sz) := by
  refine xm_of (cc := cX4_make) (maxL := 5) (ret := some .int) (by decide) rfl (Nat.le_of_ble_eq_true rfl) ?_
  intro p e s m below meth c A hAe hx hb hr hml hts0 hown hlk hin hsz H locs hP hK hD hA hS hE ls hl
  have hts : ∀ w ∈ ALLG, w.before _ s = true := fun w h => hts0 w (List.mem_cons_of_mem _ h)
  rw [← hAe]
  have hl : lv_has ls 5 [(0, .ref (q 0)), (1, .int v)] := hl
  refine lv_aload_n hx hb dX4_make_0 rfl (lv_at hl 0 rfl) ?_
  refine lv_iload_n hx hb dX4_make_1 rfl (lv_at hl 1 rfl) ?_
  refine lv_iconst (v := nI 1) hx hb dX4_make_2 (by decide) ?_
  refine lv_icmp_lt (tgt := 12) hx hb dX4_make_3 (by decide) (fun c_1 => ?_) (fun c_1 => ?_)
  · refine lv_iconst (v := nI 1) hx hb dX4_make_12 (by decide) ?_
    refine lv_goto (tgt := 17) hx hb dX4_make_13 (by decide) ?_
    refine va_put (D := (dC, dI)) (ci := 4) (v := .int (nI 1)) (ty := .int) (C := RX4) (T := TX4) (N := 23) hx hb hts inX4 tyX4 tyX4_ok nmX4 hown hK hP hD hS 0 rfl rfl 0 (by decide) (hts _ tw_572) (fun _ h9 => h9) rfl (by decide +kernel) rfl rfl (Nat.le_of_ble_eq_true rfl) dX4_make_17 (fun H locs hP hD hS => ?_)
    have hP : va_P (dC, dI) vwCl (wM q cI cZ (MS.s_th y 1)) H := hP
    have hD : va_D A (wM q cI cZ (MS.s_th y 1)) := hD
    refine lv_aload_n hx hb dX4_make_20 rfl (lv_at hl 0 rfl) ?_
    refine va_get (D := (dC, dI)) (ci := 4) (v := .int (nI 1)) (C := RX4) (T := TX4) (N := 23) hx hb hts inX4 hown hK hP 0 rfl rfl 0 (by decide) (hts _ tw_572) (fun _ h9 => h9) rfl dX4_make_21 ?_
    refine xn_zle (tgt := 29) hx hb (by omega) dX4_make_24 (by decide) (fun c_2 => ?_) (fun c_2 => ?_)
    · exact absurd (show False by omega) id
    · refine lv_iconst (v := nI 0) hx hb dX4_make_27 (by decide) ?_
      exact xr_i hx hb hr hlk (u := MS.s_th y 1) (⟨rfl, rfl⟩) hP hK hD hS dX4_make_28
  · refine lv_iload_n hx hb dX4_make_6 rfl (lv_at hl 1 rfl) ?_
    refine lv_bipush (v := nI 8) hx hb dX4_make_7 (by decide) ?_
    refine lv_icmp_le (tgt := 16) hx hb dX4_make_9 (by decide) (fun c_3 => ?_) (fun c_3 => ?_)
    · exact absurd h1 (fun z => z.elim c_1 (fun z => z c_3))
    · refine lv_iconst (v := nI 1) hx hb dX4_make_12 (by decide) ?_
      refine lv_goto (tgt := 17) hx hb dX4_make_13 (by decide) ?_
      refine va_put (D := (dC, dI)) (ci := 4) (v := .int (nI 1)) (ty := .int) (C := RX4) (T := TX4) (N := 23) hx hb hts inX4 tyX4 tyX4_ok nmX4 hown hK hP hD hS 0 rfl rfl 0 (by decide) (hts _ tw_572) (fun _ h9 => h9) rfl (by decide +kernel) rfl rfl (Nat.le_of_ble_eq_true rfl) dX4_make_17 (fun H locs hP hD hS => ?_)
      have hP : va_P (dC, dI) vwCl (wM q cI cZ (MS.s_th y 1)) H := hP
      have hD : va_D A (wM q cI cZ (MS.s_th y 1)) := hD
      refine lv_aload_n hx hb dX4_make_20 rfl (lv_at hl 0 rfl) ?_
      refine va_get (D := (dC, dI)) (ci := 4) (v := .int (nI 1)) (C := RX4) (T := TX4) (N := 23) hx hb hts inX4 hown hK hP 0 rfl rfl 0 (by decide) (hts _ tw_572) (fun _ h9 => h9) rfl dX4_make_21 ?_
      refine xn_zle (tgt := 29) hx hb (by omega) dX4_make_24 (by decide) (fun c_4 => ?_) (fun c_4 => ?_)
      · exact absurd (show False by omega) id
      · refine lv_iconst (v := nI 0) hx hb dX4_make_27 (by decide) ?_
        exact xr_i hx hb hr hlk (u := MS.s_th y 1) (⟨rfl, rfl⟩) hP hK hD hS dX4_make_28
end
section
/-! the reference: travel, exchanges, rules, chains -/
theorem neg_zI {z : Int} (h1 : -1073741824 ≤ z) (h2 : z ≤ 1073741824) (h : ¬ 0 ≤ z) : -zI z = nI z.natAbs := by
  have e : -zI z = zI 0 - zI z := by rw [show zI 0 = (0 : Int32) from rfl]; simp
  rw [e, zI_sub, ← zI_nI]
  congr 1
  omega
theorem pos_zI {z : Int} (h : 0 ≤ z) : zI z = nI z.natAbs := by rw [← zI_nI, Int.natAbs_of_nonneg h]
theorem zI_0le {z : Int} (h1 : -1073741824 ≤ z) (h2 : z ≤ 1073741824) : (0 : Int32) ≤ zI z ↔ 0 ≤ z := by
  rw [show (0 : Int32) = zI 0 from rfl]; exact zI_le (by decide) (by decide) (by omega) (by omega)
def pm (y : MS) (t : Nat) : Nat := (plF y.rw t y.p).toNat
def mGood (y : MS) (a b : Nat) : Prop := plF y.rw a y.p ≠ -1 ∧ plF y.rw b y.p ≠ -1 ∧ y.ck a = y.ck b ∧ trC (mX y (pm y a) (pm y b)) y.c < trC y y.c
def mPair (y : MS) (a b : Nat) : Prop := a < b ∧ b < y.n ∧ mGood y a b ∧ ∀ a' b', a' < b' → b' < y.n → (a' < a ∨ (a' = a ∧ b' < b)) → ¬ mGood y a' b'
def mNo (y : MS) : Prop := ∀ a b, a < b → b < y.n → ¬ mGood y a b
def mStepR (y u : MS) : Prop := ∃ a b, mPair y a b ∧ u = mX y (pm y a) (pm y b)
def mOnce (y : MS) (x : Int32) (u : MS) : Prop := (x = nI 1 ∧ mStepR y u) ∨ (x = nI 0 ∧ u = y ∧ mNo y)
def mImpR : Nat → MS → Nat → MS → Prop
  | 0, y, k, u => k = 0 ∧ u = y
  | s + 1, y, k, u => (mNo y ∧ k = 0 ∧ u = y) ∨ ∃ y1 k1, mStepR y y1 ∧ mImpR s y1 k1 u ∧ k = k1 + 1
theorem mImpR_no {s : Nat} {y : MS} (h : mNo y) : mImpR s y 0 y := by
  cases s with
  | zero => exact ⟨rfl, rfl⟩
  | succ s => exact Or.inl ⟨h, rfl, rfl⟩
theorem pm_z {y : MS} {t : Nat} (h : plF y.rw t y.p ≠ -1) : plF y.rw t y.p = (pm y t : Int) ∧ pm y t < y.p := by
  have h1 := plF_b y.rw t y.p
  unfold pm; omega
theorem MB_rw {y : MS} {g : Nat → Nat} (h : MB y) (hg : ∀ k, g k < 32) : MB (y.s_rw g) := ⟨RB_rw h.1 hg, h.2⟩
theorem MB_mX {y : MS} (h : MB y) (i j : Nat) : MB (mX y i j) := MB_rw h (up_lt (up_lt h.1.2.2.2.2.2.2.2.2.2.1 (h.1.2.2.2.2.2.2.2.2.2.1 _) _) (h.1.2.2.2.2.2.2.2.2.2.1 _) _)
theorem mStepR_ok {y u : MS} (h : MB y) (hs : mStepR y u) : MB u ∧ (u.n = y.n ∧ u.c = y.c ∧ u.st = y.st ∧ u.p = y.p) := by
  obtain ⟨a, b, -, rfl⟩ := hs
  exact ⟨MB_mX h _ _, rfl, rfl, rfl, rfl⟩
def mono (y : MS) : Prop := ∀ i, i < y.c → y.st i ≤ y.st (i + 1)
def mB (y : MS) (t : Nat) : Nat := if t % 2 = 0 then y.fl (t / 2) else if plF y.rw (t / 2) y.p = -1 then 1 else 0
theorem mB_le {y : MS} (h : MB y) (t : Nat) : mB y t ≤ 1 := by
  have := h.1.2.2.2.2.2.2.2.1 (t / 2)
  have e : (toR y).fl = y.fl := rfl
  rw [e] at this
  unfold mB; split
  · omega
  · split <;> omega
/-- k places, from the last one on, have the value of the place before -/
def mvL (y : MS) (t : Nat) : Nat → (Nat → Nat)
  | 0 => y.vb
  | k + 1 => va_up (mvL y t k) (y.rw (t - 1 - k)) (mvL y t k (y.rw (t - 1 - k - 1)))
def mvO (y : MS) (f t : Nat) : Nat := if f = t then 0 else y.vb (y.rw (t - 1))
def mvV (y : MS) (f t b : Nat) : Nat → Nat := if f = t then y.vb else va_up (mvL y t (t - 1 - f)) (y.rw f) b
theorem mvL_lt {y : MS} (h : ∀ z, y.vb z < 2) (t k : Nat) : ∀ z, mvL y t k z < 2 := by
  induction k with
  | zero => exact h
  | succ k ih => exact up_lt ih (ih _) _
theorem mvV_lt {y : MS} (h : ∀ z, y.vb z < 2) {f t b : Nat} (hb : b < 2) : ∀ z, mvV y f t b z < 2 := by
  intro z; unfold mvV; split
  · exact h z
  · exact up_lt (mvL_lt h t _) hb _ z
def msC (y : MS) (bits : Int32) : Nat → Int32 × (Nat → Nat)
  | 0 => (nI 0, y.vb)
  | i + 1 => ((msC y bits i).1 ||| (nI (mvO (y.s_vb (msC y bits i).2) (y.st i) (y.st (i + 1))) <<< (nI i &&& 31)), mvV (y.s_vb (msC y bits i).2) (y.st i) (y.st (i + 1)) (sbit bits i))
theorem msC_lt {y : MS} (h : ∀ z, y.vb z < 2) (bits : Int32) (i : Nat) : ∀ z, (msC y bits i).2 z < 2 := by
  induction i with
  | zero => exact h
  | succ i ih => exact mvV_lt (y := y.s_vb (msC y bits i).2) ih (sbit_lt bits i)
theorem MB_vb {y : MS} {v : Nat → Nat} (h : MB y) (hv : ∀ z, v z < 2) : MB (y.s_vb v) := ⟨RB_vb h.1 hv, h.2⟩
theorem MB_th {y : MS} (h : MB y) (t : Nat) : MB (y.s_th t) := h
theorem hcN_k {ch c : Nat} (h : ch < c) (hc : c ≤ 32) : hcN (nI ch) c = 1 := by
  unfold hcN; rw [if_pos ⟨nI_pos (by omega), nI_lt h (by omega)⟩]
theorem hcN_le (v : Int32) (c : Nat) : hcN v c ≤ 1 := by unfold hcN; split <;> omega
theorem trC_th (y : MS) (t i : Nat) : trC (y.s_th t) i = trC y i := by
  induction i with
  | zero => rfl
  | succ i ih => show trC (y.s_th t) i + _ = trC y i + _; rw [ih]; rfl
theorem sw_26 : Cond.selects "ScanRowsModel" (⟨"ScanRowsModel", "isChain", "(I)Z"⟩ : MethodName) (⟨"ScanRowsModel", "isChain", "(I)Z"⟩ : MethodName) ∈ ALLG := al_s (i := 26) (by decide +kernel) (by decide +kernel)
theorem sw_27 : Cond.selects "ScanRowsModel" (⟨"ScanRowsModel", "allTravel", "()I"⟩ : MethodName) (⟨"ScanRowsModel", "allTravel", "()I"⟩ : MethodName) ∈ ALLG := al_s (i := 27) (by decide +kernel) (by decide +kernel)
theorem sw_29 : Cond.selects "ScanRowsModel" (⟨"ScanRowsModel", "placeOf", "(I)I"⟩ : MethodName) (⟨"ScanRowsModel", "placeOf", "(I)I"⟩ : MethodName) ∈ ALLG := al_s (i := 29) (by decide +kernel) (by decide +kernel)
theorem sw_30 : Cond.selects "ScanRowsModel" (⟨"ScanRowsModel", "exchange", "(II)V"⟩ : MethodName) (⟨"ScanRowsModel", "exchange", "(II)V"⟩ : MethodName) ∈ ALLG := al_s (i := 30) (by decide +kernel) (by decide +kernel)
theorem tw_664 : (Cond.methodLink "ScanRowsModel" (80 : Nat) ({ cls := "ScanRowsModel", name := "isChain", desc := "(I)Z" } : Jvm.MethodName)) ∈ ALLG := al_t (i := 664) (by decide +kernel) (by decide +kernel)
theorem tw_666 : (Cond.instanceMethod ({ cls := "ScanRowsModel", name := "isChain", desc := "(I)Z" } : Jvm.MethodName)) ∈ ALLG := al_t (i := 666) (by decide +kernel) (by decide +kernel)
theorem tw_667 : (Cond.code ({ cls := "ScanRowsModel", name := "isChain", desc := "(I)Z" } : Jvm.MethodName) prog_6_method_4_code (2 : Nat) (Option.some FieldType.boolean)) ∈ ALLG := al_t (i := 667) (by decide +kernel) (by decide +kernel)
theorem tw_676 : (Cond.methodLink "ScanRowsModel" (88 : Nat) ({ cls := "ScanRowsModel", name := "allTravel", desc := "()I" } : Jvm.MethodName)) ∈ ALLG := al_t (i := 676) (by decide +kernel) (by decide +kernel)
theorem tw_678 : (Cond.instanceMethod ({ cls := "ScanRowsModel", name := "allTravel", desc := "()I" } : Jvm.MethodName)) ∈ ALLG := al_t (i := 678) (by decide +kernel) (by decide +kernel)
theorem tw_679 : (Cond.code ({ cls := "ScanRowsModel", name := "allTravel", desc := "()I" } : Jvm.MethodName) prog_6_method_12_code (4 : Nat) (Option.some FieldType.int)) ∈ ALLG := al_t (i := 679) (by decide +kernel) (by decide +kernel)
theorem tw_680 : (Cond.methodLink "ScanRowsModel" (84 : Nat) ({ cls := "ScanRowsModel", name := "size", desc := "(I)I" } : Jvm.MethodName)) ∈ ALLG := al_t (i := 680) (by decide +kernel) (by decide +kernel)
theorem tw_681 : (Cond.static ({ cls := "ScanRowsModel", name := "size", desc := "(I)I" } : Jvm.MethodName)) ∈ ALLG := al_t (i := 681) (by decide +kernel) (by decide +kernel)
theorem tw_682 : (Cond.code ({ cls := "ScanRowsModel", name := "size", desc := "(I)I" } : Jvm.MethodName) prog_6_method_11_code (1 : Nat) (Option.some FieldType.int)) ∈ ALLG := al_t (i := 682) (by decide +kernel) (by decide +kernel)
theorem tw_691 : (Cond.methodLink "ScanRowsModel" (92 : Nat) ({ cls := "ScanRowsModel", name := "placeOf", desc := "(I)I" } : Jvm.MethodName)) ∈ ALLG := al_t (i := 691) (by decide +kernel) (by decide +kernel)
theorem tw_693 : (Cond.instanceMethod ({ cls := "ScanRowsModel", name := "placeOf", desc := "(I)I" } : Jvm.MethodName)) ∈ ALLG := al_t (i := 693) (by decide +kernel) (by decide +kernel)
theorem tw_694 : (Cond.code ({ cls := "ScanRowsModel", name := "placeOf", desc := "(I)I" } : Jvm.MethodName) prog_6_method_14_code (3 : Nat) (Option.some FieldType.int)) ∈ ALLG := al_t (i := 694) (by decide +kernel) (by decide +kernel)
theorem tw_695 : (Cond.methodLink "ScanRowsModel" (95 : Nat) ({ cls := "ScanRowsModel", name := "exchange", desc := "(II)V" } : Jvm.MethodName)) ∈ ALLG := al_t (i := 695) (by decide +kernel) (by decide +kernel)
theorem tw_697 : (Cond.instanceMethod ({ cls := "ScanRowsModel", name := "exchange", desc := "(II)V" } : Jvm.MethodName)) ∈ ALLG := al_t (i := 697) (by decide +kernel) (by decide +kernel)
theorem tw_698 : (Cond.code ({ cls := "ScanRowsModel", name := "exchange", desc := "(II)V" } : Jvm.MethodName) prog_6_method_15_code (4 : Nat) (Option.none : Option Jvm.ClassFile.FieldType)) ∈ ALLG := al_t (i := 698) (by decide +kernel) (by decide +kernel)
theorem dX4_at_0 : decode cX4_at 0 = .ok (.aload_n 0, 1) := by decide +kernel
theorem dX4_at_1 : decode cX4_at 1 = .ok (.aload_n 0, 1) := by decide +kernel
theorem dX4_at_2 : decode cX4_at 2 = .ok (.iload_n 1, 1) := by decide +kernel
theorem dX4_at_3 : decode cX4_at 3 = .ok (.invokevirtual 80, 3) := by decide +kernel
theorem dX4_at_6 : decode cX4_at 6 = .ok (.ifCond .eq 11, 3) := by decide +kernel
theorem dX4_at_9 : decode cX4_at 9 = .ok (.iload_n 2, 1) := by decide +kernel
theorem dX4_at_10 : decode cX4_at 10 = .ok (.ifCond .lt 7, 3) := by decide +kernel
theorem dX4_at_13 : decode cX4_at 13 = .ok (.iconst 0, 1) := by decide +kernel
theorem dX4_at_14 : decode cX4_at 14 = .ok (.goto 4, 3) := by decide +kernel
theorem dX4_at_17 : decode cX4_at 17 = .ok (.iconst 1, 1) := by decide +kernel
theorem dX4_at_18 : decode cX4_at 18 = .ok (.putfield 57, 3) := by decide +kernel
theorem dX4_at_21 : decode cX4_at 21 = .ok (.aload_n 0, 1) := by decide +kernel
theorem dX4_at_22 : decode cX4_at 22 = .ok (.getfield 57, 3) := by decide +kernel
theorem dX4_at_25 : decode cX4_at 25 = .ok (.ifCond .le 5, 3) := by decide +kernel
theorem dX4_at_28 : decode cX4_at 28 = .ok (.iconst 0, 1) := by decide +kernel
theorem dX4_at_29 : decode cX4_at 29 = .ok (.ireturn, 1) := by decide +kernel
theorem dX4_at_30 : decode cX4_at 30 = .ok (.iload_n 2, 1) := by decide +kernel
theorem dX4_at_31 : decode cX4_at 31 = .ok (.aload_n 0, 1) := by decide +kernel
theorem dX4_at_32 : decode cX4_at 32 = .ok (.getfield 29, 3) := by decide +kernel
theorem dX4_at_35 : decode cX4_at 35 = .ok (.iload_n 1, 1) := by decide +kernel
theorem dX4_at_36 : decode cX4_at 36 = .ok (.iconst 1, 1) := by decide +kernel
theorem dX4_at_37 : decode cX4_at 37 = .ok (.iadd, 1) := by decide +kernel
theorem dX4_at_38 : decode cX4_at 38 = .ok (.iaload, 1) := by decide +kernel
theorem dX4_at_39 : decode cX4_at 39 = .ok (.aload_n 0, 1) := by decide +kernel
theorem dX4_at_40 : decode cX4_at 40 = .ok (.getfield 29, 3) := by decide +kernel
theorem dX4_at_43 : decode cX4_at 43 = .ok (.iload_n 1, 1) := by decide +kernel
theorem dX4_at_44 : decode cX4_at 44 = .ok (.iaload, 1) := by decide +kernel
theorem dX4_at_45 : decode cX4_at 45 = .ok (.isub, 1) := by decide +kernel
theorem dX4_at_46 : decode cX4_at 46 = .ok (.if_icmp .ge 19, 3) := by decide +kernel
theorem dX4_at_49 : decode cX4_at 49 = .ok (.aload_n 0, 1) := by decide +kernel
theorem dX4_at_50 : decode cX4_at 50 = .ok (.getfield 26, 3) := by decide +kernel
theorem dX4_at_53 : decode cX4_at 53 = .ok (.aload_n 0, 1) := by decide +kernel
theorem dX4_at_54 : decode cX4_at 54 = .ok (.getfield 29, 3) := by decide +kernel
theorem dX4_at_57 : decode cX4_at 57 = .ok (.iload_n 1, 1) := by decide +kernel
theorem dX4_at_58 : decode cX4_at 58 = .ok (.iaload, 1) := by decide +kernel
theorem dX4_at_59 : decode cX4_at 59 = .ok (.iload_n 2, 1) := by decide +kernel
theorem dX4_at_60 : decode cX4_at 60 = .ok (.iadd, 1) := by decide +kernel
theorem dX4_at_61 : decode cX4_at 61 = .ok (.iaload, 1) := by decide +kernel
theorem dX4_at_62 : decode cX4_at 62 = .ok (.goto 4, 3) := by decide +kernel
theorem dX4_at_65 : decode cX4_at 65 = .ok (.iconst (-1), 1) := by decide +kernel
theorem dX4_at_66 : decode cX4_at 66 = .ok (.ireturn, 1) := by decide +kernel
theorem dX4_lockUp_0 : decode cX4_lockUp 0 = .ok (.aload_n 0, 1) := by decide +kernel
theorem dX4_lockUp_1 : decode cX4_lockUp 1 = .ok (.aload_n 0, 1) := by decide +kernel
theorem dX4_lockUp_2 : decode cX4_lockUp 2 = .ok (.iload_n 1, 1) := by decide +kernel
theorem dX4_lockUp_3 : decode cX4_lockUp 3 = .ok (.invokevirtual 80, 3) := by decide +kernel
theorem dX4_lockUp_6 : decode cX4_lockUp 6 = .ok (.ifCond .eq 30, 3) := by decide +kernel
theorem dX4_lockUp_9 : decode cX4_lockUp 9 = .ok (.iload_n 2, 1) := by decide +kernel
theorem dX4_lockUp_10 : decode cX4_lockUp 10 = .ok (.ifCond .lt 26, 3) := by decide +kernel
theorem dX4_lockUp_13 : decode cX4_lockUp 13 = .ok (.iload_n 2, 1) := by decide +kernel
theorem dX4_lockUp_14 : decode cX4_lockUp 14 = .ok (.aload_n 0, 1) := by decide +kernel
theorem dX4_lockUp_15 : decode cX4_lockUp 15 = .ok (.getfield 29, 3) := by decide +kernel
theorem dX4_lockUp_18 : decode cX4_lockUp 18 = .ok (.iload_n 1, 1) := by decide +kernel
theorem dX4_lockUp_19 : decode cX4_lockUp 19 = .ok (.iconst 1, 1) := by decide +kernel
theorem dX4_lockUp_20 : decode cX4_lockUp 20 = .ok (.iadd, 1) := by decide +kernel
theorem dX4_lockUp_21 : decode cX4_lockUp 21 = .ok (.iaload, 1) := by decide +kernel
theorem dX4_lockUp_22 : decode cX4_lockUp 22 = .ok (.aload_n 0, 1) := by decide +kernel
theorem dX4_lockUp_23 : decode cX4_lockUp 23 = .ok (.getfield 29, 3) := by decide +kernel
theorem dX4_lockUp_26 : decode cX4_lockUp 26 = .ok (.iload_n 1, 1) := by decide +kernel
theorem dX4_lockUp_27 : decode cX4_lockUp 27 = .ok (.iaload, 1) := by decide +kernel
theorem dX4_lockUp_28 : decode cX4_lockUp 28 = .ok (.isub, 1) := by decide +kernel
theorem dX4_lockUp_29 : decode cX4_lockUp 29 = .ok (.if_icmp .ge 7, 3) := by decide +kernel
theorem dX4_lockUp_32 : decode cX4_lockUp 32 = .ok (.iconst 0, 1) := by decide +kernel
theorem dX4_lockUp_33 : decode cX4_lockUp 33 = .ok (.goto 4, 3) := by decide +kernel
theorem dX4_lockUp_36 : decode cX4_lockUp 36 = .ok (.iconst 1, 1) := by decide +kernel
theorem dX4_lockUp_37 : decode cX4_lockUp 37 = .ok (.putfield 57, 3) := by decide +kernel
theorem dX4_lockUp_40 : decode cX4_lockUp 40 = .ok (.aload_n 0, 1) := by decide +kernel
theorem dX4_lockUp_41 : decode cX4_lockUp 41 = .ok (.getfield 57, 3) := by decide +kernel
theorem dX4_lockUp_44 : decode cX4_lockUp 44 = .ok (.ifCond .gt 24, 3) := by decide +kernel
theorem dX4_lockUp_47 : decode cX4_lockUp 47 = .ok (.aload_n 0, 1) := by decide +kernel
theorem dX4_lockUp_48 : decode cX4_lockUp 48 = .ok (.getfield 29, 3) := by decide +kernel
theorem dX4_lockUp_51 : decode cX4_lockUp 51 = .ok (.iload_n 1, 1) := by decide +kernel
theorem dX4_lockUp_52 : decode cX4_lockUp 52 = .ok (.iaload, 1) := by decide +kernel
theorem dX4_lockUp_53 : decode cX4_lockUp 53 = .ok (.iload_n 2, 1) := by decide +kernel
theorem dX4_lockUp_54 : decode cX4_lockUp 54 = .ok (.iadd, 1) := by decide +kernel
theorem dX4_lockUp_55 : decode cX4_lockUp 55 = .ok (.iconst 1, 1) := by decide +kernel
theorem dX4_lockUp_56 : decode cX4_lockUp 56 = .ok (.iadd, 1) := by decide +kernel
theorem dX4_lockUp_57 : decode cX4_lockUp 57 = .ok (.aload_n 0, 1) := by decide +kernel
theorem dX4_lockUp_58 : decode cX4_lockUp 58 = .ok (.getfield 29, 3) := by decide +kernel
theorem dX4_lockUp_61 : decode cX4_lockUp 61 = .ok (.iload_n 1, 1) := by decide +kernel
theorem dX4_lockUp_62 : decode cX4_lockUp 62 = .ok (.iconst 1, 1) := by decide +kernel
theorem dX4_lockUp_63 : decode cX4_lockUp 63 = .ok (.iadd, 1) := by decide +kernel
theorem dX4_lockUp_64 : decode cX4_lockUp 64 = .ok (.iaload, 1) := by decide +kernel
theorem dX4_lockUp_65 : decode cX4_lockUp 65 = .ok (.if_icmp .ne 5, 3) := by decide +kernel
theorem dX4_lockUp_68 : decode cX4_lockUp 68 = .ok (.iconst 0, 1) := by decide +kernel
theorem dX4_lockUp_69 : decode cX4_lockUp 69 = .ok (.ireturn, 1) := by decide +kernel
theorem dX4_lockUp_70 : decode cX4_lockUp 70 = .ok (.aload_n 0, 1) := by decide +kernel
theorem dX4_lockUp_71 : decode cX4_lockUp 71 = .ok (.getfield 29, 3) := by decide +kernel
theorem dX4_lockUp_74 : decode cX4_lockUp 74 = .ok (.iload_n 1, 1) := by decide +kernel
theorem dX4_lockUp_75 : decode cX4_lockUp 75 = .ok (.iaload, 1) := by decide +kernel
theorem dX4_lockUp_76 : decode cX4_lockUp 76 = .ok (.iload_n 2, 1) := by decide +kernel
theorem dX4_lockUp_77 : decode cX4_lockUp 77 = .ok (.iadd, 1) := by decide +kernel
theorem dX4_lockUp_78 : decode cX4_lockUp 78 = .ok (.istore_n 3, 1) := by decide +kernel
theorem dX4_lockUp_79 : decode cX4_lockUp 79 = .ok (.aload_n 0, 1) := by decide +kernel
theorem dX4_lockUp_80 : decode cX4_lockUp 80 = .ok (.getfield 7, 3) := by decide +kernel
theorem dX4_lockUp_83 : decode cX4_lockUp 83 = .ok (.aload_n 0, 1) := by decide +kernel
theorem dX4_lockUp_84 : decode cX4_lockUp 84 = .ok (.getfield 26, 3) := by decide +kernel
theorem dX4_lockUp_87 : decode cX4_lockUp 87 = .ok (.iload_n 3, 1) := by decide +kernel
theorem dX4_lockUp_88 : decode cX4_lockUp 88 = .ok (.iaload, 1) := by decide +kernel
theorem dX4_lockUp_89 : decode cX4_lockUp 89 = .ok (.iaload, 1) := by decide +kernel
theorem dX4_lockUp_90 : decode cX4_lockUp 90 = .ok (.aload_n 0, 1) := by decide +kernel
theorem dX4_lockUp_91 : decode cX4_lockUp 91 = .ok (.getfield 7, 3) := by decide +kernel
theorem dX4_lockUp_94 : decode cX4_lockUp 94 = .ok (.aload_n 0, 1) := by decide +kernel
theorem dX4_lockUp_95 : decode cX4_lockUp 95 = .ok (.getfield 26, 3) := by decide +kernel
theorem dX4_lockUp_98 : decode cX4_lockUp 98 = .ok (.iload_n 3, 1) := by decide +kernel
theorem dX4_lockUp_99 : decode cX4_lockUp 99 = .ok (.iconst 1, 1) := by decide +kernel
theorem dX4_lockUp_100 : decode cX4_lockUp 100 = .ok (.iadd, 1) := by decide +kernel
theorem dX4_lockUp_101 : decode cX4_lockUp 101 = .ok (.iaload, 1) := by decide +kernel
theorem dX4_lockUp_102 : decode cX4_lockUp 102 = .ok (.iaload, 1) := by decide +kernel
theorem dX4_lockUp_103 : decode cX4_lockUp 103 = .ok (.if_icmp .eq 7, 3) := by decide +kernel
theorem dX4_lockUp_106 : decode cX4_lockUp 106 = .ok (.iconst 1, 1) := by decide +kernel
theorem dX4_lockUp_107 : decode cX4_lockUp 107 = .ok (.goto 4, 3) := by decide +kernel
theorem dX4_lockUp_110 : decode cX4_lockUp 110 = .ok (.iconst 0, 1) := by decide +kernel
theorem dX4_lockUp_111 : decode cX4_lockUp 111 = .ok (.ireturn, 1) := by decide +kernel
theorem dX4_size_0 : decode cX4_size 0 = .ok (.iload_n 0, 1) := by decide +kernel
theorem dX4_size_1 : decode cX4_size 1 = .ok (.ifCond .ge 8, 3) := by decide +kernel
theorem dX4_size_4 : decode cX4_size 4 = .ok (.iload_n 0, 1) := by decide +kernel
theorem dX4_size_5 : decode cX4_size 5 = .ok (.ineg, 1) := by decide +kernel
theorem dX4_size_6 : decode cX4_size 6 = .ok (.goto 4, 3) := by decide +kernel
theorem dX4_size_9 : decode cX4_size 9 = .ok (.iload_n 0, 1) := by decide +kernel
theorem dX4_size_10 : decode cX4_size 10 = .ok (.ireturn, 1) := by decide +kernel
theorem dX4_allTravel_0 : decode cX4_allTravel 0 = .ok (.iconst 0, 1) := by decide +kernel
theorem dX4_allTravel_1 : decode cX4_allTravel 1 = .ok (.istore_n 1, 1) := by decide +kernel
theorem dX4_allTravel_2 : decode cX4_allTravel 2 = .ok (.iconst 0, 1) := by decide +kernel
theorem dX4_allTravel_3 : decode cX4_allTravel 3 = .ok (.istore_n 2, 1) := by decide +kernel
theorem dX4_allTravel_4 : decode cX4_allTravel 4 = .ok (.iload_n 2, 1) := by decide +kernel
theorem dX4_allTravel_5 : decode cX4_allTravel 5 = .ok (.aload_n 0, 1) := by decide +kernel
theorem dX4_allTravel_6 : decode cX4_allTravel 6 = .ok (.getfield 63, 3) := by decide +kernel
theorem dX4_allTravel_9 : decode cX4_allTravel 9 = .ok (.if_icmp .ge 96, 3) := by decide +kernel
theorem dX4_allTravel_12 : decode cX4_allTravel 12 = .ok (.aload_n 0, 1) := by decide +kernel
theorem dX4_allTravel_13 : decode cX4_allTravel 13 = .ok (.getfield 29, 3) := by decide +kernel
theorem dX4_allTravel_16 : decode cX4_allTravel 16 = .ok (.iload_n 2, 1) := by decide +kernel
theorem dX4_allTravel_17 : decode cX4_allTravel 17 = .ok (.iaload, 1) := by decide +kernel
theorem dX4_allTravel_18 : decode cX4_allTravel 18 = .ok (.istore_n 3, 1) := by decide +kernel
theorem dX4_allTravel_19 : decode cX4_allTravel 19 = .ok (.iload_n 3, 1) := by decide +kernel
theorem dX4_allTravel_20 : decode cX4_allTravel 20 = .ok (.iconst 1, 1) := by decide +kernel
theorem dX4_allTravel_21 : decode cX4_allTravel 21 = .ok (.iadd, 1) := by decide +kernel
theorem dX4_allTravel_22 : decode cX4_allTravel 22 = .ok (.aload_n 0, 1) := by decide +kernel
theorem dX4_allTravel_23 : decode cX4_allTravel 23 = .ok (.getfield 29, 3) := by decide +kernel
theorem dX4_allTravel_26 : decode cX4_allTravel 26 = .ok (.iload_n 2, 1) := by decide +kernel
theorem dX4_allTravel_27 : decode cX4_allTravel 27 = .ok (.iconst 1, 1) := by decide +kernel
theorem dX4_allTravel_28 : decode cX4_allTravel 28 = .ok (.iadd, 1) := by decide +kernel
theorem dX4_allTravel_29 : decode cX4_allTravel 29 = .ok (.iaload, 1) := by decide +kernel
theorem dX4_allTravel_30 : decode cX4_allTravel 30 = .ok (.if_icmp .ge 69, 3) := by decide +kernel
theorem dX4_allTravel_33 : decode cX4_allTravel 33 = .ok (.iload_n 1, 1) := by decide +kernel
theorem dX4_allTravel_34 : decode cX4_allTravel 34 = .ok (.aload_n 0, 1) := by decide +kernel
theorem dX4_allTravel_35 : decode cX4_allTravel 35 = .ok (.getfield 13, 3) := by decide +kernel
theorem dX4_allTravel_38 : decode cX4_allTravel 38 = .ok (.aload_n 0, 1) := by decide +kernel
theorem dX4_allTravel_39 : decode cX4_allTravel 39 = .ok (.getfield 26, 3) := by decide +kernel
theorem dX4_allTravel_42 : decode cX4_allTravel 42 = .ok (.iload_n 3, 1) := by decide +kernel
theorem dX4_allTravel_43 : decode cX4_allTravel 43 = .ok (.iaload, 1) := by decide +kernel
theorem dX4_allTravel_44 : decode cX4_allTravel 44 = .ok (.iaload, 1) := by decide +kernel
theorem dX4_allTravel_45 : decode cX4_allTravel 45 = .ok (.aload_n 0, 1) := by decide +kernel
theorem dX4_allTravel_46 : decode cX4_allTravel 46 = .ok (.getfield 13, 3) := by decide +kernel
theorem dX4_allTravel_49 : decode cX4_allTravel 49 = .ok (.aload_n 0, 1) := by decide +kernel
theorem dX4_allTravel_50 : decode cX4_allTravel 50 = .ok (.getfield 26, 3) := by decide +kernel
theorem dX4_allTravel_53 : decode cX4_allTravel 53 = .ok (.iload_n 3, 1) := by decide +kernel
theorem dX4_allTravel_54 : decode cX4_allTravel 54 = .ok (.iconst 1, 1) := by decide +kernel
theorem dX4_allTravel_55 : decode cX4_allTravel 55 = .ok (.iadd, 1) := by decide +kernel
theorem dX4_allTravel_56 : decode cX4_allTravel 56 = .ok (.iaload, 1) := by decide +kernel
theorem dX4_allTravel_57 : decode cX4_allTravel 57 = .ok (.iaload, 1) := by decide +kernel
theorem dX4_allTravel_58 : decode cX4_allTravel 58 = .ok (.isub, 1) := by decide +kernel
theorem dX4_allTravel_59 : decode cX4_allTravel 59 = .ok (.invokestatic 84, 3) := by decide +kernel
theorem dX4_allTravel_62 : decode cX4_allTravel 62 = .ok (.iadd, 1) := by decide +kernel
theorem dX4_allTravel_63 : decode cX4_allTravel 63 = .ok (.aload_n 0, 1) := by decide +kernel
theorem dX4_allTravel_64 : decode cX4_allTravel 64 = .ok (.getfield 16, 3) := by decide +kernel
theorem dX4_allTravel_67 : decode cX4_allTravel 67 = .ok (.aload_n 0, 1) := by decide +kernel
theorem dX4_allTravel_68 : decode cX4_allTravel 68 = .ok (.getfield 26, 3) := by decide +kernel
theorem dX4_allTravel_71 : decode cX4_allTravel 71 = .ok (.iload_n 3, 1) := by decide +kernel
theorem dX4_allTravel_72 : decode cX4_allTravel 72 = .ok (.iaload, 1) := by decide +kernel
theorem dX4_allTravel_73 : decode cX4_allTravel 73 = .ok (.iaload, 1) := by decide +kernel
theorem dX4_allTravel_74 : decode cX4_allTravel 74 = .ok (.aload_n 0, 1) := by decide +kernel
theorem dX4_allTravel_75 : decode cX4_allTravel 75 = .ok (.getfield 16, 3) := by decide +kernel
theorem dX4_allTravel_78 : decode cX4_allTravel 78 = .ok (.aload_n 0, 1) := by decide +kernel
theorem dX4_allTravel_79 : decode cX4_allTravel 79 = .ok (.getfield 26, 3) := by decide +kernel
theorem dX4_allTravel_82 : decode cX4_allTravel 82 = .ok (.iload_n 3, 1) := by decide +kernel
theorem dX4_allTravel_83 : decode cX4_allTravel 83 = .ok (.iconst 1, 1) := by decide +kernel
theorem dX4_allTravel_84 : decode cX4_allTravel 84 = .ok (.iadd, 1) := by decide +kernel
theorem dX4_allTravel_85 : decode cX4_allTravel 85 = .ok (.iaload, 1) := by decide +kernel
theorem dX4_allTravel_86 : decode cX4_allTravel 86 = .ok (.iaload, 1) := by decide +kernel
theorem dX4_allTravel_87 : decode cX4_allTravel 87 = .ok (.isub, 1) := by decide +kernel
theorem dX4_allTravel_88 : decode cX4_allTravel 88 = .ok (.invokestatic 84, 3) := by decide +kernel
theorem dX4_allTravel_91 : decode cX4_allTravel 91 = .ok (.iadd, 1) := by decide +kernel
theorem dX4_allTravel_92 : decode cX4_allTravel 92 = .ok (.istore_n 1, 1) := by decide +kernel
theorem dX4_allTravel_93 : decode cX4_allTravel 93 = .ok (.iinc 3 1, 3) := by decide +kernel
theorem dX4_allTravel_96 : decode cX4_allTravel 96 = .ok (.goto (-77), 3) := by decide +kernel
theorem dX4_allTravel_99 : decode cX4_allTravel 99 = .ok (.iinc 2 1, 3) := by decide +kernel
theorem dX4_allTravel_102 : decode cX4_allTravel 102 = .ok (.goto (-98), 3) := by decide +kernel
theorem dX4_allTravel_105 : decode cX4_allTravel 105 = .ok (.iload_n 1, 1) := by decide +kernel
theorem dX4_allTravel_106 : decode cX4_allTravel 106 = .ok (.ireturn, 1) := by decide +kernel
theorem dX4_travel_0 : decode cX4_travel 0 = .ok (.aload_n 0, 1) := by decide +kernel
theorem dX4_travel_1 : decode cX4_travel 1 = .ok (.iconst 0, 1) := by decide +kernel
theorem dX4_travel_2 : decode cX4_travel 2 = .ok (.putfield 57, 3) := by decide +kernel
theorem dX4_travel_5 : decode cX4_travel 5 = .ok (.aload_n 0, 1) := by decide +kernel
theorem dX4_travel_6 : decode cX4_travel 6 = .ok (.invokevirtual 88, 3) := by decide +kernel
theorem dX4_travel_9 : decode cX4_travel 9 = .ok (.i2l, 1) := by decide +kernel
theorem dX4_travel_10 : decode cX4_travel 10 = .ok (.lreturn, 1) := by decide +kernel
theorem dX4_placeOf_0 : decode cX4_placeOf 0 = .ok (.iconst 0, 1) := by decide +kernel
theorem dX4_placeOf_1 : decode cX4_placeOf 1 = .ok (.istore_n 2, 1) := by decide +kernel
theorem dX4_placeOf_2 : decode cX4_placeOf 2 = .ok (.iload_n 2, 1) := by decide +kernel
theorem dX4_placeOf_3 : decode cX4_placeOf 3 = .ok (.aload_n 0, 1) := by decide +kernel
theorem dX4_placeOf_4 : decode cX4_placeOf 4 = .ok (.getfield 77, 3) := by decide +kernel
theorem dX4_placeOf_7 : decode cX4_placeOf 7 = .ok (.if_icmp .ge 21, 3) := by decide +kernel
theorem dX4_placeOf_10 : decode cX4_placeOf 10 = .ok (.aload_n 0, 1) := by decide +kernel
theorem dX4_placeOf_11 : decode cX4_placeOf 11 = .ok (.getfield 26, 3) := by decide +kernel
theorem dX4_placeOf_14 : decode cX4_placeOf 14 = .ok (.iload_n 2, 1) := by decide +kernel
theorem dX4_placeOf_15 : decode cX4_placeOf 15 = .ok (.iaload, 1) := by decide +kernel
theorem dX4_placeOf_16 : decode cX4_placeOf 16 = .ok (.iload_n 1, 1) := by decide +kernel
theorem dX4_placeOf_17 : decode cX4_placeOf 17 = .ok (.if_icmp .ne 5, 3) := by decide +kernel
theorem dX4_placeOf_20 : decode cX4_placeOf 20 = .ok (.iload_n 2, 1) := by decide +kernel
theorem dX4_placeOf_21 : decode cX4_placeOf 21 = .ok (.ireturn, 1) := by decide +kernel
theorem dX4_placeOf_22 : decode cX4_placeOf 22 = .ok (.iinc 2 1, 3) := by decide +kernel
theorem dX4_placeOf_25 : decode cX4_placeOf 25 = .ok (.goto (-23), 3) := by decide +kernel
theorem dX4_placeOf_28 : decode cX4_placeOf 28 = .ok (.iconst (-1), 1) := by decide +kernel
theorem dX4_placeOf_29 : decode cX4_placeOf 29 = .ok (.ireturn, 1) := by decide +kernel
theorem dX4_exchange_0 : decode cX4_exchange 0 = .ok (.aload_n 0, 1) := by decide +kernel
theorem dX4_exchange_1 : decode cX4_exchange 1 = .ok (.getfield 26, 3) := by decide +kernel
theorem dX4_exchange_4 : decode cX4_exchange 4 = .ok (.iload_n 1, 1) := by decide +kernel
theorem dX4_exchange_5 : decode cX4_exchange 5 = .ok (.iaload, 1) := by decide +kernel
theorem dX4_exchange_6 : decode cX4_exchange 6 = .ok (.istore_n 3, 1) := by decide +kernel
theorem dX4_exchange_7 : decode cX4_exchange 7 = .ok (.aload_n 0, 1) := by decide +kernel
theorem dX4_exchange_8 : decode cX4_exchange 8 = .ok (.getfield 26, 3) := by decide +kernel
theorem dX4_exchange_11 : decode cX4_exchange 11 = .ok (.iload_n 1, 1) := by decide +kernel
theorem dX4_exchange_12 : decode cX4_exchange 12 = .ok (.aload_n 0, 1) := by decide +kernel
theorem dX4_exchange_13 : decode cX4_exchange 13 = .ok (.getfield 26, 3) := by decide +kernel
theorem dX4_exchange_16 : decode cX4_exchange 16 = .ok (.iload_n 2, 1) := by decide +kernel
theorem dX4_exchange_17 : decode cX4_exchange 17 = .ok (.iaload, 1) := by decide +kernel
theorem dX4_exchange_18 : decode cX4_exchange 18 = .ok (.iastore, 1) := by decide +kernel
theorem dX4_exchange_19 : decode cX4_exchange 19 = .ok (.aload_n 0, 1) := by decide +kernel
theorem dX4_exchange_20 : decode cX4_exchange 20 = .ok (.getfield 26, 3) := by decide +kernel
theorem dX4_exchange_23 : decode cX4_exchange 23 = .ok (.iload_n 2, 1) := by decide +kernel
theorem dX4_exchange_24 : decode cX4_exchange 24 = .ok (.iload_n 3, 1) := by decide +kernel
theorem dX4_exchange_25 : decode cX4_exchange 25 = .ok (.iastore, 1) := by decide +kernel
theorem dX4_exchange_26 : decode cX4_exchange 26 = .ok (.return_, 1) := by decide +kernel
theorem dX4_step_0 : decode cX4_step 0 = .ok (.aload_n 0, 1) := by decide +kernel
theorem dX4_step_1 : decode cX4_step 1 = .ok (.invokevirtual 88, 3) := by decide +kernel
theorem dX4_step_4 : decode cX4_step 4 = .ok (.istore_n 1, 1) := by decide +kernel
theorem dX4_step_5 : decode cX4_step 5 = .ok (.iconst 0, 1) := by decide +kernel
theorem dX4_step_6 : decode cX4_step 6 = .ok (.istore_n 2, 1) := by decide +kernel
theorem dX4_step_7 : decode cX4_step 7 = .ok (.iload_n 2, 1) := by decide +kernel
theorem dX4_step_8 : decode cX4_step 8 = .ok (.aload_n 0, 1) := by decide +kernel
theorem dX4_step_9 : decode cX4_step 9 = .ok (.getfield 60, 3) := by decide +kernel
theorem dX4_step_12 : decode cX4_step 12 = .ok (.if_icmp .ge 94, 3) := by decide +kernel
theorem dX4_step_15 : decode cX4_step 15 = .ok (.iload_n 2, 1) := by decide +kernel
theorem dX4_step_16 : decode cX4_step 16 = .ok (.iconst 1, 1) := by decide +kernel
theorem dX4_step_17 : decode cX4_step 17 = .ok (.iadd, 1) := by decide +kernel
theorem dX4_step_18 : decode cX4_step 18 = .ok (.istore_n 3, 1) := by decide +kernel
theorem dX4_step_19 : decode cX4_step 19 = .ok (.iload_n 3, 1) := by decide +kernel
theorem dX4_step_20 : decode cX4_step 20 = .ok (.aload_n 0, 1) := by decide +kernel
theorem dX4_step_21 : decode cX4_step 21 = .ok (.getfield 60, 3) := by decide +kernel
theorem dX4_step_24 : decode cX4_step 24 = .ok (.if_icmp .ge 76, 3) := by decide +kernel
theorem dX4_step_27 : decode cX4_step 27 = .ok (.aload_n 0, 1) := by decide +kernel
theorem dX4_step_28 : decode cX4_step 28 = .ok (.iload_n 2, 1) := by decide +kernel
theorem dX4_step_29 : decode cX4_step 29 = .ok (.invokevirtual 92, 3) := by decide +kernel
theorem dX4_step_32 : decode cX4_step 32 = .ok (.istore 4, 2) := by decide +kernel
theorem dX4_step_34 : decode cX4_step 34 = .ok (.aload_n 0, 1) := by decide +kernel
theorem dX4_step_35 : decode cX4_step 35 = .ok (.iload_n 3, 1) := by decide +kernel
theorem dX4_step_36 : decode cX4_step 36 = .ok (.invokevirtual 92, 3) := by decide +kernel
theorem dX4_step_39 : decode cX4_step 39 = .ok (.istore 5, 2) := by decide +kernel
theorem dX4_step_41 : decode cX4_step 41 = .ok (.iload 4, 2) := by decide +kernel
theorem dX4_step_43 : decode cX4_step 43 = .ok (.iconst (-1), 1) := by decide +kernel
theorem dX4_step_44 : decode cX4_step 44 = .ok (.if_icmp .eq 50, 3) := by decide +kernel
theorem dX4_step_47 : decode cX4_step 47 = .ok (.iload 5, 2) := by decide +kernel
theorem dX4_step_49 : decode cX4_step 49 = .ok (.iconst (-1), 1) := by decide +kernel
theorem dX4_step_50 : decode cX4_step 50 = .ok (.if_icmp .eq 44, 3) := by decide +kernel
theorem dX4_step_53 : decode cX4_step 53 = .ok (.aload_n 0, 1) := by decide +kernel
theorem dX4_step_54 : decode cX4_step 54 = .ok (.getfield 7, 3) := by decide +kernel
theorem dX4_step_57 : decode cX4_step 57 = .ok (.iload_n 2, 1) := by decide +kernel
theorem dX4_step_58 : decode cX4_step 58 = .ok (.iaload, 1) := by decide +kernel
theorem dX4_step_59 : decode cX4_step 59 = .ok (.aload_n 0, 1) := by decide +kernel
theorem dX4_step_60 : decode cX4_step 60 = .ok (.getfield 7, 3) := by decide +kernel
theorem dX4_step_63 : decode cX4_step 63 = .ok (.iload_n 3, 1) := by decide +kernel
theorem dX4_step_64 : decode cX4_step 64 = .ok (.iaload, 1) := by decide +kernel
theorem dX4_step_65 : decode cX4_step 65 = .ok (.if_icmp .ne 29, 3) := by decide +kernel
theorem dX4_step_68 : decode cX4_step 68 = .ok (.aload_n 0, 1) := by decide +kernel
theorem dX4_step_69 : decode cX4_step 69 = .ok (.iload 4, 2) := by decide +kernel
theorem dX4_step_71 : decode cX4_step 71 = .ok (.iload 5, 2) := by decide +kernel
theorem dX4_step_73 : decode cX4_step 73 = .ok (.invokevirtual 95, 3) := by decide +kernel
theorem dX4_step_76 : decode cX4_step 76 = .ok (.aload_n 0, 1) := by decide +kernel
theorem dX4_step_77 : decode cX4_step 77 = .ok (.invokevirtual 88, 3) := by decide +kernel
theorem dX4_step_80 : decode cX4_step 80 = .ok (.iload_n 1, 1) := by decide +kernel
theorem dX4_step_81 : decode cX4_step 81 = .ok (.if_icmp .ge 5, 3) := by decide +kernel
theorem dX4_step_84 : decode cX4_step 84 = .ok (.iconst 1, 1) := by decide +kernel
theorem dX4_step_85 : decode cX4_step 85 = .ok (.ireturn, 1) := by decide +kernel
theorem dX4_step_86 : decode cX4_step 86 = .ok (.aload_n 0, 1) := by decide +kernel
theorem dX4_step_87 : decode cX4_step 87 = .ok (.iload 4, 2) := by decide +kernel
theorem dX4_step_89 : decode cX4_step 89 = .ok (.iload 5, 2) := by decide +kernel
theorem dX4_step_91 : decode cX4_step 91 = .ok (.invokevirtual 95, 3) := by decide +kernel
theorem dX4_step_94 : decode cX4_step 94 = .ok (.iinc 3 1, 3) := by decide +kernel
theorem dX4_step_97 : decode cX4_step 97 = .ok (.goto (-78), 3) := by decide +kernel
theorem dX4_step_100 : decode cX4_step 100 = .ok (.iinc 2 1, 3) := by decide +kernel
theorem dX4_step_103 : decode cX4_step 103 = .ok (.goto (-96), 3) := by decide +kernel
theorem dX4_step_106 : decode cX4_step 106 = .ok (.iconst 0, 1) := by decide +kernel
theorem dX4_step_107 : decode cX4_step 107 = .ok (.ireturn, 1) := by decide +kernel
set_option maxHeartbeats 4000000 in
set_option maxRecDepth 100000 in
theorem c_ScanRowsModel_at (l : Launch) (dC : Nat → ClassId) (dI : Nat → Nat → Nat) (q : Nat → Nat) (cI cZ : ClassId) (sz : Nat) (y : MS) (ch kk : Nat) (h0 : y.c ≤ 8) (h1 : ch < y.c) (h2 : y.st ch ≤ y.st (ch + 1)) (h3 : y.st (ch + 1) ≤ 32) (h4 : kk < 2 ^ 31) : Met l yX4_at (.code yX4_at cX4_at 3 (some .int) :: ALLG) ({ frames := 1, cells := 0, slots := 0, locals := 21 }) (va_Pc [.ref (q 0), .int (nI ch), .int (nI kk)] (cP (dC, dI) vwCl [(cI, .int), (cZ, .boolean)] (wM q cI cZ y) eT sz)) (va_Qi (fun (x : Int32) (u : MS) => x = zI (atZ (toR y) ch kk) ∧ u = y.s_th 0) (fun (u : MS) => cB (dC, dI) vwCl [(cI, .int), (cZ, .boolean)] (wM q cI cZ u) (va_A (wM q cI cZ y) sz)) (va_A (wM q cI cZ y) sz)) 0 0 (va_A (wM q cI cZ y) sz) := by
  refine xm_of (cc := cX4_at) (maxL := 3) (ret := some .int) (by decide) rfl (Nat.le_of_ble_eq_true rfl) ?_
  intro p e s m below meth c A hAe hx hb hr hml hts0 hown hlk hin hsz H locs hP hK hD hA hS hE ls hl
  have hts : ∀ w ∈ ALLG, w.before _ s = true := fun w h => hts0 w (List.mem_cons_of_mem _ h)
  rw [← hAe]
  have hl : lv_has ls 3 [(0, .ref (q 0)), (1, .int (nI ch)), (2, .int (nI kk))] := hl
  refine lv_aload_n hx hb dX4_at_0 rfl (lv_at hl 0 rfl) ?_
  refine lv_aload_n hx hb dX4_at_1 rfl (lv_at hl 0 rfl) ?_
  refine lv_iload_n hx hb dX4_at_2 rfl (lv_at hl 1 rfl) ?_
  refine xc_Vi (As := [.int (nI ch)]) (wr := []) ⟨hx, hb, hml, hown, hts⟩ (c_ScanRowsModel_isChain l dC dI q cI cZ H.size y (nI ch)) (cwV 1 hts (gV tw_664 tw_666 sw_26 tw_5 tw_667) rfl rfl rfl (by decide +kernel) ⟨Nat.le_of_ble_eq_true rfl, Nat.le_of_ble_eq_true rfl⟩) rfl hl.1 rfl (Nat.le_of_ble_eq_true rfl) dX4_at_3 ⟨Nat.zero_le _, Nat.zero_le _⟩ hP hD hK hS hA [0, 1, 2, 3, 4, 5, 6, 7, 8, 9, 10, 11, 12, 13] [] rfl rfl (by decide) (by decide) (by decide) [0, 1] rfl (q0 := 0) rfl rfl rfl eT_M (trivial) (fun r_1 u_2 H locs w_3 hP hD hS => ?_)
  obtain rfl := w_3
  have hP : va_P (dC, dI) vwCl (wM q cI cZ y) H := hP
  have hD : va_D A (wM q cI cZ y) := hD
  refine xt_i (show nI (hcN (nI ch) y.c) = nI 1 from congrArg nI (hcN_k h1 (by omega))) ?_
  refine xn_zeq (tgt := 17) hx hb (by omega) dX4_at_6 (by decide) (fun c_4 => ?_) (fun c_4 => ?_)
  · exact absurd (show False by omega) id
  · refine lv_iload_n hx hb dX4_at_9 rfl (lv_at hl 2 rfl) ?_
    refine xn_zlt (tgt := 17) hx hb (by omega) dX4_at_10 (by decide) ?_
    refine lv_iconst (v := nI 0) hx hb dX4_at_13 (by decide) ?_
    refine lv_goto (tgt := 18) hx hb dX4_at_14 (by decide) ?_
    refine va_put (D := (dC, dI)) (ci := 4) (v := .int (nI 0)) (ty := .int) (C := RX4) (T := TX4) (N := 23) hx hb hts inX4 tyX4 tyX4_ok nmX4 hown hK hP hD hS 0 rfl rfl 0 (by decide) (hts _ tw_572) (fun _ h9 => h9) rfl (by decide +kernel) rfl rfl (Nat.le_of_ble_eq_true rfl) dX4_at_18 (fun H locs hP hD hS => ?_)
    have hP : va_P (dC, dI) vwCl (wM q cI cZ (MS.s_th y 0)) H := hP
    have hD : va_D A (wM q cI cZ (MS.s_th y 0)) := hD
    refine lv_aload_n hx hb dX4_at_21 rfl (lv_at hl 0 rfl) ?_
    refine va_get (D := (dC, dI)) (ci := 4) (v := .int (nI 0)) (C := RX4) (T := TX4) (N := 23) hx hb hts inX4 hown hK hP 0 rfl rfl 0 (by decide) (hts _ tw_572) (fun _ h9 => h9) rfl dX4_at_22 ?_
    refine xn_zle (tgt := 30) hx hb (by omega) dX4_at_25 (by decide) (fun c_6 => ?_) (fun c_6 => ?_)
    · refine lv_iload_n hx hb dX4_at_30 rfl (lv_at hl 2 rfl) ?_
      refine lv_aload_n hx hb dX4_at_31 rfl (lv_at hl 0 rfl) ?_
      refine va_get (D := (dC, dI)) (ci := 4) (v := .ref (q 7)) (C := RX4) (T := TX4) (N := 23) hx hb hts inX4 hown hK hP 0 rfl rfl 10 (by decide) (hts _ tw_582) (fun _ h9 => h9) rfl dX4_at_32 ?_
      refine lv_iload_n hx hb dX4_at_35 rfl (lv_at hl 1 rfl) ?_
      refine lv_iconst (v := nI 1) hx hb dX4_at_36 (by decide) ?_
      refine xn_add hx hb dX4_at_37 ?_
      refine xa_ild hx hb hK hP 7 0 rfl rfl (v := nI ((MS.st y) (ch + 1))) (by omega) (by decide) rfl dX4_at_38 ?_
      refine lv_aload_n hx hb dX4_at_39 rfl (lv_at hl 0 rfl) ?_
      refine va_get (D := (dC, dI)) (ci := 4) (v := .ref (q 7)) (C := RX4) (T := TX4) (N := 23) hx hb hts inX4 hown hK hP 0 rfl rfl 10 (by decide) (hts _ tw_582) (fun _ h9 => h9) rfl dX4_at_40 ?_
      refine lv_iload_n hx hb dX4_at_43 rfl (lv_at hl 1 rfl) ?_
      refine xa_ild hx hb hK hP 7 0 rfl rfl (v := nI ((MS.st y) ch)) (by omega) (by decide) rfl dX4_at_44 ?_
      refine xn_sub hx hb (by omega) dX4_at_45 ?_
      refine xn_cge (tgt := 65) hx hb (by omega) (by omega) dX4_at_46 (by decide) (fun c_7 => ?_) (fun c_7 => ?_)
      · refine lv_iconst (v := zI (-1)) hx hb dX4_at_65 (by decide) ?_
        exact xr_i hx hb hr hlk (u := MS.s_th y 0) (⟨by unfold atZ; rw [if_neg (show ¬ kk < y.st (ch + 1) - y.st ch by omega)], rfl⟩) hP hK hD hS dX4_at_66
      · refine lv_aload_n hx hb dX4_at_49 rfl (lv_at hl 0 rfl) ?_
        refine va_get (D := (dC, dI)) (ci := 4) (v := .ref (q 6)) (C := RX4) (T := TX4) (N := 23) hx hb hts inX4 hown hK hP 0 rfl rfl 8 (by decide) (hts _ tw_580) (fun _ h9 => h9) rfl dX4_at_50 ?_
        refine lv_aload_n hx hb dX4_at_53 rfl (lv_at hl 0 rfl) ?_
        refine va_get (D := (dC, dI)) (ci := 4) (v := .ref (q 7)) (C := RX4) (T := TX4) (N := 23) hx hb hts inX4 hown hK hP 0 rfl rfl 10 (by decide) (hts _ tw_582) (fun _ h9 => h9) rfl dX4_at_54 ?_
        refine lv_iload_n hx hb dX4_at_57 rfl (lv_at hl 1 rfl) ?_
        refine xa_ild hx hb hK hP 7 0 rfl rfl (v := nI ((MS.st y) ch)) (by omega) (by decide) rfl dX4_at_58 ?_
        refine lv_iload_n hx hb dX4_at_59 rfl (lv_at hl 2 rfl) ?_
        refine xn_add hx hb dX4_at_60 ?_
        refine xa_ild hx hb hK hP 6 0 rfl rfl (v := nI ((MS.rw y) (((MS.st y) ch) + kk))) (by omega) (by decide) rfl dX4_at_61 ?_
        refine lv_goto (tgt := 66) hx hb dX4_at_62 (by decide) ?_
        refine xt_i (show nI ((MS.rw y) (((MS.st y) ch) + kk)) = zI (((MS.rw y) (((MS.st y) ch) + kk) : Nat) : Int) from (zI_nI _).symm) ?_
        exact xr_i hx hb hr hlk (u := MS.s_th y 0) (⟨by unfold atZ; rw [if_pos (show kk < y.st (ch + 1) - y.st ch by omega)], rfl⟩) hP hK hD hS dX4_at_66
    · exact absurd (show False by omega) id
set_option maxHeartbeats 4000000 in
set_option maxRecDepth 100000 in
theorem c_M_at1 (l : Launch) (dC : Nat → ClassId) (dI : Nat → Nat → Nat) (q : Nat → Nat) (cI cZ : ClassId) (sz : Nat) (y : MS) (v kv : Int32) (h1 : hcN v y.c = 0 ∨ kv < 0) : Met l yX4_at (.code yX4_at cX4_at 3 (some .int) :: ALLG) ({ frames := 1, cells := 0, slots := 0, locals := 21 }) (va_Pc [.ref (q 0), .int v, .int kv] (cP (dC, dI) vwCl [(cI, .int), (cZ, .boolean)] (wM q cI cZ y) eT sz)) (va_Qi (fun (x : Int32) (u : MS) => x = nI 0 ∧ u = y.s_th 1) (fun (u : MS) => cB (dC, dI) vwCl [(cI, .int), (cZ, .boolean)] (wM q cI cZ u) (va_A (wM q cI cZ y) sz)) (va_A (wM q cI cZ y) sz)) 0 0 (va_A (wM q cI cZ y) sz) := by
  refine xm_of (cc := cX4_at) (maxL := 3) (ret := some .int) (by decide) rfl (Nat.le_of_ble_eq_true rfl) ?_
  intro p e s m below meth c A hAe hx hb hr hml hts0 hown hlk hin hsz H locs hP hK hD hA hS hE ls hl
  have hts : ∀ w ∈ ALLG, w.before _ s = true := fun w h => hts0 w (List.mem_cons_of_mem _ h)
  rw [← hAe]
  have g1 := hcN_le v y.c
  have hl : lv_has ls 3 [(0, .ref (q 0)), (1, .int v), (2, .int kv)] := hl
  refine lv_aload_n hx hb dX4_at_0 rfl (lv_at hl 0 rfl) ?_
  refine lv_aload_n hx hb dX4_at_1 rfl (lv_at hl 0 rfl) ?_
  refine lv_iload_n hx hb dX4_at_2 rfl (lv_at hl 1 rfl) ?_
  refine xc_Vi (As := [.int v]) (wr := []) ⟨hx, hb, hml, hown, hts⟩ (c_ScanRowsModel_isChain l dC dI q cI cZ H.size y v) (cwV 1 hts (gV tw_664 tw_666 sw_26 tw_5 tw_667) rfl rfl rfl (by decide +kernel) ⟨Nat.le_of_ble_eq_true rfl, Nat.le_of_ble_eq_true rfl⟩) rfl hl.1 rfl (Nat.le_of_ble_eq_true rfl) dX4_at_3 ⟨Nat.zero_le _, Nat.zero_le _⟩ hP hD hK hS hA [0, 1, 2, 3, 4, 5, 6, 7, 8, 9, 10, 11, 12, 13] [] rfl rfl (by decide) (by decide) (by decide) [0, 1] rfl (q0 := 0) rfl rfl rfl eT_M (trivial) (fun r_1 u_2 H locs w_3 hP hD hS => ?_)
  obtain rfl := w_3
  have hP : va_P (dC, dI) vwCl (wM q cI cZ y) H := hP
  have hD : va_D A (wM q cI cZ y) := hD
  refine xn_zeq (tgt := 17) hx hb (by omega) dX4_at_6 (by decide) (fun c_4 => ?_) (fun c_4 => ?_)
  · refine lv_iconst (v := nI 1) hx hb dX4_at_17 (by decide) ?_
    refine va_put (D := (dC, dI)) (ci := 4) (v := .int (nI 1)) (ty := .int) (C := RX4) (T := TX4) (N := 23) hx hb hts inX4 tyX4 tyX4_ok nmX4 hown hK hP hD hS 0 rfl rfl 0 (by decide) (hts _ tw_572) (fun _ h9 => h9) rfl (by decide +kernel) rfl rfl (Nat.le_of_ble_eq_true rfl) dX4_at_18 (fun H locs hP hD hS => ?_)
    have hP : va_P (dC, dI) vwCl (wM q cI cZ (MS.s_th y 1)) H := hP
    have hD : va_D A (wM q cI cZ (MS.s_th y 1)) := hD
    refine lv_aload_n hx hb dX4_at_21 rfl (lv_at hl 0 rfl) ?_
    refine va_get (D := (dC, dI)) (ci := 4) (v := .int (nI 1)) (C := RX4) (T := TX4) (N := 23) hx hb hts inX4 hown hK hP 0 rfl rfl 0 (by decide) (hts _ tw_572) (fun _ h9 => h9) rfl dX4_at_22 ?_
    refine xn_zle (tgt := 30) hx hb (by omega) dX4_at_25 (by decide) (fun c_5 => ?_) (fun c_5 => ?_)
    · exact absurd (show False by omega) id
    · refine lv_iconst (v := nI 0) hx hb dX4_at_28 (by decide) ?_
      exact xr_i hx hb hr hlk (u := MS.s_th y 1) (⟨rfl, rfl⟩) hP hK hD hS dX4_at_29
  · refine lv_iload_n hx hb dX4_at_9 rfl (lv_at hl 2 rfl) ?_
    refine lv_if_lt (tgt := 17) hx hb dX4_at_10 (by decide) (fun c_6 => ?_) (fun c_6 => ?_)
    · refine lv_iconst (v := nI 1) hx hb dX4_at_17 (by decide) ?_
      refine va_put (D := (dC, dI)) (ci := 4) (v := .int (nI 1)) (ty := .int) (C := RX4) (T := TX4) (N := 23) hx hb hts inX4 tyX4 tyX4_ok nmX4 hown hK hP hD hS 0 rfl rfl 0 (by decide) (hts _ tw_572) (fun _ h9 => h9) rfl (by decide +kernel) rfl rfl (Nat.le_of_ble_eq_true rfl) dX4_at_18 (fun H locs hP hD hS => ?_)
      have hP : va_P (dC, dI) vwCl (wM q cI cZ (MS.s_th y 1)) H := hP
      have hD : va_D A (wM q cI cZ (MS.s_th y 1)) := hD
      refine lv_aload_n hx hb dX4_at_21 rfl (lv_at hl 0 rfl) ?_
      refine va_get (D := (dC, dI)) (ci := 4) (v := .int (nI 1)) (C := RX4) (T := TX4) (N := 23) hx hb hts inX4 hown hK hP 0 rfl rfl 0 (by decide) (hts _ tw_572) (fun _ h9 => h9) rfl dX4_at_22 ?_
      refine xn_zle (tgt := 30) hx hb (by omega) dX4_at_25 (by decide) (fun c_7 => ?_) (fun c_7 => ?_)
      · exact absurd (show False by omega) id
      · refine lv_iconst (v := nI 0) hx hb dX4_at_28 (by decide) ?_
        exact xr_i hx hb hr hlk (u := MS.s_th y 1) (⟨rfl, rfl⟩) hP hK hD hS dX4_at_29
    · exact absurd h1 (fun z => z.elim (fun z => by omega) c_6)
set_option maxHeartbeats 4000000 in
set_option maxRecDepth 100000 in
theorem c_ScanRowsModel_lockUp (l : Launch) (dC : Nat → ClassId) (dI : Nat → Nat → Nat) (q : Nat → Nat) (cI cZ : ClassId) (sz : Nat) (y : MS) (ch kk : Nat) (hM : MB y) (h0 : y.c ≤ 8) (h1 : ch < y.c) (h2 : y.st ch ≤ y.st (ch + 1)) (h3 : y.st (ch + 1) ≤ 32) (h4 : kk < y.st (ch + 1) - y.st ch) : Met l yX4_lockUp (.code yX4_lockUp cX4_lockUp 4 (some .boolean) :: ALLG) ({ frames := 1, cells := 0, slots := 0, locals := 21 }) (va_Pc [.ref (q 0), .int (nI ch), .int (nI kk)] (cP (dC, dI) vwCl [(cI, .int), (cZ, .boolean)] (wM q cI cZ y) eT sz)) (va_Qi (fun (x : Int32) (u : MS) => x = nI (mLk y ch kk) ∧ u = y.s_th 0) (fun (u : MS) => cB (dC, dI) vwCl [(cI, .int), (cZ, .boolean)] (wM q cI cZ u) (va_A (wM q cI cZ y) sz)) (va_A (wM q cI cZ y) sz)) 0 0 (va_A (wM q cI cZ y) sz) := by
  refine xm_of (cc := cX4_lockUp) (maxL := 4) (ret := some .boolean) (by decide) rfl (Nat.le_of_ble_eq_true rfl) ?_
  intro p e s m below meth c A hAe hx hb hr hml hts0 hown hlk hin hsz H locs hP hK hD hA hS hE ls hl
  have hts : ∀ w ∈ ALLG, w.before _ s = true := fun w h => hts0 w (List.mem_cons_of_mem _ h)
  rw [← hAe]
  have hM0 := hM
  have b_n : y.n ≤ 32 := hM.1.1
  have b_c : y.c ≤ 8 := hM.1.2.1
  have b_p : y.p ≤ y.n := hM.1.2.2.1
  have b_vb : ∀ z, y.vb z < 2 := hM.1.2.2.2.1
  have b_ck : ∀ z, y.ck z < 4 := hM.1.2.2.2.2.1
  have b_xx : ∀ z, -1000 ≤ y.xx z ∧ y.xx z ≤ 1000 := hM.1.2.2.2.2.2.1
  have b_yy : ∀ z, -1000 ≤ y.yy z ∧ y.yy z ≤ 1000 := hM.1.2.2.2.2.2.2.1
  have b_fl : ∀ z, y.fl z < 2 := hM.1.2.2.2.2.2.2.2.1
  have b_rw : ∀ z, y.rw z < 32 := hM.1.2.2.2.2.2.2.2.2.2.1
  have b_st : ∀ z, y.st z ≤ 32 := hM.1.2.2.2.2.2.2.2.2.2.2.2
  have g1 := b_ck (y.rw (y.st ch + kk))
  have g2 := b_ck (y.rw (y.st ch + kk + 1))
  have hl : lv_has ls 4 [(0, .ref (q 0)), (1, .int (nI ch)), (2, .int (nI kk))] := hl
  refine lv_aload_n hx hb dX4_lockUp_0 rfl (lv_at hl 0 rfl) ?_
  refine lv_aload_n hx hb dX4_lockUp_1 rfl (lv_at hl 0 rfl) ?_
  refine lv_iload_n hx hb dX4_lockUp_2 rfl (lv_at hl 1 rfl) ?_
  refine xc_Vi (As := [.int (nI ch)]) (wr := []) ⟨hx, hb, hml, hown, hts⟩ (c_ScanRowsModel_isChain l dC dI q cI cZ H.size y (nI ch)) (cwV 1 hts (gV tw_664 tw_666 sw_26 tw_5 tw_667) rfl rfl rfl (by decide +kernel) ⟨Nat.le_of_ble_eq_true rfl, Nat.le_of_ble_eq_true rfl⟩) rfl hl.1 rfl (Nat.le_of_ble_eq_true rfl) dX4_lockUp_3 ⟨Nat.zero_le _, Nat.zero_le _⟩ hP hD hK hS hA [0, 1, 2, 3, 4, 5, 6, 7, 8, 9, 10, 11, 12, 13] [] rfl rfl (by decide) (by decide) (by decide) [0, 1] rfl (q0 := 0) rfl rfl rfl eT_M (trivial) (fun r_1 u_2 H locs w_3 hP hD hS => ?_)
  obtain rfl := w_3
  have hP : va_P (dC, dI) vwCl (wM q cI cZ y) H := hP
  have hD : va_D A (wM q cI cZ y) := hD
  refine xt_i (show nI (hcN (nI ch) y.c) = nI 1 from congrArg nI (hcN_k h1 (by omega))) ?_
  refine xn_zeq (tgt := 36) hx hb (by omega) dX4_lockUp_6 (by decide) (fun c_4 => ?_) (fun c_4 => ?_)
  · exact absurd (show False by omega) id
  · refine lv_iload_n hx hb dX4_lockUp_9 rfl (lv_at hl 2 rfl) ?_
    refine xn_zlt (tgt := 36) hx hb (by omega) dX4_lockUp_10 (by decide) ?_
    refine lv_iload_n hx hb dX4_lockUp_13 rfl (lv_at hl 2 rfl) ?_
    refine lv_aload_n hx hb dX4_lockUp_14 rfl (lv_at hl 0 rfl) ?_
    refine va_get (D := (dC, dI)) (ci := 4) (v := .ref (q 7)) (C := RX4) (T := TX4) (N := 23) hx hb hts inX4 hown hK hP 0 rfl rfl 10 (by decide) (hts _ tw_582) (fun _ h9 => h9) rfl dX4_lockUp_15 ?_
    refine lv_iload_n hx hb dX4_lockUp_18 rfl (lv_at hl 1 rfl) ?_
    refine lv_iconst (v := nI 1) hx hb dX4_lockUp_19 (by decide) ?_
    refine xn_add hx hb dX4_lockUp_20 ?_
    refine xa_ild hx hb hK hP 7 0 rfl rfl (v := nI ((MS.st y) (ch + 1))) (by omega) (by decide) rfl dX4_lockUp_21 ?_
    refine lv_aload_n hx hb dX4_lockUp_22 rfl (lv_at hl 0 rfl) ?_
    refine va_get (D := (dC, dI)) (ci := 4) (v := .ref (q 7)) (C := RX4) (T := TX4) (N := 23) hx hb hts inX4 hown hK hP 0 rfl rfl 10 (by decide) (hts _ tw_582) (fun _ h9 => h9) rfl dX4_lockUp_23 ?_
    refine lv_iload_n hx hb dX4_lockUp_26 rfl (lv_at hl 1 rfl) ?_
    refine xa_ild hx hb hK hP 7 0 rfl rfl (v := nI ((MS.st y) ch)) (by omega) (by decide) rfl dX4_lockUp_27 ?_
    refine xn_sub hx hb (by omega) dX4_lockUp_28 ?_
    refine xn_cge (tgt := 36) hx hb (by omega) (by omega) dX4_lockUp_29 (by decide) (fun c_6 => ?_) (fun c_6 => ?_)
    · exact absurd (show False by omega) id
    · refine lv_iconst (v := nI 0) hx hb dX4_lockUp_32 (by decide) ?_
      refine lv_goto (tgt := 37) hx hb dX4_lockUp_33 (by decide) ?_
      refine va_put (D := (dC, dI)) (ci := 4) (v := .int (nI 0)) (ty := .int) (C := RX4) (T := TX4) (N := 23) hx hb hts inX4 tyX4 tyX4_ok nmX4 hown hK hP hD hS 0 rfl rfl 0 (by decide) (hts _ tw_572) (fun _ h9 => h9) rfl (by decide +kernel) rfl rfl (Nat.le_of_ble_eq_true rfl) dX4_lockUp_37 (fun H locs hP hD hS => ?_)
      have hP : va_P (dC, dI) vwCl (wM q cI cZ (MS.s_th y 0)) H := hP
      have hD : va_D A (wM q cI cZ (MS.s_th y 0)) := hD
      refine lv_aload_n hx hb dX4_lockUp_40 rfl (lv_at hl 0 rfl) ?_
      refine va_get (D := (dC, dI)) (ci := 4) (v := .int (nI 0)) (C := RX4) (T := TX4) (N := 23) hx hb hts inX4 hown hK hP 0 rfl rfl 0 (by decide) (hts _ tw_572) (fun _ h9 => h9) rfl dX4_lockUp_41 ?_
      refine xn_zgt (tgt := 68) hx hb (by omega) dX4_lockUp_44 (by decide) (fun c_7 => ?_) (fun c_7 => ?_)
      · exact absurd (show False by omega) id
      · refine lv_aload_n hx hb dX4_lockUp_47 rfl (lv_at hl 0 rfl) ?_
        refine va_get (D := (dC, dI)) (ci := 4) (v := .ref (q 7)) (C := RX4) (T := TX4) (N := 23) hx hb hts inX4 hown hK hP 0 rfl rfl 10 (by decide) (hts _ tw_582) (fun _ h9 => h9) rfl dX4_lockUp_48 ?_
        refine lv_iload_n hx hb dX4_lockUp_51 rfl (lv_at hl 1 rfl) ?_
        refine xa_ild hx hb hK hP 7 0 rfl rfl (v := nI ((MS.st y) ch)) (by omega) (by decide) rfl dX4_lockUp_52 ?_
        refine lv_iload_n hx hb dX4_lockUp_53 rfl (lv_at hl 2 rfl) ?_
        refine xn_add hx hb dX4_lockUp_54 ?_
        refine lv_iconst (v := nI 1) hx hb dX4_lockUp_55 (by decide) ?_
        refine xn_add hx hb dX4_lockUp_56 ?_
        refine lv_aload_n hx hb dX4_lockUp_57 rfl (lv_at hl 0 rfl) ?_
        refine va_get (D := (dC, dI)) (ci := 4) (v := .ref (q 7)) (C := RX4) (T := TX4) (N := 23) hx hb hts inX4 hown hK hP 0 rfl rfl 10 (by decide) (hts _ tw_582) (fun _ h9 => h9) rfl dX4_lockUp_58 ?_
        refine lv_iload_n hx hb dX4_lockUp_61 rfl (lv_at hl 1 rfl) ?_
        refine lv_iconst (v := nI 1) hx hb dX4_lockUp_62 (by decide) ?_
        refine xn_add hx hb dX4_lockUp_63 ?_
        refine xa_ild hx hb hK hP 7 0 rfl rfl (v := nI ((MS.st y) (ch + 1))) (by omega) (by decide) rfl dX4_lockUp_64 ?_
        refine xn_cne (tgt := 70) hx hb (by omega) (by omega) dX4_lockUp_65 (by decide) (fun c_8 => ?_) (fun c_8 => ?_)
        · refine lv_aload_n hx hb dX4_lockUp_70 rfl (lv_at hl 0 rfl) ?_
          refine va_get (D := (dC, dI)) (ci := 4) (v := .ref (q 7)) (C := RX4) (T := TX4) (N := 23) hx hb hts inX4 hown hK hP 0 rfl rfl 10 (by decide) (hts _ tw_582) (fun _ h9 => h9) rfl dX4_lockUp_71 ?_
          refine lv_iload_n hx hb dX4_lockUp_74 rfl (lv_at hl 1 rfl) ?_
          refine xa_ild hx hb hK hP 7 0 rfl rfl (v := nI ((MS.st y) ch)) (by omega) (by decide) rfl dX4_lockUp_75 ?_
          refine lv_iload_n hx hb dX4_lockUp_76 rfl (lv_at hl 2 rfl) ?_
          refine xn_add hx hb dX4_lockUp_77 ?_
          refine lv_istore_n (lv' := [(3, .int (nI (((MS.st y) ch) + kk))), (0, .ref (q 0)), (1, .int (nI ch)), (2, .int (nI kk))]) hx hb dX4_lockUp_78 rfl hl (by decide) rfl (fun ls hl => ?_)
          refine lv_aload_n hx hb dX4_lockUp_79 rfl (lv_at hl 1 rfl) ?_
          refine va_get (D := (dC, dI)) (ci := 4) (v := .ref (q 1)) (C := RX4) (T := TX4) (N := 23) hx hb hts inX4 hown hK hP 0 rfl rfl 2 (by decide) (hts _ tw_574) (fun _ h9 => h9) rfl dX4_lockUp_80 ?_
          refine lv_aload_n hx hb dX4_lockUp_83 rfl (lv_at hl 1 rfl) ?_
          refine va_get (D := (dC, dI)) (ci := 4) (v := .ref (q 6)) (C := RX4) (T := TX4) (N := 23) hx hb hts inX4 hown hK hP 0 rfl rfl 8 (by decide) (hts _ tw_580) (fun _ h9 => h9) rfl dX4_lockUp_84 ?_
          refine lv_iload_n hx hb dX4_lockUp_87 rfl (lv_at hl 0 rfl) ?_
          refine xa_ild hx hb hK hP 6 0 rfl rfl (v := nI ((MS.rw y) (((MS.st y) ch) + kk))) (by omega) (by decide) rfl dX4_lockUp_88 ?_
          refine xa_ild hx hb hK hP 1 0 rfl rfl (v := nI ((MS.ck y) ((MS.rw y) (((MS.st y) ch) + kk)))) (b_rw _) (by decide) rfl dX4_lockUp_89 ?_
          refine lv_aload_n hx hb dX4_lockUp_90 rfl (lv_at hl 1 rfl) ?_
          refine va_get (D := (dC, dI)) (ci := 4) (v := .ref (q 1)) (C := RX4) (T := TX4) (N := 23) hx hb hts inX4 hown hK hP 0 rfl rfl 2 (by decide) (hts _ tw_574) (fun _ h9 => h9) rfl dX4_lockUp_91 ?_
          refine lv_aload_n hx hb dX4_lockUp_94 rfl (lv_at hl 1 rfl) ?_
          refine va_get (D := (dC, dI)) (ci := 4) (v := .ref (q 6)) (C := RX4) (T := TX4) (N := 23) hx hb hts inX4 hown hK hP 0 rfl rfl 8 (by decide) (hts _ tw_580) (fun _ h9 => h9) rfl dX4_lockUp_95 ?_
          refine lv_iload_n hx hb dX4_lockUp_98 rfl (lv_at hl 0 rfl) ?_
          refine lv_iconst (v := nI 1) hx hb dX4_lockUp_99 (by decide) ?_
          refine xn_add hx hb dX4_lockUp_100 ?_
          refine xa_ild hx hb hK hP 6 0 rfl rfl (v := nI ((MS.rw y) ((((MS.st y) ch) + kk) + 1))) (by omega) (by decide) rfl dX4_lockUp_101 ?_
          refine xa_ild hx hb hK hP 1 0 rfl rfl (v := nI ((MS.ck y) ((MS.rw y) ((((MS.st y) ch) + kk) + 1)))) (b_rw _) (by decide) rfl dX4_lockUp_102 ?_
          refine xn_ceq (tgt := 110) hx hb (by omega) (by omega) dX4_lockUp_103 (by decide) (fun c_9 => ?_) (fun c_9 => ?_)
          · refine lv_iconst (v := nI 0) hx hb dX4_lockUp_110 (by decide) ?_
            exact xr_z hx hb hr hlk (by decide) (u := MS.s_th y 0) (⟨by unfold mLk; rw [if_neg (by omega), if_pos (by assumption)], rfl⟩) hP hK hD hS dX4_lockUp_111
          · refine lv_iconst (v := nI 1) hx hb dX4_lockUp_106 (by decide) ?_
            refine lv_goto (tgt := 111) hx hb dX4_lockUp_107 (by decide) ?_
            exact xr_z hx hb hr hlk (by decide) (u := MS.s_th y 0) (⟨by unfold mLk; rw [if_neg (by omega), if_neg (by assumption)], rfl⟩) hP hK hD hS dX4_lockUp_111
        · refine lv_iconst (v := nI 0) hx hb dX4_lockUp_68 (by decide) ?_
          exact xr_z hx hb hr hlk (by decide) (u := MS.s_th y 0) (⟨by unfold mLk; rw [if_pos (by omega)], rfl⟩) hP hK hD hS dX4_lockUp_69
set_option maxHeartbeats 4000000 in
set_option maxRecDepth 100000 in
theorem c_M_lockUp1 (l : Launch) (dC : Nat → ClassId) (dI : Nat → Nat → Nat) (q : Nat → Nat) (cI cZ : ClassId) (sz : Nat) (y : MS) (v kv : Int32) (h1 : hcN v y.c = 0 ∨ kv < 0) : Met l yX4_lockUp (.code yX4_lockUp cX4_lockUp 4 (some .boolean) :: ALLG) ({ frames := 1, cells := 0, slots := 0, locals := 21 }) (va_Pc [.ref (q 0), .int v, .int kv] (cP (dC, dI) vwCl [(cI, .int), (cZ, .boolean)] (wM q cI cZ y) eT sz)) (va_Qi (fun (x : Int32) (u : MS) => x = nI 0 ∧ u = y.s_th 1) (fun (u : MS) => cB (dC, dI) vwCl [(cI, .int), (cZ, .boolean)] (wM q cI cZ u) (va_A (wM q cI cZ y) sz)) (va_A (wM q cI cZ y) sz)) 0 0 (va_A (wM q cI cZ y) sz) := by
  refine xm_of (cc := cX4_lockUp) (maxL := 4) (ret := some .boolean) (by decide) rfl (Nat.le_of_ble_eq_true rfl) ?_
  intro p e s m below meth c A hAe hx hb hr hml hts0 hown hlk hin hsz H locs hP hK hD hA hS hE ls hl
  have hts : ∀ w ∈ ALLG, w.before _ s = true := fun w h => hts0 w (List.mem_cons_of_mem _ h)
  rw [← hAe]
  have g1 := hcN_le v y.c
  have hl : lv_has ls 4 [(0, .ref (q 0)), (1, .int v), (2, .int kv)] := hl
  refine lv_aload_n hx hb dX4_lockUp_0 rfl (lv_at hl 0 rfl) ?_
  refine lv_aload_n hx hb dX4_lockUp_1 rfl (lv_at hl 0 rfl) ?_
  refine lv_iload_n hx hb dX4_lockUp_2 rfl (lv_at hl 1 rfl) ?_
  refine xc_Vi (As := [.int v]) (wr := []) ⟨hx, hb, hml, hown, hts⟩ (c_ScanRowsModel_isChain l dC dI q cI cZ H.size y v) (cwV 1 hts (gV tw_664 tw_666 sw_26 tw_5 tw_667) rfl rfl rfl (by decide +kernel) ⟨Nat.le_of_ble_eq_true rfl, Nat.le_of_ble_eq_true rfl⟩) rfl hl.1 rfl (Nat.le_of_ble_eq_true rfl) dX4_lockUp_3 ⟨Nat.zero_le _, Nat.zero_le _⟩ hP hD hK hS hA [0, 1, 2, 3, 4, 5, 6, 7, 8, 9, 10, 11, 12, 13] [] rfl rfl (by decide) (by decide) (by decide) [0, 1] rfl (q0 := 0) rfl rfl rfl eT_M (trivial) (fun r_1 u_2 H locs w_3 hP hD hS => ?_)
  obtain rfl := w_3
  have hP : va_P (dC, dI) vwCl (wM q cI cZ y) H := hP
  have hD : va_D A (wM q cI cZ y) := hD
  refine xn_zeq (tgt := 36) hx hb (by omega) dX4_lockUp_6 (by decide) (fun c_4 => ?_) (fun c_4 => ?_)
  · refine lv_iconst (v := nI 1) hx hb dX4_lockUp_36 (by decide) ?_
    refine va_put (D := (dC, dI)) (ci := 4) (v := .int (nI 1)) (ty := .int) (C := RX4) (T := TX4) (N := 23) hx hb hts inX4 tyX4 tyX4_ok nmX4 hown hK hP hD hS 0 rfl rfl 0 (by decide) (hts _ tw_572) (fun _ h9 => h9) rfl (by decide +kernel) rfl rfl (Nat.le_of_ble_eq_true rfl) dX4_lockUp_37 (fun H locs hP hD hS => ?_)
    have hP : va_P (dC, dI) vwCl (wM q cI cZ (MS.s_th y 1)) H := hP
    have hD : va_D A (wM q cI cZ (MS.s_th y 1)) := hD
    refine lv_aload_n hx hb dX4_lockUp_40 rfl (lv_at hl 0 rfl) ?_
    refine va_get (D := (dC, dI)) (ci := 4) (v := .int (nI 1)) (C := RX4) (T := TX4) (N := 23) hx hb hts inX4 hown hK hP 0 rfl rfl 0 (by decide) (hts _ tw_572) (fun _ h9 => h9) rfl dX4_lockUp_41 ?_
    refine xn_zgt (tgt := 68) hx hb (by omega) dX4_lockUp_44 (by decide) (fun c_5 => ?_) (fun c_5 => ?_)
    · refine lv_iconst (v := nI 0) hx hb dX4_lockUp_68 (by decide) ?_
      exact xr_z hx hb hr hlk (by decide) (u := MS.s_th y 1) (⟨rfl, rfl⟩) hP hK hD hS dX4_lockUp_69
    · exact absurd (show False by omega) id
  · refine lv_iload_n hx hb dX4_lockUp_9 rfl (lv_at hl 2 rfl) ?_
    refine lv_if_lt (tgt := 36) hx hb dX4_lockUp_10 (by decide) (fun c_6 => ?_) (fun c_6 => ?_)
    · refine lv_iconst (v := nI 1) hx hb dX4_lockUp_36 (by decide) ?_
      refine va_put (D := (dC, dI)) (ci := 4) (v := .int (nI 1)) (ty := .int) (C := RX4) (T := TX4) (N := 23) hx hb hts inX4 tyX4 tyX4_ok nmX4 hown hK hP hD hS 0 rfl rfl 0 (by decide) (hts _ tw_572) (fun _ h9 => h9) rfl (by decide +kernel) rfl rfl (Nat.le_of_ble_eq_true rfl) dX4_lockUp_37 (fun H locs hP hD hS => ?_)
      have hP : va_P (dC, dI) vwCl (wM q cI cZ (MS.s_th y 1)) H := hP
      have hD : va_D A (wM q cI cZ (MS.s_th y 1)) := hD
      refine lv_aload_n hx hb dX4_lockUp_40 rfl (lv_at hl 0 rfl) ?_
      refine va_get (D := (dC, dI)) (ci := 4) (v := .int (nI 1)) (C := RX4) (T := TX4) (N := 23) hx hb hts inX4 hown hK hP 0 rfl rfl 0 (by decide) (hts _ tw_572) (fun _ h9 => h9) rfl dX4_lockUp_41 ?_
      refine xn_zgt (tgt := 68) hx hb (by omega) dX4_lockUp_44 (by decide) (fun c_7 => ?_) (fun c_7 => ?_)
      · refine lv_iconst (v := nI 0) hx hb dX4_lockUp_68 (by decide) ?_
        exact xr_z hx hb hr hlk (by decide) (u := MS.s_th y 1) (⟨rfl, rfl⟩) hP hK hD hS dX4_lockUp_69
      · exact absurd (show False by omega) id
    · exact absurd h1 (fun z => z.elim (fun z => by omega) c_6)
set_option maxHeartbeats 4000000 in
set_option maxRecDepth 100000 in
theorem c_M_lockUp2 (l : Launch) (dC : Nat → ClassId) (dI : Nat → Nat → Nat) (q : Nat → Nat) (cI cZ : ClassId) (sz : Nat) (y : MS) (ch kk : Nat) (h0 : y.c ≤ 8) (h1 : ch < y.c) (h2 : y.st ch ≤ y.st (ch + 1)) (h3 : y.st (ch + 1) ≤ 32) (h4 : y.st (ch + 1) - y.st ch ≤ kk) (h5 : kk < 2 ^ 31) : Met l yX4_lockUp (.code yX4_lockUp cX4_lockUp 4 (some .boolean) :: ALLG) ({ frames := 1, cells := 0, slots := 0, locals := 21 }) (va_Pc [.ref (q 0), .int (nI ch), .int (nI kk)] (cP (dC, dI) vwCl [(cI, .int), (cZ, .boolean)] (wM q cI cZ y) eT sz)) (va_Qi (fun (x : Int32) (u : MS) => x = nI 0 ∧ u = y.s_th 1) (fun (u : MS) => cB (dC, dI) vwCl [(cI, .int), (cZ, .boolean)] (wM q cI cZ u) (va_A (wM q cI cZ y) sz)) (va_A (wM q cI cZ y) sz)) 0 0 (va_A (wM q cI cZ y) sz) := by
  refine xm_of (cc := cX4_lockUp) (maxL := 4) (ret := some .boolean) (by decide) rfl (Nat.le_of_ble_eq_true rfl) ?_
  intro p e s m below meth c A hAe hx hb hr hml hts0 hown hlk hin hsz H locs hP hK hD hA hS hE ls hl
  have hts : ∀ w ∈ ALLG, w.before _ s = true := fun w h => hts0 w (List.mem_cons_of_mem _ h)
  rw [← hAe]
  have hl : lv_has ls 4 [(0, .ref (q 0)), (1, .int (nI ch)), (2, .int (nI kk))] := hl
  refine lv_aload_n hx hb dX4_lockUp_0 rfl (lv_at hl 0 rfl) ?_
  refine lv_aload_n hx hb dX4_lockUp_1 rfl (lv_at hl 0 rfl) ?_
  refine lv_iload_n hx hb dX4_lockUp_2 rfl (lv_at hl 1 rfl) ?_
  refine xc_Vi (As := [.int (nI ch)]) (wr := []) ⟨hx, hb, hml, hown, hts⟩ (c_ScanRowsModel_isChain l dC dI q cI cZ H.size y (nI ch)) (cwV 1 hts (gV tw_664 tw_666 sw_26 tw_5 tw_667) rfl rfl rfl (by decide +kernel) ⟨Nat.le_of_ble_eq_true rfl, Nat.le_of_ble_eq_true rfl⟩) rfl hl.1 rfl (Nat.le_of_ble_eq_true rfl) dX4_lockUp_3 ⟨Nat.zero_le _, Nat.zero_le _⟩ hP hD hK hS hA [0, 1, 2, 3, 4, 5, 6, 7, 8, 9, 10, 11, 12, 13] [] rfl rfl (by decide) (by decide) (by decide) [0, 1] rfl (q0 := 0) rfl rfl rfl eT_M (trivial) (fun r_1 u_2 H locs w_3 hP hD hS => ?_)
  obtain rfl := w_3
  have hP : va_P (dC, dI) vwCl (wM q cI cZ y) H := hP
  have hD : va_D A (wM q cI cZ y) := hD
  refine xt_i (show nI (hcN (nI ch) y.c) = nI 1 from congrArg nI (hcN_k h1 (by omega))) ?_
  refine xn_zeq (tgt := 36) hx hb (by omega) dX4_lockUp_6 (by decide) (fun c_4 => ?_) (fun c_4 => ?_)
  · refine lv_iconst (v := nI 1) hx hb dX4_lockUp_36 (by decide) ?_
    refine va_put (D := (dC, dI)) (ci := 4) (v := .int (nI 1)) (ty := .int) (C := RX4) (T := TX4) (N := 23) hx hb hts inX4 tyX4 tyX4_ok nmX4 hown hK hP hD hS 0 rfl rfl 0 (by decide) (hts _ tw_572) (fun _ h9 => h9) rfl (by decide +kernel) rfl rfl (Nat.le_of_ble_eq_true rfl) dX4_lockUp_37 (fun H locs hP hD hS => ?_)
    have hP : va_P (dC, dI) vwCl (wM q cI cZ (MS.s_th y 1)) H := hP
    have hD : va_D A (wM q cI cZ (MS.s_th y 1)) := hD
    refine lv_aload_n hx hb dX4_lockUp_40 rfl (lv_at hl 0 rfl) ?_
    refine va_get (D := (dC, dI)) (ci := 4) (v := .int (nI 1)) (C := RX4) (T := TX4) (N := 23) hx hb hts inX4 hown hK hP 0 rfl rfl 0 (by decide) (hts _ tw_572) (fun _ h9 => h9) rfl dX4_lockUp_41 ?_
    refine xn_zgt (tgt := 68) hx hb (by omega) dX4_lockUp_44 (by decide) (fun c_5 => ?_) (fun c_5 => ?_)
    · refine lv_iconst (v := nI 0) hx hb dX4_lockUp_68 (by decide) ?_
      exact xr_z hx hb hr hlk (by decide) (u := MS.s_th y 1) (⟨rfl, rfl⟩) hP hK hD hS dX4_lockUp_69
    · exact absurd (show False by omega) id
  · refine lv_iload_n hx hb dX4_lockUp_9 rfl (lv_at hl 2 rfl) ?_
    refine xn_zlt (tgt := 36) hx hb (by omega) dX4_lockUp_10 (by decide) ?_
    refine lv_iload_n hx hb dX4_lockUp_13 rfl (lv_at hl 2 rfl) ?_
    refine lv_aload_n hx hb dX4_lockUp_14 rfl (lv_at hl 0 rfl) ?_
    refine va_get (D := (dC, dI)) (ci := 4) (v := .ref (q 7)) (C := RX4) (T := TX4) (N := 23) hx hb hts inX4 hown hK hP 0 rfl rfl 10 (by decide) (hts _ tw_582) (fun _ h9 => h9) rfl dX4_lockUp_15 ?_
    refine lv_iload_n hx hb dX4_lockUp_18 rfl (lv_at hl 1 rfl) ?_
    refine lv_iconst (v := nI 1) hx hb dX4_lockUp_19 (by decide) ?_
    refine xn_add hx hb dX4_lockUp_20 ?_
    refine xa_ild hx hb hK hP 7 0 rfl rfl (v := nI ((MS.st y) (ch + 1))) (by omega) (by decide) rfl dX4_lockUp_21 ?_
    refine lv_aload_n hx hb dX4_lockUp_22 rfl (lv_at hl 0 rfl) ?_
    refine va_get (D := (dC, dI)) (ci := 4) (v := .ref (q 7)) (C := RX4) (T := TX4) (N := 23) hx hb hts inX4 hown hK hP 0 rfl rfl 10 (by decide) (hts _ tw_582) (fun _ h9 => h9) rfl dX4_lockUp_23 ?_
    refine lv_iload_n hx hb dX4_lockUp_26 rfl (lv_at hl 1 rfl) ?_
    refine xa_ild hx hb hK hP 7 0 rfl rfl (v := nI ((MS.st y) ch)) (by omega) (by decide) rfl dX4_lockUp_27 ?_
    refine xn_sub hx hb (by omega) dX4_lockUp_28 ?_
    refine xn_cge (tgt := 36) hx hb (by omega) (by omega) dX4_lockUp_29 (by decide) (fun c_7 => ?_) (fun c_7 => ?_)
    · refine lv_iconst (v := nI 1) hx hb dX4_lockUp_36 (by decide) ?_
      refine va_put (D := (dC, dI)) (ci := 4) (v := .int (nI 1)) (ty := .int) (C := RX4) (T := TX4) (N := 23) hx hb hts inX4 tyX4 tyX4_ok nmX4 hown hK hP hD hS 0 rfl rfl 0 (by decide) (hts _ tw_572) (fun _ h9 => h9) rfl (by decide +kernel) rfl rfl (Nat.le_of_ble_eq_true rfl) dX4_lockUp_37 (fun H locs hP hD hS => ?_)
      have hP : va_P (dC, dI) vwCl (wM q cI cZ (MS.s_th y 1)) H := hP
      have hD : va_D A (wM q cI cZ (MS.s_th y 1)) := hD
      refine lv_aload_n hx hb dX4_lockUp_40 rfl (lv_at hl 0 rfl) ?_
      refine va_get (D := (dC, dI)) (ci := 4) (v := .int (nI 1)) (C := RX4) (T := TX4) (N := 23) hx hb hts inX4 hown hK hP 0 rfl rfl 0 (by decide) (hts _ tw_572) (fun _ h9 => h9) rfl dX4_lockUp_41 ?_
      refine xn_zgt (tgt := 68) hx hb (by omega) dX4_lockUp_44 (by decide) (fun c_8 => ?_) (fun c_8 => ?_)
      · refine lv_iconst (v := nI 0) hx hb dX4_lockUp_68 (by decide) ?_
        exact xr_z hx hb hr hlk (by decide) (u := MS.s_th y 1) (⟨rfl, rfl⟩) hP hK hD hS dX4_lockUp_69
      · exact absurd (show False by omega) id
    · exact absurd (show False by omega) id
set_option maxHeartbeats 4000000 in
set_option maxRecDepth 100000 in
theorem c_ScanRowsModel_size (l : Launch) (dC : Nat → ClassId) (dI : Nat → Nat → Nat) (q : Nat → Nat) (cI cZ : ClassId) (sz : Nat) (z : Int) (h1 : -1073741824 ≤ z) (h2 : z ≤ 1073741824) : Met l yX4_size (.code yX4_size cX4_size 1 (some .int) :: ALLG) ({ frames := 0, cells := 0, slots := 0, locals := 0 }) (va_Pc [.int (zI z)] (cP (dC, dI) vwCl [(cI, .int), (cZ, .boolean)] (([] : va_W)) eT sz)) (va_Qi (fun (x : Int32) (_ : Unit) => x = nI z.natAbs) (fun (_ : Unit) => cB (dC, dI) vwCl [(cI, .int), (cZ, .boolean)] ([]) (va_A (([] : va_W)) sz)) (va_A (([] : va_W)) sz)) 0 0 (va_A (([] : va_W)) sz) := by
  refine xm_of (cc := cX4_size) (maxL := 1) (ret := some .int) (by decide) rfl (Nat.le_of_ble_eq_true rfl) ?_
  intro p e s m below meth c A hAe hx hb hr hml hts0 hown hlk hin hsz H locs hP hK hD hA hS hE ls hl
  have hts : ∀ w ∈ ALLG, w.before _ s = true := fun w h => hts0 w (List.mem_cons_of_mem _ h)
  rw [← hAe]
  have hl : lv_has ls 1 [(0, .int (zI z))] := hl
  refine lv_iload_n hx hb dX4_size_0 rfl (lv_at hl 0 rfl) ?_
  refine lv_if_ge (tgt := 9) hx hb dX4_size_1 (by decide) (fun c_1 => ?_) (fun c_1 => ?_)
  · refine lv_iload_n hx hb dX4_size_9 rfl (lv_at hl 0 rfl) ?_
    refine xt_i (show zI z = nI z.natAbs from pos_zI ((zI_0le h1 h2).mp c_1)) ?_
    exact xr_i hx hb hr hlk (u := ()) rfl hP hK hD hS dX4_size_10
  · refine lv_iload_n hx hb dX4_size_4 rfl (lv_at hl 0 rfl) ?_
    refine lv_ineg hx hb dX4_size_5 ?_
    refine lv_goto (tgt := 10) hx hb dX4_size_6 (by decide) ?_
    refine xt_i (show (-(zI z)) = nI z.natAbs from neg_zI h1 h2 (fun z => c_1 ((zI_0le h1 h2).mpr z))) ?_
    exact xr_i hx hb hr hlk (u := ()) rfl hP hK hD hS dX4_size_10
set_option maxHeartbeats 4000000 in
set_option maxRecDepth 100000 in
theorem c_ScanRowsModel_allTravel (l : Launch) (dC : Nat → ClassId) (dI : Nat → Nat → Nat) (q : Nat → Nat) (cI cZ : ClassId) (sz : Nat) (y : MS) (hM : MB y) (hmo : mono y) : Met l yX4_allTravel (.code yX4_allTravel cX4_allTravel 4 (some .int) :: ALLG) ({ frames := 1, cells := 0, slots := 0, locals := 20 }) (va_Pc [.ref (q 0)] (cP (dC, dI) vwCl [(cI, .int), (cZ, .boolean)] (wM q cI cZ y) eT sz)) (va_Qi (fun (x : Int32) (_ : Unit) => x = nI (trC y y.c)) (fun (_ : Unit) => cB (dC, dI) vwCl [(cI, .int), (cZ, .boolean)] (wM q cI cZ y) (va_A (wM q cI cZ y) sz)) (va_A (wM q cI cZ y) sz)) 0 0 (va_A (wM q cI cZ y) sz) := by
  refine xm_of (cc := cX4_allTravel) (maxL := 4) (ret := some .int) (by decide) rfl (Nat.le_of_ble_eq_true rfl) ?_
  intro p e s m below meth c A hAe hx hb hr hml hts0 hown hlk hin hsz H locs hP hK hD hA hS hE ls hl
  have hts : ∀ w ∈ ALLG, w.before _ s = true := fun w h => hts0 w (List.mem_cons_of_mem _ h)
  rw [← hAe]
  have hM0 := hM
  have b_n : y.n ≤ 32 := hM.1.1
  have b_c : y.c ≤ 8 := hM.1.2.1
  have b_p : y.p ≤ y.n := hM.1.2.2.1
  have b_vb : ∀ z, y.vb z < 2 := hM.1.2.2.2.1
  have b_ck : ∀ z, y.ck z < 4 := hM.1.2.2.2.2.1
  have b_xx : ∀ z, -1000 ≤ y.xx z ∧ y.xx z ≤ 1000 := hM.1.2.2.2.2.2.1
  have b_yy : ∀ z, -1000 ≤ y.yy z ∧ y.yy z ≤ 1000 := hM.1.2.2.2.2.2.2.1
  have b_fl : ∀ z, y.fl z < 2 := hM.1.2.2.2.2.2.2.2.1
  have b_rw : ∀ z, y.rw z < 32 := hM.1.2.2.2.2.2.2.2.2.2.1
  have b_st : ∀ z, y.st z ≤ 32 := hM.1.2.2.2.2.2.2.2.2.2.2.2
  have hl : lv_has ls 4 [(0, .ref (q 0))] := hl
  refine lv_iconst (v := nI 0) hx hb dX4_allTravel_0 (by decide) ?_
  refine lv_istore_n (lv' := [(1, .int (nI 0)), (0, .ref (q 0))]) hx hb dX4_allTravel_1 rfl hl (by decide) rfl (fun ls hl => ?_)
  refine lv_iconst (v := nI 0) hx hb dX4_allTravel_2 (by decide) ?_
  refine lv_istore_n (lv' := [(2, .int (nI 0)), (1, .int (nI 0)), (0, .ref (q 0))]) hx hb dX4_allTravel_3 rfl hl (by decide) rfl (fun ls hl => ?_)
  have L4 : ∀ (fuel : Nat) (i : Nat) (sm : Nat), (i ≤ y.c) → (sm = trC y i) → y.c - i < fuel → ∀ (H : Heap) (locs : List Loc), va_P (dC, dI) vwCl (wM q cI cZ y) H → va_D A (wM q cI cZ y) → va_S A s.heap H locs → ∀ ls : Array Slot, lv_has ls 4 [(0, .ref (q 0)), (1, .int (nI sm)), (2, .int (nI i))] → W p l e ({ frames := 1, cells := 0, slots := 0, locals := 20 } : Room) s m ([.ref (q 0)] : List Value).toArray below meth c H locs 0 0 (MQ below (va_Qi (fun (x : Int32) (_ : Unit) => x = nI (trC y y.c)) (fun (_ : Unit) => cB (dC, dI) vwCl [(cI, .int), (cZ, .boolean)] (wM q cI cZ y) (A)) (A)) ([.ref (q 0)] : List Value).toArray s 0 0 A) (F0 m 4 ls []) := by
    intro fuel
    induction fuel with
    | zero => intro i sm i1 e1 hm H locs hP hD hS ls hl; exact absurd hm (Nat.not_lt_zero _)
    | succ fuel ih4 =>
      intro i sm i1 e1 hm H locs hP hD hS ls hl
      refine lv_iload_n hx hb dX4_allTravel_4 rfl (lv_at hl 2 rfl) ?_
      refine lv_aload_n hx hb dX4_allTravel_5 rfl (lv_at hl 0 rfl) ?_
      refine va_get (D := (dC, dI)) (ci := 4) (v := .int (nI (MS.c y))) (C := RX4) (T := TX4) (N := 23) hx hb hts inX4 hown hK hP 0 rfl rfl 11 (by decide) (hts _ tw_583) (fun _ h9 => h9) rfl dX4_allTravel_6 ?_
      refine xn_cge (tgt := 105) hx hb (by omega) (by omega) dX4_allTravel_9 (by decide) (fun c_1 => ?_) (fun c_1 => ?_)
      · refine lv_iload_n hx hb dX4_allTravel_105 rfl (lv_at hl 1 rfl) ?_
        exact xr_i hx hb hr hlk (u := ()) (by rw [e1, show i = y.c by omega]) hP hK hD hS dX4_allTravel_106
      · have g1 := b_st i
        have g2 := b_st (i + 1)
        have g3 := hmo i (by omega)
        refine lv_aload_n hx hb dX4_allTravel_12 rfl (lv_at hl 0 rfl) ?_
        refine va_get (D := (dC, dI)) (ci := 4) (v := .ref (q 7)) (C := RX4) (T := TX4) (N := 23) hx hb hts inX4 hown hK hP 0 rfl rfl 10 (by decide) (hts _ tw_582) (fun _ h9 => h9) rfl dX4_allTravel_13 ?_
        refine lv_iload_n hx hb dX4_allTravel_16 rfl (lv_at hl 2 rfl) ?_
        refine xa_ild hx hb hK hP 7 0 rfl rfl (v := nI ((MS.st y) i)) (by omega) (by decide) rfl dX4_allTravel_17 ?_
        refine lv_istore_n (lv' := [(3, .int (nI ((MS.st y) i))), (0, .ref (q 0)), (1, .int (nI sm)), (2, .int (nI i))]) hx hb dX4_allTravel_18 rfl hl (by decide) rfl (fun ls hl => ?_)
        have L19 : ∀ (fuel : Nat) (pp : Nat) (sm : Nat), (y.st i ≤ pp) → (pp ≤ y.st (i + 1)) → (pp = y.st i ∨ pp + 1 ≤ y.st (i + 1)) → (sm = trC y i + sumN (fun t => dM y (y.st i + t)) (pp - y.st i)) → y.st (i + 1) - pp < fuel → ∀ (H : Heap) (locs : List Loc), va_P (dC, dI) vwCl (wM q cI cZ y) H → va_D A (wM q cI cZ y) → va_S A s.heap H locs → ∀ ls : Array Slot, lv_has ls 4 [(0, .ref (q 0)), (1, .int (nI sm)), (2, .int (nI i)), (3, .int (nI pp))] → W p l e ({ frames := 1, cells := 0, slots := 0, locals := 20 } : Room) s m ([.ref (q 0)] : List Value).toArray below meth c H locs 0 0 (MQ below (va_Qi (fun (x : Int32) (_ : Unit) => x = nI (trC y y.c)) (fun (_ : Unit) => cB (dC, dI) vwCl [(cI, .int), (cZ, .boolean)] (wM q cI cZ y) (A)) (A)) ([.ref (q 0)] : List Value).toArray s 0 0 A) (F0 m 19 ls []) := by
          intro fuel
          induction fuel with
          | zero => intro pp sm p1 p2 p3 e2 hm H locs hP hD hS ls hl; exact absurd hm (Nat.not_lt_zero _)
          | succ fuel ih19 =>
            intro pp sm p1 p2 p3 e2 hm H locs hP hD hS ls hl
            refine lv_iload_n hx hb dX4_allTravel_19 rfl (lv_at hl 3 rfl) ?_
            refine lv_iconst (v := nI 1) hx hb dX4_allTravel_20 (by decide) ?_
            refine xn_add hx hb dX4_allTravel_21 ?_
            refine lv_aload_n hx hb dX4_allTravel_22 rfl (lv_at hl 0 rfl) ?_
            refine va_get (D := (dC, dI)) (ci := 4) (v := .ref (q 7)) (C := RX4) (T := TX4) (N := 23) hx hb hts inX4 hown hK hP 0 rfl rfl 10 (by decide) (hts _ tw_582) (fun _ h9 => h9) rfl dX4_allTravel_23 ?_
            refine lv_iload_n hx hb dX4_allTravel_26 rfl (lv_at hl 2 rfl) ?_
            refine lv_iconst (v := nI 1) hx hb dX4_allTravel_27 (by decide) ?_
            refine xn_add hx hb dX4_allTravel_28 ?_
            refine xa_ild hx hb hK hP 7 0 rfl rfl (v := nI ((MS.st y) (i + 1))) (by omega) (by decide) rfl dX4_allTravel_29 ?_
            refine xn_cge (tgt := 99) hx hb (by omega) (by omega) dX4_allTravel_30 (by decide) (fun c_2 => ?_) (fun c_2 => ?_)
            · refine lv_iinc (v := nI (i + 1)) (lv' := [(2, .int (nI (i + 1))), (0, .ref (q 0)), (1, .int (nI sm)), (3, .int (nI pp))]) hx hb dX4_allTravel_99 hl (k := 2) rfl (nI_1 _) (by decide) rfl (fun ls hl => ?_)
              refine lv_goto (tgt := 4) hx hb dX4_allTravel_102 (by decide) ?_
              exact ih4 (i + 1) sm (by omega) (by show _ = trC y i + sumN (fun t => dM y (y.st i + t)) (y.st (i + 1) - y.st i - 1); rw [e2, show pp - y.st i = y.st (i + 1) - y.st i - 1 by omega]) (by omega) H locs hP hD hS ls (lv_sub hl [1, 2, 0] rfl)
            · have x1 := b_xx (y.rw pp)
              have x2 := b_xx (y.rw (pp + 1))
              have x3 := b_yy (y.rw pp)
              have x4 := b_yy (y.rw (pp + 1))
              refine lv_iload_n hx hb dX4_allTravel_33 rfl (lv_at hl 1 rfl) ?_
              refine lv_aload_n hx hb dX4_allTravel_34 rfl (lv_at hl 0 rfl) ?_
              refine va_get (D := (dC, dI)) (ci := 4) (v := .ref (q 2)) (C := RX4) (T := TX4) (N := 23) hx hb hts inX4 hown hK hP 0 rfl rfl 3 (by decide) (hts _ tw_575) (fun _ h9 => h9) rfl dX4_allTravel_35 ?_
              refine lv_aload_n hx hb dX4_allTravel_38 rfl (lv_at hl 0 rfl) ?_
              refine va_get (D := (dC, dI)) (ci := 4) (v := .ref (q 6)) (C := RX4) (T := TX4) (N := 23) hx hb hts inX4 hown hK hP 0 rfl rfl 8 (by decide) (hts _ tw_580) (fun _ h9 => h9) rfl dX4_allTravel_39 ?_
              refine lv_iload_n hx hb dX4_allTravel_42 rfl (lv_at hl 3 rfl) ?_
              refine xa_ild hx hb hK hP 6 0 rfl rfl (v := nI ((MS.rw y) pp)) (by omega) (by decide) rfl dX4_allTravel_43 ?_
              refine xa_ild hx hb hK hP 2 0 rfl rfl (v := zI ((MS.xx y) ((MS.rw y) pp))) (b_rw _) (by decide) rfl dX4_allTravel_44 ?_
              refine lv_aload_n hx hb dX4_allTravel_45 rfl (lv_at hl 0 rfl) ?_
              refine va_get (D := (dC, dI)) (ci := 4) (v := .ref (q 2)) (C := RX4) (T := TX4) (N := 23) hx hb hts inX4 hown hK hP 0 rfl rfl 3 (by decide) (hts _ tw_575) (fun _ h9 => h9) rfl dX4_allTravel_46 ?_
              refine lv_aload_n hx hb dX4_allTravel_49 rfl (lv_at hl 0 rfl) ?_
              refine va_get (D := (dC, dI)) (ci := 4) (v := .ref (q 6)) (C := RX4) (T := TX4) (N := 23) hx hb hts inX4 hown hK hP 0 rfl rfl 8 (by decide) (hts _ tw_580) (fun _ h9 => h9) rfl dX4_allTravel_50 ?_
              refine lv_iload_n hx hb dX4_allTravel_53 rfl (lv_at hl 3 rfl) ?_
              refine lv_iconst (v := nI 1) hx hb dX4_allTravel_54 (by decide) ?_
              refine xn_add hx hb dX4_allTravel_55 ?_
              refine xa_ild hx hb hK hP 6 0 rfl rfl (v := nI ((MS.rw y) (pp + 1))) (by omega) (by decide) rfl dX4_allTravel_56 ?_
              refine xa_ild hx hb hK hP 2 0 rfl rfl (v := zI ((MS.xx y) ((MS.rw y) (pp + 1)))) (b_rw _) (by decide) rfl dX4_allTravel_57 ?_
              refine xz_sub hx hb dX4_allTravel_58 ?_
              refine xc_Si (As := [.int (zI (((MS.xx y) ((MS.rw y) pp)) - ((MS.xx y) ((MS.rw y) (pp + 1)))))]) (wr := wM q cI cZ y) ⟨hx, hb, hml, hown, hts⟩ (c_ScanRowsModel_size l dC dI q cI cZ H.size (((MS.xx y) ((MS.rw y) pp)) - ((MS.xx y) ((MS.rw y) (pp + 1)))) (by omega) (by omega)) (cwS 1 hts (gS tw_680 tw_681 tw_5 tw_682) rfl rfl rfl (by decide +kernel) ⟨Nat.le_of_ble_eq_true rfl, Nat.le_of_ble_eq_true rfl⟩) rfl hl.1 rfl (Nat.le_of_ble_eq_true rfl) dX4_allTravel_59 ⟨Nat.zero_le _, Nat.zero_le _⟩ hP hD hK hS hA [] [0, 1, 2, 3, 4, 5, 6, 7, 8, 9, 10, 11, 12, 13] rfl rfl (by decide) (by decide) (by decide) [0, 1] rfl eT_M (trivial) (fun r_3 u_4 H locs w_5 hP hD hS => ?_)
              obtain rfl := w_5
              have hP : va_P (dC, dI) vwCl (wM q cI cZ y) H := hP
              have hD : va_D A (wM q cI cZ y) := hD
              refine xn_add hx hb dX4_allTravel_62 ?_
              refine lv_aload_n hx hb dX4_allTravel_63 rfl (lv_at hl 0 rfl) ?_
              refine va_get (D := (dC, dI)) (ci := 4) (v := .ref (q 3)) (C := RX4) (T := TX4) (N := 23) hx hb hts inX4 hown hK hP 0 rfl rfl 4 (by decide) (hts _ tw_576) (fun _ h9 => h9) rfl dX4_allTravel_64 ?_
              refine lv_aload_n hx hb dX4_allTravel_67 rfl (lv_at hl 0 rfl) ?_
              refine va_get (D := (dC, dI)) (ci := 4) (v := .ref (q 6)) (C := RX4) (T := TX4) (N := 23) hx hb hts inX4 hown hK hP 0 rfl rfl 8 (by decide) (hts _ tw_580) (fun _ h9 => h9) rfl dX4_allTravel_68 ?_
              refine lv_iload_n hx hb dX4_allTravel_71 rfl (lv_at hl 3 rfl) ?_
              refine xa_ild hx hb hK hP 6 0 rfl rfl (v := nI ((MS.rw y) pp)) (by omega) (by decide) rfl dX4_allTravel_72 ?_
              refine xa_ild hx hb hK hP 3 0 rfl rfl (v := zI ((MS.yy y) ((MS.rw y) pp))) (b_rw _) (by decide) rfl dX4_allTravel_73 ?_
              refine lv_aload_n hx hb dX4_allTravel_74 rfl (lv_at hl 0 rfl) ?_
              refine va_get (D := (dC, dI)) (ci := 4) (v := .ref (q 3)) (C := RX4) (T := TX4) (N := 23) hx hb hts inX4 hown hK hP 0 rfl rfl 4 (by decide) (hts _ tw_576) (fun _ h9 => h9) rfl dX4_allTravel_75 ?_
              refine lv_aload_n hx hb dX4_allTravel_78 rfl (lv_at hl 0 rfl) ?_
              refine va_get (D := (dC, dI)) (ci := 4) (v := .ref (q 6)) (C := RX4) (T := TX4) (N := 23) hx hb hts inX4 hown hK hP 0 rfl rfl 8 (by decide) (hts _ tw_580) (fun _ h9 => h9) rfl dX4_allTravel_79 ?_
              refine lv_iload_n hx hb dX4_allTravel_82 rfl (lv_at hl 3 rfl) ?_
              refine lv_iconst (v := nI 1) hx hb dX4_allTravel_83 (by decide) ?_
              refine xn_add hx hb dX4_allTravel_84 ?_
              refine xa_ild hx hb hK hP 6 0 rfl rfl (v := nI ((MS.rw y) (pp + 1))) (by omega) (by decide) rfl dX4_allTravel_85 ?_
              refine xa_ild hx hb hK hP 3 0 rfl rfl (v := zI ((MS.yy y) ((MS.rw y) (pp + 1)))) (b_rw _) (by decide) rfl dX4_allTravel_86 ?_
              refine xz_sub hx hb dX4_allTravel_87 ?_
              refine xc_Si (As := [.int (zI (((MS.yy y) ((MS.rw y) pp)) - ((MS.yy y) ((MS.rw y) (pp + 1)))))]) (wr := wM q cI cZ y) ⟨hx, hb, hml, hown, hts⟩ (c_ScanRowsModel_size l dC dI q cI cZ H.size (((MS.yy y) ((MS.rw y) pp)) - ((MS.yy y) ((MS.rw y) (pp + 1)))) (by omega) (by omega)) (cwS 1 hts (gS tw_680 tw_681 tw_5 tw_682) rfl rfl rfl (by decide +kernel) ⟨Nat.le_of_ble_eq_true rfl, Nat.le_of_ble_eq_true rfl⟩) rfl hl.1 rfl (Nat.le_of_ble_eq_true rfl) dX4_allTravel_88 ⟨Nat.zero_le _, Nat.zero_le _⟩ hP hD hK hS hA [] [0, 1, 2, 3, 4, 5, 6, 7, 8, 9, 10, 11, 12, 13] rfl rfl (by decide) (by decide) (by decide) [0, 1] rfl eT_M (trivial) (fun r_6 u_7 H locs w_8 hP hD hS => ?_)
              obtain rfl := w_8
              have hP : va_P (dC, dI) vwCl (wM q cI cZ y) H := hP
              have hD : va_D A (wM q cI cZ y) := hD
              refine xn_add hx hb dX4_allTravel_91 ?_
              refine lv_istore_n (lv' := [(1, .int (nI ((sm + ((((MS.xx y) ((MS.rw y) pp)) - ((MS.xx y) ((MS.rw y) (pp + 1)))).natAbs)) + ((((MS.yy y) ((MS.rw y) pp)) - ((MS.yy y) ((MS.rw y) (pp + 1)))).natAbs)))), (0, .ref (q 0)), (2, .int (nI i)), (3, .int (nI pp))]) hx hb dX4_allTravel_92 rfl hl (by decide) rfl (fun ls hl => ?_)
              refine lv_iinc (v := nI (pp + 1)) (lv' := [(3, .int (nI (pp + 1))), (1, .int (nI ((sm + ((((MS.xx y) ((MS.rw y) pp)) - ((MS.xx y) ((MS.rw y) (pp + 1)))).natAbs)) + ((((MS.yy y) ((MS.rw y) pp)) - ((MS.yy y) ((MS.rw y) (pp + 1)))).natAbs)))), (0, .ref (q 0)), (2, .int (nI i))]) hx hb dX4_allTravel_93 hl (k := 3) rfl (nI_1 _) (by decide) rfl (fun ls hl => ?_)
              refine lv_goto (tgt := 19) hx hb dX4_allTravel_96 (by decide) ?_
              exact ih19 (pp + 1) ((sm + ((((MS.xx y) ((MS.rw y) pp)) - ((MS.xx y) ((MS.rw y) (pp + 1)))).natAbs)) + ((((MS.yy y) ((MS.rw y) pp)) - ((MS.yy y) ((MS.rw y) (pp + 1)))).natAbs)) (by omega) (by omega) (Or.inr (by omega)) (by rw [e2, show pp + 1 - y.st i = (pp - y.st i) + 1 by omega]; show _ = trC y i + (sumN (fun t => dM y (y.st i + t)) (pp - y.st i) + dM y (y.st i + (pp - y.st i))); rw [show y.st i + (pp - y.st i) = pp by omega]; unfold dM; omega) (by omega) H locs hP hD hS ls (lv_sub hl [2, 1, 3, 0] rfl)
        exact L19 ((y.st (i + 1) - y.st i) + 1) ((MS.st y) i) sm (Nat.le_refl _) (by omega) (Or.inl rfl) (by rw [e1, Nat.sub_self]; rfl) (Nat.lt_succ_self _) H locs hP hD hS ls (lv_sub hl [1, 2, 3, 0] rfl)
  exact L4 ((y.c - 0) + 1) 0 0 (Nat.zero_le _) rfl (Nat.lt_succ_self _) H locs hP hD hS ls (lv_sub hl [2, 1, 0] rfl)
set_option maxHeartbeats 4000000 in
set_option maxRecDepth 100000 in
theorem c_ScanRowsModel_travel (l : Launch) (dC : Nat → ClassId) (dI : Nat → Nat → Nat) (q : Nat → Nat) (cI cZ : ClassId) (sz : Nat) (y : MS) (hM : MB y) (hmo : mono y) : Met l yX4_travel (.code yX4_travel cX4_travel 1 (some .long) :: ALLG) ({ frames := 2, cells := 0, slots := 0, locals := 43 }) (va_Pc [.ref (q 0)] (cP (dC, dI) vwCl [(cI, .int), (cZ, .boolean)] (wM q cI cZ y) eT sz)) (va_Ql (fun (x : Int64) (u : MS) => x = lN (trC y y.c) ∧ u = y.s_th 0) (fun (u : MS) => cB (dC, dI) vwCl [(cI, .int), (cZ, .boolean)] (wM q cI cZ u) (va_A (wM q cI cZ y) sz)) (va_A (wM q cI cZ y) sz)) 0 0 (va_A (wM q cI cZ y) sz) := by
  refine xm_of (cc := cX4_travel) (maxL := 1) (ret := some .long) (by decide) rfl (Nat.le_of_ble_eq_true rfl) ?_
  intro p e s m below meth c A hAe hx hb hr hml hts0 hown hlk hin hsz H locs hP hK hD hA hS hE ls hl
  have hts : ∀ w ∈ ALLG, w.before _ s = true := fun w h => hts0 w (List.mem_cons_of_mem _ h)
  rw [← hAe]
  have g1 := trC_le hM.1 y.c
  have g2 : y.c ≤ 8 := hM.1.2.1
  have hl : lv_has ls 1 [(0, .ref (q 0))] := hl
  refine lv_aload_n hx hb dX4_travel_0 rfl (lv_at hl 0 rfl) ?_
  refine lv_iconst (v := nI 0) hx hb dX4_travel_1 (by decide) ?_
  refine va_put (D := (dC, dI)) (ci := 4) (v := .int (nI 0)) (ty := .int) (C := RX4) (T := TX4) (N := 23) hx hb hts inX4 tyX4 tyX4_ok nmX4 hown hK hP hD hS 0 rfl rfl 0 (by decide) (hts _ tw_572) (fun _ h9 => h9) rfl (by decide +kernel) rfl rfl (Nat.le_of_ble_eq_true rfl) dX4_travel_2 (fun H locs hP hD hS => ?_)
  have hP : va_P (dC, dI) vwCl (wM q cI cZ (MS.s_th y 0)) H := hP
  have hD : va_D A (wM q cI cZ (MS.s_th y 0)) := hD
  refine lv_aload_n hx hb dX4_travel_5 rfl (lv_at hl 0 rfl) ?_
  refine xc_Vi (As := []) (wr := []) ⟨hx, hb, hml, hown, hts⟩ (c_ScanRowsModel_allTravel l dC dI q cI cZ H.size (MS.s_th y 0) hM hmo) (cwV 0 hts (gV tw_676 tw_678 sw_27 tw_5 tw_679) rfl rfl rfl (by decide +kernel) ⟨Nat.le_of_ble_eq_true rfl, Nat.le_of_ble_eq_true rfl⟩) rfl hl.1 rfl (Nat.le_of_ble_eq_true rfl) dX4_travel_6 ⟨Nat.zero_le _, Nat.zero_le _⟩ hP hD hK hS hA [0, 1, 2, 3, 4, 5, 6, 7, 8, 9, 10, 11, 12, 13] [] rfl rfl (by decide) (by decide) (by decide) [0, 1] rfl (q0 := 0) rfl rfl rfl eT_M (trivial) (fun r_1 u_2 H locs w_3 hP hD hS => ?_)
  obtain rfl := w_3
  have hP : va_P (dC, dI) vwCl (wM q cI cZ (MS.s_th y 0)) H := hP
  have hD : va_D A (wM q cI cZ (MS.s_th y 0)) := hD
  refine xt_i (show nI (trC (MS.s_th y 0) (MS.c (MS.s_th y 0))) = nI (trC y y.c) from congrArg nI (trC_th y 0 y.c)) ?_
  refine lv_i2l hx hb dX4_travel_9 rfl ?_
  refine xt_l (show ((nI (trC y y.c)).toInt64) = (lN (trC y y.c)) from nI_l (by omega)) ?_
  exact xr_l hx hb hr hlk (u := MS.s_th y 0) (⟨rfl, rfl⟩) hP hK hD hS dX4_travel_10
set_option maxHeartbeats 4000000 in
set_option maxRecDepth 100000 in
theorem c_ScanRowsModel_placeOf (l : Launch) (dC : Nat → ClassId) (dI : Nat → Nat → Nat) (q : Nat → Nat) (cI cZ : ClassId) (sz : Nat) (y : MS) (t : Nat) (hM : MB y) (h1 : t < 32) : Met l yX4_placeOf (.code yX4_placeOf cX4_placeOf 3 (some .int) :: ALLG) ({ frames := 0, cells := 0, slots := 0, locals := 0 }) (va_Pc [.ref (q 0), .int (nI t)] (cP (dC, dI) vwCl [(cI, .int), (cZ, .boolean)] (wM q cI cZ y) eT sz)) (va_Qi (fun (x : Int32) (_ : Unit) => x = zI (plF y.rw t y.p)) (fun (_ : Unit) => cB (dC, dI) vwCl [(cI, .int), (cZ, .boolean)] (wM q cI cZ y) (va_A (wM q cI cZ y) sz)) (va_A (wM q cI cZ y) sz)) 0 0 (va_A (wM q cI cZ y) sz) := by
  refine xm_of (cc := cX4_placeOf) (maxL := 3) (ret := some .int) (by decide) rfl (Nat.le_of_ble_eq_true rfl) ?_
  intro p e s m below meth c A hAe hx hb hr hml hts0 hown hlk hin hsz H locs hP hK hD hA hS hE ls hl
  have hts : ∀ w ∈ ALLG, w.before _ s = true := fun w h => hts0 w (List.mem_cons_of_mem _ h)
  rw [← hAe]
  have hM0 := hM
  have b_n : y.n ≤ 32 := hM.1.1
  have b_c : y.c ≤ 8 := hM.1.2.1
  have b_p : y.p ≤ y.n := hM.1.2.2.1
  have b_vb : ∀ z, y.vb z < 2 := hM.1.2.2.2.1
  have b_ck : ∀ z, y.ck z < 4 := hM.1.2.2.2.2.1
  have b_xx : ∀ z, -1000 ≤ y.xx z ∧ y.xx z ≤ 1000 := hM.1.2.2.2.2.2.1
  have b_yy : ∀ z, -1000 ≤ y.yy z ∧ y.yy z ≤ 1000 := hM.1.2.2.2.2.2.2.1
  have b_fl : ∀ z, y.fl z < 2 := hM.1.2.2.2.2.2.2.2.1
  have b_rw : ∀ z, y.rw z < 32 := hM.1.2.2.2.2.2.2.2.2.2.1
  have b_st : ∀ z, y.st z ≤ 32 := hM.1.2.2.2.2.2.2.2.2.2.2.2
  have hl : lv_has ls 3 [(0, .ref (q 0)), (1, .int (nI t))] := hl
  refine lv_iconst (v := nI 0) hx hb dX4_placeOf_0 (by decide) ?_
  refine lv_istore_n (lv' := [(2, .int (nI 0)), (0, .ref (q 0)), (1, .int (nI t))]) hx hb dX4_placeOf_1 rfl hl (by decide) rfl (fun ls hl => ?_)
  have L2 : ∀ (fuel : Nat) (i : Nat), (i ≤ y.p) → (plF y.rw t i = -1) → y.p - i < fuel → ∀ (H : Heap) (locs : List Loc), va_P (dC, dI) vwCl (wM q cI cZ y) H → va_D A (wM q cI cZ y) → va_S A s.heap H locs → ∀ ls : Array Slot, lv_has ls 3 [(0, .ref (q 0)), (1, .int (nI t)), (2, .int (nI i))] → W p l e ({ frames := 0, cells := 0, slots := 0, locals := 0 } : Room) s m ([.ref (q 0), .int (nI t)] : List Value).toArray below meth c H locs 0 0 (MQ below (va_Qi (fun (x : Int32) (_ : Unit) => x = zI (plF y.rw t y.p)) (fun (_ : Unit) => cB (dC, dI) vwCl [(cI, .int), (cZ, .boolean)] (wM q cI cZ y) (A)) (A)) ([.ref (q 0), .int (nI t)] : List Value).toArray s 0 0 A) (F0 m 2 ls []) := by
    intro fuel
    induction fuel with
    | zero => intro i i1 e1 hm H locs hP hD hS ls hl; exact absurd hm (Nat.not_lt_zero _)
    | succ fuel ih2 =>
      intro i i1 e1 hm H locs hP hD hS ls hl
      refine lv_iload_n hx hb dX4_placeOf_2 rfl (lv_at hl 2 rfl) ?_
      refine lv_aload_n hx hb dX4_placeOf_3 rfl (lv_at hl 0 rfl) ?_
      refine va_get (D := (dC, dI)) (ci := 4) (v := .int (nI (MS.p y))) (C := RX4) (T := TX4) (N := 23) hx hb hts inX4 hown hK hP 0 rfl rfl 9 (by decide) (hts _ tw_581) (fun _ h9 => h9) rfl dX4_placeOf_4 ?_
      refine xn_cge (tgt := 28) hx hb (by omega) (by omega) dX4_placeOf_7 (by decide) (fun c_1 => ?_) (fun c_1 => ?_)
      · refine lv_iconst (v := zI (-1)) hx hb dX4_placeOf_28 (by decide) ?_
        exact xr_i hx hb hr hlk (u := ()) (by rw [show y.p = i by omega, e1]) hP hK hD hS dX4_placeOf_29
      · have g1 := b_rw i
        refine lv_aload_n hx hb dX4_placeOf_10 rfl (lv_at hl 0 rfl) ?_
        refine va_get (D := (dC, dI)) (ci := 4) (v := .ref (q 6)) (C := RX4) (T := TX4) (N := 23) hx hb hts inX4 hown hK hP 0 rfl rfl 8 (by decide) (hts _ tw_580) (fun _ h9 => h9) rfl dX4_placeOf_11 ?_
        refine lv_iload_n hx hb dX4_placeOf_14 rfl (lv_at hl 2 rfl) ?_
        refine xa_ild hx hb hK hP 6 0 rfl rfl (v := nI ((MS.rw y) i)) (by omega) (by decide) rfl dX4_placeOf_15 ?_
        refine lv_iload_n hx hb dX4_placeOf_16 rfl (lv_at hl 1 rfl) ?_
        refine xn_cne (tgt := 22) hx hb (by omega) (by omega) dX4_placeOf_17 (by decide) (fun c_2 => ?_) (fun c_2 => ?_)
        · refine lv_iinc (v := nI (i + 1)) (lv' := [(2, .int (nI (i + 1))), (0, .ref (q 0)), (1, .int (nI t))]) hx hb dX4_placeOf_22 hl (k := 2) rfl (nI_1 _) (by decide) rfl (fun ls hl => ?_)
          refine lv_goto (tgt := 2) hx hb dX4_placeOf_25 (by decide) ?_
          exact ih2 (i + 1) (by omega) (plF_no e1 (by assumption)) (by omega) H locs hP hD hS ls (lv_sub hl [1, 2, 0] rfl)
        · refine lv_iload_n hx hb dX4_placeOf_20 rfl (lv_at hl 2 rfl) ?_
          refine xt_i (show nI i = zI ((i : Nat) : Int) from (zI_nI _).symm) ?_
          exact xr_i hx hb hr hlk (u := ()) (by have h8 := plF_st (plF_yes e1 (by assumption)) (by omega) (y.p - (i + 1)); rw [show i + 1 + (y.p - (i + 1)) = y.p by omega] at h8; rw [h8]) hP hK hD hS dX4_placeOf_21
  exact L2 ((y.p - 0) + 1) 0 (Nat.zero_le _) rfl (Nat.lt_succ_self _) H locs hP hD hS ls (lv_sub hl [1, 2, 0] rfl)
set_option maxHeartbeats 4000000 in
set_option maxRecDepth 100000 in
theorem c_ScanRowsModel_exchange (l : Launch) (dC : Nat → ClassId) (dI : Nat → Nat → Nat) (q : Nat → Nat) (cI cZ : ClassId) (sz : Nat) (y : MS) (i j : Nat) (h1 : i < 32) (h2 : j < 32) : Met l yX4_exchange (.code yX4_exchange cX4_exchange 4 none :: ALLG) ({ frames := 0, cells := 0, slots := 0, locals := 0 }) (va_Pc [.ref (q 0), .int (nI i), .int (nI j)] (cP (dC, dI) vwCl [(cI, .int), (cZ, .boolean)] (wM q cI cZ y) eT sz)) (va_Qv (fun (u : MS) => u = mX y i j) (fun (u : MS) => cB (dC, dI) vwCl [(cI, .int), (cZ, .boolean)] (wM q cI cZ u) (va_A (wM q cI cZ y) sz)) (va_A (wM q cI cZ y) sz)) 0 0 (va_A (wM q cI cZ y) sz) := by
  refine xm_of (cc := cX4_exchange) (maxL := 4) (ret := none) (by decide) rfl (Nat.le_of_ble_eq_true rfl) ?_
  intro p e s m below meth c A hAe hx hb hr hml hts0 hown hlk hin hsz H locs hP hK hD hA hS hE ls hl
  have hts : ∀ w ∈ ALLG, w.before _ s = true := fun w h => hts0 w (List.mem_cons_of_mem _ h)
  rw [← hAe]
  have hl : lv_has ls 4 [(0, .ref (q 0)), (1, .int (nI i)), (2, .int (nI j))] := hl
  refine lv_aload_n hx hb dX4_exchange_0 rfl (lv_at hl 0 rfl) ?_
  refine va_get (D := (dC, dI)) (ci := 4) (v := .ref (q 6)) (C := RX4) (T := TX4) (N := 23) hx hb hts inX4 hown hK hP 0 rfl rfl 8 (by decide) (hts _ tw_580) (fun _ h9 => h9) rfl dX4_exchange_1 ?_
  refine lv_iload_n hx hb dX4_exchange_4 rfl (lv_at hl 1 rfl) ?_
  refine xa_ild hx hb hK hP 6 0 rfl rfl (v := nI ((MS.rw y) i)) (by omega) (by decide) rfl dX4_exchange_5 ?_
  refine lv_istore_n (lv' := [(3, .int (nI ((MS.rw y) i))), (0, .ref (q 0)), (1, .int (nI i)), (2, .int (nI j))]) hx hb dX4_exchange_6 rfl hl (by decide) rfl (fun ls hl => ?_)
  refine lv_aload_n hx hb dX4_exchange_7 rfl (lv_at hl 1 rfl) ?_
  refine va_get (D := (dC, dI)) (ci := 4) (v := .ref (q 6)) (C := RX4) (T := TX4) (N := 23) hx hb hts inX4 hown hK hP 0 rfl rfl 8 (by decide) (hts _ tw_580) (fun _ h9 => h9) rfl dX4_exchange_8 ?_
  refine lv_iload_n hx hb dX4_exchange_11 rfl (lv_at hl 2 rfl) ?_
  refine lv_aload_n hx hb dX4_exchange_12 rfl (lv_at hl 1 rfl) ?_
  refine va_get (D := (dC, dI)) (ci := 4) (v := .ref (q 6)) (C := RX4) (T := TX4) (N := 23) hx hb hts inX4 hown hK hP 0 rfl rfl 8 (by decide) (hts _ tw_580) (fun _ h9 => h9) rfl dX4_exchange_13 ?_
  refine lv_iload_n hx hb dX4_exchange_16 rfl (lv_at hl 3 rfl) ?_
  refine xa_ild hx hb hK hP 6 0 rfl rfl (v := nI ((MS.rw y) j)) (by omega) (by decide) rfl dX4_exchange_17 ?_
  refine xa_ist hx hb hK hP hD hS 6 0 rfl rfl (by omega) (by decide) (aN_up _ _ _) dX4_exchange_18 (fun H locs hP hD hS => ?_)
  have hP : va_P (dC, dI) vwCl (wM q cI cZ (MS.s_rw y (va_up (MS.rw y) i ((MS.rw y) j)))) H := hP
  have hD : va_D A (wM q cI cZ (MS.s_rw y (va_up (MS.rw y) i ((MS.rw y) j)))) := hD
  refine lv_aload_n hx hb dX4_exchange_19 rfl (lv_at hl 1 rfl) ?_
  refine va_get (D := (dC, dI)) (ci := 4) (v := .ref (q 6)) (C := RX4) (T := TX4) (N := 23) hx hb hts inX4 hown hK hP 0 rfl rfl 8 (by decide) (hts _ tw_580) (fun _ h9 => h9) rfl dX4_exchange_20 ?_
  refine lv_iload_n hx hb dX4_exchange_23 rfl (lv_at hl 3 rfl) ?_
  refine lv_iload_n hx hb dX4_exchange_24 rfl (lv_at hl 0 rfl) ?_
  refine xa_ist hx hb hK hP hD hS 6 0 rfl rfl (by omega) (by decide) (aN_up _ _ _) dX4_exchange_25 (fun H locs hP hD hS => ?_)
  have hP : va_P (dC, dI) vwCl (wM q cI cZ (MS.s_rw (MS.s_rw y (va_up (MS.rw y) i ((MS.rw y) j))) (va_up (va_up (MS.rw y) i ((MS.rw y) j)) j ((MS.rw y) i)))) H := hP
  have hD : va_D A (wM q cI cZ (MS.s_rw (MS.s_rw y (va_up (MS.rw y) i ((MS.rw y) j))) (va_up (va_up (MS.rw y) i ((MS.rw y) j)) j ((MS.rw y) i)))) := hD
  exact xr_v hx hb hr hlk (u := MS.s_rw (MS.s_rw y (va_up (MS.rw y) i ((MS.rw y) j))) (va_up (va_up (MS.rw y) i ((MS.rw y) j)) j ((MS.rw y) i))) rfl hP hK hD hS dX4_exchange_26
set_option maxHeartbeats 4000000 in
set_option maxRecDepth 100000 in
theorem c_ScanRowsModel_step (l : Launch) (dC : Nat → ClassId) (dI : Nat → Nat → Nat) (q : Nat → Nat) (cI cZ : ClassId) (sz : Nat) (y : MS) (hM : MB y) (hmo : mono y) : Met l yX4_step (.code yX4_step cX4_step 6 (some .boolean) :: ALLG) ({ frames := 2, cells := 0, slots := 0, locals := 43 }) (va_Pc [.ref (q 0)] (cP (dC, dI) vwCl [(cI, .int), (cZ, .boolean)] (wM q cI cZ y) eT sz)) (va_Qi (fun (x : Int32) (u : MS) => mOnce y x u) (fun (u : MS) => cB (dC, dI) vwCl [(cI, .int), (cZ, .boolean)] (wM q cI cZ u) (va_A (wM q cI cZ y) sz)) (va_A (wM q cI cZ y) sz)) 0 0 (va_A (wM q cI cZ y) sz) := by
  refine xm_of (cc := cX4_step) (maxL := 6) (ret := some .boolean) (by decide) rfl (Nat.le_of_ble_eq_true rfl) ?_
  intro p e s m below meth c A hAe hx hb hr hml hts0 hown hlk hin hsz H locs hP hK hD hA hS hE ls hl
  have hts : ∀ w ∈ ALLG, w.before _ s = true := fun w h => hts0 w (List.mem_cons_of_mem _ h)
  rw [← hAe]
  have hM0 := hM
  have b_n : y.n ≤ 32 := hM.1.1
  have b_c : y.c ≤ 8 := hM.1.2.1
  have b_p : y.p ≤ y.n := hM.1.2.2.1
  have b_vb : ∀ z, y.vb z < 2 := hM.1.2.2.2.1
  have b_ck : ∀ z, y.ck z < 4 := hM.1.2.2.2.2.1
  have b_xx : ∀ z, -1000 ≤ y.xx z ∧ y.xx z ≤ 1000 := hM.1.2.2.2.2.2.1
  have b_yy : ∀ z, -1000 ≤ y.yy z ∧ y.yy z ≤ 1000 := hM.1.2.2.2.2.2.2.1
  have b_fl : ∀ z, y.fl z < 2 := hM.1.2.2.2.2.2.2.2.1
  have b_rw : ∀ z, y.rw z < 32 := hM.1.2.2.2.2.2.2.2.2.2.1
  have b_st : ∀ z, y.st z ≤ 32 := hM.1.2.2.2.2.2.2.2.2.2.2.2
  have g1 := trC_le hM.1 y.c
  have e00 : (y.c) = y.c := rfl
  have hl : lv_has ls 6 [(0, .ref (q 0))] := hl
  refine lv_aload_n hx hb dX4_step_0 rfl (lv_at hl 0 rfl) ?_
  refine xc_Vi (As := []) (wr := []) ⟨hx, hb, hml, hown, hts⟩ (c_ScanRowsModel_allTravel l dC dI q cI cZ H.size y hM0 hmo) (cwV 0 hts (gV tw_676 tw_678 sw_27 tw_5 tw_679) rfl rfl rfl (by decide +kernel) ⟨Nat.le_of_ble_eq_true rfl, Nat.le_of_ble_eq_true rfl⟩) rfl hl.1 rfl (Nat.le_of_ble_eq_true rfl) dX4_step_1 ⟨Nat.zero_le _, Nat.zero_le _⟩ hP hD hK hS hA [0, 1, 2, 3, 4, 5, 6, 7, 8, 9, 10, 11, 12, 13] [] rfl rfl (by decide) (by decide) (by decide) [0, 1] rfl (q0 := 0) rfl rfl rfl eT_M (trivial) (fun r_1 u_2 H locs w_3 hP hD hS => ?_)
  obtain rfl := w_3
  have hP : va_P (dC, dI) vwCl (wM q cI cZ y) H := hP
  have hD : va_D A (wM q cI cZ y) := hD
  refine lv_istore_n (lv' := [(1, .int (nI (trC y (MS.c y)))), (0, .ref (q 0))]) hx hb dX4_step_4 rfl hl (by decide) rfl (fun ls hl => ?_)
  refine lv_iconst (v := nI 0) hx hb dX4_step_5 (by decide) ?_
  refine lv_istore_n (lv' := [(2, .int (nI 0)), (1, .int (nI (trC y (MS.c y)))), (0, .ref (q 0))]) hx hb dX4_step_6 rfl hl (by decide) rfl (fun ls hl => ?_)
  have L7 : ∀ (fuel : Nat) (i : Nat), (i ≤ y.n) → (∀ a' b', a' < i → a' < b' → b' < y.n → ¬ mGood y a' b') → y.n - i < fuel → ∀ (H : Heap) (locs : List Loc), va_P (dC, dI) vwCl (wM q cI cZ y) H → va_D A (wM q cI cZ y) → va_S A s.heap H locs → ∀ ls : Array Slot, lv_has ls 6 [(0, .ref (q 0)), (1, .int (nI (trC y y.c))), (2, .int (nI i))] → W p l e ({ frames := 2, cells := 0, slots := 0, locals := 43 } : Room) s m ([.ref (q 0)] : List Value).toArray below meth c H locs 0 0 (MQ below (va_Qi (fun (x : Int32) (u : MS) => mOnce y x u) (fun (u : MS) => cB (dC, dI) vwCl [(cI, .int), (cZ, .boolean)] (wM q cI cZ u) (A)) (A)) ([.ref (q 0)] : List Value).toArray s 0 0 A) (F0 m 7 ls []) := by
    intro fuel
    induction fuel with
    | zero => intro i i1 o1 hm H locs hP hD hS ls hl; exact absurd hm (Nat.not_lt_zero _)
    | succ fuel ih7 =>
      intro i i1 o1 hm H locs hP hD hS ls hl
      refine lv_iload_n hx hb dX4_step_7 rfl (lv_at hl 2 rfl) ?_
      refine lv_aload_n hx hb dX4_step_8 rfl (lv_at hl 0 rfl) ?_
      refine va_get (D := (dC, dI)) (ci := 4) (v := .int (nI (MS.n y))) (C := RX4) (T := TX4) (N := 23) hx hb hts inX4 hown hK hP 0 rfl rfl 7 (by decide) (hts _ tw_579) (fun _ h9 => h9) rfl dX4_step_9 ?_
      refine xn_cge (tgt := 106) hx hb (by omega) (by omega) dX4_step_12 (by decide) (fun c_4 => ?_) (fun c_4 => ?_)
      · refine lv_iconst (v := nI 0) hx hb dX4_step_106 (by decide) ?_
        exact xr_z hx hb hr hlk (by decide) (u := y) (Or.inr ⟨rfl, rfl, fun a' b' z1 z2 => o1 a' b' (by omega) z1 z2⟩) hP hK hD hS dX4_step_107
      · refine lv_iload_n hx hb dX4_step_15 rfl (lv_at hl 2 rfl) ?_
        refine lv_iconst (v := nI 1) hx hb dX4_step_16 (by decide) ?_
        refine xn_add hx hb dX4_step_17 ?_
        refine lv_istore_n (lv' := [(3, .int (nI (i + 1))), (0, .ref (q 0)), (1, .int (nI (trC y y.c))), (2, .int (nI i))]) hx hb dX4_step_18 rfl hl (by decide) rfl (fun ls hl => ?_)
        have L19 : ∀ (fuel : Nat) (j : Nat), (i + 1 ≤ j) → (j ≤ y.n) → (∀ a' b', a' = i → a' < b' → b' < j → ¬ mGood y a' b') → y.n - j < fuel → ∀ (H : Heap) (locs : List Loc), va_P (dC, dI) vwCl (wM q cI cZ y) H → va_D A (wM q cI cZ y) → va_S A s.heap H locs → ∀ ls : Array Slot, lv_has ls 6 [(0, .ref (q 0)), (1, .int (nI (trC y y.c))), (2, .int (nI i)), (3, .int (nI j))] → W p l e ({ frames := 2, cells := 0, slots := 0, locals := 43 } : Room) s m ([.ref (q 0)] : List Value).toArray below meth c H locs 0 0 (MQ below (va_Qi (fun (x : Int32) (u : MS) => mOnce y x u) (fun (u : MS) => cB (dC, dI) vwCl [(cI, .int), (cZ, .boolean)] (wM q cI cZ u) (A)) (A)) ([.ref (q 0)] : List Value).toArray s 0 0 A) (F0 m 19 ls []) := by
          intro fuel
          induction fuel with
          | zero => intro j j1 j2 o2 hm H locs hP hD hS ls hl; exact absurd hm (Nat.not_lt_zero _)
          | succ fuel ih19 =>
            intro j j1 j2 o2 hm H locs hP hD hS ls hl
            refine lv_iload_n hx hb dX4_step_19 rfl (lv_at hl 3 rfl) ?_
            refine lv_aload_n hx hb dX4_step_20 rfl (lv_at hl 0 rfl) ?_
            refine va_get (D := (dC, dI)) (ci := 4) (v := .int (nI (MS.n y))) (C := RX4) (T := TX4) (N := 23) hx hb hts inX4 hown hK hP 0 rfl rfl 7 (by decide) (hts _ tw_579) (fun _ h9 => h9) rfl dX4_step_21 ?_
            refine xn_cge (tgt := 100) hx hb (by omega) (by omega) dX4_step_24 (by decide) (fun c_5 => ?_) (fun c_5 => ?_)
            · refine lv_iinc (v := nI (i + 1)) (lv' := [(2, .int (nI (i + 1))), (0, .ref (q 0)), (1, .int (nI (trC y y.c))), (3, .int (nI j))]) hx hb dX4_step_100 hl (k := 2) rfl (nI_1 _) (by decide) rfl (fun ls hl => ?_)
              refine lv_goto (tgt := 7) hx hb dX4_step_103 (by decide) ?_
              exact ih7 (i + 1) (by omega) (fun a' b' z1 z2 z3 => (Nat.lt_succ_iff_lt_or_eq.mp z1).elim (fun z => o1 a' b' z z2 z3) (fun z => o2 a' b' z z2 (by omega))) (by omega) H locs hP hD hS ls (lv_sub hl [1, 2, 0] rfl)
            · have q1 := plF_b y.rw i y.p
              have q2 := plF_b y.rw j y.p
              have q3 := b_ck i
              have q4 := b_ck j
              refine lv_aload_n hx hb dX4_step_27 rfl (lv_at hl 0 rfl) ?_
              refine lv_iload_n hx hb dX4_step_28 rfl (lv_at hl 2 rfl) ?_
              refine xc_Vi (As := [.int (nI i)]) (wr := []) ⟨hx, hb, hml, hown, hts⟩ (c_ScanRowsModel_placeOf l dC dI q cI cZ H.size y i hM0 (by omega)) (cwV 1 hts (gV tw_691 tw_693 sw_29 tw_5 tw_694) rfl rfl rfl (by decide +kernel) ⟨Nat.le_of_ble_eq_true rfl, Nat.le_of_ble_eq_true rfl⟩) rfl hl.1 rfl (Nat.le_of_ble_eq_true rfl) dX4_step_29 ⟨Nat.zero_le _, Nat.zero_le _⟩ hP hD hK hS hA [0, 1, 2, 3, 4, 5, 6, 7, 8, 9, 10, 11, 12, 13] [] rfl rfl (by decide) (by decide) (by decide) [0, 1] rfl (q0 := 0) rfl rfl rfl eT_M (trivial) (fun r_6 u_7 H locs w_8 hP hD hS => ?_)
              obtain rfl := w_8
              have hP : va_P (dC, dI) vwCl (wM q cI cZ y) H := hP
              have hD : va_D A (wM q cI cZ y) := hD
              refine lv_istore (lv' := [(4, .int (zI (plF y.rw i y.p))), (0, .ref (q 0)), (1, .int (nI (trC y y.c))), (2, .int (nI i)), (3, .int (nI j))]) hx hb dX4_step_32 hl (by decide) rfl (fun ls hl => ?_)
              refine lv_aload_n hx hb dX4_step_34 rfl (lv_at hl 1 rfl) ?_
              refine lv_iload_n hx hb dX4_step_35 rfl (lv_at hl 4 rfl) ?_
              refine xc_Vi (As := [.int (nI j)]) (wr := []) ⟨hx, hb, hml, hown, hts⟩ (c_ScanRowsModel_placeOf l dC dI q cI cZ H.size y j hM0 (by omega)) (cwV 1 hts (gV tw_691 tw_693 sw_29 tw_5 tw_694) rfl rfl rfl (by decide +kernel) ⟨Nat.le_of_ble_eq_true rfl, Nat.le_of_ble_eq_true rfl⟩) rfl hl.1 rfl (Nat.le_of_ble_eq_true rfl) dX4_step_36 ⟨Nat.zero_le _, Nat.zero_le _⟩ hP hD hK hS hA [0, 1, 2, 3, 4, 5, 6, 7, 8, 9, 10, 11, 12, 13] [] rfl rfl (by decide) (by decide) (by decide) [0, 1] rfl (q0 := 0) rfl rfl rfl eT_M (trivial) (fun r_9 u_10 H locs w_11 hP hD hS => ?_)
              obtain rfl := w_11
              have hP : va_P (dC, dI) vwCl (wM q cI cZ y) H := hP
              have hD : va_D A (wM q cI cZ y) := hD
              refine lv_istore (lv' := [(5, .int (zI (plF y.rw j y.p))), (4, .int (zI (plF y.rw i y.p))), (0, .ref (q 0)), (1, .int (nI (trC y y.c))), (2, .int (nI i)), (3, .int (nI j))]) hx hb dX4_step_39 hl (by decide) rfl (fun ls hl => ?_)
              refine lv_iload hx hb dX4_step_41 (lv_at hl 1 rfl) ?_
              refine lv_iconst (v := zI (-1)) hx hb dX4_step_43 (by decide) ?_
              refine xz_ceq (tgt := 94) hx hb (by omega) (by omega) (by omega) (by omega) dX4_step_44 (by decide) (fun c_12 => ?_) (fun c_12 => ?_)
              · have ng : ¬ mGood y i j := fun z => z.1 c_12
                refine lv_iinc (v := nI (j + 1)) (lv' := [(3, .int (nI (j + 1))), (5, .int (zI (plF y.rw j y.p))), (4, .int (zI (plF y.rw i y.p))), (0, .ref (q 0)), (1, .int (nI (trC y y.c))), (2, .int (nI i))]) hx hb dX4_step_94 hl (k := 5) rfl (nI_1 _) (by decide) rfl (fun ls hl => ?_)
                refine lv_goto (tgt := 19) hx hb dX4_step_97 (by decide) ?_
                exact ih19 (j + 1) (by omega) (by omega) (fun a' b' z1 z2 z3 => (Nat.lt_succ_iff_lt_or_eq.mp z3).elim (fun z => o2 a' b' z1 z2 z) (fun z => by rw [z1, z]; exact ng)) (by omega) H locs hP hD hS ls (lv_sub hl [3, 4, 5, 0] rfl)
              · refine lv_iload hx hb dX4_step_47 (lv_at hl 0 rfl) ?_
                refine lv_iconst (v := zI (-1)) hx hb dX4_step_49 (by decide) ?_
                refine xz_ceq (tgt := 94) hx hb (by omega) (by omega) (by omega) (by omega) dX4_step_50 (by decide) (fun c_13 => ?_) (fun c_13 => ?_)
                · have ng : ¬ mGood y i j := fun z => z.2.1 c_13
                  refine lv_iinc (v := nI (j + 1)) (lv' := [(3, .int (nI (j + 1))), (5, .int (zI (plF y.rw j y.p))), (4, .int (zI (plF y.rw i y.p))), (0, .ref (q 0)), (1, .int (nI (trC y y.c))), (2, .int (nI i))]) hx hb dX4_step_94 hl (k := 5) rfl (nI_1 _) (by decide) rfl (fun ls hl => ?_)
                  refine lv_goto (tgt := 19) hx hb dX4_step_97 (by decide) ?_
                  exact ih19 (j + 1) (by omega) (by omega) (fun a' b' z1 z2 z3 => (Nat.lt_succ_iff_lt_or_eq.mp z3).elim (fun z => o2 a' b' z1 z2 z) (fun z => by rw [z1, z]; exact ng)) (by omega) H locs hP hD hS ls (lv_sub hl [3, 4, 5, 0] rfl)
                · refine lv_aload_n hx hb dX4_step_53 rfl (lv_at hl 2 rfl) ?_
                  refine va_get (D := (dC, dI)) (ci := 4) (v := .ref (q 1)) (C := RX4) (T := TX4) (N := 23) hx hb hts inX4 hown hK hP 0 rfl rfl 2 (by decide) (hts _ tw_574) (fun _ h9 => h9) rfl dX4_step_54 ?_
                  refine lv_iload_n hx hb dX4_step_57 rfl (lv_at hl 4 rfl) ?_
                  refine xa_ild hx hb hK hP 1 0 rfl rfl (v := nI ((MS.ck y) i)) (by omega) (by decide) rfl dX4_step_58 ?_
                  refine lv_aload_n hx hb dX4_step_59 rfl (lv_at hl 2 rfl) ?_
                  refine va_get (D := (dC, dI)) (ci := 4) (v := .ref (q 1)) (C := RX4) (T := TX4) (N := 23) hx hb hts inX4 hown hK hP 0 rfl rfl 2 (by decide) (hts _ tw_574) (fun _ h9 => h9) rfl dX4_step_60 ?_
                  refine lv_iload_n hx hb dX4_step_63 rfl (lv_at hl 5 rfl) ?_
                  refine xa_ild hx hb hK hP 1 0 rfl rfl (v := nI ((MS.ck y) j)) (by omega) (by decide) rfl dX4_step_64 ?_
                  refine xn_cne (tgt := 94) hx hb (by omega) (by omega) dX4_step_65 (by decide) (fun c_14 => ?_) (fun c_14 => ?_)
                  · have ng : ¬ mGood y i j := fun z => c_14 z.2.2.1
                    refine lv_iinc (v := nI (j + 1)) (lv' := [(3, .int (nI (j + 1))), (5, .int (zI (plF y.rw j y.p))), (4, .int (zI (plF y.rw i y.p))), (0, .ref (q 0)), (1, .int (nI (trC y y.c))), (2, .int (nI i))]) hx hb dX4_step_94 hl (k := 5) rfl (nI_1 _) (by decide) rfl (fun ls hl => ?_)
                    refine lv_goto (tgt := 19) hx hb dX4_step_97 (by decide) ?_
                    exact ih19 (j + 1) (by omega) (by omega) (fun a' b' z1 z2 z3 => (Nat.lt_succ_iff_lt_or_eq.mp z3).elim (fun z => o2 a' b' z1 z2 z) (fun z => by rw [z1, z]; exact ng)) (by omega) H locs hP hD hS ls (lv_sub hl [3, 4, 5, 0] rfl)
                  · have pa := pm_z c_12
                    have pb := pm_z c_13
                    have l4 : zI (plF y.rw i y.p) = nI (pm y i) := by rw [pa.1]; exact zI_nI _
                    have l5 : zI (plF y.rw j y.p) = nI (pm y j) := by rw [pb.1]; exact zI_nI _
                    rw [l4, l5] at hl
                    have g3 := trC_le (MB_mX hM0 (pm y i) (pm y j)).1 y.c
                    have e0 : (mX y (pm y i) (pm y j)).c = y.c := rfl
                    refine lv_aload_n hx hb dX4_step_68 rfl (lv_at hl 2 rfl) ?_
                    refine lv_iload hx hb dX4_step_69 (lv_at hl 1 rfl) ?_
                    refine lv_iload hx hb dX4_step_71 (lv_at hl 0 rfl) ?_
                    refine xc_Vv (As := [.int (nI (pm y i)), .int (nI (pm y j))]) (wr := []) ⟨hx, hb, hml, hown, hts⟩ (c_ScanRowsModel_exchange l dC dI q cI cZ H.size y (pm y i) (pm y j) (by omega) (by omega)) (cwV 2 hts (gV tw_695 tw_697 sw_30 tw_5 tw_698) rfl rfl rfl (by decide +kernel) ⟨Nat.le_of_ble_eq_true rfl, Nat.le_of_ble_eq_true rfl⟩) rfl hl.1 rfl (Nat.le_of_ble_eq_true rfl) dX4_step_73 ⟨Nat.zero_le _, Nat.zero_le _⟩ hP hD hK hS hA [0, 1, 2, 3, 4, 5, 6, 7, 8, 9, 10, 11, 12, 13] [] rfl rfl (by decide) (by decide) (by decide) [0, 1] rfl (q0 := 0) rfl rfl rfl eT_M (trivial) (fun u_16 H locs w_17 hP hD hS => ?_)
                    obtain rfl := w_17
                    have hP : va_P (dC, dI) vwCl (wM q cI cZ (mX y (pm y i) (pm y j))) H := hP
                    have hD : va_D A (wM q cI cZ (mX y (pm y i) (pm y j))) := hD
                    refine lv_aload_n hx hb dX4_step_76 rfl (lv_at hl 2 rfl) ?_
                    refine xc_Vi (As := []) (wr := []) ⟨hx, hb, hml, hown, hts⟩ (c_ScanRowsModel_allTravel l dC dI q cI cZ H.size (mX y (pm y i) (pm y j)) (MB_mX hM0 _ _) hmo) (cwV 0 hts (gV tw_676 tw_678 sw_27 tw_5 tw_679) rfl rfl rfl (by decide +kernel) ⟨Nat.le_of_ble_eq_true rfl, Nat.le_of_ble_eq_true rfl⟩) rfl hl.1 rfl (Nat.le_of_ble_eq_true rfl) dX4_step_77 ⟨Nat.zero_le _, Nat.zero_le _⟩ hP hD hK hS hA [0, 1, 2, 3, 4, 5, 6, 7, 8, 9, 10, 11, 12, 13] [] rfl rfl (by decide) (by decide) (by decide) [0, 1] rfl (q0 := 0) rfl rfl rfl eT_M (trivial) (fun r_18 u_19 H locs w_20 hP hD hS => ?_)
                    obtain rfl := w_20
                    have hP : va_P (dC, dI) vwCl (wM q cI cZ (mX y (pm y i) (pm y j))) H := hP
                    have hD : va_D A (wM q cI cZ (mX y (pm y i) (pm y j))) := hD
                    refine xt_i (show nI (trC (mX y (pm y i) (pm y j)) (MS.c (mX y (pm y i) (pm y j)))) = nI (trC (mX y (pm y i) (pm y j)) y.c) from rfl) ?_
                    refine lv_iload_n hx hb dX4_step_80 rfl (lv_at hl 3 rfl) ?_
                    refine xn_cge (tgt := 86) hx hb (by omega) (by omega) dX4_step_81 (by decide) (fun c_21 => ?_) (fun c_21 => ?_)
                    · refine lv_aload_n hx hb dX4_step_86 rfl (lv_at hl 2 rfl) ?_
                      refine lv_iload hx hb dX4_step_87 (lv_at hl 1 rfl) ?_
                      refine lv_iload hx hb dX4_step_89 (lv_at hl 0 rfl) ?_
                      refine xc_Vv (As := [.int (nI (pm y i)), .int (nI (pm y j))]) (wr := []) ⟨hx, hb, hml, hown, hts⟩ (c_ScanRowsModel_exchange l dC dI q cI cZ H.size (mX y (pm y i) (pm y j)) (pm y i) (pm y j) (by omega) (by omega)) (cwV 2 hts (gV tw_695 tw_697 sw_30 tw_5 tw_698) rfl rfl rfl (by decide +kernel) ⟨Nat.le_of_ble_eq_true rfl, Nat.le_of_ble_eq_true rfl⟩) rfl hl.1 rfl (Nat.le_of_ble_eq_true rfl) dX4_step_91 ⟨Nat.zero_le _, Nat.zero_le _⟩ hP hD hK hS hA [0, 1, 2, 3, 4, 5, 6, 7, 8, 9, 10, 11, 12, 13] [] rfl rfl (by decide) (by decide) (by decide) [0, 1] rfl (q0 := 0) rfl rfl rfl eT_M (trivial) (fun u_23 H locs w_24 hP hD hS => ?_)
                      obtain rfl := w_24
                      have hP : va_P (dC, dI) vwCl (wM q cI cZ (mX (mX y (pm y i) (pm y j)) (pm y i) (pm y j))) H := hP
                      have hD : va_D A (wM q cI cZ (mX (mX y (pm y i) (pm y j)) (pm y i) (pm y j))) := hD
                      rw [mX2] at hP hD
                      have ng : ¬ mGood y i j := fun z => absurd z.2.2.2 (by omega)
                      refine lv_iinc (v := nI (j + 1)) (lv' := [(3, .int (nI (j + 1))), (5, .int (nI (pm y j))), (4, .int (nI (pm y i))), (0, .ref (q 0)), (1, .int (nI (trC y y.c))), (2, .int (nI i))]) hx hb dX4_step_94 hl (k := 5) rfl (nI_1 _) (by decide) rfl (fun ls hl => ?_)
                      refine lv_goto (tgt := 19) hx hb dX4_step_97 (by decide) ?_
                      exact ih19 (j + 1) (by omega) (by omega) (fun a' b' z1 z2 z3 => (Nat.lt_succ_iff_lt_or_eq.mp z3).elim (fun z => o2 a' b' z1 z2 z) (fun z => by rw [z1, z]; exact ng)) (by omega) H locs hP hD hS ls (lv_sub hl [3, 4, 5, 0] rfl)
                    · refine lv_iconst (v := nI 1) hx hb dX4_step_84 (by decide) ?_
                      exact xr_z hx hb hr hlk (by decide) (u := mX y (pm y i) (pm y j)) (Or.inl ⟨rfl, i, j, ⟨by omega, by omega, ⟨c_12, c_13, c_14, by omega⟩, fun a' b' z1 z2 z3 => z3.elim (fun z => o1 a' b' z z1 z2) (fun z => o2 a' b' z.1 z1 z.2)⟩, rfl⟩) hP hK hD hS dX4_step_85
        exact L19 ((y.n - (i + 1)) + 1) (i + 1) (Nat.le_refl _) (by omega) (fun a' b' z1 z2 z3 => absurd z3 (by omega)) (Nat.lt_succ_self _) H locs hP hD hS ls (lv_sub hl [1, 2, 3, 0] rfl)
  exact L7 ((y.n - 0) + 1) 0 (Nat.zero_le _) (fun _ _ z => absurd z (Nat.not_lt_zero _)) (Nat.lt_succ_self _) H locs hP hD hS ls (lv_sub hl [2, 1, 0] rfl)
end
