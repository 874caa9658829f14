/-! exchanges, rules, chains: what the rows' methods do -/
theorem wb_le {r : RS} (hB : RB r) (k : Nat) : wb r k ≤ 4000 := by
  obtain ⟨b_n, b_c, b_p, b_vb, b_ck, b_xx, b_yy, b_fl, b_po, b_rw, b_ch, b_st⟩ := hB
  unfold wb; split
  · have g2 := b_xx (r.rw k)
    have g3 := b_xx (r.rw (k + 1))
    have g4 := b_yy (r.rw k)
    have g5 := b_yy (r.rw (k + 1))
    omega
  · omega
theorem wa_le {r : RS} (hB : RB r) (k : Nat) : wa r k ≤ 8000 := by
  have h1 := wb_le hB k
  have h2 := wb_le hB (k - 1)
  unfold wa; split <;> omega
theorem sumN_le {f : Nat → Nat} {m : Nat} (h : ∀ k, f k ≤ m) (n : Nat) : sumN f n ≤ n * m := by
  induction n with
  | zero => simp [sumN]
  | succ n ih => have := h n; simp only [sumN, Nat.add_mul]; omega
theorem up_lti {g : Nat → Int} {lo hi : Int} (h : ∀ k, lo ≤ g k ∧ g k < hi) {v : Int} (hv : lo ≤ v ∧ v < hi) (i : Nat) : ∀ k, lo ≤ va_up g i v k ∧ va_up g i v k < hi := by
  intro k; unfold va_up; split
  · exact hv
  · exact h k
theorem RB_exch {r : RS} (hB : RB r) {i j : Nat} (hi : i < 32) (hj : j < 32) : RB (exch r i j) := by
  obtain ⟨b_n, b_c, b_p, b_vb, b_ck, b_xx, b_yy, b_fl, b_po, b_rw, b_ch, b_st⟩ := hB
  refine ⟨b_n, b_c, b_p, b_vb, b_ck, b_xx, b_yy, b_fl, ?_, ?_, b_ch, b_st⟩
  · exact up_lti (up_lti b_po ⟨by omega, by omega⟩ _) ⟨by omega, by omega⟩ _
  · exact up_lt (up_lt b_rw (b_rw _) _) (b_rw _) _
/-- where a latch stands, it stands -/
def RC (r : RS) : Prop := ∀ t, t < r.n → r.po t ≠ -1 → r.rw (r.po t).toNat = t ∧ (r.po t).toNat < r.p
theorem va_up2 {α : Type} (f : Nat → α) (k : Nat) (v : α) (h : f k = v) : va_up f k v = f := by
  funext j; unfold va_up; split
  · rename_i e; rw [e, h]
  · rfl
theorem exch_rw (r : RS) (i j : Nat) : (exch r i j).rw = va_up (va_up r.rw i (r.rw j)) j (r.rw i) := rfl
theorem exch_at1 (r : RS) (i j : Nat) : (exch r i j).rw i = r.rw j := by
  rw [exch_rw]; unfold va_up; by_cases h : i = j <;> simp [h]
theorem exch_at2 (r : RS) (i j : Nat) : (exch r i j).rw j = r.rw i := by
  rw [exch_rw]; unfold va_up; simp
theorem exch_at3 (r : RS) {i j k : Nat} (h1 : k ≠ i) (h2 : k ≠ j) : (exch r i j).rw k = r.rw k := by
  rw [exch_rw]; unfold va_up; simp [h1, h2]
theorem exch2 {r : RS} {i j : Nat} (hi : r.po (r.rw i) = (i : Int)) (hj : r.po (r.rw j) = (j : Int)) : exch (exch r i j) i j = r := by
  have e1 : va_up (va_up (exch r i j).rw i ((exch r i j).rw j)) j ((exch r i j).rw i) = r.rw := by
    funext k; unfold va_up
    by_cases h2 : k = j
    · rw [if_pos h2, exch_at1, h2]
    · rw [if_neg h2]
      by_cases h1 : k = i
      · rw [if_pos h1, exch_at2, h1]
      · rw [if_neg h1, exch_at3 r h1 h2]
  have e2 : va_up (va_up (exch r i j).po (r.rw i) (i : Int)) (r.rw j) (j : Int) = r.po := by
    have e0 : (exch r i j).po = va_up (va_up r.po ((exch r i j).rw i) (i : Int)) ((exch r i j).rw j) (j : Int) := rfl
    rw [e0, exch_at1, exch_at2]
    funext k; unfold va_up
    by_cases h2 : k = r.rw j
    · rw [if_pos h2, h2, hj]
    · rw [if_neg h2]
      by_cases h1 : k = r.rw i
      · rw [if_pos h1, h1, hi]
      · rw [if_neg h1, if_neg h1, if_neg h2]
  unfold exch at e1 e2 ⊢
  dsimp only at e1 e2 ⊢
  rw [e1, e2]
def eis (r : RS) (i j : Nat) : Nat × RS := if wa (exch r i j) i + wa (exch r i j) j < wa r i + wa r j then (1, exch r i j) else (0, exch (exch r i j) i j)
def pl (r : RS) (t : Nat) : Nat := (r.po t).toNat
def good (r : RS) (a b : Nat) : Prop := mayN r a b = 1 ∧ wa (exch r (pl r a) (pl r b)) (pl r a) + wa (exch r (pl r a) (pl r b)) (pl r b) < wa r (pl r a) + wa r (pl r b)
def pairMin (r : RS) (a b : Nat) : Prop := a < b ∧ b < r.n ∧ good r a b ∧ ∀ a' b', a' < b' → b' < r.n → (a' < a ∨ (a' = a ∧ b' < b)) → ¬ good r a' b'
def noPair (r : RS) : Prop := ∀ a b, a < b → b < r.n → ¬ good r a b
def stepR (r u : RS) : Prop := ∃ a b, pairMin r a b ∧ u = exch r (pl r a) (pl r b)
def onceR (r : RS) (x : Int32) (u : RS) : Prop := (x = nI 1 ∧ stepR r u) ∨ (x = nI 0 ∧ u = r ∧ noPair r)
def impR : Nat → RS → Nat → RS → Prop
  | 0, r, k, u => k = 0 ∧ u = r
  | s + 1, r, k, u => (noPair r ∧ k = 0 ∧ u = r) ∨ ∃ r1 k1, stepR r r1 ∧ impR s r1 k1 u ∧ k = k1 + 1
theorem impR_no {s : Nat} {r : RS} (h : noPair r) : impR s r 0 r := by
  cases s with
  | zero => exact ⟨rfl, rfl⟩
  | succ s => exact Or.inl ⟨h, rfl, rfl⟩
theorem mayN_1 {r : RS} {a b : Nat} (h : 0 < mayN r a b) : mayN r a b = 1 ∧ r.ck a = r.ck b ∧ r.po a ≠ -1 ∧ r.po b ≠ -1 := by
  unfold mayN at h ⊢
  split at h
  · rename_i q; exact ⟨if_pos q, q⟩
  · exact absurd h (Nat.lt_irrefl 0)
theorem mayN_le (r : RS) (a b : Nat) : mayN r a b ≤ 1 := by unfold mayN; split <;> omega
theorem eis_le (r : RS) (a b : Nat) : (eis r a b).1 ≤ 1 := by unfold eis; split <;> simp
theorem pl_z {r : RS} (hB : RB r) {t : Nat} (h : r.po t ≠ -1) : r.po t = (pl r t : Int) ∧ pl r t < 32 := by
  have h1 := hB.2.2.2.2.2.2.2.2.1 t
  unfold pl; omega
theorem RC_pl {r : RS} (hB : RB r) (hC : RC r) {t : Nat} (ht : t < r.n) (h : r.po t ≠ -1) : r.po (r.rw (pl r t)) = (pl r t : Int) := by
  rw [show r.rw (pl r t) = t from (hC t ht h).1]; exact (pl_z hB h).1
theorem RC_exch {r : RS} (hB : RB r) (hC : RC r) {a b : Nat} (ha : a < r.n) (hb : b < r.n) (h1 : r.po a ≠ -1) (h2 : r.po b ≠ -1) : RC (exch r (pl r a) (pl r b)) := by
  have ea := (hC a ha h1).1
  have eb := (hC b hb h2).1
  have la := (hC a ha h1).2
  have lb := (hC b hb h2).2
  have e0 : (exch r (pl r a) (pl r b)).po = va_up (va_up r.po b (pl r a : Int)) a (pl r b : Int) := by
    have : (exch r (pl r a) (pl r b)).po = va_up (va_up r.po ((exch r (pl r a) (pl r b)).rw (pl r a)) (pl r a : Int)) ((exch r (pl r a) (pl r b)).rw (pl r b)) (pl r b : Int) := rfl
    rw [this, exch_at1, exch_at2]
    unfold pl
    rw [ea, eb]
  intro t ht hp
  rw [e0] at hp ⊢
  unfold va_up at hp ⊢
  by_cases q1 : t = a
  · rw [if_pos q1]
    refine ⟨?_, by show pl r b < r.p; exact lb⟩
    show (exch r (pl r a) (pl r b)).rw (pl r b) = t
    rw [exch_at2]; unfold pl; rw [ea, q1]
  · rw [if_neg q1] at hp ⊢
    by_cases q2 : t = b
    · rw [if_pos q2]
      refine ⟨?_, by show pl r a < r.p; exact la⟩
      show (exch r (pl r a) (pl r b)).rw (pl r a) = t
      rw [exch_at1]; unfold pl; rw [eb, q2]
    · rw [if_neg q2] at hp ⊢
      obtain ⟨e3, l3⟩ := hC t ht hp
      refine ⟨?_, l3⟩
      have n1 : (r.po t).toNat ≠ pl r a := fun z => q1 (by rw [← e3, z]; exact ea)
      have n2 : (r.po t).toNat ≠ pl r b := fun z => q2 (by rw [← e3, z]; exact eb)
      rw [exch_at3 r n1 n2]; exact e3
theorem stepR_ok {r u : RS} (hB : RB r) (hC : RC r) (h : stepR r u) : RB u ∧ RC u := by
  obtain ⟨a, b, ⟨h1, h2, h3, -⟩, rfl⟩ := h
  obtain ⟨-, -, p1, p2⟩ := mayN_1 (by rw [h3.1]; decide : 0 < mayN r a b)
  exact ⟨RB_exch hB (pl_z hB p1).2 (pl_z hB p2).2, RC_exch hB hC (by omega) h2 p1 p2⟩
/-- the k-th broken rule among the first n, B a rule's being broken -/
def rulR (B : Nat → Nat) (n k w : Nat) (x : Int32) : Prop := (∃ t, t < n ∧ B t = 1 ∧ sumN B t = k ∧ x = nI (if w = 0 then t % 2 else t / 2)) ∨ ((∀ t, t < n → ¬ (B t = 1 ∧ sumN B t = k)) ∧ x = zI (-1))
def brT (r : RS) (t : Nat) : Nat := brk r (t / 2) (t % 2)
theorem brk_le {r : RS} (hB : RB r) (i j : Nat) : brk r i j ≤ 1 := by
  have h := hB.2.2.2.2.2.2.2.1 i
  unfold brk; split
  · omega
  · split <;> omega
/-- one shift of each of the first chains -/
def sbit (bits : Int32) (i : Nat) : Nat := (bits >>> (nI i &&& 31)).toBitVec.toNat % 2
theorem sbit_and (bits : Int32) (i : Nat) : (bits >>> (nI i &&& 31)) &&& nI 1 = nI (sbit bits i) := pk_and _ 1 (by decide)
theorem sbit_lt (bits : Int32) (i : Nat) : sbit bits i < 2 := Nat.mod_lt _ (by decide)
def shC (r : RS) (bits : Int32) : Nat → Int32 × (Nat → Nat)
  | 0 => (nI 0, r.vb)
  | i + 1 => ((shC r bits i).1 ||| (nI (shO (r.s_vb (shC r bits i).2) (r.st i) (r.st (i + 1)) (sbit bits i)) <<< (nI i &&& 31)), shV (r.s_vb (shC r bits i).2) (r.st i) (r.st (i + 1)) (sbit bits i))
theorem shC_lt {r : RS} (hv : ∀ j, r.vb j < 2) (bits : Int32) (i : Nat) : ∀ j, (shC r bits i).2 j < 2 := by
  induction i with
  | zero => exact hv
  | succ i ih => exact shV_lt (r := r.s_vb (shC r bits i).2) ih (sbit_lt bits i)
def sbN (r : RS) (a b : Nat) : Nat := if r.ck a = r.ck b then (if r.xx a = r.xx b then (if r.yy a < r.yy b then 1 else 0) else (if r.xx a < r.xx b then 1 else 0)) else (if r.ck a < r.ck b then 1 else 0)
theorem sbN_le (r : RS) (a b : Nat) : sbN r a b ≤ 1 := by unfold sbN; split <;> (try split) <;> (try split) <;> omega
theorem brk_le' {r : RS} (hB : RB r) (t : Nat) : brT r t ≤ 1 := brk_le hB _ _
theorem sw_7 : Cond.selects "ScanRows$Rows" (⟨"ScanRows$Rows", "exchangeOnce", "()Z"⟩ : MethodName) (⟨"ScanRows$Rows", "exchangeOnce", "()Z"⟩ : MethodName) ∈ ALLG := al_s (i := 7) (by decide +kernel) (by decide +kernel)
theorem sw_8 : Cond.selects "ScanRows$Rows" (⟨"ScanRows$Rows", "mayExchange", "(II)Z"⟩ : MethodName) (⟨"ScanRows$Rows", "mayExchange", "(II)Z"⟩ : MethodName) ∈ ALLG := al_s (i := 8) (by decide +kernel) (by decide +kernel)
theorem sw_9 : Cond.selects "ScanRows$Rows" (⟨"ScanRows$Rows", "exchangeIfShorter", "(II)Z"⟩ : MethodName) (⟨"ScanRows$Rows", "exchangeIfShorter", "(II)Z"⟩ : MethodName) ∈ ALLG := al_s (i := 9) (by decide +kernel) (by decide +kernel)
theorem sw_10 : Cond.selects "ScanRows$Rows" (⟨"ScanRows$Rows", "wayAround", "(I)I"⟩ : MethodName) (⟨"ScanRows$Rows", "wayAround", "(I)I"⟩ : MethodName) ∈ ALLG := al_s (i := 10) (by decide +kernel) (by decide +kernel)
theorem sw_11 : Cond.selects "ScanRows$Rows" (⟨"ScanRows$Rows", "exchange", "(II)V"⟩ : MethodName) (⟨"ScanRows$Rows", "exchange", "(II)V"⟩ : MethodName) ∈ ALLG := al_s (i := 11) (by decide +kernel) (by decide +kernel)
theorem sw_12 : Cond.selects "ScanRows$Rows" (⟨"ScanRows$Rows", "breaks", "(II)Z"⟩ : MethodName) (⟨"ScanRows$Rows", "breaks", "(II)Z"⟩ : MethodName) ∈ ALLG := al_s (i := 12) (by decide +kernel) (by decide +kernel)
theorem tw_363 : (Cond.methodLink "ScanRows$Rows" (77 : Nat) ({ cls := "ScanRows$Rows", name := "exchangeOnce", desc := "()Z" } : Jvm.MethodName)) ∈ ALLG := al_t (i := 363) (by decide +kernel) (by decide +kernel)
theorem tw_365 : (Cond.instanceMethod ({ cls := "ScanRows$Rows", name := "exchangeOnce", desc := "()Z" } : Jvm.MethodName)) ∈ ALLG := al_t (i := 365) (by decide +kernel) (by decide +kernel)
theorem tw_366 : (Cond.code ({ cls := "ScanRows$Rows", name := "exchangeOnce", desc := "()Z" } : Jvm.MethodName) prog_4_method_16_code (3 : Nat) (Option.some FieldType.boolean)) ∈ ALLG := al_t (i := 366) (by decide +kernel) (by decide +kernel)
theorem tw_367 : (Cond.methodLink "ScanRows$Rows" (81 : Nat) ({ cls := "ScanRows$Rows", name := "mayExchange", desc := "(II)Z" } : Jvm.MethodName)) ∈ ALLG := al_t (i := 367) (by decide +kernel) (by decide +kernel)
theorem tw_369 : (Cond.instanceMethod ({ cls := "ScanRows$Rows", name := "mayExchange", desc := "(II)Z" } : Jvm.MethodName)) ∈ ALLG := al_t (i := 369) (by decide +kernel) (by decide +kernel)
theorem tw_370 : (Cond.code ({ cls := "ScanRows$Rows", name := "mayExchange", desc := "(II)Z" } : Jvm.MethodName) prog_4_method_17_code (3 : Nat) (Option.some FieldType.boolean)) ∈ ALLG := al_t (i := 370) (by decide +kernel) (by decide +kernel)
theorem tw_371 : (Cond.methodLink "ScanRows$Rows" (84 : Nat) ({ cls := "ScanRows$Rows", name := "exchangeIfShorter", desc := "(II)Z" } : Jvm.MethodName)) ∈ ALLG := al_t (i := 371) (by decide +kernel) (by decide +kernel)
theorem tw_373 : (Cond.instanceMethod ({ cls := "ScanRows$Rows", name := "exchangeIfShorter", desc := "(II)Z" } : Jvm.MethodName)) ∈ ALLG := al_t (i := 373) (by decide +kernel) (by decide +kernel)
theorem tw_374 : (Cond.code ({ cls := "ScanRows$Rows", name := "exchangeIfShorter", desc := "(II)Z" } : Jvm.MethodName) prog_4_method_18_code (4 : Nat) (Option.some FieldType.boolean)) ∈ ALLG := al_t (i := 374) (by decide +kernel) (by decide +kernel)
theorem tw_375 : (Cond.methodLink "ScanRows$Rows" (87 : Nat) ({ cls := "ScanRows$Rows", name := "wayAround", desc := "(I)I" } : Jvm.MethodName)) ∈ ALLG := al_t (i := 375) (by decide +kernel) (by decide +kernel)
theorem tw_377 : (Cond.instanceMethod ({ cls := "ScanRows$Rows", name := "wayAround", desc := "(I)I" } : Jvm.MethodName)) ∈ ALLG := al_t (i := 377) (by decide +kernel) (by decide +kernel)
theorem tw_378 : (Cond.code ({ cls := "ScanRows$Rows", name := "wayAround", desc := "(I)I" } : Jvm.MethodName) prog_4_method_14_code (2 : Nat) (Option.some FieldType.int)) ∈ ALLG := al_t (i := 378) (by decide +kernel) (by decide +kernel)
theorem tw_379 : (Cond.methodLink "ScanRows$Rows" (90 : Nat) ({ cls := "ScanRows$Rows", name := "exchange", desc := "(II)V" } : Jvm.MethodName)) ∈ ALLG := al_t (i := 379) (by decide +kernel) (by decide +kernel)
theorem tw_381 : (Cond.instanceMethod ({ cls := "ScanRows$Rows", name := "exchange", desc := "(II)V" } : Jvm.MethodName)) ∈ ALLG := al_t (i := 381) (by decide +kernel) (by decide +kernel)
theorem tw_382 : (Cond.code ({ cls := "ScanRows$Rows", name := "exchange", desc := "(II)V" } : Jvm.MethodName) prog_4_method_19_code (4 : Nat) (Option.none : Option Jvm.ClassFile.FieldType)) ∈ ALLG := al_t (i := 382) (by decide +kernel) (by decide +kernel)
theorem tw_395 : (Cond.methodLink "ScanRows$Rows" (94 : Nat) ({ cls := "ScanRows$Rows", name := "breaks", desc := "(II)Z" } : Jvm.MethodName)) ∈ ALLG := al_t (i := 395) (by decide +kernel) (by decide +kernel)
theorem tw_397 : (Cond.instanceMethod ({ cls := "ScanRows$Rows", name := "breaks", desc := "(II)Z" } : Jvm.MethodName)) ∈ ALLG := al_t (i := 397) (by decide +kernel) (by decide +kernel)
theorem tw_398 : (Cond.code ({ cls := "ScanRows$Rows", name := "breaks", desc := "(II)Z" } : Jvm.MethodName) prog_4_method_21_code (3 : Nat) (Option.some FieldType.boolean)) ∈ ALLG := al_t (i := 398) (by decide +kernel) (by decide +kernel)
theorem dX2_wholeWay_0 : decode cX2_wholeWay 0 = .ok (.lconst 0, 1) := by decide +kernel
theorem dX2_wholeWay_1 : decode cX2_wholeWay 1 = .ok (.lstore_n 1, 1) := by decide +kernel
theorem dX2_wholeWay_2 : decode cX2_wholeWay 2 = .ok (.iconst 0, 1) := by decide +kernel
theorem dX2_wholeWay_3 : decode cX2_wholeWay 3 = .ok (.istore_n 3, 1) := by decide +kernel
theorem dX2_wholeWay_4 : decode cX2_wholeWay 4 = .ok (.iload_n 3, 1) := by decide +kernel
theorem dX2_wholeWay_5 : decode cX2_wholeWay 5 = .ok (.aload_n 0, 1) := by decide +kernel
theorem dX2_wholeWay_6 : decode cX2_wholeWay 6 = .ok (.getfield 59, 3) := by decide +kernel
theorem dX2_wholeWay_9 : decode cX2_wholeWay 9 = .ok (.if_icmp .ge 18, 3) := by decide +kernel
theorem dX2_wholeWay_12 : decode cX2_wholeWay 12 = .ok (.lload_n 1, 1) := by decide +kernel
theorem dX2_wholeWay_13 : decode cX2_wholeWay 13 = .ok (.aload_n 0, 1) := by decide +kernel
theorem dX2_wholeWay_14 : decode cX2_wholeWay 14 = .ok (.iload_n 3, 1) := by decide +kernel
theorem dX2_wholeWay_15 : decode cX2_wholeWay 15 = .ok (.invokevirtual 69, 3) := by decide +kernel
theorem dX2_wholeWay_18 : decode cX2_wholeWay 18 = .ok (.i2l, 1) := by decide +kernel
theorem dX2_wholeWay_19 : decode cX2_wholeWay 19 = .ok (.ladd, 1) := by decide +kernel
theorem dX2_wholeWay_20 : decode cX2_wholeWay 20 = .ok (.lstore_n 1, 1) := by decide +kernel
theorem dX2_wholeWay_21 : decode cX2_wholeWay 21 = .ok (.iinc 3 1, 3) := by decide +kernel
theorem dX2_wholeWay_24 : decode cX2_wholeWay 24 = .ok (.goto (-20), 3) := by decide +kernel
theorem dX2_wholeWay_27 : decode cX2_wholeWay 27 = .ok (.lload_n 1, 1) := by decide +kernel
theorem dX2_wholeWay_28 : decode cX2_wholeWay 28 = .ok (.lreturn, 1) := by decide +kernel
theorem dX2_exchangeIfShorter_0 : decode cX2_exchangeIfShorter 0 = .ok (.aload_n 0, 1) := by decide +kernel
theorem dX2_exchangeIfShorter_1 : decode cX2_exchangeIfShorter 1 = .ok (.iload_n 1, 1) := by decide +kernel
theorem dX2_exchangeIfShorter_2 : decode cX2_exchangeIfShorter 2 = .ok (.invokevirtual 87, 3) := by decide +kernel
theorem dX2_exchangeIfShorter_5 : decode cX2_exchangeIfShorter 5 = .ok (.aload_n 0, 1) := by decide +kernel
theorem dX2_exchangeIfShorter_6 : decode cX2_exchangeIfShorter 6 = .ok (.iload_n 2, 1) := by decide +kernel
theorem dX2_exchangeIfShorter_7 : decode cX2_exchangeIfShorter 7 = .ok (.invokevirtual 87, 3) := by decide +kernel
theorem dX2_exchangeIfShorter_10 : decode cX2_exchangeIfShorter 10 = .ok (.iadd, 1) := by decide +kernel
theorem dX2_exchangeIfShorter_11 : decode cX2_exchangeIfShorter 11 = .ok (.istore_n 3, 1) := by decide +kernel
theorem dX2_exchangeIfShorter_12 : decode cX2_exchangeIfShorter 12 = .ok (.aload_n 0, 1) := by decide +kernel
theorem dX2_exchangeIfShorter_13 : decode cX2_exchangeIfShorter 13 = .ok (.iload_n 1, 1) := by decide +kernel
theorem dX2_exchangeIfShorter_14 : decode cX2_exchangeIfShorter 14 = .ok (.iload_n 2, 1) := by decide +kernel
theorem dX2_exchangeIfShorter_15 : decode cX2_exchangeIfShorter 15 = .ok (.invokevirtual 90, 3) := by decide +kernel
theorem dX2_exchangeIfShorter_18 : decode cX2_exchangeIfShorter 18 = .ok (.aload_n 0, 1) := by decide +kernel
theorem dX2_exchangeIfShorter_19 : decode cX2_exchangeIfShorter 19 = .ok (.iload_n 1, 1) := by decide +kernel
theorem dX2_exchangeIfShorter_20 : decode cX2_exchangeIfShorter 20 = .ok (.invokevirtual 87, 3) := by decide +kernel
theorem dX2_exchangeIfShorter_23 : decode cX2_exchangeIfShorter 23 = .ok (.aload_n 0, 1) := by decide +kernel
theorem dX2_exchangeIfShorter_24 : decode cX2_exchangeIfShorter 24 = .ok (.iload_n 2, 1) := by decide +kernel
theorem dX2_exchangeIfShorter_25 : decode cX2_exchangeIfShorter 25 = .ok (.invokevirtual 87, 3) := by decide +kernel
theorem dX2_exchangeIfShorter_28 : decode cX2_exchangeIfShorter 28 = .ok (.iadd, 1) := by decide +kernel
theorem dX2_exchangeIfShorter_29 : decode cX2_exchangeIfShorter 29 = .ok (.iload_n 3, 1) := by decide +kernel
theorem dX2_exchangeIfShorter_30 : decode cX2_exchangeIfShorter 30 = .ok (.if_icmp .ge 5, 3) := by decide +kernel
theorem dX2_exchangeIfShorter_33 : decode cX2_exchangeIfShorter 33 = .ok (.iconst 1, 1) := by decide +kernel
theorem dX2_exchangeIfShorter_34 : decode cX2_exchangeIfShorter 34 = .ok (.ireturn, 1) := by decide +kernel
theorem dX2_exchangeIfShorter_35 : decode cX2_exchangeIfShorter 35 = .ok (.aload_n 0, 1) := by decide +kernel
theorem dX2_exchangeIfShorter_36 : decode cX2_exchangeIfShorter 36 = .ok (.iload_n 1, 1) := by decide +kernel
theorem dX2_exchangeIfShorter_37 : decode cX2_exchangeIfShorter 37 = .ok (.iload_n 2, 1) := by decide +kernel
theorem dX2_exchangeIfShorter_38 : decode cX2_exchangeIfShorter 38 = .ok (.invokevirtual 90, 3) := by decide +kernel
theorem dX2_exchangeIfShorter_41 : decode cX2_exchangeIfShorter 41 = .ok (.iconst 0, 1) := by decide +kernel
theorem dX2_exchangeIfShorter_42 : decode cX2_exchangeIfShorter 42 = .ok (.ireturn, 1) := by decide +kernel
theorem dX2_exchangeOnce_0 : decode cX2_exchangeOnce 0 = .ok (.iconst 0, 1) := by decide +kernel
theorem dX2_exchangeOnce_1 : decode cX2_exchangeOnce 1 = .ok (.istore_n 1, 1) := by decide +kernel
theorem dX2_exchangeOnce_2 : decode cX2_exchangeOnce 2 = .ok (.iload_n 1, 1) := by decide +kernel
theorem dX2_exchangeOnce_3 : decode cX2_exchangeOnce 3 = .ok (.aload_n 0, 1) := by decide +kernel
theorem dX2_exchangeOnce_4 : decode cX2_exchangeOnce 4 = .ok (.getfield 40, 3) := by decide +kernel
theorem dX2_exchangeOnce_7 : decode cX2_exchangeOnce 7 = .ok (.if_icmp .ge 57, 3) := by decide +kernel
theorem dX2_exchangeOnce_10 : decode cX2_exchangeOnce 10 = .ok (.iload_n 1, 1) := by decide +kernel
theorem dX2_exchangeOnce_11 : decode cX2_exchangeOnce 11 = .ok (.iconst 1, 1) := by decide +kernel
theorem dX2_exchangeOnce_12 : decode cX2_exchangeOnce 12 = .ok (.iadd, 1) := by decide +kernel
theorem dX2_exchangeOnce_13 : decode cX2_exchangeOnce 13 = .ok (.istore_n 2, 1) := by decide +kernel
theorem dX2_exchangeOnce_14 : decode cX2_exchangeOnce 14 = .ok (.iload_n 2, 1) := by decide +kernel
theorem dX2_exchangeOnce_15 : decode cX2_exchangeOnce 15 = .ok (.aload_n 0, 1) := by decide +kernel
theorem dX2_exchangeOnce_16 : decode cX2_exchangeOnce 16 = .ok (.getfield 40, 3) := by decide +kernel
theorem dX2_exchangeOnce_19 : decode cX2_exchangeOnce 19 = .ok (.if_icmp .ge 39, 3) := by decide +kernel
theorem dX2_exchangeOnce_22 : decode cX2_exchangeOnce 22 = .ok (.aload_n 0, 1) := by decide +kernel
theorem dX2_exchangeOnce_23 : decode cX2_exchangeOnce 23 = .ok (.iload_n 1, 1) := by decide +kernel
theorem dX2_exchangeOnce_24 : decode cX2_exchangeOnce 24 = .ok (.iload_n 2, 1) := by decide +kernel
theorem dX2_exchangeOnce_25 : decode cX2_exchangeOnce 25 = .ok (.invokevirtual 81, 3) := by decide +kernel
theorem dX2_exchangeOnce_28 : decode cX2_exchangeOnce 28 = .ok (.ifCond .eq 24, 3) := by decide +kernel
theorem dX2_exchangeOnce_31 : decode cX2_exchangeOnce 31 = .ok (.aload_n 0, 1) := by decide +kernel
theorem dX2_exchangeOnce_32 : decode cX2_exchangeOnce 32 = .ok (.aload_n 0, 1) := by decide +kernel
theorem dX2_exchangeOnce_33 : decode cX2_exchangeOnce 33 = .ok (.getfield 28, 3) := by decide +kernel
theorem dX2_exchangeOnce_36 : decode cX2_exchangeOnce 36 = .ok (.iload_n 1, 1) := by decide +kernel
theorem dX2_exchangeOnce_37 : decode cX2_exchangeOnce 37 = .ok (.iaload, 1) := by decide +kernel
theorem dX2_exchangeOnce_38 : decode cX2_exchangeOnce 38 = .ok (.aload_n 0, 1) := by decide +kernel
theorem dX2_exchangeOnce_39 : decode cX2_exchangeOnce 39 = .ok (.getfield 28, 3) := by decide +kernel
theorem dX2_exchangeOnce_42 : decode cX2_exchangeOnce 42 = .ok (.iload_n 2, 1) := by decide +kernel
theorem dX2_exchangeOnce_43 : decode cX2_exchangeOnce 43 = .ok (.iaload, 1) := by decide +kernel
theorem dX2_exchangeOnce_44 : decode cX2_exchangeOnce 44 = .ok (.invokevirtual 84, 3) := by decide +kernel
theorem dX2_exchangeOnce_47 : decode cX2_exchangeOnce 47 = .ok (.ifCond .eq 5, 3) := by decide +kernel
theorem dX2_exchangeOnce_50 : decode cX2_exchangeOnce 50 = .ok (.iconst 1, 1) := by decide +kernel
theorem dX2_exchangeOnce_51 : decode cX2_exchangeOnce 51 = .ok (.ireturn, 1) := by decide +kernel
theorem dX2_exchangeOnce_52 : decode cX2_exchangeOnce 52 = .ok (.iinc 2 1, 3) := by decide +kernel
theorem dX2_exchangeOnce_55 : decode cX2_exchangeOnce 55 = .ok (.goto (-41), 3) := by decide +kernel
theorem dX2_exchangeOnce_58 : decode cX2_exchangeOnce 58 = .ok (.iinc 1 1, 3) := by decide +kernel
theorem dX2_exchangeOnce_61 : decode cX2_exchangeOnce 61 = .ok (.goto (-59), 3) := by decide +kernel
theorem dX2_exchangeOnce_64 : decode cX2_exchangeOnce 64 = .ok (.iconst 0, 1) := by decide +kernel
theorem dX2_exchangeOnce_65 : decode cX2_exchangeOnce 65 = .ok (.ireturn, 1) := by decide +kernel
theorem dX2_exchangeUpTo_0 : decode cX2_exchangeUpTo 0 = .ok (.iconst 0, 1) := by decide +kernel
theorem dX2_exchangeUpTo_1 : decode cX2_exchangeUpTo 1 = .ok (.istore_n 2, 1) := by decide +kernel
theorem dX2_exchangeUpTo_2 : decode cX2_exchangeUpTo 2 = .ok (.iload_n 2, 1) := by decide +kernel
theorem dX2_exchangeUpTo_3 : decode cX2_exchangeUpTo 3 = .ok (.iload_n 1, 1) := by decide +kernel
theorem dX2_exchangeUpTo_4 : decode cX2_exchangeUpTo 4 = .ok (.if_icmp .ge 18, 3) := by decide +kernel
theorem dX2_exchangeUpTo_7 : decode cX2_exchangeUpTo 7 = .ok (.aload_n 0, 1) := by decide +kernel
theorem dX2_exchangeUpTo_8 : decode cX2_exchangeUpTo 8 = .ok (.invokevirtual 77, 3) := by decide +kernel
theorem dX2_exchangeUpTo_11 : decode cX2_exchangeUpTo 11 = .ok (.ifCond .ne 5, 3) := by decide +kernel
theorem dX2_exchangeUpTo_14 : decode cX2_exchangeUpTo 14 = .ok (.iload_n 2, 1) := by decide +kernel
theorem dX2_exchangeUpTo_15 : decode cX2_exchangeUpTo 15 = .ok (.ireturn, 1) := by decide +kernel
theorem dX2_exchangeUpTo_16 : decode cX2_exchangeUpTo 16 = .ok (.iinc 2 1, 3) := by decide +kernel
theorem dX2_exchangeUpTo_19 : decode cX2_exchangeUpTo 19 = .ok (.goto (-17), 3) := by decide +kernel
theorem dX2_exchangeUpTo_22 : decode cX2_exchangeUpTo 22 = .ok (.iload_n 1, 1) := by decide +kernel
theorem dX2_exchangeUpTo_23 : decode cX2_exchangeUpTo 23 = .ok (.ireturn, 1) := by decide +kernel
theorem dX2_brokenRule_0 : decode cX2_brokenRule 0 = .ok (.iconst 0, 1) := by decide +kernel
theorem dX2_brokenRule_1 : decode cX2_brokenRule 1 = .ok (.istore_n 3, 1) := by decide +kernel
theorem dX2_brokenRule_2 : decode cX2_brokenRule 2 = .ok (.iconst 0, 1) := by decide +kernel
theorem dX2_brokenRule_3 : decode cX2_brokenRule 3 = .ok (.istore 4, 2) := by decide +kernel
theorem dX2_brokenRule_5 : decode cX2_brokenRule 5 = .ok (.iload 4, 2) := by decide +kernel
theorem dX2_brokenRule_7 : decode cX2_brokenRule 7 = .ok (.aload_n 0, 1) := by decide +kernel
theorem dX2_brokenRule_8 : decode cX2_brokenRule 8 = .ok (.getfield 40, 3) := by decide +kernel
theorem dX2_brokenRule_11 : decode cX2_brokenRule 11 = .ok (.if_icmp .ge 55, 3) := by decide +kernel
theorem dX2_brokenRule_14 : decode cX2_brokenRule 14 = .ok (.iconst 0, 1) := by decide +kernel
theorem dX2_brokenRule_15 : decode cX2_brokenRule 15 = .ok (.istore 5, 2) := by decide +kernel
theorem dX2_brokenRule_17 : decode cX2_brokenRule 17 = .ok (.iload 5, 2) := by decide +kernel
theorem dX2_brokenRule_19 : decode cX2_brokenRule 19 = .ok (.iconst 1, 1) := by decide +kernel
theorem dX2_brokenRule_20 : decode cX2_brokenRule 20 = .ok (.if_icmp .gt 40, 3) := by decide +kernel
theorem dX2_brokenRule_23 : decode cX2_brokenRule 23 = .ok (.aload_n 0, 1) := by decide +kernel
theorem dX2_brokenRule_24 : decode cX2_brokenRule 24 = .ok (.iload 4, 2) := by decide +kernel
theorem dX2_brokenRule_26 : decode cX2_brokenRule 26 = .ok (.iload 5, 2) := by decide +kernel
theorem dX2_brokenRule_28 : decode cX2_brokenRule 28 = .ok (.invokevirtual 94, 3) := by decide +kernel
theorem dX2_brokenRule_31 : decode cX2_brokenRule 31 = .ok (.ifCond .eq 23, 3) := by decide +kernel
theorem dX2_brokenRule_34 : decode cX2_brokenRule 34 = .ok (.iload_n 3, 1) := by decide +kernel
theorem dX2_brokenRule_35 : decode cX2_brokenRule 35 = .ok (.iload_n 1, 1) := by decide +kernel
theorem dX2_brokenRule_36 : decode cX2_brokenRule 36 = .ok (.if_icmp .ne 15, 3) := by decide +kernel
theorem dX2_brokenRule_39 : decode cX2_brokenRule 39 = .ok (.iload_n 2, 1) := by decide +kernel
theorem dX2_brokenRule_40 : decode cX2_brokenRule 40 = .ok (.ifCond .ne 8, 3) := by decide +kernel
theorem dX2_brokenRule_43 : decode cX2_brokenRule 43 = .ok (.iload 5, 2) := by decide +kernel
theorem dX2_brokenRule_45 : decode cX2_brokenRule 45 = .ok (.goto 5, 3) := by decide +kernel
theorem dX2_brokenRule_48 : decode cX2_brokenRule 48 = .ok (.iload 4, 2) := by decide +kernel
theorem dX2_brokenRule_50 : decode cX2_brokenRule 50 = .ok (.ireturn, 1) := by decide +kernel
theorem dX2_brokenRule_51 : decode cX2_brokenRule 51 = .ok (.iinc 3 1, 3) := by decide +kernel
theorem dX2_brokenRule_54 : decode cX2_brokenRule 54 = .ok (.iinc 5 1, 3) := by decide +kernel
theorem dX2_brokenRule_57 : decode cX2_brokenRule 57 = .ok (.goto (-40), 3) := by decide +kernel
theorem dX2_brokenRule_60 : decode cX2_brokenRule 60 = .ok (.iinc 4 1, 3) := by decide +kernel
theorem dX2_brokenRule_63 : decode cX2_brokenRule 63 = .ok (.goto (-58), 3) := by decide +kernel
theorem dX2_brokenRule_66 : decode cX2_brokenRule 66 = .ok (.iconst (-1), 1) := by decide +kernel
theorem dX2_brokenRule_67 : decode cX2_brokenRule 67 = .ok (.ireturn, 1) := by decide +kernel
set_option maxHeartbeats 4000000 in
set_option maxRecDepth 100000 in
theorem c_Rows_wholeWay (l : Launch) (dC : Nat → ClassId) (dI : Nat → Nat → Nat) (q : Nat → Nat) (cI cZ : ClassId) (sz : Nat) (r : RS) (hB : RB r) : Met l yX2_wholeWay (.code yX2_wholeWay cX2_wholeWay 4 (some .long) :: ALLG) ({ frames := 2, cells := 0, slots := 0, locals := 47 }) (va_Pc [.ref (q 0)] (cP (dC, dI) vwCl [(cI, .int), (cZ, .boolean)] (wR q cI cZ r) eT sz)) (va_Ql (fun (x : Int64) (_ : Unit) => x = lN (sumN (wb r) r.p)) (fun (_ : Unit) => cB (dC, dI) vwCl [(cI, .int), (cZ, .boolean)] (wR q cI cZ r) (va_A (wR q cI cZ r) sz)) (va_A (wR q cI cZ r) sz)) 0 0 (va_A (wR q cI cZ r) sz) := by
  refine xm_of (cc := cX2_wholeWay) (maxL := 4) (ret := some .long) (by decide) rfl (Nat.le_of_ble_eq_true rfl) ?_
  intro p e s m below meth c A hAe hx hb hr hml hts0 hown hlk hin hsz H locs hP hK hD hA hS hE ls hl
  have hts : ∀ w ∈ ALLG, w.before _ s = true := fun w h => hts0 w (List.mem_cons_of_mem _ h)
  rw [← hAe]
  have hB0 := hB
  have g1 := hB.1
  have g2 := hB.2.2.1
  have hl : lv_has ls 4 [(0, .ref (q 0))] := hl
  refine lv_lconst (v := 0) hx hb dX2_wholeWay_0 (by decide) ?_
  refine lv_lstore_n (lv' := [(1, .long 0), (0, .ref (q 0))]) hx hb dX2_wholeWay_1 rfl hl (by decide) rfl (fun ls hl => ?_)
  refine lv_iconst (v := nI 0) hx hb dX2_wholeWay_2 (by decide) ?_
  refine lv_istore_n (lv' := [(3, .int (nI 0)), (1, .long 0), (0, .ref (q 0))]) hx hb dX2_wholeWay_3 rfl hl (by decide) rfl (fun ls hl => ?_)
  have L4 : ∀ (fuel : Nat) (i : Nat), (i ≤ r.p) → r.p - i < fuel → ∀ (H : Heap) (locs : List Loc), va_P (dC, dI) vwCl (wR q cI cZ r) H → va_D A (wR q cI cZ r) → va_S A s.heap H locs → ∀ ls : Array Slot, lv_has ls 4 [(0, .ref (q 0)), (1, .long (lN (sumN (wb r) i))), (3, .int (nI i))] → W p l e ({ frames := 2, cells := 0, slots := 0, locals := 47 } : Room) s m ([.ref (q 0)] : List Value).toArray below meth c H locs 0 0 (MQ below (va_Ql (fun (x : Int64) (_ : Unit) => x = lN (sumN (wb r) r.p)) (fun (_ : Unit) => cB (dC, dI) vwCl [(cI, .int), (cZ, .boolean)] (wR q cI cZ r) (A)) (A)) ([.ref (q 0)] : List Value).toArray s 0 0 A) (F0 m 4 ls []) := by
    intro fuel
    induction fuel with
    | zero => intro i i1 hm H locs hP hD hS ls hl; exact absurd hm (Nat.not_lt_zero _)
    | succ fuel ih4 =>
      intro i i1 hm H locs hP hD hS ls hl
      refine lv_iload_n hx hb dX2_wholeWay_4 rfl (lv_at hl 2 rfl) ?_
      refine lv_aload_n hx hb dX2_wholeWay_5 rfl (lv_at hl 0 rfl) ?_
      refine va_get (D := (dC, dI)) (ci := 2) (v := .int (nI (RS.p r))) (C := RX2) (T := TX2) (N := 12) hx hb hts inX2 hown hK hP 0 rfl rfl 2 (by decide) (hts _ tw_32) (fun _ h9 => h9) rfl dX2_wholeWay_6 ?_
      refine xn_cge (tgt := 27) hx hb (by omega) (by omega) dX2_wholeWay_9 (by decide) (fun c_1 => ?_) (fun c_1 => ?_)
      · refine lv_lload_n hx hb dX2_wholeWay_27 rfl (lv_at hl 1 rfl) ?_
        exact xr_l hx hb hr hlk (u := ()) (by rw [show r.p = i by omega]) hP hK hD hS dX2_wholeWay_28
      · refine lv_lload_n hx hb dX2_wholeWay_12 rfl (lv_at hl 1 rfl) ?_
        refine lv_aload_n hx hb dX2_wholeWay_13 rfl (lv_at hl 0 rfl) ?_
        refine lv_iload_n hx hb dX2_wholeWay_14 rfl (lv_at hl 2 rfl) ?_
        refine xc_Vi (As := [.int (nI i)]) (wr := []) ⟨hx, hb, hml, hown, hts⟩ (c_Rows_wayBehind l dC dI q cI cZ H.size r i hB0 (by omega)) (cwV 1 hts (gV tw_149 tw_151 sw_0 tw_2 tw_152) rfl rfl rfl (by decide +kernel) ⟨Nat.le_of_ble_eq_true rfl, Nat.le_of_ble_eq_true rfl⟩) rfl hl.1 rfl (Nat.le_of_ble_eq_true rfl) dX2_wholeWay_15 ⟨Nat.zero_le _, Nat.zero_le _⟩ hP hD hK hS hA [0, 1, 2, 3, 4, 5, 6, 7, 8, 9] [] rfl rfl (by decide) (by decide) (by decide) [0, 1] rfl (q0 := 0) rfl rfl rfl eT_M (trivial) (fun r_2 u_3 H locs w_4 hP hD hS => ?_)
        obtain rfl := w_4
        have hP : va_P (dC, dI) vwCl (wR q cI cZ r) H := hP
        have hD : va_D A (wR q cI cZ r) := hD
        refine lv_i2l hx hb dX2_wholeWay_18 rfl ?_
        have g3 := wb_le hB0 i
        refine xt_l (show ((nI (wb r i)).toInt64) = (lN (wb r i)) from nI_l (by omega)) ?_
        refine lv_ladd hx hb dX2_wholeWay_19 ?_
        refine xt_l (show ((lN (sumN (wb r) i)) + (lN (wb r i))) = (lN (sumN (wb r) (i + 1))) from lN_add _ _) ?_
        refine lv_lstore_n (lv' := [(1, .long (lN (sumN (wb r) (i + 1)))), (0, .ref (q 0)), (3, .int (nI i))]) hx hb dX2_wholeWay_20 rfl hl (by decide) rfl (fun ls hl => ?_)
        refine lv_iinc (v := nI (i + 1)) (lv' := [(3, .int (nI (i + 1))), (1, .long (lN (sumN (wb r) (i + 1)))), (0, .ref (q 0))]) hx hb dX2_wholeWay_21 hl (k := 2) rfl (nI_1 _) (by decide) rfl (fun ls hl => ?_)
        refine lv_goto (tgt := 4) hx hb dX2_wholeWay_24 (by decide) ?_
        exact ih4 (i + 1) (by omega) (by omega) H locs hP hD hS ls (lv_sub hl [2, 1, 0] rfl)
  exact L4 ((r.p - 0) + 1) 0 (by omega) (Nat.lt_succ_self _) H locs hP hD hS ls (lv_sub hl [2, 1, 0] rfl)
set_option maxHeartbeats 4000000 in
set_option maxRecDepth 100000 in
theorem c_Rows_exchangeIfShorter (l : Launch) (dC : Nat → ClassId) (dI : Nat → Nat → Nat) (q : Nat → Nat) (cI cZ : ClassId) (sz : Nat) (r : RS) (i j : Nat) (hB : RB r) (h1 : i < 32) (h2 : j < 32) : Met l yX2_exchangeIfShorter (.code yX2_exchangeIfShorter cX2_exchangeIfShorter 4 (some .boolean) :: ALLG) ({ frames := 3, cells := 0, slots := 0, locals := 68 }) (va_Pc [.ref (q 0), .int (nI i), .int (nI j)] (cP (dC, dI) vwCl [(cI, .int), (cZ, .boolean)] (wR q cI cZ r) eT sz)) (va_Qi (fun (x : Int32) (u : RS) => x = nI (eis r i j).1 ∧ u = (eis r i j).2) (fun (u : RS) => cB (dC, dI) vwCl [(cI, .int), (cZ, .boolean)] (wR q cI cZ u) (va_A (wR q cI cZ r) sz)) (va_A (wR q cI cZ r) sz)) 0 0 (va_A (wR q cI cZ r) sz) := by
  refine xm_of (cc := cX2_exchangeIfShorter) (maxL := 4) (ret := some .boolean) (by decide) rfl (Nat.le_of_ble_eq_true rfl) ?_
  intro p e s m below meth c A hAe hx hb hr hml hts0 hown hlk hin hsz H locs hP hK hD hA hS hE ls hl
  have hts : ∀ w ∈ ALLG, w.before _ s = true := fun w h => hts0 w (List.mem_cons_of_mem _ h)
  rw [← hAe]
  have hB1 := RB_exch hB h1 h2
  have g1 := wa_le hB i
  have g2 := wa_le hB j
  have g3 := wa_le hB1 i
  have g4 := wa_le hB1 j
  have hl : lv_has ls 4 [(0, .ref (q 0)), (1, .int (nI i)), (2, .int (nI j))] := hl
  refine lv_aload_n hx hb dX2_exchangeIfShorter_0 rfl (lv_at hl 0 rfl) ?_
  refine lv_iload_n hx hb dX2_exchangeIfShorter_1 rfl (lv_at hl 1 rfl) ?_
  refine xc_Vi (As := [.int (nI i)]) (wr := []) ⟨hx, hb, hml, hown, hts⟩ (c_Rows_wayAround l dC dI q cI cZ H.size r i hB (by omega)) (cwV 1 hts (gV tw_375 tw_377 sw_10 tw_2 tw_378) rfl rfl rfl (by decide +kernel) ⟨Nat.le_of_ble_eq_true rfl, Nat.le_of_ble_eq_true rfl⟩) rfl hl.1 rfl (Nat.le_of_ble_eq_true rfl) dX2_exchangeIfShorter_2 ⟨Nat.zero_le _, Nat.zero_le _⟩ hP hD hK hS hA [0, 1, 2, 3, 4, 5, 6, 7, 8, 9] [] rfl rfl (by decide) (by decide) (by decide) [0, 1] rfl (q0 := 0) rfl rfl rfl eT_M (trivial) (fun r_1 u_2 H locs w_3 hP hD hS => ?_)
  obtain rfl := w_3
  have hP : va_P (dC, dI) vwCl (wR q cI cZ r) H := hP
  have hD : va_D A (wR q cI cZ r) := hD
  refine lv_aload_n hx hb dX2_exchangeIfShorter_5 rfl (lv_at hl 0 rfl) ?_
  refine lv_iload_n hx hb dX2_exchangeIfShorter_6 rfl (lv_at hl 2 rfl) ?_
  refine xc_Vi (As := [.int (nI j)]) (wr := []) ⟨hx, hb, hml, hown, hts⟩ (c_Rows_wayAround l dC dI q cI cZ H.size r j hB (by omega)) (cwV 1 hts (gV tw_375 tw_377 sw_10 tw_2 tw_378) rfl rfl rfl (by decide +kernel) ⟨Nat.le_of_ble_eq_true rfl, Nat.le_of_ble_eq_true rfl⟩) rfl hl.1 rfl (Nat.le_of_ble_eq_true rfl) dX2_exchangeIfShorter_7 ⟨Nat.zero_le _, Nat.zero_le _⟩ hP hD hK hS hA [0, 1, 2, 3, 4, 5, 6, 7, 8, 9] [] rfl rfl (by decide) (by decide) (by decide) [0, 1] rfl (q0 := 0) rfl rfl rfl eT_M (trivial) (fun r_4 u_5 H locs w_6 hP hD hS => ?_)
  obtain rfl := w_6
  have hP : va_P (dC, dI) vwCl (wR q cI cZ r) H := hP
  have hD : va_D A (wR q cI cZ r) := hD
  refine xn_add hx hb dX2_exchangeIfShorter_10 ?_
  refine lv_istore_n (lv' := [(3, .int (nI ((wa r i) + (wa r j)))), (0, .ref (q 0)), (1, .int (nI i)), (2, .int (nI j))]) hx hb dX2_exchangeIfShorter_11 rfl hl (by decide) rfl (fun ls hl => ?_)
  refine lv_aload_n hx hb dX2_exchangeIfShorter_12 rfl (lv_at hl 1 rfl) ?_
  refine lv_iload_n hx hb dX2_exchangeIfShorter_13 rfl (lv_at hl 2 rfl) ?_
  refine lv_iload_n hx hb dX2_exchangeIfShorter_14 rfl (lv_at hl 3 rfl) ?_
  refine xc_Vv (As := [.int (nI i), .int (nI j)]) (wr := []) ⟨hx, hb, hml, hown, hts⟩ (c_Rows_exchange l dC dI q cI cZ H.size r i j hB (by omega) (by omega)) (cwV 2 hts (gV tw_379 tw_381 sw_11 tw_2 tw_382) rfl rfl rfl (by decide +kernel) ⟨Nat.le_of_ble_eq_true rfl, Nat.le_of_ble_eq_true rfl⟩) rfl hl.1 rfl (Nat.le_of_ble_eq_true rfl) dX2_exchangeIfShorter_15 ⟨Nat.zero_le _, Nat.zero_le _⟩ hP hD hK hS hA [0, 1, 2, 3, 4, 5, 6, 7, 8, 9] [] rfl rfl (by decide) (by decide) (by decide) [0, 1] rfl (q0 := 0) rfl rfl rfl eT_M (trivial) (fun u_8 H locs w_9 hP hD hS => ?_)
  obtain rfl := w_9
  have hP : va_P (dC, dI) vwCl (wR q cI cZ (exch r i j)) H := hP
  have hD : va_D A (wR q cI cZ (exch r i j)) := hD
  refine lv_aload_n hx hb dX2_exchangeIfShorter_18 rfl (lv_at hl 1 rfl) ?_
  refine lv_iload_n hx hb dX2_exchangeIfShorter_19 rfl (lv_at hl 2 rfl) ?_
  refine xc_Vi (As := [.int (nI i)]) (wr := []) ⟨hx, hb, hml, hown, hts⟩ (c_Rows_wayAround l dC dI q cI cZ H.size (exch r i j) i hB1 (by omega)) (cwV 1 hts (gV tw_375 tw_377 sw_10 tw_2 tw_378) rfl rfl rfl (by decide +kernel) ⟨Nat.le_of_ble_eq_true rfl, Nat.le_of_ble_eq_true rfl⟩) rfl hl.1 rfl (Nat.le_of_ble_eq_true rfl) dX2_exchangeIfShorter_20 ⟨Nat.zero_le _, Nat.zero_le _⟩ hP hD hK hS hA [0, 1, 2, 3, 4, 5, 6, 7, 8, 9] [] rfl rfl (by decide) (by decide) (by decide) [0, 1] rfl (q0 := 0) rfl rfl rfl eT_M (trivial) (fun r_10 u_11 H locs w_12 hP hD hS => ?_)
  obtain rfl := w_12
  have hP : va_P (dC, dI) vwCl (wR q cI cZ (exch r i j)) H := hP
  have hD : va_D A (wR q cI cZ (exch r i j)) := hD
  refine lv_aload_n hx hb dX2_exchangeIfShorter_23 rfl (lv_at hl 1 rfl) ?_
  refine lv_iload_n hx hb dX2_exchangeIfShorter_24 rfl (lv_at hl 3 rfl) ?_
  refine xc_Vi (As := [.int (nI j)]) (wr := []) ⟨hx, hb, hml, hown, hts⟩ (c_Rows_wayAround l dC dI q cI cZ H.size (exch r i j) j hB1 (by omega)) (cwV 1 hts (gV tw_375 tw_377 sw_10 tw_2 tw_378) rfl rfl rfl (by decide +kernel) ⟨Nat.le_of_ble_eq_true rfl, Nat.le_of_ble_eq_true rfl⟩) rfl hl.1 rfl (Nat.le_of_ble_eq_true rfl) dX2_exchangeIfShorter_25 ⟨Nat.zero_le _, Nat.zero_le _⟩ hP hD hK hS hA [0, 1, 2, 3, 4, 5, 6, 7, 8, 9] [] rfl rfl (by decide) (by decide) (by decide) [0, 1] rfl (q0 := 0) rfl rfl rfl eT_M (trivial) (fun r_13 u_14 H locs w_15 hP hD hS => ?_)
  obtain rfl := w_15
  have hP : va_P (dC, dI) vwCl (wR q cI cZ (exch r i j)) H := hP
  have hD : va_D A (wR q cI cZ (exch r i j)) := hD
  refine xn_add hx hb dX2_exchangeIfShorter_28 ?_
  refine lv_iload_n hx hb dX2_exchangeIfShorter_29 rfl (lv_at hl 0 rfl) ?_
  refine xn_cge (tgt := 35) hx hb (by omega) (by omega) dX2_exchangeIfShorter_30 (by decide) (fun c_16 => ?_) (fun c_16 => ?_)
  · refine lv_aload_n hx hb dX2_exchangeIfShorter_35 rfl (lv_at hl 1 rfl) ?_
    refine lv_iload_n hx hb dX2_exchangeIfShorter_36 rfl (lv_at hl 2 rfl) ?_
    refine lv_iload_n hx hb dX2_exchangeIfShorter_37 rfl (lv_at hl 3 rfl) ?_
    refine xc_Vv (As := [.int (nI i), .int (nI j)]) (wr := []) ⟨hx, hb, hml, hown, hts⟩ (c_Rows_exchange l dC dI q cI cZ H.size (exch r i j) i j hB1 (by omega) (by omega)) (cwV 2 hts (gV tw_379 tw_381 sw_11 tw_2 tw_382) rfl rfl rfl (by decide +kernel) ⟨Nat.le_of_ble_eq_true rfl, Nat.le_of_ble_eq_true rfl⟩) rfl hl.1 rfl (Nat.le_of_ble_eq_true rfl) dX2_exchangeIfShorter_38 ⟨Nat.zero_le _, Nat.zero_le _⟩ hP hD hK hS hA [0, 1, 2, 3, 4, 5, 6, 7, 8, 9] [] rfl rfl (by decide) (by decide) (by decide) [0, 1] rfl (q0 := 0) rfl rfl rfl eT_M (trivial) (fun u_18 H locs w_19 hP hD hS => ?_)
    obtain rfl := w_19
    have hP : va_P (dC, dI) vwCl (wR q cI cZ (exch (exch r i j) i j)) H := hP
    have hD : va_D A (wR q cI cZ (exch (exch r i j) i j)) := hD
    refine lv_iconst (v := nI 0) hx hb dX2_exchangeIfShorter_41 (by decide) ?_
    exact xr_z hx hb hr hlk (by decide) (u := exch (exch r i j) i j) (⟨by unfold eis; rw [if_neg (by omega)], by unfold eis; rw [if_neg (by omega)]⟩) hP hK hD hS dX2_exchangeIfShorter_42
  · refine lv_iconst (v := nI 1) hx hb dX2_exchangeIfShorter_33 (by decide) ?_
    exact xr_z hx hb hr hlk (by decide) (u := exch r i j) (⟨by unfold eis; rw [if_pos (by omega)], by unfold eis; rw [if_pos (by omega)]⟩) hP hK hD hS dX2_exchangeIfShorter_34
set_option maxHeartbeats 4000000 in
set_option maxRecDepth 100000 in
theorem c_Rows_exchangeOnce (l : Launch) (dC : Nat → ClassId) (dI : Nat → Nat → Nat) (q : Nat → Nat) (cI cZ : ClassId) (sz : Nat) (r : RS) (hB : RB r) (hC : RC r) : Met l yX2_exchangeOnce (.code yX2_exchangeOnce cX2_exchangeOnce 3 (some .boolean) :: ALLG) ({ frames := 4, cells := 0, slots := 0, locals := 91 }) (va_Pc [.ref (q 0)] (cP (dC, dI) vwCl [(cI, .int), (cZ, .boolean)] (wR q cI cZ r) eT sz)) (va_Qi (fun (x : Int32) (u : RS) => onceR r x u) (fun (u : RS) => cB (dC, dI) vwCl [(cI, .int), (cZ, .boolean)] (wR q cI cZ u) (va_A (wR q cI cZ r) sz)) (va_A (wR q cI cZ r) sz)) 0 0 (va_A (wR q cI cZ r) sz) := by
  refine xm_of (cc := cX2_exchangeOnce) (maxL := 3) (ret := some .boolean) (by decide) rfl (Nat.le_of_ble_eq_true rfl) ?_
  intro p e s m below meth c A hAe hx hb hr hml hts0 hown hlk hin hsz H locs hP hK hD hA hS hE ls hl
  have hts : ∀ w ∈ ALLG, w.before _ s = true := fun w h => hts0 w (List.mem_cons_of_mem _ h)
  rw [← hAe]
  have hB0 := hB
  have b_n := hB.1
  have b_p := hB.2.2.1
  have hl : lv_has ls 3 [(0, .ref (q 0))] := hl
  refine lv_iconst (v := nI 0) hx hb dX2_exchangeOnce_0 (by decide) ?_
  refine lv_istore_n (lv' := [(1, .int (nI 0)), (0, .ref (q 0))]) hx hb dX2_exchangeOnce_1 rfl hl (by decide) rfl (fun ls hl => ?_)
  have L2 : ∀ (fuel : Nat) (i : Nat), (i ≤ r.n) → (∀ a' b', a' < i → a' < b' → b' < r.n → ¬ good r a' b') → r.n - i < fuel → ∀ (H : Heap) (locs : List Loc), va_P (dC, dI) vwCl (wR q cI cZ r) H → va_D A (wR q cI cZ r) → va_S A s.heap H locs → ∀ ls : Array Slot, lv_has ls 3 [(0, .ref (q 0)), (1, .int (nI i))] → W p l e ({ frames := 4, cells := 0, slots := 0, locals := 91 } : Room) s m ([.ref (q 0)] : List Value).toArray below meth c H locs 0 0 (MQ below (va_Qi (fun (x : Int32) (u : RS) => onceR r x u) (fun (u : RS) => cB (dC, dI) vwCl [(cI, .int), (cZ, .boolean)] (wR q cI cZ u) (A)) (A)) ([.ref (q 0)] : List Value).toArray s 0 0 A) (F0 m 2 ls []) := by
    intro fuel
    induction fuel with
    | zero => intro i i1 o1 hm H locs hP hD hS ls hl; exact absurd hm (Nat.not_lt_zero _)
    | succ fuel ih2 =>
      intro i i1 o1 hm H locs hP hD hS ls hl
      refine lv_iload_n hx hb dX2_exchangeOnce_2 rfl (lv_at hl 1 rfl) ?_
      refine lv_aload_n hx hb dX2_exchangeOnce_3 rfl (lv_at hl 0 rfl) ?_
      refine va_get (D := (dC, dI)) (ci := 2) (v := .int (nI (RS.n r))) (C := RX2) (T := TX2) (N := 12) hx hb hts inX2 hown hK hP 0 rfl rfl 0 (by decide) (hts _ tw_27) (fun _ h9 => h9) rfl dX2_exchangeOnce_4 ?_
      refine xn_cge (tgt := 64) hx hb (by omega) (by omega) dX2_exchangeOnce_7 (by decide) (fun c_1 => ?_) (fun c_1 => ?_)
      · refine lv_iconst (v := nI 0) hx hb dX2_exchangeOnce_64 (by decide) ?_
        exact xr_z hx hb hr hlk (by decide) (u := r) (Or.inr ⟨rfl, rfl, fun a' b' z1 z2 => o1 a' b' (by omega) z1 z2⟩) hP hK hD hS dX2_exchangeOnce_65
      · refine lv_iload_n hx hb dX2_exchangeOnce_10 rfl (lv_at hl 1 rfl) ?_
        refine lv_iconst (v := nI 1) hx hb dX2_exchangeOnce_11 (by decide) ?_
        refine xn_add hx hb dX2_exchangeOnce_12 ?_
        refine lv_istore_n (lv' := [(2, .int (nI (i + 1))), (0, .ref (q 0)), (1, .int (nI i))]) hx hb dX2_exchangeOnce_13 rfl hl (by decide) rfl (fun ls hl => ?_)
        have L14 : ∀ (fuel : Nat) (j : Nat), (i + 1 ≤ j) → (j ≤ r.n) → (∀ a' b', a' = i → a' < b' → b' < j → ¬ good r a' b') → r.n - j < fuel → ∀ (H : Heap) (locs : List Loc), va_P (dC, dI) vwCl (wR q cI cZ r) H → va_D A (wR q cI cZ r) → va_S A s.heap H locs → ∀ ls : Array Slot, lv_has ls 3 [(0, .ref (q 0)), (1, .int (nI i)), (2, .int (nI j))] → W p l e ({ frames := 4, cells := 0, slots := 0, locals := 91 } : Room) s m ([.ref (q 0)] : List Value).toArray below meth c H locs 0 0 (MQ below (va_Qi (fun (x : Int32) (u : RS) => onceR r x u) (fun (u : RS) => cB (dC, dI) vwCl [(cI, .int), (cZ, .boolean)] (wR q cI cZ u) (A)) (A)) ([.ref (q 0)] : List Value).toArray s 0 0 A) (F0 m 14 ls []) := by
          intro fuel
          induction fuel with
          | zero => intro j j1 j2 o2 hm H locs hP hD hS ls hl; exact absurd hm (Nat.not_lt_zero _)
          | succ fuel ih14 =>
            intro j j1 j2 o2 hm H locs hP hD hS ls hl
            refine lv_iload_n hx hb dX2_exchangeOnce_14 rfl (lv_at hl 2 rfl) ?_
            refine lv_aload_n hx hb dX2_exchangeOnce_15 rfl (lv_at hl 0 rfl) ?_
            refine va_get (D := (dC, dI)) (ci := 2) (v := .int (nI (RS.n r))) (C := RX2) (T := TX2) (N := 12) hx hb hts inX2 hown hK hP 0 rfl rfl 0 (by decide) (hts _ tw_27) (fun _ h9 => h9) rfl dX2_exchangeOnce_16 ?_
            refine xn_cge (tgt := 58) hx hb (by omega) (by omega) dX2_exchangeOnce_19 (by decide) (fun c_2 => ?_) (fun c_2 => ?_)
            · refine lv_iinc (v := nI (i + 1)) (lv' := [(1, .int (nI (i + 1))), (0, .ref (q 0)), (2, .int (nI j))]) hx hb dX2_exchangeOnce_58 hl (k := 1) rfl (nI_1 _) (by decide) rfl (fun ls hl => ?_)
              refine lv_goto (tgt := 2) hx hb dX2_exchangeOnce_61 (by decide) ?_
              exact ih2 (i + 1) (by omega) (fun a' b' z1 z2 z3 => (Nat.lt_succ_iff_lt_or_eq.mp z1).elim (fun z => o1 a' b' z z2 z3) (fun z => o2 a' b' z z2 (by omega))) (by omega) H locs hP hD hS ls (lv_sub hl [1, 0] rfl)
            · have g1 := mayN_le r i j
              refine lv_aload_n hx hb dX2_exchangeOnce_22 rfl (lv_at hl 0 rfl) ?_
              refine lv_iload_n hx hb dX2_exchangeOnce_23 rfl (lv_at hl 1 rfl) ?_
              refine lv_iload_n hx hb dX2_exchangeOnce_24 rfl (lv_at hl 2 rfl) ?_
              refine xc_Vi (As := [.int (nI i), .int (nI j)]) (wr := []) ⟨hx, hb, hml, hown, hts⟩ (c_Rows_mayExchange l dC dI q cI cZ H.size r i j hB0 (by omega) (by omega)) (cwV 2 hts (gV tw_367 tw_369 sw_8 tw_2 tw_370) rfl rfl rfl (by decide +kernel) ⟨Nat.le_of_ble_eq_true rfl, Nat.le_of_ble_eq_true rfl⟩) rfl hl.1 rfl (Nat.le_of_ble_eq_true rfl) dX2_exchangeOnce_25 ⟨Nat.zero_le _, Nat.zero_le _⟩ hP hD hK hS hA [0, 1, 2, 3, 4, 5, 6, 7, 8, 9] [] rfl rfl (by decide) (by decide) (by decide) [0, 1] rfl (q0 := 0) rfl rfl rfl eT_M (trivial) (fun r_3 u_4 H locs w_5 hP hD hS => ?_)
              obtain rfl := w_5
              have hP : va_P (dC, dI) vwCl (wR q cI cZ r) H := hP
              have hD : va_D A (wR q cI cZ r) := hD
              refine xn_zeq (tgt := 52) hx hb (by omega) dX2_exchangeOnce_28 (by decide) (fun c_6 => ?_) (fun c_6 => ?_)
              · have ng : ¬ good r i j := fun z => by have := c_6; rw [z.1] at this; cases this
                refine lv_iinc (v := nI (j + 1)) (lv' := [(2, .int (nI (j + 1))), (0, .ref (q 0)), (1, .int (nI i))]) hx hb dX2_exchangeOnce_52 hl (k := 2) rfl (nI_1 _) (by decide) rfl (fun ls hl => ?_)
                refine lv_goto (tgt := 14) hx hb dX2_exchangeOnce_55 (by decide) ?_
                exact ih14 (j + 1) (by omega) (by omega) (fun a' b' z1 z2 z3 => (Nat.lt_succ_iff_lt_or_eq.mp z3).elim (fun z => o2 a' b' z1 z2 z) (fun z => by rw [z1, z]; exact ng)) (by omega) H locs hP hD hS ls (lv_sub hl [1, 2, 0] rfl)
              · have mm := mayN_1 c_6
                have pa := pl_z hB0 mm.2.2.1
                have pb := pl_z hB0 mm.2.2.2
                have g2 := eis_le r (pl r i) (pl r j)
                refine lv_aload_n hx hb dX2_exchangeOnce_31 rfl (lv_at hl 0 rfl) ?_
                refine lv_aload_n hx hb dX2_exchangeOnce_32 rfl (lv_at hl 0 rfl) ?_
                refine va_get (D := (dC, dI)) (ci := 2) (v := .ref (q 6)) (C := RX2) (T := TX2) (N := 12) hx hb hts inX2 hown hK hP 0 rfl rfl 8 (by decide) (hts _ tw_39) (fun _ h9 => h9) rfl dX2_exchangeOnce_33 ?_
                refine lv_iload_n hx hb dX2_exchangeOnce_36 rfl (lv_at hl 1 rfl) ?_
                refine xa_ild hx hb hK hP 6 0 rfl rfl (v := zI ((RS.po r) i)) (by omega) (by decide) rfl dX2_exchangeOnce_37 ?_
                refine xt_i (show zI ((RS.po r) i) = nI (pl r i) from by rw [pa.1]; exact zI_nI _) ?_
                refine lv_aload_n hx hb dX2_exchangeOnce_38 rfl (lv_at hl 0 rfl) ?_
                refine va_get (D := (dC, dI)) (ci := 2) (v := .ref (q 6)) (C := RX2) (T := TX2) (N := 12) hx hb hts inX2 hown hK hP 0 rfl rfl 8 (by decide) (hts _ tw_39) (fun _ h9 => h9) rfl dX2_exchangeOnce_39 ?_
                refine lv_iload_n hx hb dX2_exchangeOnce_42 rfl (lv_at hl 2 rfl) ?_
                refine xa_ild hx hb hK hP 6 0 rfl rfl (v := zI ((RS.po r) j)) (by omega) (by decide) rfl dX2_exchangeOnce_43 ?_
                refine xt_i (show zI ((RS.po r) j) = nI (pl r j) from by rw [pb.1]; exact zI_nI _) ?_
                refine xc_Vi (As := [.int (nI (pl r i)), .int (nI (pl r j))]) (wr := []) ⟨hx, hb, hml, hown, hts⟩ (c_Rows_exchangeIfShorter l dC dI q cI cZ H.size r (pl r i) (pl r j) hB0 pa.2 pb.2) (cwV 2 hts (gV tw_371 tw_373 sw_9 tw_2 tw_374) rfl rfl rfl (by decide +kernel) ⟨Nat.le_of_ble_eq_true rfl, Nat.le_of_ble_eq_true rfl⟩) rfl hl.1 rfl (Nat.le_of_ble_eq_true rfl) dX2_exchangeOnce_44 ⟨Nat.zero_le _, Nat.zero_le _⟩ hP hD hK hS hA [0, 1, 2, 3, 4, 5, 6, 7, 8, 9] [] rfl rfl (by decide) (by decide) (by decide) [0, 1] rfl (q0 := 0) rfl rfl rfl eT_M (trivial) (fun r_7 u_8 H locs w_9 hP hD hS => ?_)
                obtain ⟨rfl, rfl⟩ := w_9
                have hP : va_P (dC, dI) vwCl (wR q cI cZ ((eis r (pl r i) (pl r j)).2)) H := hP
                have hD : va_D A (wR q cI cZ ((eis r (pl r i) (pl r j)).2)) := hD
                refine xn_zeq (tgt := 52) hx hb (by omega) dX2_exchangeOnce_47 (by decide) (fun c_10 => ?_) (fun c_10 => ?_)
                · have s9 : ¬ (wa (exch r (pl r i) (pl r j)) (pl r i) + wa (exch r (pl r i) (pl r j)) (pl r j) < wa r (pl r i) + wa r (pl r j)) := fun z => by have := c_10; unfold eis at this; rw [if_pos z] at this; cases this
                  have e9 : (eis r (pl r i) (pl r j)).2 = r := by unfold eis; rw [if_neg s9]; exact exch2 (RC_pl hB0 hC (by omega) mm.2.2.1) (RC_pl hB0 hC (by omega) mm.2.2.2)
                  rw [e9] at hP hD
                  have ng : ¬ good r i j := fun z => s9 z.2
                  refine lv_iinc (v := nI (j + 1)) (lv' := [(2, .int (nI (j + 1))), (0, .ref (q 0)), (1, .int (nI i))]) hx hb dX2_exchangeOnce_52 hl (k := 2) rfl (nI_1 _) (by decide) rfl (fun ls hl => ?_)
                  refine lv_goto (tgt := 14) hx hb dX2_exchangeOnce_55 (by decide) ?_
                  exact ih14 (j + 1) (by omega) (by omega) (fun a' b' z1 z2 z3 => (Nat.lt_succ_iff_lt_or_eq.mp z3).elim (fun z => o2 a' b' z1 z2 z) (fun z => by rw [z1, z]; exact ng)) (by omega) H locs hP hD hS ls (lv_sub hl [1, 2, 0] rfl)
                · have s9 : wa (exch r (pl r i) (pl r j)) (pl r i) + wa (exch r (pl r i) (pl r j)) (pl r j) < wa r (pl r i) + wa r (pl r j) := Decidable.byContradiction fun z => by have := c_10; unfold eis at this; rw [if_neg z] at this; exact absurd this (Nat.lt_irrefl 0)
                  refine lv_iconst (v := nI 1) hx hb dX2_exchangeOnce_50 (by decide) ?_
                  exact xr_z hx hb hr hlk (by decide) (u := (eis r (pl r i) (pl r j)).2) (Or.inl ⟨rfl, i, j, ⟨by omega, by omega, ⟨mm.1, s9⟩, fun a' b' z1 z2 z3 => z3.elim (fun z => o1 a' b' z z1 z2) (fun z => o2 a' b' z.1 z1 z.2)⟩, by unfold eis; rw [if_pos s9]⟩) hP hK hD hS dX2_exchangeOnce_51
        exact L14 ((r.n - (i + 1)) + 1) (i + 1) (Nat.le_refl _) (by omega) (fun a' b' z1 z2 z3 => absurd z3 (by omega)) (Nat.lt_succ_self _) H locs hP hD hS ls (lv_sub hl [1, 2, 0] rfl)
  exact L2 ((r.n - 0) + 1) 0 (Nat.zero_le _) (fun _ _ z => absurd z (Nat.not_lt_zero _)) (Nat.lt_succ_self _) H locs hP hD hS ls (lv_sub hl [1, 0] rfl)
set_option maxHeartbeats 4000000 in
set_option maxRecDepth 100000 in
theorem c_Rows_exchangeUpTo (l : Launch) (dC : Nat → ClassId) (dI : Nat → Nat → Nat) (q : Nat → Nat) (cI cZ : ClassId) (sz : Nat) (r : RS) (n0 : Nat) (hB : RB r) (hC : RC r) (h1 : n0 < 2 ^ 31) : Met l yX2_exchangeUpTo (.code yX2_exchangeUpTo cX2_exchangeUpTo 3 (some .int) :: ALLG) ({ frames := 5, cells := 0, slots := 0, locals := 113 }) (va_Pc [.ref (q 0), .int (nI n0)] (cP (dC, dI) vwCl [(cI, .int), (cZ, .boolean)] (wR q cI cZ r) eT sz)) (va_Qi (fun (x : Int32) (u : RS) => ∃ k, k ≤ n0 ∧ x = nI k ∧ impR n0 r k u) (fun (u : RS) => cB (dC, dI) vwCl [(cI, .int), (cZ, .boolean)] (wR q cI cZ u) (va_A (wR q cI cZ r) sz)) (va_A (wR q cI cZ r) sz)) 0 0 (va_A (wR q cI cZ r) sz) := by
  refine xm_of (cc := cX2_exchangeUpTo) (maxL := 3) (ret := some .int) (by decide) rfl (Nat.le_of_ble_eq_true rfl) ?_
  intro p e s m below meth c A hAe hx hb hr hml hts0 hown hlk hin hsz H locs hP hK hD hA hS hE ls hl
  have hts : ∀ w ∈ ALLG, w.before _ s = true := fun w h => hts0 w (List.mem_cons_of_mem _ h)
  rw [← hAe]
  have hl : lv_has ls 3 [(0, .ref (q 0)), (1, .int (nI n0))] := hl
  refine lv_iconst (v := nI 0) hx hb dX2_exchangeUpTo_0 (by decide) ?_
  refine lv_istore_n (lv' := [(2, .int (nI 0)), (0, .ref (q 0)), (1, .int (nI n0))]) hx hb dX2_exchangeUpTo_1 rfl hl (by decide) rfl (fun ls hl => ?_)
  have L2 : ∀ (fuel : Nat) (i : Nat) (v : RS), (i ≤ n0) → (RB v) → (RC v) → (∀ k u, impR (n0 - i) v k u → impR n0 r (i + k) u) → n0 - i < fuel → ∀ (H : Heap) (locs : List Loc), va_P (dC, dI) vwCl (wR q cI cZ v) H → va_D A (wR q cI cZ v) → va_S A s.heap H locs → ∀ ls : Array Slot, lv_has ls 3 [(0, .ref (q 0)), (1, .int (nI n0)), (2, .int (nI i))] → W p l e ({ frames := 5, cells := 0, slots := 0, locals := 113 } : Room) s m ([.ref (q 0), .int (nI n0)] : List Value).toArray below meth c H locs 0 0 (MQ below (va_Qi (fun (x : Int32) (u : RS) => ∃ k, k ≤ n0 ∧ x = nI k ∧ impR n0 r k u) (fun (u : RS) => cB (dC, dI) vwCl [(cI, .int), (cZ, .boolean)] (wR q cI cZ u) (A)) (A)) ([.ref (q 0), .int (nI n0)] : List Value).toArray s 0 0 A) (F0 m 2 ls []) := by
    intro fuel
    induction fuel with
    | zero => intro i v i1 hv1 hv2 o1 hm H locs hP hD hS ls hl; exact absurd hm (Nat.not_lt_zero _)
    | succ fuel ih2 =>
      intro i v i1 hv1 hv2 o1 hm H locs hP hD hS ls hl
      refine lv_iload_n hx hb dX2_exchangeUpTo_2 rfl (lv_at hl 2 rfl) ?_
      refine lv_iload_n hx hb dX2_exchangeUpTo_3 rfl (lv_at hl 1 rfl) ?_
      refine xn_cge (tgt := 22) hx hb (by omega) (by omega) dX2_exchangeUpTo_4 (by decide) (fun c_1 => ?_) (fun c_1 => ?_)
      · refine lv_iload_n hx hb dX2_exchangeUpTo_22 rfl (lv_at hl 1 rfl) ?_
        exact xr_i hx hb hr hlk (u := v) (⟨n0, Nat.le_refl _, rfl, by have h8 := o1 0 v (by rw [show n0 - i = 0 by omega]; exact ⟨rfl, rfl⟩); rw [show i + 0 = n0 by omega] at h8; exact h8⟩) hP hK hD hS dX2_exchangeUpTo_23
      · refine lv_aload_n hx hb dX2_exchangeUpTo_7 rfl (lv_at hl 0 rfl) ?_
        refine xc_Vi (As := []) (wr := []) ⟨hx, hb, hml, hown, hts⟩ (c_Rows_exchangeOnce l dC dI q cI cZ H.size v hv1 hv2) (cwV 0 hts (gV tw_363 tw_365 sw_7 tw_2 tw_366) rfl rfl rfl (by decide +kernel) ⟨Nat.le_of_ble_eq_true rfl, Nat.le_of_ble_eq_true rfl⟩) rfl hl.1 rfl (Nat.le_of_ble_eq_true rfl) dX2_exchangeUpTo_8 ⟨Nat.zero_le _, Nat.zero_le _⟩ hP hD hK hS hA [0, 1, 2, 3, 4, 5, 6, 7, 8, 9] [] rfl rfl (by decide) (by decide) (by decide) [0, 1] rfl (q0 := 0) rfl rfl rfl eT_M (trivial) (fun r_2 u_3 H locs w_4 hP hD hS => ?_)
        have hP : va_P (dC, dI) vwCl (wR q cI cZ u_3) H := hP
        have hD : va_D A (wR q cI cZ u_3) := hD
        rcases w_4 with ⟨rfl, h9⟩ | ⟨rfl, e8, h9⟩
        · skip
          refine xn_zne (tgt := 16) hx hb (by omega) dX2_exchangeUpTo_11 (by decide) (fun c_5 => ?_) (fun c_5 => ?_)
          · have ok9 := stepR_ok hv1 hv2 h9
            refine lv_iinc (v := nI (i + 1)) (lv' := [(2, .int (nI (i + 1))), (0, .ref (q 0)), (1, .int (nI n0))]) hx hb dX2_exchangeUpTo_16 hl (k := 2) rfl (nI_1 _) (by decide) rfl (fun ls hl => ?_)
            refine lv_goto (tgt := 2) hx hb dX2_exchangeUpTo_19 (by decide) ?_
            exact ih2 (i + 1) u_3 (by omega) ok9.1 ok9.2 (fun k u z => by rw [show i + 1 + k = i + (k + 1) by omega]; exact o1 _ _ (by rw [show n0 - i = (n0 - (i + 1)) + 1 by omega]; exact Or.inr ⟨_, _, h9, z, rfl⟩)) (by omega) H locs hP hD hS ls (lv_sub hl [1, 2, 0] rfl)
          · exact absurd (by assumption) (by decide)
        · skip
          rw [e8] at hP hD
          refine xn_zne (tgt := 16) hx hb (by omega) dX2_exchangeUpTo_11 (by decide) (fun c_6 => ?_) (fun c_6 => ?_)
          · exact absurd (by assumption) (Nat.lt_irrefl 0)
          · refine lv_iload_n hx hb dX2_exchangeUpTo_14 rfl (lv_at hl 2 rfl) ?_
            exact xr_i hx hb hr hlk (u := v) (⟨i, i1, rfl, o1 0 v (impR_no h9)⟩) hP hK hD hS dX2_exchangeUpTo_15
  exact L2 ((n0 - 0) + 1) 0 r (Nat.zero_le _) hB hC (fun k u z => by rw [Nat.zero_add]; exact z) (Nat.lt_succ_self _) H locs hP hD hS ls (lv_sub hl [1, 2, 0] rfl)
set_option maxHeartbeats 4000000 in
set_option maxRecDepth 100000 in
theorem c_Rows_brokenRule (l : Launch) (dC : Nat → ClassId) (dI : Nat → Nat → Nat) (q : Nat → Nat) (cI cZ : ClassId) (sz : Nat) (r : RS) (k0 w0 : Nat) (hB : RB r) (h1 : k0 < 2 ^ 31) (h2 : w0 < 2) : Met l yX2_brokenRule (.code yX2_brokenRule cX2_brokenRule 6 (some .int) :: ALLG) ({ frames := 1, cells := 0, slots := 0, locals := 22 }) (va_Pc [.ref (q 0), .int (nI k0), .int (nI w0)] (cP (dC, dI) vwCl [(cI, .int), (cZ, .boolean)] (wR q cI cZ r) eT sz)) (va_Qi (fun (x : Int32) (_ : Unit) => rulR (brT r) (2 * r.n) k0 w0 x) (fun (_ : Unit) => cB (dC, dI) vwCl [(cI, .int), (cZ, .boolean)] (wR q cI cZ r) (va_A (wR q cI cZ r) sz)) (va_A (wR q cI cZ r) sz)) 0 0 (va_A (wR q cI cZ r) sz) := by
  refine xm_of (cc := cX2_brokenRule) (maxL := 6) (ret := some .int) (by decide) rfl (Nat.le_of_ble_eq_true rfl) ?_
  intro p e s m below meth c A hAe hx hb hr hml hts0 hown hlk hin hsz H locs hP hK hD hA hS hE ls hl
  have hts : ∀ w ∈ ALLG, w.before _ s = true := fun w h => hts0 w (List.mem_cons_of_mem _ h)
  rw [← hAe]
  have hB0 := hB
  have b_n := hB.1
  have hl : lv_has ls 6 [(0, .ref (q 0)), (1, .int (nI k0)), (2, .int (nI w0))] := hl
  refine lv_iconst (v := nI 0) hx hb dX2_brokenRule_0 (by decide) ?_
  refine lv_istore_n (lv' := [(3, .int (nI 0)), (0, .ref (q 0)), (1, .int (nI k0)), (2, .int (nI w0))]) hx hb dX2_brokenRule_1 rfl hl (by decide) rfl (fun ls hl => ?_)
  refine lv_iconst (v := nI 0) hx hb dX2_brokenRule_2 (by decide) ?_
  refine lv_istore (lv' := [(4, .int (nI 0)), (3, .int (nI 0)), (0, .ref (q 0)), (1, .int (nI k0)), (2, .int (nI w0))]) hx hb dX2_brokenRule_3 hl (by decide) rfl (fun ls hl => ?_)
  have L5 : ∀ (fuel : Nat) (i : Nat) (bf : Nat), (i ≤ r.n) → (bf = sumN (brT r) (2 * i)) → (∀ t, t < 2 * i → ¬ (brT r t = 1 ∧ sumN (brT r) t = k0)) → r.n - i < fuel → ∀ (H : Heap) (locs : List Loc), va_P (dC, dI) vwCl (wR q cI cZ r) H → va_D A (wR q cI cZ r) → va_S A s.heap H locs → ∀ ls : Array Slot, lv_has ls 6 [(0, .ref (q 0)), (1, .int (nI k0)), (2, .int (nI w0)), (3, .int (nI bf)), (4, .int (nI i))] → W p l e ({ frames := 1, cells := 0, slots := 0, locals := 22 } : Room) s m ([.ref (q 0), .int (nI k0), .int (nI w0)] : List Value).toArray below meth c H locs 0 0 (MQ below (va_Qi (fun (x : Int32) (_ : Unit) => rulR (brT r) (2 * r.n) k0 w0 x) (fun (_ : Unit) => cB (dC, dI) vwCl [(cI, .int), (cZ, .boolean)] (wR q cI cZ r) (A)) (A)) ([.ref (q 0), .int (nI k0), .int (nI w0)] : List Value).toArray s 0 0 A) (F0 m 5 ls []) := by
    intro fuel
    induction fuel with
    | zero => intro i bf i1 e1 o1 hm H locs hP hD hS ls hl; exact absurd hm (Nat.not_lt_zero _)
    | succ fuel ih5 =>
      intro i bf i1 e1 o1 hm H locs hP hD hS ls hl
      refine lv_iload hx hb dX2_brokenRule_5 (lv_at hl 4 rfl) ?_
      refine lv_aload_n hx hb dX2_brokenRule_7 rfl (lv_at hl 0 rfl) ?_
      refine va_get (D := (dC, dI)) (ci := 2) (v := .int (nI (RS.n r))) (C := RX2) (T := TX2) (N := 12) hx hb hts inX2 hown hK hP 0 rfl rfl 0 (by decide) (hts _ tw_27) (fun _ h9 => h9) rfl dX2_brokenRule_8 ?_
      refine xn_cge (tgt := 66) hx hb (by omega) (by omega) dX2_brokenRule_11 (by decide) (fun c_1 => ?_) (fun c_1 => ?_)
      · refine lv_iconst (v := zI (-1)) hx hb dX2_brokenRule_66 (by decide) ?_
        exact xr_i hx hb hr hlk (u := ()) (Or.inr ⟨fun t z => o1 t (by omega), rfl⟩) hP hK hD hS dX2_brokenRule_67
      · refine lv_iconst (v := nI 0) hx hb dX2_brokenRule_14 (by decide) ?_
        refine lv_istore (lv' := [(5, .int (nI 0)), (0, .ref (q 0)), (1, .int (nI k0)), (2, .int (nI w0)), (3, .int (nI bf)), (4, .int (nI i))]) hx hb dX2_brokenRule_15 hl (by decide) rfl (fun ls hl => ?_)
        have L17 : ∀ (fuel : Nat) (j : Nat) (bf : Nat), (j ≤ 2) → (bf = sumN (brT r) (2 * i + j)) → (∀ t, t < 2 * i + j → ¬ (brT r t = 1 ∧ sumN (brT r) t = k0)) → 2 - j < fuel → ∀ (H : Heap) (locs : List Loc), va_P (dC, dI) vwCl (wR q cI cZ r) H → va_D A (wR q cI cZ r) → va_S A s.heap H locs → ∀ ls : Array Slot, lv_has ls 6 [(0, .ref (q 0)), (1, .int (nI k0)), (2, .int (nI w0)), (3, .int (nI bf)), (4, .int (nI i)), (5, .int (nI j))] → W p l e ({ frames := 1, cells := 0, slots := 0, locals := 22 } : Room) s m ([.ref (q 0), .int (nI k0), .int (nI w0)] : List Value).toArray below meth c H locs 0 0 (MQ below (va_Qi (fun (x : Int32) (_ : Unit) => rulR (brT r) (2 * r.n) k0 w0 x) (fun (_ : Unit) => cB (dC, dI) vwCl [(cI, .int), (cZ, .boolean)] (wR q cI cZ r) (A)) (A)) ([.ref (q 0), .int (nI k0), .int (nI w0)] : List Value).toArray s 0 0 A) (F0 m 17 ls []) := by
          intro fuel
          induction fuel with
          | zero => intro j bf j2 e2 o2 hm H locs hP hD hS ls hl; exact absurd hm (Nat.not_lt_zero _)
          | succ fuel ih17 =>
            intro j bf j2 e2 o2 hm H locs hP hD hS ls hl
            refine lv_iload hx hb dX2_brokenRule_17 (lv_at hl 5 rfl) ?_
            refine lv_iconst (v := nI 1) hx hb dX2_brokenRule_19 (by decide) ?_
            refine xn_cgt (tgt := 60) hx hb (by omega) (by omega) dX2_brokenRule_20 (by decide) (fun c_2 => ?_) (fun c_2 => ?_)
            · refine lv_iinc (v := nI (i + 1)) (lv' := [(4, .int (nI (i + 1))), (0, .ref (q 0)), (1, .int (nI k0)), (2, .int (nI w0)), (3, .int (nI bf)), (5, .int (nI j))]) hx hb dX2_brokenRule_60 hl (k := 4) rfl (nI_1 _) (by decide) rfl (fun ls hl => ?_)
              refine lv_goto (tgt := 5) hx hb dX2_brokenRule_63 (by decide) ?_
              exact ih5 (i + 1) bf (by omega) (by rw [e2, show 2 * (i + 1) = 2 * i + j by omega]) (fun t z => o2 t (by omega)) (by omega) H locs hP hD hS ls (lv_sub hl [1, 2, 3, 4, 0] rfl)
            · have g1 := brk_le hB0 i j
              have g2 := sumN_le (brk_le' hB0) (2 * i + j)
              have eT : brT r (2 * i + j) = brk r i j := by unfold brT; rw [show (2 * i + j) / 2 = i by omega, show (2 * i + j) % 2 = j by omega]
              have eS : sumN (brT r) (2 * i + j + 1) = sumN (brT r) (2 * i + j) + brk r i j := by rw [← eT]; rfl
              refine lv_aload_n hx hb dX2_brokenRule_23 rfl (lv_at hl 0 rfl) ?_
              refine lv_iload hx hb dX2_brokenRule_24 (lv_at hl 4 rfl) ?_
              refine lv_iload hx hb dX2_brokenRule_26 (lv_at hl 5 rfl) ?_
              refine xc_Vi (As := [.int (nI i), .int (nI j)]) (wr := []) ⟨hx, hb, hml, hown, hts⟩ (c_Rows_breaks l dC dI q cI cZ H.size r i j hB0 (by omega) (by omega)) (cwV 2 hts (gV tw_395 tw_397 sw_12 tw_2 tw_398) rfl rfl rfl (by decide +kernel) ⟨Nat.le_of_ble_eq_true rfl, Nat.le_of_ble_eq_true rfl⟩) rfl hl.1 rfl (Nat.le_of_ble_eq_true rfl) dX2_brokenRule_28 ⟨Nat.zero_le _, Nat.zero_le _⟩ hP hD hK hS hA [0, 1, 2, 3, 4, 5, 6, 7, 8, 9] [] rfl rfl (by decide) (by decide) (by decide) [0, 1] rfl (q0 := 0) rfl rfl rfl eT_M (trivial) (fun r_3 u_4 H locs w_5 hP hD hS => ?_)
              obtain rfl := w_5
              have hP : va_P (dC, dI) vwCl (wR q cI cZ r) H := hP
              have hD : va_D A (wR q cI cZ r) := hD
              refine xn_zeq (tgt := 54) hx hb (by omega) dX2_brokenRule_31 (by decide) (fun c_6 => ?_) (fun c_6 => ?_)
              · refine lv_iinc (v := nI (j + 1)) (lv' := [(5, .int (nI (j + 1))), (0, .ref (q 0)), (1, .int (nI k0)), (2, .int (nI w0)), (3, .int (nI bf)), (4, .int (nI i))]) hx hb dX2_brokenRule_54 hl (k := 5) rfl (nI_1 _) (by decide) rfl (fun ls hl => ?_)
                refine lv_goto (tgt := 17) hx hb dX2_brokenRule_57 (by decide) ?_
                exact ih17 (j + 1) bf (by omega) (by rw [show 2 * i + (j + 1) = 2 * i + j + 1 by omega, eS]; omega) (fun t z => (Nat.lt_succ_iff_lt_or_eq.mp (show t < 2 * i + j + 1 by omega)).elim (fun y => o2 t y) (fun y => by rw [y, eT]; omega)) (by omega) H locs hP hD hS ls (lv_sub hl [1, 2, 3, 4, 5, 0] rfl)
              · refine lv_iload_n hx hb dX2_brokenRule_34 rfl (lv_at hl 3 rfl) ?_
                refine lv_iload_n hx hb dX2_brokenRule_35 rfl (lv_at hl 1 rfl) ?_
                refine xn_cne (tgt := 51) hx hb (by omega) (by omega) dX2_brokenRule_36 (by decide) (fun c_7 => ?_) (fun c_7 => ?_)
                · refine lv_iinc (v := nI (bf + 1)) (lv' := [(3, .int (nI (bf + 1))), (0, .ref (q 0)), (1, .int (nI k0)), (2, .int (nI w0)), (4, .int (nI i)), (5, .int (nI j))]) hx hb dX2_brokenRule_51 hl (k := 3) rfl (nI_1 _) (by decide) rfl (fun ls hl => ?_)
                  refine lv_iinc (v := nI (j + 1)) (lv' := [(5, .int (nI (j + 1))), (3, .int (nI (bf + 1))), (0, .ref (q 0)), (1, .int (nI k0)), (2, .int (nI w0)), (4, .int (nI i))]) hx hb dX2_brokenRule_54 hl (k := 5) rfl (nI_1 _) (by decide) rfl (fun ls hl => ?_)
                  refine lv_goto (tgt := 17) hx hb dX2_brokenRule_57 (by decide) ?_
                  exact ih17 (j + 1) (bf + 1) (by omega) (by rw [show 2 * i + (j + 1) = 2 * i + j + 1 by omega, eS]; omega) (fun t z => (Nat.lt_succ_iff_lt_or_eq.mp (show t < 2 * i + j + 1 by omega)).elim (fun y => o2 t y) (fun y => by rw [y, eT]; omega)) (by omega) H locs hP hD hS ls (lv_sub hl [2, 3, 4, 1, 5, 0] rfl)
                · refine lv_iload_n hx hb dX2_brokenRule_39 rfl (lv_at hl 2 rfl) ?_
                  refine xn_zne (tgt := 48) hx hb (by omega) dX2_brokenRule_40 (by decide) (fun c_8 => ?_) (fun c_8 => ?_)
                  · refine lv_iload hx hb dX2_brokenRule_48 (lv_at hl 4 rfl) ?_
                    exact xr_i hx hb hr hlk (u := ()) (Or.inl ⟨2 * i + j, by omega, by rw [eT]; omega, by omega, by rw [if_neg (by omega), show (2 * i + j) / 2 = i by omega]⟩) hP hK hD hS dX2_brokenRule_50
                  · refine lv_iload hx hb dX2_brokenRule_43 (lv_at hl 5 rfl) ?_
                    refine lv_goto (tgt := 50) hx hb dX2_brokenRule_45 (by decide) ?_
                    exact xr_i hx hb hr hlk (u := ()) (Or.inl ⟨2 * i + j, by omega, by rw [eT]; omega, by omega, by rw [if_pos (by omega), show (2 * i + j) % 2 = j by omega]⟩) hP hK hD hS dX2_brokenRule_50
        exact L17 ((2 - 0) + 1) 0 bf (by decide) e1 o1 (Nat.lt_succ_self _) H locs hP hD hS ls (lv_sub hl [1, 2, 3, 4, 5, 0] rfl)
  exact L5 ((r.n - 0) + 1) 0 0 (Nat.zero_le _) rfl (fun t z => absurd z (by omega)) (Nat.lt_succ_self _) H locs hP hD hS ls (lv_sub hl [2, 3, 4, 1, 0] rfl)
