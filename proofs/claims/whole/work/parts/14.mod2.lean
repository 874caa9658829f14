/-! the reference: travel, exchanges, rules, chains -/
theorem neg_zI {z : Int} (h1 : -1073741824 ≤ z) (h2 : z ≤ 1073741824) (h : ¬ 0 ≤ z) : -zI z = nI z.natAbs := by
  have e : -zI z = zI 0 - zI z := by rw [show zI 0 = (0 : Int32) from rfl]; simp
  rw [e, zI_sub, ← zI_nI]
  congr 1
  omega
theorem pos_zI {z : Int} (h : 0 ≤ z) : zI z = nI z.natAbs := by rw [← zI_nI, Int.natAbs_of_nonneg h]
theorem zI_0le {z : Int} (h1 : -1073741824 ≤ z) (h2 : z ≤ 1073741824) : (0 : Int32) ≤ zI z ↔ 0 ≤ z := by
  rw [show (0 : Int32) = zI 0 from rfl]; exact zI_le (by decide) (by decide) (by omega) (by omega)
def pm (y : MS) (t : Nat) : Nat := (plF y.rw t y.p).toNat
def mGood (y : MS) (a b : Nat) : Prop := plF y.rw a y.p ≠ -1 ∧ plF y.rw b y.p ≠ -1 ∧ y.ck a = y.ck b ∧ trC (mX y (pm y a) (pm y b)) y.c < trC y y.c
def mPair (y : MS) (a b : Nat) : Prop := a < b ∧ b < y.n ∧ mGood y a b ∧ ∀ a' b', a' < b' → b' < y.n → (a' < a ∨ (a' = a ∧ b' < b)) → ¬ mGood y a' b'
def mNo (y : MS) : Prop := ∀ a b, a < b → b < y.n → ¬ mGood y a b
def mStepR (y u : MS) : Prop := ∃ a b, mPair y a b ∧ u = mX y (pm y a) (pm y b)
def mOnce (y : MS) (x : Int32) (u : MS) : Prop := (x = nI 1 ∧ mStepR y u) ∨ (x = nI 0 ∧ u = y ∧ mNo y)
def mImpR : Nat → MS → Nat → MS → Prop
  | 0, y, k, u => k = 0 ∧ u = y
  | s + 1, y, k, u => (mNo y ∧ k = 0 ∧ u = y) ∨ ∃ y1 k1, mStepR y y1 ∧ mImpR s y1 k1 u ∧ k = k1 + 1
theorem mImpR_no {s : Nat} {y : MS} (h : mNo y) : mImpR s y 0 y := by
  cases s with
  | zero => exact ⟨rfl, rfl⟩
  | succ s => exact Or.inl ⟨h, rfl, rfl⟩
theorem pm_z {y : MS} {t : Nat} (h : plF y.rw t y.p ≠ -1) : plF y.rw t y.p = (pm y t : Int) ∧ pm y t < y.p := by
  have h1 := plF_b y.rw t y.p
  unfold pm; omega
theorem MB_rw {y : MS} {g : Nat → Nat} (h : MB y) (hg : ∀ k, g k < 32) : MB (y.s_rw g) := ⟨RB_rw h.1 hg, h.2⟩
theorem MB_mX {y : MS} (h : MB y) (i j : Nat) : MB (mX y i j) := MB_rw h (up_lt (up_lt h.1.2.2.2.2.2.2.2.2.2.1 (h.1.2.2.2.2.2.2.2.2.2.1 _) _) (h.1.2.2.2.2.2.2.2.2.2.1 _) _)
theorem mStepR_ok {y u : MS} (h : MB y) (hs : mStepR y u) : MB u ∧ (u.n = y.n ∧ u.c = y.c ∧ u.st = y.st ∧ u.p = y.p) := by
  obtain ⟨a, b, -, rfl⟩ := hs
  exact ⟨MB_mX h _ _, rfl, rfl, rfl, rfl⟩
def mono (y : MS) : Prop := ∀ i, i < y.c → y.st i ≤ y.st (i + 1)
def mB (y : MS) (t : Nat) : Nat := if t % 2 = 0 then y.fl (t / 2) else if plF y.rw (t / 2) y.p = -1 then 1 else 0
theorem mB_le {y : MS} (h : MB y) (t : Nat) : mB y t ≤ 1 := by
  have := h.1.2.2.2.2.2.2.2.1 (t / 2)
  have e : (toR y).fl = y.fl := rfl
  rw [e] at this
  unfold mB; split
  · omega
  · split <;> omega
/-- k places, from the last one on, have the value of the place before -/
def mvL (y : MS) (t : Nat) : Nat → (Nat → Nat)
  | 0 => y.vb
  | k + 1 => va_up (mvL y t k) (y.rw (t - 1 - k)) (mvL y t k (y.rw (t - 1 - k - 1)))
def mvO (y : MS) (f t : Nat) : Nat := if f = t then 0 else y.vb (y.rw (t - 1))
def mvV (y : MS) (f t b : Nat) : Nat → Nat := if f = t then y.vb else va_up (mvL y t (t - 1 - f)) (y.rw f) b
theorem mvL_lt {y : MS} (h : ∀ z, y.vb z < 2) (t k : Nat) : ∀ z, mvL y t k z < 2 := by
  induction k with
  | zero => exact h
  | succ k ih => exact up_lt ih (ih _) _
theorem mvV_lt {y : MS} (h : ∀ z, y.vb z < 2) {f t b : Nat} (hb : b < 2) : ∀ z, mvV y f t b z < 2 := by
  intro z; unfold mvV; split
  · exact h z
  · exact up_lt (mvL_lt h t _) hb _ z
def msC (y : MS) (bits : Int32) : Nat → Int32 × (Nat → Nat)
  | 0 => (nI 0, y.vb)
  | i + 1 => ((msC y bits i).1 ||| (nI (mvO (y.s_vb (msC y bits i).2) (y.st i) (y.st (i + 1))) <<< (nI i &&& 31)), mvV (y.s_vb (msC y bits i).2) (y.st i) (y.st (i + 1)) (sbit bits i))
theorem msC_lt {y : MS} (h : ∀ z, y.vb z < 2) (bits : Int32) (i : Nat) : ∀ z, (msC y bits i).2 z < 2 := by
  induction i with
  | zero => exact h
  | succ i ih => exact mvV_lt (y := y.s_vb (msC y bits i).2) ih (sbit_lt bits i)
theorem MB_vb {y : MS} {v : Nat → Nat} (h : MB y) (hv : ∀ z, v z < 2) : MB (y.s_vb v) := ⟨RB_vb h.1 hv, h.2⟩
theorem MB_th {y : MS} (h : MB y) (t : Nat) : MB (y.s_th t) := h
theorem hcN_k {ch c : Nat} (h : ch < c) (hc : c ≤ 32) : hcN (nI ch) c = 1 := by
  unfold hcN; rw [if_pos ⟨nI_pos (by omega), nI_lt h (by omega)⟩]
theorem hcN_le (v : Int32) (c : Nat) : hcN v c ≤ 1 := by unfold hcN; split <;> omega
theorem trC_th (y : MS) (t i : Nat) : trC (y.s_th t) i = trC y i := by
  induction i with
  | zero => rfl
  | succ i ih => show trC (y.s_th t) i + _ = trC y i + _; rw [ih]; rfl
theorem sw_26 : Cond.selects "ScanRowsModel" (⟨"ScanRowsModel", "isChain", "(I)Z"⟩ : MethodName) (⟨"ScanRowsModel", "isChain", "(I)Z"⟩ : MethodName) ∈ ALLG := al_s (i := 26) (by decide +kernel) (by decide +kernel)
theorem sw_27 : Cond.selects "ScanRowsModel" (⟨"ScanRowsModel", "allTravel", "()I"⟩ : MethodName) (⟨"ScanRowsModel", "allTravel", "()I"⟩ : MethodName) ∈ ALLG := al_s (i := 27) (by decide +kernel) (by decide +kernel)
theorem sw_29 : Cond.selects "ScanRowsModel" (⟨"ScanRowsModel", "placeOf", "(I)I"⟩ : MethodName) (⟨"ScanRowsModel", "placeOf", "(I)I"⟩ : MethodName) ∈ ALLG := al_s (i := 29) (by decide +kernel) (by decide +kernel)
theorem sw_30 : Cond.selects "ScanRowsModel" (⟨"ScanRowsModel", "exchange", "(II)V"⟩ : MethodName) (⟨"ScanRowsModel", "exchange", "(II)V"⟩ : MethodName) ∈ ALLG := al_s (i := 30) (by decide +kernel) (by decide +kernel)
theorem tw_664 : (Cond.methodLink "ScanRowsModel" (80 : Nat) ({ cls := "ScanRowsModel", name := "isChain", desc := "(I)Z" } : Jvm.MethodName)) ∈ ALLG := al_t (i := 664) (by decide +kernel) (by decide +kernel)
theorem tw_666 : (Cond.instanceMethod ({ cls := "ScanRowsModel", name := "isChain", desc := "(I)Z" } : Jvm.MethodName)) ∈ ALLG := al_t (i := 666) (by decide +kernel) (by decide +kernel)
theorem tw_667 : (Cond.code ({ cls := "ScanRowsModel", name := "isChain", desc := "(I)Z" } : Jvm.MethodName) prog_6_method_4_code (2 : Nat) (Option.some FieldType.boolean)) ∈ ALLG := al_t (i := 667) (by decide +kernel) (by decide +kernel)
theorem tw_676 : (Cond.methodLink "ScanRowsModel" (88 : Nat) ({ cls := "ScanRowsModel", name := "allTravel", desc := "()I" } : Jvm.MethodName)) ∈ ALLG := al_t (i := 676) (by decide +kernel) (by decide +kernel)
theorem tw_678 : (Cond.instanceMethod ({ cls := "ScanRowsModel", name := "allTravel", desc := "()I" } : Jvm.MethodName)) ∈ ALLG := al_t (i := 678) (by decide +kernel) (by decide +kernel)
theorem tw_679 : (Cond.code ({ cls := "ScanRowsModel", name := "allTravel", desc := "()I" } : Jvm.MethodName) prog_6_method_12_code (4 : Nat) (Option.some FieldType.int)) ∈ ALLG := al_t (i := 679) (by decide +kernel) (by decide +kernel)
theorem tw_680 : (Cond.methodLink "ScanRowsModel" (84 : Nat) ({ cls := "ScanRowsModel", name := "size", desc := "(I)I" } : Jvm.MethodName)) ∈ ALLG := al_t (i := 680) (by decide +kernel) (by decide +kernel)
theorem tw_681 : (Cond.static ({ cls := "ScanRowsModel", name := "size", desc := "(I)I" } : Jvm.MethodName)) ∈ ALLG := al_t (i := 681) (by decide +kernel) (by decide +kernel)
theorem tw_682 : (Cond.code ({ cls := "ScanRowsModel", name := "size", desc := "(I)I" } : Jvm.MethodName) prog_6_method_11_code (1 : Nat) (Option.some FieldType.int)) ∈ ALLG := al_t (i := 682) (by decide +kernel) (by decide +kernel)
theorem tw_691 : (Cond.methodLink "ScanRowsModel" (92 : Nat) ({ cls := "ScanRowsModel", name := "placeOf", desc := "(I)I" } : Jvm.MethodName)) ∈ ALLG := al_t (i := 691) (by decide +kernel) (by decide +kernel)
theorem tw_693 : (Cond.instanceMethod ({ cls := "ScanRowsModel", name := "placeOf", desc := "(I)I" } : Jvm.MethodName)) ∈ ALLG := al_t (i := 693) (by decide +kernel) (by decide +kernel)
theorem tw_694 : (Cond.code ({ cls := "ScanRowsModel", name := "placeOf", desc := "(I)I" } : Jvm.MethodName) prog_6_method_14_code (3 : Nat) (Option.some FieldType.int)) ∈ ALLG := al_t (i := 694) (by decide +kernel) (by decide +kernel)
theorem tw_695 : (Cond.methodLink "ScanRowsModel" (95 : Nat) ({ cls := "ScanRowsModel", name := "exchange", desc := "(II)V" } : Jvm.MethodName)) ∈ ALLG := al_t (i := 695) (by decide +kernel) (by decide +kernel)
theorem tw_697 : (Cond.instanceMethod ({ cls := "ScanRowsModel", name := "exchange", desc := "(II)V" } : Jvm.MethodName)) ∈ ALLG := al_t (i := 697) (by decide +kernel) (by decide +kernel)
theorem tw_698 : (Cond.code ({ cls := "ScanRowsModel", name := "exchange", desc := "(II)V" } : Jvm.MethodName) prog_6_method_15_code (4 : Nat) (Option.none : Option Jvm.ClassFile.FieldType)) ∈ ALLG := al_t (i := 698) (by decide +kernel) (by decide +kernel)
theorem dX4_at_0 : decode cX4_at 0 = .ok (.aload_n 0, 1) := by decide +kernel
theorem dX4_at_1 : decode cX4_at 1 = .ok (.aload_n 0, 1) := by decide +kernel
theorem dX4_at_2 : decode cX4_at 2 = .ok (.iload_n 1, 1) := by decide +kernel
theorem dX4_at_3 : decode cX4_at 3 = .ok (.invokevirtual 80, 3) := by decide +kernel
theorem dX4_at_6 : decode cX4_at 6 = .ok (.ifCond .eq 11, 3) := by decide +kernel
theorem dX4_at_9 : decode cX4_at 9 = .ok (.iload_n 2, 1) := by decide +kernel
theorem dX4_at_10 : decode cX4_at 10 = .ok (.ifCond .lt 7, 3) := by decide +kernel
theorem dX4_at_13 : decode cX4_at 13 = .ok (.iconst 0, 1) := by decide +kernel
theorem dX4_at_14 : decode cX4_at 14 = .ok (.goto 4, 3) := by decide +kernel
theorem dX4_at_17 : decode cX4_at 17 = .ok (.iconst 1, 1) := by decide +kernel
theorem dX4_at_18 : decode cX4_at 18 = .ok (.putfield 57, 3) := by decide +kernel
theorem dX4_at_21 : decode cX4_at 21 = .ok (.aload_n 0, 1) := by decide +kernel
theorem dX4_at_22 : decode cX4_at 22 = .ok (.getfield 57, 3) := by decide +kernel
theorem dX4_at_25 : decode cX4_at 25 = .ok (.ifCond .le 5, 3) := by decide +kernel
theorem dX4_at_28 : decode cX4_at 28 = .ok (.iconst 0, 1) := by decide +kernel
theorem dX4_at_29 : decode cX4_at 29 = .ok (.ireturn, 1) := by decide +kernel
theorem dX4_at_30 : decode cX4_at 30 = .ok (.iload_n 2, 1) := by decide +kernel
theorem dX4_at_31 : decode cX4_at 31 = .ok (.aload_n 0, 1) := by decide +kernel
theorem dX4_at_32 : decode cX4_at 32 = .ok (.getfield 29, 3) := by decide +kernel
theorem dX4_at_35 : decode cX4_at 35 = .ok (.iload_n 1, 1) := by decide +kernel
theorem dX4_at_36 : decode cX4_at 36 = .ok (.iconst 1, 1) := by decide +kernel
theorem dX4_at_37 : decode cX4_at 37 = .ok (.iadd, 1) := by decide +kernel
theorem dX4_at_38 : decode cX4_at 38 = .ok (.iaload, 1) := by decide +kernel
theorem dX4_at_39 : decode cX4_at 39 = .ok (.aload_n 0, 1) := by decide +kernel
theorem dX4_at_40 : decode cX4_at 40 = .ok (.getfield 29, 3) := by decide +kernel
theorem dX4_at_43 : decode cX4_at 43 = .ok (.iload_n 1, 1) := by decide +kernel
theorem dX4_at_44 : decode cX4_at 44 = .ok (.iaload, 1) := by decide +kernel
theorem dX4_at_45 : decode cX4_at 45 = .ok (.isub, 1) := by decide +kernel
theorem dX4_at_46 : decode cX4_at 46 = .ok (.if_icmp .ge 19, 3) := by decide +kernel
theorem dX4_at_49 : decode cX4_at 49 = .ok (.aload_n 0, 1) := by decide +kernel
theorem dX4_at_50 : decode cX4_at 50 = .ok (.getfield 26, 3) := by decide +kernel
theorem dX4_at_53 : decode cX4_at 53 = .ok (.aload_n 0, 1) := by decide +kernel
theorem dX4_at_54 : decode cX4_at 54 = .ok (.getfield 29, 3) := by decide +kernel
theorem dX4_at_57 : decode cX4_at 57 = .ok (.iload_n 1, 1) := by decide +kernel
theorem dX4_at_58 : decode cX4_at 58 = .ok (.iaload, 1) := by decide +kernel
theorem dX4_at_59 : decode cX4_at 59 = .ok (.iload_n 2, 1) := by decide +kernel
theorem dX4_at_60 : decode cX4_at 60 = .ok (.iadd, 1) := by decide +kernel
theorem dX4_at_61 : decode cX4_at 61 = .ok (.iaload, 1) := by decide +kernel
theorem dX4_at_62 : decode cX4_at 62 = .ok (.goto 4, 3) := by decide +kernel
theorem dX4_at_65 : decode cX4_at 65 = .ok (.iconst (-1), 1) := by decide +kernel
theorem dX4_at_66 : decode cX4_at 66 = .ok (.ireturn, 1) := by decide +kernel
theorem dX4_lockUp_0 : decode cX4_lockUp 0 = .ok (.aload_n 0, 1) := by decide +kernel
theorem dX4_lockUp_1 : decode cX4_lockUp 1 = .ok (.aload_n 0, 1) := by decide +kernel
theorem dX4_lockUp_2 : decode cX4_lockUp 2 = .ok (.iload_n 1, 1) := by decide +kernel
theorem dX4_lockUp_3 : decode cX4_lockUp 3 = .ok (.invokevirtual 80, 3) := by decide +kernel
theorem dX4_lockUp_6 : decode cX4_lockUp 6 = .ok (.ifCond .eq 30, 3) := by decide +kernel
theorem dX4_lockUp_9 : decode cX4_lockUp 9 = .ok (.iload_n 2, 1) := by decide +kernel
theorem dX4_lockUp_10 : decode cX4_lockUp 10 = .ok (.ifCond .lt 26, 3) := by decide +kernel
theorem dX4_lockUp_13 : decode cX4_lockUp 13 = .ok (.iload_n 2, 1) := by decide +kernel
theorem dX4_lockUp_14 : decode cX4_lockUp 14 = .ok (.aload_n 0, 1) := by decide +kernel
theorem dX4_lockUp_15 : decode cX4_lockUp 15 = .ok (.getfield 29, 3) := by decide +kernel
theorem dX4_lockUp_18 : decode cX4_lockUp 18 = .ok (.iload_n 1, 1) := by decide +kernel
theorem dX4_lockUp_19 : decode cX4_lockUp 19 = .ok (.iconst 1, 1) := by decide +kernel
theorem dX4_lockUp_20 : decode cX4_lockUp 20 = .ok (.iadd, 1) := by decide +kernel
theorem dX4_lockUp_21 : decode cX4_lockUp 21 = .ok (.iaload, 1) := by decide +kernel
theorem dX4_lockUp_22 : decode cX4_lockUp 22 = .ok (.aload_n 0, 1) := by decide +kernel
theorem dX4_lockUp_23 : decode cX4_lockUp 23 = .ok (.getfield 29, 3) := by decide +kernel
theorem dX4_lockUp_26 : decode cX4_lockUp 26 = .ok (.iload_n 1, 1) := by decide +kernel
theorem dX4_lockUp_27 : decode cX4_lockUp 27 = .ok (.iaload, 1) := by decide +kernel
theorem dX4_lockUp_28 : decode cX4_lockUp 28 = .ok (.isub, 1) := by decide +kernel
theorem dX4_lockUp_29 : decode cX4_lockUp 29 = .ok (.if_icmp .ge 7, 3) := by decide +kernel
theorem dX4_lockUp_32 : decode cX4_lockUp 32 = .ok (.iconst 0, 1) := by decide +kernel
theorem dX4_lockUp_33 : decode cX4_lockUp 33 = .ok (.goto 4, 3) := by decide +kernel
theorem dX4_lockUp_36 : decode cX4_lockUp 36 = .ok (.iconst 1, 1) := by decide +kernel
theorem dX4_lockUp_37 : decode cX4_lockUp 37 = .ok (.putfield 57, 3) := by decide +kernel
theorem dX4_lockUp_40 : decode cX4_lockUp 40 = .ok (.aload_n 0, 1) := by decide +kernel
theorem dX4_lockUp_41 : decode cX4_lockUp 41 = .ok (.getfield 57, 3) := by decide +kernel
theorem dX4_lockUp_44 : decode cX4_lockUp 44 = .ok (.ifCond .gt 24, 3) := by decide +kernel
theorem dX4_lockUp_47 : decode cX4_lockUp 47 = .ok (.aload_n 0, 1) := by decide +kernel
theorem dX4_lockUp_48 : decode cX4_lockUp 48 = .ok (.getfield 29, 3) := by decide +kernel
theorem dX4_lockUp_51 : decode cX4_lockUp 51 = .ok (.iload_n 1, 1) := by decide +kernel
theorem dX4_lockUp_52 : decode cX4_lockUp 52 = .ok (.iaload, 1) := by decide +kernel
theorem dX4_lockUp_53 : decode cX4_lockUp 53 = .ok (.iload_n 2, 1) := by decide +kernel
theorem dX4_lockUp_54 : decode cX4_lockUp 54 = .ok (.iadd, 1) := by decide +kernel
theorem dX4_lockUp_55 : decode cX4_lockUp 55 = .ok (.iconst 1, 1) := by decide +kernel
theorem dX4_lockUp_56 : decode cX4_lockUp 56 = .ok (.iadd, 1) := by decide +kernel
theorem dX4_lockUp_57 : decode cX4_lockUp 57 = .ok (.aload_n 0, 1) := by decide +kernel
theorem dX4_lockUp_58 : decode cX4_lockUp 58 = .ok (.getfield 29, 3) := by decide +kernel
theorem dX4_lockUp_61 : decode cX4_lockUp 61 = .ok (.iload_n 1, 1) := by decide +kernel
theorem dX4_lockUp_62 : decode cX4_lockUp 62 = .ok (.iconst 1, 1) := by decide +kernel
theorem dX4_lockUp_63 : decode cX4_lockUp 63 = .ok (.iadd, 1) := by decide +kernel
theorem dX4_lockUp_64 : decode cX4_lockUp 64 = .ok (.iaload, 1) := by decide +kernel
theorem dX4_lockUp_65 : decode cX4_lockUp 65 = .ok (.if_icmp .ne 5, 3) := by decide +kernel
theorem dX4_lockUp_68 : decode cX4_lockUp 68 = .ok (.iconst 0, 1) := by decide +kernel
theorem dX4_lockUp_69 : decode cX4_lockUp 69 = .ok (.ireturn, 1) := by decide +kernel
theorem dX4_lockUp_70 : decode cX4_lockUp 70 = .ok (.aload_n 0, 1) := by decide +kernel
theorem dX4_lockUp_71 : decode cX4_lockUp 71 = .ok (.getfield 29, 3) := by decide +kernel
theorem dX4_lockUp_74 : decode cX4_lockUp 74 = .ok (.iload_n 1, 1) := by decide +kernel
theorem dX4_lockUp_75 : decode cX4_lockUp 75 = .ok (.iaload, 1) := by decide +kernel
theorem dX4_lockUp_76 : decode cX4_lockUp 76 = .ok (.iload_n 2, 1) := by decide +kernel
theorem dX4_lockUp_77 : decode cX4_lockUp 77 = .ok (.iadd, 1) := by decide +kernel
theorem dX4_lockUp_78 : decode cX4_lockUp 78 = .ok (.istore_n 3, 1) := by decide +kernel
theorem dX4_lockUp_79 : decode cX4_lockUp 79 = .ok (.aload_n 0, 1) := by decide +kernel
theorem dX4_lockUp_80 : decode cX4_lockUp 80 = .ok (.getfield 7, 3) := by decide +kernel
theorem dX4_lockUp_83 : decode cX4_lockUp 83 = .ok (.aload_n 0, 1) := by decide +kernel
theorem dX4_lockUp_84 : decode cX4_lockUp 84 = .ok (.getfield 26, 3) := by decide +kernel
theorem dX4_lockUp_87 : decode cX4_lockUp 87 = .ok (.iload_n 3, 1) := by decide +kernel
theorem dX4_lockUp_88 : decode cX4_lockUp 88 = .ok (.iaload, 1) := by decide +kernel
theorem dX4_lockUp_89 : decode cX4_lockUp 89 = .ok (.iaload, 1) := by decide +kernel
theorem dX4_lockUp_90 : decode cX4_lockUp 90 = .ok (.aload_n 0, 1) := by decide +kernel
theorem dX4_lockUp_91 : decode cX4_lockUp 91 = .ok (.getfield 7, 3) := by decide +kernel
theorem dX4_lockUp_94 : decode cX4_lockUp 94 = .ok (.aload_n 0, 1) := by decide +kernel
theorem dX4_lockUp_95 : decode cX4_lockUp 95 = .ok (.getfield 26, 3) := by decide +kernel
theorem dX4_lockUp_98 : decode cX4_lockUp 98 = .ok (.iload_n 3, 1) := by decide +kernel
theorem dX4_lockUp_99 : decode cX4_lockUp 99 = .ok (.iconst 1, 1) := by decide +kernel
theorem dX4_lockUp_100 : decode cX4_lockUp 100 = .ok (.iadd, 1) := by decide +kernel
theorem dX4_lockUp_101 : decode cX4_lockUp 101 = .ok (.iaload, 1) := by decide +kernel
theorem dX4_lockUp_102 : decode cX4_lockUp 102 = .ok (.iaload, 1) := by decide +kernel
theorem dX4_lockUp_103 : decode cX4_lockUp 103 = .ok (.if_icmp .eq 7, 3) := by decide +kernel
theorem dX4_lockUp_106 : decode cX4_lockUp 106 = .ok (.iconst 1, 1) := by decide +kernel
theorem dX4_lockUp_107 : decode cX4_lockUp 107 = .ok (.goto 4, 3) := by decide +kernel
theorem dX4_lockUp_110 : decode cX4_lockUp 110 = .ok (.iconst 0, 1) := by decide +kernel
theorem dX4_lockUp_111 : decode cX4_lockUp 111 = .ok (.ireturn, 1) := by decide +kernel
theorem dX4_size_0 : decode cX4_size 0 = .ok (.iload_n 0, 1) := by decide +kernel
theorem dX4_size_1 : decode cX4_size 1 = .ok (.ifCond .ge 8, 3) := by decide +kernel
theorem dX4_size_4 : decode cX4_size 4 = .ok (.iload_n 0, 1) := by decide +kernel
theorem dX4_size_5 : decode cX4_size 5 = .ok (.ineg, 1) := by decide +kernel
theorem dX4_size_6 : decode cX4_size 6 = .ok (.goto 4, 3) := by decide +kernel
theorem dX4_size_9 : decode cX4_size 9 = .ok (.iload_n 0, 1) := by decide +kernel
theorem dX4_size_10 : decode cX4_size 10 = .ok (.ireturn, 1) := by decide +kernel
theorem dX4_allTravel_0 : decode cX4_allTravel 0 = .ok (.iconst 0, 1) := by decide +kernel
theorem dX4_allTravel_1 : decode cX4_allTravel 1 = .ok (.istore_n 1, 1) := by decide +kernel
theorem dX4_allTravel_2 : decode cX4_allTravel 2 = .ok (.iconst 0, 1) := by decide +kernel
theorem dX4_allTravel_3 : decode cX4_allTravel 3 = .ok (.istore_n 2, 1) := by decide +kernel
theorem dX4_allTravel_4 : decode cX4_allTravel 4 = .ok (.iload_n 2, 1) := by decide +kernel
theorem dX4_allTravel_5 : decode cX4_allTravel 5 = .ok (.aload_n 0, 1) := by decide +kernel
theorem dX4_allTravel_6 : decode cX4_allTravel 6 = .ok (.getfield 63, 3) := by decide +kernel
theorem dX4_allTravel_9 : decode cX4_allTravel 9 = .ok (.if_icmp .ge 96, 3) := by decide +kernel
theorem dX4_allTravel_12 : decode cX4_allTravel 12 = .ok (.aload_n 0, 1) := by decide +kernel
theorem dX4_allTravel_13 : decode cX4_allTravel 13 = .ok (.getfield 29, 3) := by decide +kernel
theorem dX4_allTravel_16 : decode cX4_allTravel 16 = .ok (.iload_n 2, 1) := by decide +kernel
theorem dX4_allTravel_17 : decode cX4_allTravel 17 = .ok (.iaload, 1) := by decide +kernel
theorem dX4_allTravel_18 : decode cX4_allTravel 18 = .ok (.istore_n 3, 1) := by decide +kernel
theorem dX4_allTravel_19 : decode cX4_allTravel 19 = .ok (.iload_n 3, 1) := by decide +kernel
theorem dX4_allTravel_20 : decode cX4_allTravel 20 = .ok (.iconst 1, 1) := by decide +kernel
theorem dX4_allTravel_21 : decode cX4_allTravel 21 = .ok (.iadd, 1) := by decide +kernel
theorem dX4_allTravel_22 : decode cX4_allTravel 22 = .ok (.aload_n 0, 1) := by decide +kernel
theorem dX4_allTravel_23 : decode cX4_allTravel 23 = .ok (.getfield 29, 3) := by decide +kernel
theorem dX4_allTravel_26 : decode cX4_allTravel 26 = .ok (.iload_n 2, 1) := by decide +kernel
theorem dX4_allTravel_27 : decode cX4_allTravel 27 = .ok (.iconst 1, 1) := by decide +kernel
theorem dX4_allTravel_28 : decode cX4_allTravel 28 = .ok (.iadd, 1) := by decide +kernel
theorem dX4_allTravel_29 : decode cX4_allTravel 29 = .ok (.iaload, 1) := by decide +kernel
theorem dX4_allTravel_30 : decode cX4_allTravel 30 = .ok (.if_icmp .ge 69, 3) := by decide +kernel
theorem dX4_allTravel_33 : decode cX4_allTravel 33 = .ok (.iload_n 1, 1) := by decide +kernel
theorem dX4_allTravel_34 : decode cX4_allTravel 34 = .ok (.aload_n 0, 1) := by decide +kernel
theorem dX4_allTravel_35 : decode cX4_allTravel 35 = .ok (.getfield 13, 3) := by decide +kernel
theorem dX4_allTravel_38 : decode cX4_allTravel 38 = .ok (.aload_n 0, 1) := by decide +kernel
theorem dX4_allTravel_39 : decode cX4_allTravel 39 = .ok (.getfield 26, 3) := by decide +kernel
theorem dX4_allTravel_42 : decode cX4_allTravel 42 = .ok (.iload_n 3, 1) := by decide +kernel
theorem dX4_allTravel_43 : decode cX4_allTravel 43 = .ok (.iaload, 1) := by decide +kernel
theorem dX4_allTravel_44 : decode cX4_allTravel 44 = .ok (.iaload, 1) := by decide +kernel
theorem dX4_allTravel_45 : decode cX4_allTravel 45 = .ok (.aload_n 0, 1) := by decide +kernel
theorem dX4_allTravel_46 : decode cX4_allTravel 46 = .ok (.getfield 13, 3) := by decide +kernel
theorem dX4_allTravel_49 : decode cX4_allTravel 49 = .ok (.aload_n 0, 1) := by decide +kernel
theorem dX4_allTravel_50 : decode cX4_allTravel 50 = .ok (.getfield 26, 3) := by decide +kernel
theorem dX4_allTravel_53 : decode cX4_allTravel 53 = .ok (.iload_n 3, 1) := by decide +kernel
theorem dX4_allTravel_54 : decode cX4_allTravel 54 = .ok (.iconst 1, 1) := by decide +kernel
theorem dX4_allTravel_55 : decode cX4_allTravel 55 = .ok (.iadd, 1) := by decide +kernel
theorem dX4_allTravel_56 : decode cX4_allTravel 56 = .ok (.iaload, 1) := by decide +kernel
theorem dX4_allTravel_57 : decode cX4_allTravel 57 = .ok (.iaload, 1) := by decide +kernel
theorem dX4_allTravel_58 : decode cX4_allTravel 58 = .ok (.isub, 1) := by decide +kernel
theorem dX4_allTravel_59 : decode cX4_allTravel 59 = .ok (.invokestatic 84, 3) := by decide +kernel
theorem dX4_allTravel_62 : decode cX4_allTravel 62 = .ok (.iadd, 1) := by decide +kernel
theorem dX4_allTravel_63 : decode cX4_allTravel 63 = .ok (.aload_n 0, 1) := by decide +kernel
theorem dX4_allTravel_64 : decode cX4_allTravel 64 = .ok (.getfield 16, 3) := by decide +kernel
theorem dX4_allTravel_67 : decode cX4_allTravel 67 = .ok (.aload_n 0, 1) := by decide +kernel
theorem dX4_allTravel_68 : decode cX4_allTravel 68 = .ok (.getfield 26, 3) := by decide +kernel
theorem dX4_allTravel_71 : decode cX4_allTravel 71 = .ok (.iload_n 3, 1) := by decide +kernel
theorem dX4_allTravel_72 : decode cX4_allTravel 72 = .ok (.iaload, 1) := by decide +kernel
theorem dX4_allTravel_73 : decode cX4_allTravel 73 = .ok (.iaload, 1) := by decide +kernel
theorem dX4_allTravel_74 : decode cX4_allTravel 74 = .ok (.aload_n 0, 1) := by decide +kernel
theorem dX4_allTravel_75 : decode cX4_allTravel 75 = .ok (.getfield 16, 3) := by decide +kernel
theorem dX4_allTravel_78 : decode cX4_allTravel 78 = .ok (.aload_n 0, 1) := by decide +kernel
theorem dX4_allTravel_79 : decode cX4_allTravel 79 = .ok (.getfield 26, 3) := by decide +kernel
theorem dX4_allTravel_82 : decode cX4_allTravel 82 = .ok (.iload_n 3, 1) := by decide +kernel
theorem dX4_allTravel_83 : decode cX4_allTravel 83 = .ok (.iconst 1, 1) := by decide +kernel
theorem dX4_allTravel_84 : decode cX4_allTravel 84 = .ok (.iadd, 1) := by decide +kernel
theorem dX4_allTravel_85 : decode cX4_allTravel 85 = .ok (.iaload, 1) := by decide +kernel
theorem dX4_allTravel_86 : decode cX4_allTravel 86 = .ok (.iaload, 1) := by decide +kernel
theorem dX4_allTravel_87 : decode cX4_allTravel 87 = .ok (.isub, 1) := by decide +kernel
theorem dX4_allTravel_88 : decode cX4_allTravel 88 = .ok (.invokestatic 84, 3) := by decide +kernel
theorem dX4_allTravel_91 : decode cX4_allTravel 91 = .ok (.iadd, 1) := by decide +kernel
theorem dX4_allTravel_92 : decode cX4_allTravel 92 = .ok (.istore_n 1, 1) := by decide +kernel
theorem dX4_allTravel_93 : decode cX4_allTravel 93 = .ok (.iinc 3 1, 3) := by decide +kernel
theorem dX4_allTravel_96 : decode cX4_allTravel 96 = .ok (.goto (-77), 3) := by decide +kernel
theorem dX4_allTravel_99 : decode cX4_allTravel 99 = .ok (.iinc 2 1, 3) := by decide +kernel
theorem dX4_allTravel_102 : decode cX4_allTravel 102 = .ok (.goto (-98), 3) := by decide +kernel
theorem dX4_allTravel_105 : decode cX4_allTravel 105 = .ok (.iload_n 1, 1) := by decide +kernel
theorem dX4_allTravel_106 : decode cX4_allTravel 106 = .ok (.ireturn, 1) := by decide +kernel
theorem dX4_travel_0 : decode cX4_travel 0 = .ok (.aload_n 0, 1) := by decide +kernel
theorem dX4_travel_1 : decode cX4_travel 1 = .ok (.iconst 0, 1) := by decide +kernel
theorem dX4_travel_2 : decode cX4_travel 2 = .ok (.putfield 57, 3) := by decide +kernel
theorem dX4_travel_5 : decode cX4_travel 5 = .ok (.aload_n 0, 1) := by decide +kernel
theorem dX4_travel_6 : decode cX4_travel 6 = .ok (.invokevirtual 88, 3) := by decide +kernel
theorem dX4_travel_9 : decode cX4_travel 9 = .ok (.i2l, 1) := by decide +kernel
theorem dX4_travel_10 : decode cX4_travel 10 = .ok (.lreturn, 1) := by decide +kernel
theorem dX4_placeOf_0 : decode cX4_placeOf 0 = .ok (.iconst 0, 1) := by decide +kernel
theorem dX4_placeOf_1 : decode cX4_placeOf 1 = .ok (.istore_n 2, 1) := by decide +kernel
theorem dX4_placeOf_2 : decode cX4_placeOf 2 = .ok (.iload_n 2, 1) := by decide +kernel
theorem dX4_placeOf_3 : decode cX4_placeOf 3 = .ok (.aload_n 0, 1) := by decide +kernel
theorem dX4_placeOf_4 : decode cX4_placeOf 4 = .ok (.getfield 77, 3) := by decide +kernel
theorem dX4_placeOf_7 : decode cX4_placeOf 7 = .ok (.if_icmp .ge 21, 3) := by decide +kernel
theorem dX4_placeOf_10 : decode cX4_placeOf 10 = .ok (.aload_n 0, 1) := by decide +kernel
theorem dX4_placeOf_11 : decode cX4_placeOf 11 = .ok (.getfield 26, 3) := by decide +kernel
theorem dX4_placeOf_14 : decode cX4_placeOf 14 = .ok (.iload_n 2, 1) := by decide +kernel
theorem dX4_placeOf_15 : decode cX4_placeOf 15 = .ok (.iaload, 1) := by decide +kernel
theorem dX4_placeOf_16 : decode cX4_placeOf 16 = .ok (.iload_n 1, 1) := by decide +kernel
theorem dX4_placeOf_17 : decode cX4_placeOf 17 = .ok (.if_icmp .ne 5, 3) := by decide +kernel
theorem dX4_placeOf_20 : decode cX4_placeOf 20 = .ok (.iload_n 2, 1) := by decide +kernel
theorem dX4_placeOf_21 : decode cX4_placeOf 21 = .ok (.ireturn, 1) := by decide +kernel
theorem dX4_placeOf_22 : decode cX4_placeOf 22 = .ok (.iinc 2 1, 3) := by decide +kernel
theorem dX4_placeOf_25 : decode cX4_placeOf 25 = .ok (.goto (-23), 3) := by decide +kernel
theorem dX4_placeOf_28 : decode cX4_placeOf 28 = .ok (.iconst (-1), 1) := by decide +kernel
theorem dX4_placeOf_29 : decode cX4_placeOf 29 = .ok (.ireturn, 1) := by decide +kernel
theorem dX4_exchange_0 : decode cX4_exchange 0 = .ok (.aload_n 0, 1) := by decide +kernel
theorem dX4_exchange_1 : decode cX4_exchange 1 = .ok (.getfield 26, 3) := by decide +kernel
theorem dX4_exchange_4 : decode cX4_exchange 4 = .ok (.iload_n 1, 1) := by decide +kernel
theorem dX4_exchange_5 : decode cX4_exchange 5 = .ok (.iaload, 1) := by decide +kernel
theorem dX4_exchange_6 : decode cX4_exchange 6 = .ok (.istore_n 3, 1) := by decide +kernel
theorem dX4_exchange_7 : decode cX4_exchange 7 = .ok (.aload_n 0, 1) := by decide +kernel
theorem dX4_exchange_8 : decode cX4_exchange 8 = .ok (.getfield 26, 3) := by decide +kernel
theorem dX4_exchange_11 : decode cX4_exchange 11 = .ok (.iload_n 1, 1) := by decide +kernel
theorem dX4_exchange_12 : decode cX4_exchange 12 = .ok (.aload_n 0, 1) := by decide +kernel
theorem dX4_exchange_13 : decode cX4_exchange 13 = .ok (.getfield 26, 3) := by decide +kernel
theorem dX4_exchange_16 : decode cX4_exchange 16 = .ok (.iload_n 2, 1) := by decide +kernel
theorem dX4_exchange_17 : decode cX4_exchange 17 = .ok (.iaload, 1) := by decide +kernel
theorem dX4_exchange_18 : decode cX4_exchange 18 = .ok (.iastore, 1) := by decide +kernel
theorem dX4_exchange_19 : decode cX4_exchange 19 = .ok (.aload_n 0, 1) := by decide +kernel
theorem dX4_exchange_20 : decode cX4_exchange 20 = .ok (.getfield 26, 3) := by decide +kernel
theorem dX4_exchange_23 : decode cX4_exchange 23 = .ok (.iload_n 2, 1) := by decide +kernel
theorem dX4_exchange_24 : decode cX4_exchange 24 = .ok (.iload_n 3, 1) := by decide +kernel
theorem dX4_exchange_25 : decode cX4_exchange 25 = .ok (.iastore, 1) := by decide +kernel
theorem dX4_exchange_26 : decode cX4_exchange 26 = .ok (.return_, 1) := by decide +kernel
theorem dX4_step_0 : decode cX4_step 0 = .ok (.aload_n 0, 1) := by decide +kernel
theorem dX4_step_1 : decode cX4_step 1 = .ok (.invokevirtual 88, 3) := by decide +kernel
theorem dX4_step_4 : decode cX4_step 4 = .ok (.istore_n 1, 1) := by decide +kernel
theorem dX4_step_5 : decode cX4_step 5 = .ok (.iconst 0, 1) := by decide +kernel
theorem dX4_step_6 : decode cX4_step 6 = .ok (.istore_n 2, 1) := by decide +kernel
theorem dX4_step_7 : decode cX4_step 7 = .ok (.iload_n 2, 1) := by decide +kernel
theorem dX4_step_8 : decode cX4_step 8 = .ok (.aload_n 0, 1) := by decide +kernel
theorem dX4_step_9 : decode cX4_step 9 = .ok (.getfield 60, 3) := by decide +kernel
theorem dX4_step_12 : decode cX4_step 12 = .ok (.if_icmp .ge 94, 3) := by decide +kernel
theorem dX4_step_15 : decode cX4_step 15 = .ok (.iload_n 2, 1) := by decide +kernel
theorem dX4_step_16 : decode cX4_step 16 = .ok (.iconst 1, 1) := by decide +kernel
theorem dX4_step_17 : decode cX4_step 17 = .ok (.iadd, 1) := by decide +kernel
theorem dX4_step_18 : decode cX4_step 18 = .ok (.istore_n 3, 1) := by decide +kernel
theorem dX4_step_19 : decode cX4_step 19 = .ok (.iload_n 3, 1) := by decide +kernel
theorem dX4_step_20 : decode cX4_step 20 = .ok (.aload_n 0, 1) := by decide +kernel
theorem dX4_step_21 : decode cX4_step 21 = .ok (.getfield 60, 3) := by decide +kernel
theorem dX4_step_24 : decode cX4_step 24 = .ok (.if_icmp .ge 76, 3) := by decide +kernel
theorem dX4_step_27 : decode cX4_step 27 = .ok (.aload_n 0, 1) := by decide +kernel
theorem dX4_step_28 : decode cX4_step 28 = .ok (.iload_n 2, 1) := by decide +kernel
theorem dX4_step_29 : decode cX4_step 29 = .ok (.invokevirtual 92, 3) := by decide +kernel
theorem dX4_step_32 : decode cX4_step 32 = .ok (.istore 4, 2) := by decide +kernel
theorem dX4_step_34 : decode cX4_step 34 = .ok (.aload_n 0, 1) := by decide +kernel
theorem dX4_step_35 : decode cX4_step 35 = .ok (.iload_n 3, 1) := by decide +kernel
theorem dX4_step_36 : decode cX4_step 36 = .ok (.invokevirtual 92, 3) := by decide +kernel
theorem dX4_step_39 : decode cX4_step 39 = .ok (.istore 5, 2) := by decide +kernel
theorem dX4_step_41 : decode cX4_step 41 = .ok (.iload 4, 2) := by decide +kernel
theorem dX4_step_43 : decode cX4_step 43 = .ok (.iconst (-1), 1) := by decide +kernel
theorem dX4_step_44 : decode cX4_step 44 = .ok (.if_icmp .eq 50, 3) := by decide +kernel
theorem dX4_step_47 : decode cX4_step 47 = .ok (.iload 5, 2) := by decide +kernel
theorem dX4_step_49 : decode cX4_step 49 = .ok (.iconst (-1), 1) := by decide +kernel
theorem dX4_step_50 : decode cX4_step 50 = .ok (.if_icmp .eq 44, 3) := by decide +kernel
theorem dX4_step_53 : decode cX4_step 53 = .ok (.aload_n 0, 1) := by decide +kernel
theorem dX4_step_54 : decode cX4_step 54 = .ok (.getfield 7, 3) := by decide +kernel
theorem dX4_step_57 : decode cX4_step 57 = .ok (.iload_n 2, 1) := by decide +kernel
theorem dX4_step_58 : decode cX4_step 58 = .ok (.iaload, 1) := by decide +kernel
theorem dX4_step_59 : decode cX4_step 59 = .ok (.aload_n 0, 1) := by decide +kernel
theorem dX4_step_60 : decode cX4_step 60 = .ok (.getfield 7, 3) := by decide +kernel
theorem dX4_step_63 : decode cX4_step 63 = .ok (.iload_n 3, 1) := by decide +kernel
theorem dX4_step_64 : decode cX4_step 64 = .ok (.iaload, 1) := by decide +kernel
theorem dX4_step_65 : decode cX4_step 65 = .ok (.if_icmp .ne 29, 3) := by decide +kernel
theorem dX4_step_68 : decode cX4_step 68 = .ok (.aload_n 0, 1) := by decide +kernel
theorem dX4_step_69 : decode cX4_step 69 = .ok (.iload 4, 2) := by decide +kernel
theorem dX4_step_71 : decode cX4_step 71 = .ok (.iload 5, 2) := by decide +kernel
theorem dX4_step_73 : decode cX4_step 73 = .ok (.invokevirtual 95, 3) := by decide +kernel
theorem dX4_step_76 : decode cX4_step 76 = .ok (.aload_n 0, 1) := by decide +kernel
theorem dX4_step_77 : decode cX4_step 77 = .ok (.invokevirtual 88, 3) := by decide +kernel
theorem dX4_step_80 : decode cX4_step 80 = .ok (.iload_n 1, 1) := by decide +kernel
theorem dX4_step_81 : decode cX4_step 81 = .ok (.if_icmp .ge 5, 3) := by decide +kernel
theorem dX4_step_84 : decode cX4_step 84 = .ok (.iconst 1, 1) := by decide +kernel
theorem dX4_step_85 : decode cX4_step 85 = .ok (.ireturn, 1) := by decide +kernel
theorem dX4_step_86 : decode cX4_step 86 = .ok (.aload_n 0, 1) := by decide +kernel
theorem dX4_step_87 : decode cX4_step 87 = .ok (.iload 4, 2) := by decide +kernel
theorem dX4_step_89 : decode cX4_step 89 = .ok (.iload 5, 2) := by decide +kernel
theorem dX4_step_91 : decode cX4_step 91 = .ok (.invokevirtual 95, 3) := by decide +kernel
theorem dX4_step_94 : decode cX4_step 94 = .ok (.iinc 3 1, 3) := by decide +kernel
theorem dX4_step_97 : decode cX4_step 97 = .ok (.goto (-78), 3) := by decide +kernel
theorem dX4_step_100 : decode cX4_step 100 = .ok (.iinc 2 1, 3) := by decide +kernel
theorem dX4_step_103 : decode cX4_step 103 = .ok (.goto (-96), 3) := by decide +kernel
theorem dX4_step_106 : decode cX4_step 106 = .ok (.iconst 0, 1) := by decide +kernel
theorem dX4_step_107 : decode cX4_step 107 = .ok (.ireturn, 1) := by decide +kernel
set_option maxHeartbeats 4000000 in
set_option maxRecDepth 100000 in
theorem c_ScanRowsModel_at (l : Launch) (dC : Nat → ClassId) (dI : Nat → Nat → Nat) (q : Nat → Nat) (cI cZ : ClassId) (sz : Nat) (y : MS) (ch kk : Nat) (h0 : y.c ≤ 8) (h1 : ch < y.c) (h2 : y.st ch ≤ y.st (ch + 1)) (h3 : y.st (ch + 1) ≤ 32) (h4 : kk < 2 ^ 31) : Met l yX4_at (.code yX4_at cX4_at 3 (some .int) :: ALLG) ({ frames := 1, cells := 0, slots := 0, locals := 21 }) (va_Pc [.ref (q 0), .int (nI ch), .int (nI kk)] (cP (dC, dI) vwCl [(cI, .int), (cZ, .boolean)] (wM q cI cZ y) eT sz)) (va_Qi (fun (x : Int32) (u : MS) => x = zI (atZ (toR y) ch kk) ∧ u = y.s_th 0) (fun (u : MS) => cB (dC, dI) vwCl [(cI, .int), (cZ, .boolean)] (wM q cI cZ u) (va_A (wM q cI cZ y) sz)) (va_A (wM q cI cZ y) sz)) 0 0 (va_A (wM q cI cZ y) sz) := by
  refine xm_of (cc := cX4_at) (maxL := 3) (ret := some .int) (by decide) rfl (Nat.le_of_ble_eq_true rfl) ?_
  intro p e s m below meth c A hAe hx hb hr hml hts0 hown hlk hin hsz H locs hP hK hD hA hS hE ls hl
  have hts : ∀ w ∈ ALLG, w.before _ s = true := fun w h => hts0 w (List.mem_cons_of_mem _ h)
  rw [← hAe]
  have hl : lv_has ls 3 [(0, .ref (q 0)), (1, .int (nI ch)), (2, .int (nI kk))] := hl
  refine lv_aload_n hx hb dX4_at_0 rfl (lv_at hl 0 rfl) ?_
  refine lv_aload_n hx hb dX4_at_1 rfl (lv_at hl 0 rfl) ?_
  refine lv_iload_n hx hb dX4_at_2 rfl (lv_at hl 1 rfl) ?_
  refine xc_Vi (As := [.int (nI ch)]) (wr := []) ⟨hx, hb, hml, hown, hts⟩ (c_ScanRowsModel_isChain l dC dI q cI cZ H.size y (nI ch)) (cwV 1 hts (gV tw_664 tw_666 sw_26 tw_5 tw_667) rfl rfl rfl (by decide +kernel) ⟨Nat.le_of_ble_eq_true rfl, Nat.le_of_ble_eq_true rfl⟩) rfl hl.1 rfl (Nat.le_of_ble_eq_true rfl) dX4_at_3 ⟨Nat.zero_le _, Nat.zero_le _⟩ hP hD hK hS hA [0, 1, 2, 3, 4, 5, 6, 7, 8, 9, 10, 11, 12, 13] [] rfl rfl (by decide) (by decide) (by decide) [0, 1] rfl (q0 := 0) rfl rfl rfl eT_M (trivial) (fun r_1 u_2 H locs w_3 hP hD hS => ?_)
  obtain rfl := w_3
  have hP : va_P (dC, dI) vwCl (wM q cI cZ y) H := hP
  have hD : va_D A (wM q cI cZ y) := hD
  refine xt_i (show nI (hcN (nI ch) y.c) = nI 1 from congrArg nI (hcN_k h1 (by omega))) ?_
  refine xn_zeq (tgt := 17) hx hb (by omega) dX4_at_6 (by decide) (fun c_4 => ?_) (fun c_4 => ?_)
  · exact absurd (show False by omega) id
  · refine lv_iload_n hx hb dX4_at_9 rfl (lv_at hl 2 rfl) ?_
    refine xn_zlt (tgt := 17) hx hb (by omega) dX4_at_10 (by decide) ?_
    refine lv_iconst (v := nI 0) hx hb dX4_at_13 (by decide) ?_
    refine lv_goto (tgt := 18) hx hb dX4_at_14 (by decide) ?_
    refine va_put (D := (dC, dI)) (ci := 4) (v := .int (nI 0)) (ty := .int) (C := RX4) (T := TX4) (N := 23) hx hb hts inX4 tyX4 tyX4_ok nmX4 hown hK hP hD hS 0 rfl rfl 0 (by decide) (hts _ tw_572) (fun _ h9 => h9) rfl (by decide +kernel) rfl rfl (Nat.le_of_ble_eq_true rfl) dX4_at_18 (fun H locs hP hD hS => ?_)
    have hP : va_P (dC, dI) vwCl (wM q cI cZ (MS.s_th y 0)) H := hP
    have hD : va_D A (wM q cI cZ (MS.s_th y 0)) := hD
    refine lv_aload_n hx hb dX4_at_21 rfl (lv_at hl 0 rfl) ?_
    refine va_get (D := (dC, dI)) (ci := 4) (v := .int (nI 0)) (C := RX4) (T := TX4) (N := 23) hx hb hts inX4 hown hK hP 0 rfl rfl 0 (by decide) (hts _ tw_572) (fun _ h9 => h9) rfl dX4_at_22 ?_
    refine xn_zle (tgt := 30) hx hb (by omega) dX4_at_25 (by decide) (fun c_6 => ?_) (fun c_6 => ?_)
    · refine lv_iload_n hx hb dX4_at_30 rfl (lv_at hl 2 rfl) ?_
      refine lv_aload_n hx hb dX4_at_31 rfl (lv_at hl 0 rfl) ?_
      refine va_get (D := (dC, dI)) (ci := 4) (v := .ref (q 7)) (C := RX4) (T := TX4) (N := 23) hx hb hts inX4 hown hK hP 0 rfl rfl 10 (by decide) (hts _ tw_582) (fun _ h9 => h9) rfl dX4_at_32 ?_
      refine lv_iload_n hx hb dX4_at_35 rfl (lv_at hl 1 rfl) ?_
      refine lv_iconst (v := nI 1) hx hb dX4_at_36 (by decide) ?_
      refine xn_add hx hb dX4_at_37 ?_
      refine xa_ild hx hb hK hP 7 0 rfl rfl (v := nI ((MS.st y) (ch + 1))) (by omega) (by decide) rfl dX4_at_38 ?_
      refine lv_aload_n hx hb dX4_at_39 rfl (lv_at hl 0 rfl) ?_
      refine va_get (D := (dC, dI)) (ci := 4) (v := .ref (q 7)) (C := RX4) (T := TX4) (N := 23) hx hb hts inX4 hown hK hP 0 rfl rfl 10 (by decide) (hts _ tw_582) (fun _ h9 => h9) rfl dX4_at_40 ?_
      refine lv_iload_n hx hb dX4_at_43 rfl (lv_at hl 1 rfl) ?_
      refine xa_ild hx hb hK hP 7 0 rfl rfl (v := nI ((MS.st y) ch)) (by omega) (by decide) rfl dX4_at_44 ?_
      refine xn_sub hx hb (by omega) dX4_at_45 ?_
      refine xn_cge (tgt := 65) hx hb (by omega) (by omega) dX4_at_46 (by decide) (fun c_7 => ?_) (fun c_7 => ?_)
      · refine lv_iconst (v := zI (-1)) hx hb dX4_at_65 (by decide) ?_
        exact xr_i hx hb hr hlk (u := MS.s_th y 0) (⟨by unfold atZ; rw [if_neg (show ¬ kk < y.st (ch + 1) - y.st ch by omega)], rfl⟩) hP hK hD hS dX4_at_66
      · refine lv_aload_n hx hb dX4_at_49 rfl (lv_at hl 0 rfl) ?_
        refine va_get (D := (dC, dI)) (ci := 4) (v := .ref (q 6)) (C := RX4) (T := TX4) (N := 23) hx hb hts inX4 hown hK hP 0 rfl rfl 8 (by decide) (hts _ tw_580) (fun _ h9 => h9) rfl dX4_at_50 ?_
        refine lv_aload_n hx hb dX4_at_53 rfl (lv_at hl 0 rfl) ?_
        refine va_get (D := (dC, dI)) (ci := 4) (v := .ref (q 7)) (C := RX4) (T := TX4) (N := 23) hx hb hts inX4 hown hK hP 0 rfl rfl 10 (by decide) (hts _ tw_582) (fun _ h9 => h9) rfl dX4_at_54 ?_
        refine lv_iload_n hx hb dX4_at_57 rfl (lv_at hl 1 rfl) ?_
        refine xa_ild hx hb hK hP 7 0 rfl rfl (v := nI ((MS.st y) ch)) (by omega) (by decide) rfl dX4_at_58 ?_
        refine lv_iload_n hx hb dX4_at_59 rfl (lv_at hl 2 rfl) ?_
        refine xn_add hx hb dX4_at_60 ?_
        refine xa_ild hx hb hK hP 6 0 rfl rfl (v := nI ((MS.rw y) (((MS.st y) ch) + kk))) (by omega) (by decide) rfl dX4_at_61 ?_
        refine lv_goto (tgt := 66) hx hb dX4_at_62 (by decide) ?_
        refine xt_i (show nI ((MS.rw y) (((MS.st y) ch) + kk)) = zI (((MS.rw y) (((MS.st y) ch) + kk) : Nat) : Int) from (zI_nI _).symm) ?_
        exact xr_i hx hb hr hlk (u := MS.s_th y 0) (⟨by unfold atZ; rw [if_pos (show kk < y.st (ch + 1) - y.st ch by omega)], rfl⟩) hP hK hD hS dX4_at_66
    · exact absurd (show False by omega) id
set_option maxHeartbeats 4000000 in
set_option maxRecDepth 100000 in
theorem c_M_at1 (l : Launch) (dC : Nat → ClassId) (dI : Nat → Nat → Nat) (q : Nat → Nat) (cI cZ : ClassId) (sz : Nat) (y : MS) (v kv : Int32) (h1 : hcN v y.c = 0 ∨ kv < 0) : Met l yX4_at (.code yX4_at cX4_at 3 (some .int) :: ALLG) ({ frames := 1, cells := 0, slots := 0, locals := 21 }) (va_Pc [.ref (q 0), .int v, .int kv] (cP (dC, dI) vwCl [(cI, .int), (cZ, .boolean)] (wM q cI cZ y) eT sz)) (va_Qi (fun (x : Int32) (u : MS) => x = nI 0 ∧ u = y.s_th 1) (fun (u : MS) => cB (dC, dI) vwCl [(cI, .int), (cZ, .boolean)] (wM q cI cZ u) (va_A (wM q cI cZ y) sz)) (va_A (wM q cI cZ y) sz)) 0 0 (va_A (wM q cI cZ y) sz) := by
  refine xm_of (cc := cX4_at) (maxL := 3) (ret := some .int) (by decide) rfl (Nat.le_of_ble_eq_true rfl) ?_
  intro p e s m below meth c A hAe hx hb hr hml hts0 hown hlk hin hsz H locs hP hK hD hA hS hE ls hl
  have hts : ∀ w ∈ ALLG, w.before _ s = true := fun w h => hts0 w (List.mem_cons_of_mem _ h)
  rw [← hAe]
  have g1 := hcN_le v y.c
  have hl : lv_has ls 3 [(0, .ref (q 0)), (1, .int v), (2, .int kv)] := hl
  refine lv_aload_n hx hb dX4_at_0 rfl (lv_at hl 0 rfl) ?_
  refine lv_aload_n hx hb dX4_at_1 rfl (lv_at hl 0 rfl) ?_
  refine lv_iload_n hx hb dX4_at_2 rfl (lv_at hl 1 rfl) ?_
  refine xc_Vi (As := [.int v]) (wr := []) ⟨hx, hb, hml, hown, hts⟩ (c_ScanRowsModel_isChain l dC dI q cI cZ H.size y v) (cwV 1 hts (gV tw_664 tw_666 sw_26 tw_5 tw_667) rfl rfl rfl (by decide +kernel) ⟨Nat.le_of_ble_eq_true rfl, Nat.le_of_ble_eq_true rfl⟩) rfl hl.1 rfl (Nat.le_of_ble_eq_true rfl) dX4_at_3 ⟨Nat.zero_le _, Nat.zero_le _⟩ hP hD hK hS hA [0, 1, 2, 3, 4, 5, 6, 7, 8, 9, 10, 11, 12, 13] [] rfl rfl (by decide) (by decide) (by decide) [0, 1] rfl (q0 := 0) rfl rfl rfl eT_M (trivial) (fun r_1 u_2 H locs w_3 hP hD hS => ?_)
  obtain rfl := w_3
  have hP : va_P (dC, dI) vwCl (wM q cI cZ y) H := hP
  have hD : va_D A (wM q cI cZ y) := hD
  refine xn_zeq (tgt := 17) hx hb (by omega) dX4_at_6 (by decide) (fun c_4 => ?_) (fun c_4 => ?_)
  · refine lv_iconst (v := nI 1) hx hb dX4_at_17 (by decide) ?_
    refine va_put (D := (dC, dI)) (ci := 4) (v := .int (nI 1)) (ty := .int) (C := RX4) (T := TX4) (N := 23) hx hb hts inX4 tyX4 tyX4_ok nmX4 hown hK hP hD hS 0 rfl rfl 0 (by decide) (hts _ tw_572) (fun _ h9 => h9) rfl (by decide +kernel) rfl rfl (Nat.le_of_ble_eq_true rfl) dX4_at_18 (fun H locs hP hD hS => ?_)
    have hP : va_P (dC, dI) vwCl (wM q cI cZ (MS.s_th y 1)) H := hP
    have hD : va_D A (wM q cI cZ (MS.s_th y 1)) := hD
    refine lv_aload_n hx hb dX4_at_21 rfl (lv_at hl 0 rfl) ?_
    refine va_get (D := (dC, dI)) (ci := 4) (v := .int (nI 1)) (C := RX4) (T := TX4) (N := 23) hx hb hts inX4 hown hK hP 0 rfl rfl 0 (by decide) (hts _ tw_572) (fun _ h9 => h9) rfl dX4_at_22 ?_
    refine xn_zle (tgt := 30) hx hb (by omega) dX4_at_25 (by decide) (fun c_5 => ?_) (fun c_5 => ?_)
    · exact absurd (show False by omega) id
    · refine lv_iconst (v := nI 0) hx hb dX4_at_28 (by decide) ?_
      exact xr_i hx hb hr hlk (u := MS.s_th y 1) (⟨rfl, rfl⟩) hP hK hD hS dX4_at_29
  · refine lv_iload_n hx hb dX4_at_9 rfl (lv_at hl 2 rfl) ?_
    refine lv_if_lt (tgt := 17) hx hb dX4_at_10 (by decide) (fun c_6 => ?_) (fun c_6 => ?_)
    · refine lv_iconst (v := nI 1) hx hb dX4_at_17 (by decide) ?_
      refine va_put (D := (dC, dI)) (ci := 4) (v := .int (nI 1)) (ty := .int) (C := RX4) (T := TX4) (N := 23) hx hb hts inX4 tyX4 tyX4_ok nmX4 hown hK hP hD hS 0 rfl rfl 0 (by decide) (hts _ tw_572) (fun _ h9 => h9) rfl (by decide +kernel) rfl rfl (Nat.le_of_ble_eq_true rfl) dX4_at_18 (fun H locs hP hD hS => ?_)
      have hP : va_P (dC, dI) vwCl (wM q cI cZ (MS.s_th y 1)) H := hP
      have hD : va_D A (wM q cI cZ (MS.s_th y 1)) := hD
      refine lv_aload_n hx hb dX4_at_21 rfl (lv_at hl 0 rfl) ?_
      refine va_get (D := (dC, dI)) (ci := 4) (v := .int (nI 1)) (C := RX4) (T := TX4) (N := 23) hx hb hts inX4 hown hK hP 0 rfl rfl 0 (by decide) (hts _ tw_572) (fun _ h9 => h9) rfl dX4_at_22 ?_
      refine xn_zle (tgt := 30) hx hb (by omega) dX4_at_25 (by decide) (fun c_7 => ?_) (fun c_7 => ?_)
      · exact absurd (show False by omega) id
      · refine lv_iconst (v := nI 0) hx hb dX4_at_28 (by decide) ?_
        exact xr_i hx hb hr hlk (u := MS.s_th y 1) (⟨rfl, rfl⟩) hP hK hD hS dX4_at_29
    · exact absurd h1 (fun z => z.elim (fun z => by omega) c_6)
set_option maxHeartbeats 4000000 in
set_option maxRecDepth 100000 in
theorem c_ScanRowsModel_lockUp (l : Launch) (dC : Nat → ClassId) (dI : Nat → Nat → Nat) (q : Nat → Nat) (cI cZ : ClassId) (sz : Nat) (y : MS) (ch kk : Nat) (hM : MB y) (h0 : y.c ≤ 8) (h1 : ch < y.c) (h2 : y.st ch ≤ y.st (ch + 1)) (h3 : y.st (ch + 1) ≤ 32) (h4 : kk < y.st (ch + 1) - y.st ch) : Met l yX4_lockUp (.code yX4_lockUp cX4_lockUp 4 (some .boolean) :: ALLG) ({ frames := 1, cells := 0, slots := 0, locals := 21 }) (va_Pc [.ref (q 0), .int (nI ch), .int (nI kk)] (cP (dC, dI) vwCl [(cI, .int), (cZ, .boolean)] (wM q cI cZ y) eT sz)) (va_Qi (fun (x : Int32) (u : MS) => x = nI (mLk y ch kk) ∧ u = y.s_th 0) (fun (u : MS) => cB (dC, dI) vwCl [(cI, .int), (cZ, .boolean)] (wM q cI cZ u) (va_A (wM q cI cZ y) sz)) (va_A (wM q cI cZ y) sz)) 0 0 (va_A (wM q cI cZ y) sz) := by
  refine xm_of (cc := cX4_lockUp) (maxL := 4) (ret := some .boolean) (by decide) rfl (Nat.le_of_ble_eq_true rfl) ?_
  intro p e s m below meth c A hAe hx hb hr hml hts0 hown hlk hin hsz H locs hP hK hD hA hS hE ls hl
  have hts : ∀ w ∈ ALLG, w.before _ s = true := fun w h => hts0 w (List.mem_cons_of_mem _ h)
  rw [← hAe]
  have hM0 := hM
  have b_n : y.n ≤ 32 := hM.1.1
  have b_c : y.c ≤ 8 := hM.1.2.1
  have b_p : y.p ≤ y.n := hM.1.2.2.1
  have b_vb : ∀ z, y.vb z < 2 := hM.1.2.2.2.1
  have b_ck : ∀ z, y.ck z < 4 := hM.1.2.2.2.2.1
  have b_xx : ∀ z, -1000 ≤ y.xx z ∧ y.xx z ≤ 1000 := hM.1.2.2.2.2.2.1
  have b_yy : ∀ z, -1000 ≤ y.yy z ∧ y.yy z ≤ 1000 := hM.1.2.2.2.2.2.2.1
  have b_fl : ∀ z, y.fl z < 2 := hM.1.2.2.2.2.2.2.2.1
  have b_rw : ∀ z, y.rw z < 32 := hM.1.2.2.2.2.2.2.2.2.2.1
  have b_st : ∀ z, y.st z ≤ 32 := hM.1.2.2.2.2.2.2.2.2.2.2.2
  have g1 := b_ck (y.rw (y.st ch + kk))
  have g2 := b_ck (y.rw (y.st ch + kk + 1))
  have hl : lv_has ls 4 [(0, .ref (q 0)), (1, .int (nI ch)), (2, .int (nI kk))] := hl
  refine lv_aload_n hx hb dX4_lockUp_0 rfl (lv_at hl 0 rfl) ?_
  refine lv_aload_n hx hb dX4_lockUp_1 rfl (lv_at hl 0 rfl) ?_
  refine lv_iload_n hx hb dX4_lockUp_2 rfl (lv_at hl 1 rfl) ?_
  refine xc_Vi (As := [.int (nI ch)]) (wr := []) ⟨hx, hb, hml, hown, hts⟩ (c_ScanRowsModel_isChain l dC dI q cI cZ H.size y (nI ch)) (cwV 1 hts (gV tw_664 tw_666 sw_26 tw_5 tw_667) rfl rfl rfl (by decide +kernel) ⟨Nat.le_of_ble_eq_true rfl, Nat.le_of_ble_eq_true rfl⟩) rfl hl.1 rfl (Nat.le_of_ble_eq_true rfl) dX4_lockUp_3 ⟨Nat.zero_le _, Nat.zero_le _⟩ hP hD hK hS hA [0, 1, 2, 3, 4, 5, 6, 7, 8, 9, 10, 11, 12, 13] [] rfl rfl (by decide) (by decide) (by decide) [0, 1] rfl (q0 := 0) rfl rfl rfl eT_M (trivial) (fun r_1 u_2 H locs w_3 hP hD hS => ?_)
  obtain rfl := w_3
  have hP : va_P (dC, dI) vwCl (wM q cI cZ y) H := hP
  have hD : va_D A (wM q cI cZ y) := hD
  refine xt_i (show nI (hcN (nI ch) y.c) = nI 1 from congrArg nI (hcN_k h1 (by omega))) ?_
  refine xn_zeq (tgt := 36) hx hb (by omega) dX4_lockUp_6 (by decide) (fun c_4 => ?_) (fun c_4 => ?_)
  · exact absurd (show False by omega) id
  · refine lv_iload_n hx hb dX4_lockUp_9 rfl (lv_at hl 2 rfl) ?_
    refine xn_zlt (tgt := 36) hx hb (by omega) dX4_lockUp_10 (by decide) ?_
    refine lv_iload_n hx hb dX4_lockUp_13 rfl (lv_at hl 2 rfl) ?_
    refine lv_aload_n hx hb dX4_lockUp_14 rfl (lv_at hl 0 rfl) ?_
    refine va_get (D := (dC, dI)) (ci := 4) (v := .ref (q 7)) (C := RX4) (T := TX4) (N := 23) hx hb hts inX4 hown hK hP 0 rfl rfl 10 (by decide) (hts _ tw_582) (fun _ h9 => h9) rfl dX4_lockUp_15 ?_
    refine lv_iload_n hx hb dX4_lockUp_18 rfl (lv_at hl 1 rfl) ?_
    refine lv_iconst (v := nI 1) hx hb dX4_lockUp_19 (by decide) ?_
    refine xn_add hx hb dX4_lockUp_20 ?_
    refine xa_ild hx hb hK hP 7 0 rfl rfl (v := nI ((MS.st y) (ch + 1))) (by omega) (by decide) rfl dX4_lockUp_21 ?_
    refine lv_aload_n hx hb dX4_lockUp_22 rfl (lv_at hl 0 rfl) ?_
    refine va_get (D := (dC, dI)) (ci := 4) (v := .ref (q 7)) (C := RX4) (T := TX4) (N := 23) hx hb hts inX4 hown hK hP 0 rfl rfl 10 (by decide) (hts _ tw_582) (fun _ h9 => h9) rfl dX4_lockUp_23 ?_
    refine lv_iload_n hx hb dX4_lockUp_26 rfl (lv_at hl 1 rfl) ?_
    refine xa_ild hx hb hK hP 7 0 rfl rfl (v := nI ((MS.st y) ch)) (by omega) (by decide) rfl dX4_lockUp_27 ?_
    refine xn_sub hx hb (by omega) dX4_lockUp_28 ?_
    refine xn_cge (tgt := 36) hx hb (by omega) (by omega) dX4_lockUp_29 (by decide) (fun c_6 => ?_) (fun c_6 => ?_)
    · exact absurd (show False by omega) id
    · refine lv_iconst (v := nI 0) hx hb dX4_lockUp_32 (by decide) ?_
      refine lv_goto (tgt := 37) hx hb dX4_lockUp_33 (by decide) ?_
      refine va_put (D := (dC, dI)) (ci := 4) (v := .int (nI 0)) (ty := .int) (C := RX4) (T := TX4) (N := 23) hx hb hts inX4 tyX4 tyX4_ok nmX4 hown hK hP hD hS 0 rfl rfl 0 (by decide) (hts _ tw_572) (fun _ h9 => h9) rfl (by decide +kernel) rfl rfl (Nat.le_of_ble_eq_true rfl) dX4_lockUp_37 (fun H locs hP hD hS => ?_)
      have hP : va_P (dC, dI) vwCl (wM q cI cZ (MS.s_th y 0)) H := hP
      have hD : va_D A (wM q cI cZ (MS.s_th y 0)) := hD
      refine lv_aload_n hx hb dX4_lockUp_40 rfl (lv_at hl 0 rfl) ?_
      refine va_get (D := (dC, dI)) (ci := 4) (v := .int (nI 0)) (C := RX4) (T := TX4) (N := 23) hx hb hts inX4 hown hK hP 0 rfl rfl 0 (by decide) (hts _ tw_572) (fun _ h9 => h9) rfl dX4_lockUp_41 ?_
      refine xn_zgt (tgt := 68) hx hb (by omega) dX4_lockUp_44 (by decide) (fun c_7 => ?_) (fun c_7 => ?_)
      · exact absurd (show False by omega) id
      · refine lv_aload_n hx hb dX4_lockUp_47 rfl (lv_at hl 0 rfl) ?_
        refine va_get (D := (dC, dI)) (ci := 4) (v := .ref (q 7)) (C := RX4) (T := TX4) (N := 23) hx hb hts inX4 hown hK hP 0 rfl rfl 10 (by decide) (hts _ tw_582) (fun _ h9 => h9) rfl dX4_lockUp_48 ?_
        refine lv_iload_n hx hb dX4_lockUp_51 rfl (lv_at hl 1 rfl) ?_
        refine xa_ild hx hb hK hP 7 0 rfl rfl (v := nI ((MS.st y) ch)) (by omega) (by decide) rfl dX4_lockUp_52 ?_
        refine lv_iload_n hx hb dX4_lockUp_53 rfl (lv_at hl 2 rfl) ?_
        refine xn_add hx hb dX4_lockUp_54 ?_
        refine lv_iconst (v := nI 1) hx hb dX4_lockUp_55 (by decide) ?_
        refine xn_add hx hb dX4_lockUp_56 ?_
        refine lv_aload_n hx hb dX4_lockUp_57 rfl (lv_at hl 0 rfl) ?_
        refine va_get (D := (dC, dI)) (ci := 4) (v := .ref (q 7)) (C := RX4) (T := TX4) (N := 23) hx hb hts inX4 hown hK hP 0 rfl rfl 10 (by decide) (hts _ tw_582) (fun _ h9 => h9) rfl dX4_lockUp_58 ?_
        refine lv_iload_n hx hb dX4_lockUp_61 rfl (lv_at hl 1 rfl) ?_
        refine lv_iconst (v := nI 1) hx hb dX4_lockUp_62 (by decide) ?_
        refine xn_add hx hb dX4_lockUp_63 ?_
        refine xa_ild hx hb hK hP 7 0 rfl rfl (v := nI ((MS.st y) (ch + 1))) (by omega) (by decide) rfl dX4_lockUp_64 ?_
        refine xn_cne (tgt := 70) hx hb (by omega) (by omega) dX4_lockUp_65 (by decide) (fun c_8 => ?_) (fun c_8 => ?_)
        · refine lv_aload_n hx hb dX4_lockUp_70 rfl (lv_at hl 0 rfl) ?_
          refine va_get (D := (dC, dI)) (ci := 4) (v := .ref (q 7)) (C := RX4) (T := TX4) (N := 23) hx hb hts inX4 hown hK hP 0 rfl rfl 10 (by decide) (hts _ tw_582) (fun _ h9 => h9) rfl dX4_lockUp_71 ?_
          refine lv_iload_n hx hb dX4_lockUp_74 rfl (lv_at hl 1 rfl) ?_
          refine xa_ild hx hb hK hP 7 0 rfl rfl (v := nI ((MS.st y) ch)) (by omega) (by decide) rfl dX4_lockUp_75 ?_
          refine lv_iload_n hx hb dX4_lockUp_76 rfl (lv_at hl 2 rfl) ?_
          refine xn_add hx hb dX4_lockUp_77 ?_
          refine lv_istore_n (lv' := [(3, .int (nI (((MS.st y) ch) + kk))), (0, .ref (q 0)), (1, .int (nI ch)), (2, .int (nI kk))]) hx hb dX4_lockUp_78 rfl hl (by decide) rfl (fun ls hl => ?_)
          refine lv_aload_n hx hb dX4_lockUp_79 rfl (lv_at hl 1 rfl) ?_
          refine va_get (D := (dC, dI)) (ci := 4) (v := .ref (q 1)) (C := RX4) (T := TX4) (N := 23) hx hb hts inX4 hown hK hP 0 rfl rfl 2 (by decide) (hts _ tw_574) (fun _ h9 => h9) rfl dX4_lockUp_80 ?_
          refine lv_aload_n hx hb dX4_lockUp_83 rfl (lv_at hl 1 rfl) ?_
          refine va_get (D := (dC, dI)) (ci := 4) (v := .ref (q 6)) (C := RX4) (T := TX4) (N := 23) hx hb hts inX4 hown hK hP 0 rfl rfl 8 (by decide) (hts _ tw_580) (fun _ h9 => h9) rfl dX4_lockUp_84 ?_
          refine lv_iload_n hx hb dX4_lockUp_87 rfl (lv_at hl 0 rfl) ?_
          refine xa_ild hx hb hK hP 6 0 rfl rfl (v := nI ((MS.rw y) (((MS.st y) ch) + kk))) (by omega) (by decide) rfl dX4_lockUp_88 ?_
          refine xa_ild hx hb hK hP 1 0 rfl rfl (v := nI ((MS.ck y) ((MS.rw y) (((MS.st y) ch) + kk)))) (b_rw _) (by decide) rfl dX4_lockUp_89 ?_
          refine lv_aload_n hx hb dX4_lockUp_90 rfl (lv_at hl 1 rfl) ?_
          refine va_get (D := (dC, dI)) (ci := 4) (v := .ref (q 1)) (C := RX4) (T := TX4) (N := 23) hx hb hts inX4 hown hK hP 0 rfl rfl 2 (by decide) (hts _ tw_574) (fun _ h9 => h9) rfl dX4_lockUp_91 ?_
          refine lv_aload_n hx hb dX4_lockUp_94 rfl (lv_at hl 1 rfl) ?_
          refine va_get (D := (dC, dI)) (ci := 4) (v := .ref (q 6)) (C := RX4) (T := TX4) (N := 23) hx hb hts inX4 hown hK hP 0 rfl rfl 8 (by decide) (hts _ tw_580) (fun _ h9 => h9) rfl dX4_lockUp_95 ?_
          refine lv_iload_n hx hb dX4_lockUp_98 rfl (lv_at hl 0 rfl) ?_
          refine lv_iconst (v := nI 1) hx hb dX4_lockUp_99 (by decide) ?_
          refine xn_add hx hb dX4_lockUp_100 ?_
          refine xa_ild hx hb hK hP 6 0 rfl rfl (v := nI ((MS.rw y) ((((MS.st y) ch) + kk) + 1))) (by omega) (by decide) rfl dX4_lockUp_101 ?_
          refine xa_ild hx hb hK hP 1 0 rfl rfl (v := nI ((MS.ck y) ((MS.rw y) ((((MS.st y) ch) + kk) + 1)))) (b_rw _) (by decide) rfl dX4_lockUp_102 ?_
          refine xn_ceq (tgt := 110) hx hb (by omega) (by omega) dX4_lockUp_103 (by decide) (fun c_9 => ?_) (fun c_9 => ?_)
          · refine lv_iconst (v := nI 0) hx hb dX4_lockUp_110 (by decide) ?_
            exact xr_z hx hb hr hlk (by decide) (u := MS.s_th y 0) (⟨by unfold mLk; rw [if_neg (by omega), if_pos (by assumption)], rfl⟩) hP hK hD hS dX4_lockUp_111
          · refine lv_iconst (v := nI 1) hx hb dX4_lockUp_106 (by decide) ?_
            refine lv_goto (tgt := 111) hx hb dX4_lockUp_107 (by decide) ?_
            exact xr_z hx hb hr hlk (by decide) (u := MS.s_th y 0) (⟨by unfold mLk; rw [if_neg (by omega), if_neg (by assumption)], rfl⟩) hP hK hD hS dX4_lockUp_111
        · refine lv_iconst (v := nI 0) hx hb dX4_lockUp_68 (by decide) ?_
          exact xr_z hx hb hr hlk (by decide) (u := MS.s_th y 0) (⟨by unfold mLk; rw [if_pos (by omega)], rfl⟩) hP hK hD hS dX4_lockUp_69
set_option maxHeartbeats 4000000 in
set_option maxRecDepth 100000 in
theorem c_M_lockUp1 (l : Launch) (dC : Nat → ClassId) (dI : Nat → Nat → Nat) (q : Nat → Nat) (cI cZ : ClassId) (sz : Nat) (y : MS) (v kv : Int32) (h1 : hcN v y.c = 0 ∨ kv < 0) : Met l yX4_lockUp (.code yX4_lockUp cX4_lockUp 4 (some .boolean) :: ALLG) ({ frames := 1, cells := 0, slots := 0, locals := 21 }) (va_Pc [.ref (q 0), .int v, .int kv] (cP (dC, dI) vwCl [(cI, .int), (cZ, .boolean)] (wM q cI cZ y) eT sz)) (va_Qi (fun (x : Int32) (u : MS) => x = nI 0 ∧ u = y.s_th 1) (fun (u : MS) => cB (dC, dI) vwCl [(cI, .int), (cZ, .boolean)] (wM q cI cZ u) (va_A (wM q cI cZ y) sz)) (va_A (wM q cI cZ y) sz)) 0 0 (va_A (wM q cI cZ y) sz) := by
  refine xm_of (cc := cX4_lockUp) (maxL := 4) (ret := some .boolean) (by decide) rfl (Nat.le_of_ble_eq_true rfl) ?_
  intro p e s m below meth c A hAe hx hb hr hml hts0 hown hlk hin hsz H locs hP hK hD hA hS hE ls hl
  have hts : ∀ w ∈ ALLG, w.before _ s = true := fun w h => hts0 w (List.mem_cons_of_mem _ h)
  rw [← hAe]
  have g1 := hcN_le v y.c
  have hl : lv_has ls 4 [(0, .ref (q 0)), (1, .int v), (2, .int kv)] := hl
  refine lv_aload_n hx hb dX4_lockUp_0 rfl (lv_at hl 0 rfl) ?_
  refine lv_aload_n hx hb dX4_lockUp_1 rfl (lv_at hl 0 rfl) ?_
  refine lv_iload_n hx hb dX4_lockUp_2 rfl (lv_at hl 1 rfl) ?_
  refine xc_Vi (As := [.int v]) (wr := []) ⟨hx, hb, hml, hown, hts⟩ (c_ScanRowsModel_isChain l dC dI q cI cZ H.size y v) (cwV 1 hts (gV tw_664 tw_666 sw_26 tw_5 tw_667) rfl rfl rfl (by decide +kernel) ⟨Nat.le_of_ble_eq_true rfl, Nat.le_of_ble_eq_true rfl⟩) rfl hl.1 rfl (Nat.le_of_ble_eq_true rfl) dX4_lockUp_3 ⟨Nat.zero_le _, Nat.zero_le _⟩ hP hD hK hS hA [0, 1, 2, 3, 4, 5, 6, 7, 8, 9, 10, 11, 12, 13] [] rfl rfl (by decide) (by decide) (by decide) [0, 1] rfl (q0 := 0) rfl rfl rfl eT_M (trivial) (fun r_1 u_2 H locs w_3 hP hD hS => ?_)
  obtain rfl := w_3
  have hP : va_P (dC, dI) vwCl (wM q cI cZ y) H := hP
  have hD : va_D A (wM q cI cZ y) := hD
  refine xn_zeq (tgt := 36) hx hb (by omega) dX4_lockUp_6 (by decide) (fun c_4 => ?_) (fun c_4 => ?_)
  · refine lv_iconst (v := nI 1) hx hb dX4_lockUp_36 (by decide) ?_
    refine va_put (D := (dC, dI)) (ci := 4) (v := .int (nI 1)) (ty := .int) (C := RX4) (T := TX4) (N := 23) hx hb hts inX4 tyX4 tyX4_ok nmX4 hown hK hP hD hS 0 rfl rfl 0 (by decide) (hts _ tw_572) (fun _ h9 => h9) rfl (by decide +kernel) rfl rfl (Nat.le_of_ble_eq_true rfl) dX4_lockUp_37 (fun H locs hP hD hS => ?_)
    have hP : va_P (dC, dI) vwCl (wM q cI cZ (MS.s_th y 1)) H := hP
    have hD : va_D A (wM q cI cZ (MS.s_th y 1)) := hD
    refine lv_aload_n hx hb dX4_lockUp_40 rfl (lv_at hl 0 rfl) ?_
    refine va_get (D := (dC, dI)) (ci := 4) (v := .int (nI 1)) (C := RX4) (T := TX4) (N := 23) hx hb hts inX4 hown hK hP 0 rfl rfl 0 (by decide) (hts _ tw_572) (fun _ h9 => h9) rfl dX4_lockUp_41 ?_
    refine xn_zgt (tgt := 68) hx hb (by omega) dX4_lockUp_44 (by decide) (fun c_5 => ?_) (fun c_5 => ?_)
    · refine lv_iconst (v := nI 0) hx hb dX4_lockUp_68 (by decide) ?_
      exact xr_z hx hb hr hlk (by decide) (u := MS.s_th y 1) (⟨rfl, rfl⟩) hP hK hD hS dX4_lockUp_69
    · exact absurd (show False by omega) id
  · refine lv_iload_n hx hb dX4_lockUp_9 rfl (lv_at hl 2 rfl) ?_
    refine lv_if_lt (tgt := 36) hx hb dX4_lockUp_10 (by decide) (fun c_6 => ?_) (fun c_6 => ?_)
    · refine lv_iconst (v := nI 1) hx hb dX4_lockUp_36 (by decide) ?_
      refine va_put (D := (dC, dI)) (ci := 4) (v := .int (nI 1)) (ty := .int) (C := RX4) (T := TX4) (N := 23) hx hb hts inX4 tyX4 tyX4_ok nmX4 hown hK hP hD hS 0 rfl rfl 0 (by decide) (hts _ tw_572) (fun _ h9 => h9) rfl (by decide +kernel) rfl rfl (Nat.le_of_ble_eq_true rfl) dX4_lockUp_37 (fun H locs hP hD hS => ?_)
      have hP : va_P (dC, dI) vwCl (wM q cI cZ (MS.s_th y 1)) H := hP
      have hD : va_D A (wM q cI cZ (MS.s_th y 1)) := hD
      refine lv_aload_n hx hb dX4_lockUp_40 rfl (lv_at hl 0 rfl) ?_
      refine va_get (D := (dC, dI)) (ci := 4) (v := .int (nI 1)) (C := RX4) (T := TX4) (N := 23) hx hb hts inX4 hown hK hP 0 rfl rfl 0 (by decide) (hts _ tw_572) (fun _ h9 => h9) rfl dX4_lockUp_41 ?_
      refine xn_zgt (tgt := 68) hx hb (by omega) dX4_lockUp_44 (by decide) (fun c_7 => ?_) (fun c_7 => ?_)
      · refine lv_iconst (v := nI 0) hx hb dX4_lockUp_68 (by decide) ?_
        exact xr_z hx hb hr hlk (by decide) (u := MS.s_th y 1) (⟨rfl, rfl⟩) hP hK hD hS dX4_lockUp_69
      · exact absurd (show False by omega) id
    · exact absurd h1 (fun z => z.elim (fun z => by omega) c_6)
set_option maxHeartbeats 4000000 in
set_option maxRecDepth 100000 in
theorem c_M_lockUp2 (l : Launch) (dC : Nat → ClassId) (dI : Nat → Nat → Nat) (q : Nat → Nat) (cI cZ : ClassId) (sz : Nat) (y : MS) (ch kk : Nat) (h0 : y.c ≤ 8) (h1 : ch < y.c) (h2 : y.st ch ≤ y.st (ch + 1)) (h3 : y.st (ch + 1) ≤ 32) (h4 : y.st (ch + 1) - y.st ch ≤ kk) (h5 : kk < 2 ^ 31) : Met l yX4_lockUp (.code yX4_lockUp cX4_lockUp 4 (some .boolean) :: ALLG) ({ frames := 1, cells := 0, slots := 0, locals := 21 }) (va_Pc [.ref (q 0), .int (nI ch), .int (nI kk)] (cP (dC, dI) vwCl [(cI, .int), (cZ, .boolean)] (wM q cI cZ y) eT sz)) (va_Qi (fun (x : Int32) (u : MS) => x = nI 0 ∧ u = y.s_th 1) (fun (u : MS) => cB (dC, dI) vwCl [(cI, .int), (cZ, .boolean)] (wM q cI cZ u) (va_A (wM q cI cZ y) sz)) (va_A (wM q cI cZ y) sz)) 0 0 (va_A (wM q cI cZ y) sz) := by
  refine xm_of (cc := cX4_lockUp) (maxL := 4) (ret := some .boolean) (by decide) rfl (Nat.le_of_ble_eq_true rfl) ?_
  intro p e s m below meth c A hAe hx hb hr hml hts0 hown hlk hin hsz H locs hP hK hD hA hS hE ls hl
  have hts : ∀ w ∈ ALLG, w.before _ s = true := fun w h => hts0 w (List.mem_cons_of_mem _ h)
  rw [← hAe]
  have hl : lv_has ls 4 [(0, .ref (q 0)), (1, .int (nI ch)), (2, .int (nI kk))] := hl
  refine lv_aload_n hx hb dX4_lockUp_0 rfl (lv_at hl 0 rfl) ?_
  refine lv_aload_n hx hb dX4_lockUp_1 rfl (lv_at hl 0 rfl) ?_
  refine lv_iload_n hx hb dX4_lockUp_2 rfl (lv_at hl 1 rfl) ?_
  refine xc_Vi (As := [.int (nI ch)]) (wr := []) ⟨hx, hb, hml, hown, hts⟩ (c_ScanRowsModel_isChain l dC dI q cI cZ H.size y (nI ch)) (cwV 1 hts (gV tw_664 tw_666 sw_26 tw_5 tw_667) rfl rfl rfl (by decide +kernel) ⟨Nat.le_of_ble_eq_true rfl, Nat.le_of_ble_eq_true rfl⟩) rfl hl.1 rfl (Nat.le_of_ble_eq_true rfl) dX4_lockUp_3 ⟨Nat.zero_le _, Nat.zero_le _⟩ hP hD hK hS hA [0, 1, 2, 3, 4, 5, 6, 7, 8, 9, 10, 11, 12, 13] [] rfl rfl (by decide) (by decide) (by decide) [0, 1] rfl (q0 := 0) rfl rfl rfl eT_M (trivial) (fun r_1 u_2 H locs w_3 hP hD hS => ?_)
  obtain rfl := w_3
  have hP : va_P (dC, dI) vwCl (wM q cI cZ y) H := hP
  have hD : va_D A (wM q cI cZ y) := hD
  refine xt_i (show nI (hcN (nI ch) y.c) = nI 1 from congrArg nI (hcN_k h1 (by omega))) ?_
  refine xn_zeq (tgt := 36) hx hb (by omega) dX4_lockUp_6 (by decide) (fun c_4 => ?_) (fun c_4 => ?_)
  · refine lv_iconst (v := nI 1) hx hb dX4_lockUp_36 (by decide) ?_
    refine va_put (D := (dC, dI)) (ci := 4) (v := .int (nI 1)) (ty := .int) (C := RX4) (T := TX4) (N := 23) hx hb hts inX4 tyX4 tyX4_ok nmX4 hown hK hP hD hS 0 rfl rfl 0 (by decide) (hts _ tw_572) (fun _ h9 => h9) rfl (by decide +kernel) rfl rfl (Nat.le_of_ble_eq_true rfl) dX4_lockUp_37 (fun H locs hP hD hS => ?_)
    have hP : va_P (dC, dI) vwCl (wM q cI cZ (MS.s_th y 1)) H := hP
    have hD : va_D A (wM q cI cZ (MS.s_th y 1)) := hD
    refine lv_aload_n hx hb dX4_lockUp_40 rfl (lv_at hl 0 rfl) ?_
    refine va_get (D := (dC, dI)) (ci := 4) (v := .int (nI 1)) (C := RX4) (T := TX4) (N := 23) hx hb hts inX4 hown hK hP 0 rfl rfl 0 (by decide) (hts _ tw_572) (fun _ h9 => h9) rfl dX4_lockUp_41 ?_
    refine xn_zgt (tgt := 68) hx hb (by omega) dX4_lockUp_44 (by decide) (fun c_5 => ?_) (fun c_5 => ?_)
    · refine lv_iconst (v := nI 0) hx hb dX4_lockUp_68 (by decide) ?_
      exact xr_z hx hb hr hlk (by decide) (u := MS.s_th y 1) (⟨rfl, rfl⟩) hP hK hD hS dX4_lockUp_69
    · exact absurd (show False by omega) id
  · refine lv_iload_n hx hb dX4_lockUp_9 rfl (lv_at hl 2 rfl) ?_
    refine xn_zlt (tgt := 36) hx hb (by omega) dX4_lockUp_10 (by decide) ?_
    refine lv_iload_n hx hb dX4_lockUp_13 rfl (lv_at hl 2 rfl) ?_
    refine lv_aload_n hx hb dX4_lockUp_14 rfl (lv_at hl 0 rfl) ?_
    refine va_get (D := (dC, dI)) (ci := 4) (v := .ref (q 7)) (C := RX4) (T := TX4) (N := 23) hx hb hts inX4 hown hK hP 0 rfl rfl 10 (by decide) (hts _ tw_582) (fun _ h9 => h9) rfl dX4_lockUp_15 ?_
    refine lv_iload_n hx hb dX4_lockUp_18 rfl (lv_at hl 1 rfl) ?_
    refine lv_iconst (v := nI 1) hx hb dX4_lockUp_19 (by decide) ?_
    refine xn_add hx hb dX4_lockUp_20 ?_
    refine xa_ild hx hb hK hP 7 0 rfl rfl (v := nI ((MS.st y) (ch + 1))) (by omega) (by decide) rfl dX4_lockUp_21 ?_
    refine lv_aload_n hx hb dX4_lockUp_22 rfl (lv_at hl 0 rfl) ?_
    refine va_get (D := (dC, dI)) (ci := 4) (v := .ref (q 7)) (C := RX4) (T := TX4) (N := 23) hx hb hts inX4 hown hK hP 0 rfl rfl 10 (by decide) (hts _ tw_582) (fun _ h9 => h9) rfl dX4_lockUp_23 ?_
    refine lv_iload_n hx hb dX4_lockUp_26 rfl (lv_at hl 1 rfl) ?_
    refine xa_ild hx hb hK hP 7 0 rfl rfl (v := nI ((MS.st y) ch)) (by omega) (by decide) rfl dX4_lockUp_27 ?_
    refine xn_sub hx hb (by omega) dX4_lockUp_28 ?_
    refine xn_cge (tgt := 36) hx hb (by omega) (by omega) dX4_lockUp_29 (by decide) (fun c_7 => ?_) (fun c_7 => ?_)
    · refine lv_iconst (v := nI 1) hx hb dX4_lockUp_36 (by decide) ?_
      refine va_put (D := (dC, dI)) (ci := 4) (v := .int (nI 1)) (ty := .int) (C := RX4) (T := TX4) (N := 23) hx hb hts inX4 tyX4 tyX4_ok nmX4 hown hK hP hD hS 0 rfl rfl 0 (by decide) (hts _ tw_572) (fun _ h9 => h9) rfl (by decide +kernel) rfl rfl (Nat.le_of_ble_eq_true rfl) dX4_lockUp_37 (fun H locs hP hD hS => ?_)
      have hP : va_P (dC, dI) vwCl (wM q cI cZ (MS.s_th y 1)) H := hP
      have hD : va_D A (wM q cI cZ (MS.s_th y 1)) := hD
      refine lv_aload_n hx hb dX4_lockUp_40 rfl (lv_at hl 0 rfl) ?_
      refine va_get (D := (dC, dI)) (ci := 4) (v := .int (nI 1)) (C := RX4) (T := TX4) (N := 23) hx hb hts inX4 hown hK hP 0 rfl rfl 0 (by decide) (hts _ tw_572) (fun _ h9 => h9) rfl dX4_lockUp_41 ?_
      refine xn_zgt (tgt := 68) hx hb (by omega) dX4_lockUp_44 (by decide) (fun c_8 => ?_) (fun c_8 => ?_)
      · refine lv_iconst (v := nI 0) hx hb dX4_lockUp_68 (by decide) ?_
        exact xr_z hx hb hr hlk (by decide) (u := MS.s_th y 1) (⟨rfl, rfl⟩) hP hK hD hS dX4_lockUp_69
      · exact absurd (show False by omega) id
    · exact absurd (show False by omega) id
set_option maxHeartbeats 4000000 in
set_option maxRecDepth 100000 in
theorem c_ScanRowsModel_size (l : Launch) (dC : Nat → ClassId) (dI : Nat → Nat → Nat) (q : Nat → Nat) (cI cZ : ClassId) (sz : Nat) (z : Int) (h1 : -1073741824 ≤ z) (h2 : z ≤ 1073741824) : Met l yX4_size (.code yX4_size cX4_size 1 (some .int) :: ALLG) ({ frames := 0, cells := 0, slots := 0, locals := 0 }) (va_Pc [.int (zI z)] (cP (dC, dI) vwCl [(cI, .int), (cZ, .boolean)] (([] : va_W)) eT sz)) (va_Qi (fun (x : Int32) (_ : Unit) => x = nI z.natAbs) (fun (_ : Unit) => cB (dC, dI) vwCl [(cI, .int), (cZ, .boolean)] ([]) (va_A (([] : va_W)) sz)) (va_A (([] : va_W)) sz)) 0 0 (va_A (([] : va_W)) sz) := by
  refine xm_of (cc := cX4_size) (maxL := 1) (ret := some .int) (by decide) rfl (Nat.le_of_ble_eq_true rfl) ?_
  intro p e s m below meth c A hAe hx hb hr hml hts0 hown hlk hin hsz H locs hP hK hD hA hS hE ls hl
  have hts : ∀ w ∈ ALLG, w.before _ s = true := fun w h => hts0 w (List.mem_cons_of_mem _ h)
  rw [← hAe]
  have hl : lv_has ls 1 [(0, .int (zI z))] := hl
  refine lv_iload_n hx hb dX4_size_0 rfl (lv_at hl 0 rfl) ?_
  refine lv_if_ge (tgt := 9) hx hb dX4_size_1 (by decide) (fun c_1 => ?_) (fun c_1 => ?_)
  · refine lv_iload_n hx hb dX4_size_9 rfl (lv_at hl 0 rfl) ?_
    refine xt_i (show zI z = nI z.natAbs from pos_zI ((zI_0le h1 h2).mp c_1)) ?_
    exact xr_i hx hb hr hlk (u := ()) rfl hP hK hD hS dX4_size_10
  · refine lv_iload_n hx hb dX4_size_4 rfl (lv_at hl 0 rfl) ?_
    refine lv_ineg hx hb dX4_size_5 ?_
    refine lv_goto (tgt := 10) hx hb dX4_size_6 (by decide) ?_
    refine xt_i (show (-(zI z)) = nI z.natAbs from neg_zI h1 h2 (fun z => c_1 ((zI_0le h1 h2).mpr z))) ?_
    exact xr_i hx hb hr hlk (u := ()) rfl hP hK hD hS dX4_size_10
set_option maxHeartbeats 4000000 in
set_option maxRecDepth 100000 in
theorem c_ScanRowsModel_allTravel (l : Launch) (dC : Nat → ClassId) (dI : Nat → Nat → Nat) (q : Nat → Nat) (cI cZ : ClassId) (sz : Nat) (y : MS) (hM : MB y) (hmo : mono y) : Met l yX4_allTravel (.code yX4_allTravel cX4_allTravel 4 (some .int) :: ALLG) ({ frames := 1, cells := 0, slots := 0, locals := 20 }) (va_Pc [.ref (q 0)] (cP (dC, dI) vwCl [(cI, .int), (cZ, .boolean)] (wM q cI cZ y) eT sz)) (va_Qi (fun (x : Int32) (_ : Unit) => x = nI (trC y y.c)) (fun (_ : Unit) => cB (dC, dI) vwCl [(cI, .int), (cZ, .boolean)] (wM q cI cZ y) (va_A (wM q cI cZ y) sz)) (va_A (wM q cI cZ y) sz)) 0 0 (va_A (wM q cI cZ y) sz) := by
  refine xm_of (cc := cX4_allTravel) (maxL := 4) (ret := some .int) (by decide) rfl (Nat.le_of_ble_eq_true rfl) ?_
  intro p e s m below meth c A hAe hx hb hr hml hts0 hown hlk hin hsz H locs hP hK hD hA hS hE ls hl
  have hts : ∀ w ∈ ALLG, w.before _ s = true := fun w h => hts0 w (List.mem_cons_of_mem _ h)
  rw [← hAe]
  have hM0 := hM
  have b_n : y.n ≤ 32 := hM.1.1
  have b_c : y.c ≤ 8 := hM.1.2.1
  have b_p : y.p ≤ y.n := hM.1.2.2.1
  have b_vb : ∀ z, y.vb z < 2 := hM.1.2.2.2.1
  have b_ck : ∀ z, y.ck z < 4 := hM.1.2.2.2.2.1
  have b_xx : ∀ z, -1000 ≤ y.xx z ∧ y.xx z ≤ 1000 := hM.1.2.2.2.2.2.1
  have b_yy : ∀ z, -1000 ≤ y.yy z ∧ y.yy z ≤ 1000 := hM.1.2.2.2.2.2.2.1
  have b_fl : ∀ z, y.fl z < 2 := hM.1.2.2.2.2.2.2.2.1
  have b_rw : ∀ z, y.rw z < 32 := hM.1.2.2.2.2.2.2.2.2.2.1
  have b_st : ∀ z, y.st z ≤ 32 := hM.1.2.2.2.2.2.2.2.2.2.2.2
  have hl : lv_has ls 4 [(0, .ref (q 0))] := hl
  refine lv_iconst (v := nI 0) hx hb dX4_allTravel_0 (by decide) ?_
  refine lv_istore_n (lv' := [(1, .int (nI 0)), (0, .ref (q 0))]) hx hb dX4_allTravel_1 rfl hl (by decide) rfl (fun ls hl => ?_)
  refine lv_iconst (v := nI 0) hx hb dX4_allTravel_2 (by decide) ?_
  refine lv_istore_n (lv' := [(2, .int (nI 0)), (1, .int (nI 0)), (0, .ref (q 0))]) hx hb dX4_allTravel_3 rfl hl (by decide) rfl (fun ls hl => ?_)
  have L4 : ∀ (fuel : Nat) (i : Nat) (sm : Nat), (i ≤ y.c) → (sm = trC y i) → y.c - i < fuel → ∀ (H : Heap) (locs : List Loc), va_P (dC, dI) vwCl (wM q cI cZ y) H → va_D A (wM q cI cZ y) → va_S A s.heap H locs → ∀ ls : Array Slot, lv_has ls 4 [(0, .ref (q 0)), (1, .int (nI sm)), (2, .int (nI i))] → W p l e ({ frames := 1, cells := 0, slots := 0, locals := 20 } : Room) s m ([.ref (q 0)] : List Value).toArray below meth c H locs 0 0 (MQ below (va_Qi (fun (x : Int32) (_ : Unit) => x = nI (trC y y.c)) (fun (_ : Unit) => cB (dC, dI) vwCl [(cI, .int), (cZ, .boolean)] (wM q cI cZ y) (A)) (A)) ([.ref (q 0)] : List Value).toArray s 0 0 A) (F0 m 4 ls []) := by
    intro fuel
    induction fuel with
    | zero => intro i sm i1 e1 hm H locs hP hD hS ls hl; exact absurd hm (Nat.not_lt_zero _)
    | succ fuel ih4 =>
      intro i sm i1 e1 hm H locs hP hD hS ls hl
      refine lv_iload_n hx hb dX4_allTravel_4 rfl (lv_at hl 2 rfl) ?_
      refine lv_aload_n hx hb dX4_allTravel_5 rfl (lv_at hl 0 rfl) ?_
      refine va_get (D := (dC, dI)) (ci := 4) (v := .int (nI (MS.c y))) (C := RX4) (T := TX4) (N := 23) hx hb hts inX4 hown hK hP 0 rfl rfl 11 (by decide) (hts _ tw_583) (fun _ h9 => h9) rfl dX4_allTravel_6 ?_
      refine xn_cge (tgt := 105) hx hb (by omega) (by omega) dX4_allTravel_9 (by decide) (fun c_1 => ?_) (fun c_1 => ?_)
      · refine lv_iload_n hx hb dX4_allTravel_105 rfl (lv_at hl 1 rfl) ?_
        exact xr_i hx hb hr hlk (u := ()) (by rw [e1, show i = y.c by omega]) hP hK hD hS dX4_allTravel_106
      · have g1 := b_st i
        have g2 := b_st (i + 1)
        have g3 := hmo i (by omega)
        refine lv_aload_n hx hb dX4_allTravel_12 rfl (lv_at hl 0 rfl) ?_
        refine va_get (D := (dC, dI)) (ci := 4) (v := .ref (q 7)) (C := RX4) (T := TX4) (N := 23) hx hb hts inX4 hown hK hP 0 rfl rfl 10 (by decide) (hts _ tw_582) (fun _ h9 => h9) rfl dX4_allTravel_13 ?_
        refine lv_iload_n hx hb dX4_allTravel_16 rfl (lv_at hl 2 rfl) ?_
        refine xa_ild hx hb hK hP 7 0 rfl rfl (v := nI ((MS.st y) i)) (by omega) (by decide) rfl dX4_allTravel_17 ?_
        refine lv_istore_n (lv' := [(3, .int (nI ((MS.st y) i))), (0, .ref (q 0)), (1, .int (nI sm)), (2, .int (nI i))]) hx hb dX4_allTravel_18 rfl hl (by decide) rfl (fun ls hl => ?_)
        have L19 : ∀ (fuel : Nat) (pp : Nat) (sm : Nat), (y.st i ≤ pp) → (pp ≤ y.st (i + 1)) → (pp = y.st i ∨ pp + 1 ≤ y.st (i + 1)) → (sm = trC y i + sumN (fun t => dM y (y.st i + t)) (pp - y.st i)) → y.st (i + 1) - pp < fuel → ∀ (H : Heap) (locs : List Loc), va_P (dC, dI) vwCl (wM q cI cZ y) H → va_D A (wM q cI cZ y) → va_S A s.heap H locs → ∀ ls : Array Slot, lv_has ls 4 [(0, .ref (q 0)), (1, .int (nI sm)), (2, .int (nI i)), (3, .int (nI pp))] → W p l e ({ frames := 1, cells := 0, slots := 0, locals := 20 } : Room) s m ([.ref (q 0)] : List Value).toArray below meth c H locs 0 0 (MQ below (va_Qi (fun (x : Int32) (_ : Unit) => x = nI (trC y y.c)) (fun (_ : Unit) => cB (dC, dI) vwCl [(cI, .int), (cZ, .boolean)] (wM q cI cZ y) (A)) (A)) ([.ref (q 0)] : List Value).toArray s 0 0 A) (F0 m 19 ls []) := by
          intro fuel
          induction fuel with
          | zero => intro pp sm p1 p2 p3 e2 hm H locs hP hD hS ls hl; exact absurd hm (Nat.not_lt_zero _)
          | succ fuel ih19 =>
            intro pp sm p1 p2 p3 e2 hm H locs hP hD hS ls hl
            refine lv_iload_n hx hb dX4_allTravel_19 rfl (lv_at hl 3 rfl) ?_
            refine lv_iconst (v := nI 1) hx hb dX4_allTravel_20 (by decide) ?_
            refine xn_add hx hb dX4_allTravel_21 ?_
            refine lv_aload_n hx hb dX4_allTravel_22 rfl (lv_at hl 0 rfl) ?_
            refine va_get (D := (dC, dI)) (ci := 4) (v := .ref (q 7)) (C := RX4) (T := TX4) (N := 23) hx hb hts inX4 hown hK hP 0 rfl rfl 10 (by decide) (hts _ tw_582) (fun _ h9 => h9) rfl dX4_allTravel_23 ?_
            refine lv_iload_n hx hb dX4_allTravel_26 rfl (lv_at hl 2 rfl) ?_
            refine lv_iconst (v := nI 1) hx hb dX4_allTravel_27 (by decide) ?_
            refine xn_add hx hb dX4_allTravel_28 ?_
            refine xa_ild hx hb hK hP 7 0 rfl rfl (v := nI ((MS.st y) (i + 1))) (by omega) (by decide) rfl dX4_allTravel_29 ?_
            refine xn_cge (tgt := 99) hx hb (by omega) (by omega) dX4_allTravel_30 (by decide) (fun c_2 => ?_) (fun c_2 => ?_)
            · refine lv_iinc (v := nI (i + 1)) (lv' := [(2, .int (nI (i + 1))), (0, .ref (q 0)), (1, .int (nI sm)), (3, .int (nI pp))]) hx hb dX4_allTravel_99 hl (k := 2) rfl (nI_1 _) (by decide) rfl (fun ls hl => ?_)
              refine lv_goto (tgt := 4) hx hb dX4_allTravel_102 (by decide) ?_
              exact ih4 (i + 1) sm (by omega) (by show _ = trC y i + sumN (fun t => dM y (y.st i + t)) (y.st (i + 1) - y.st i - 1); rw [e2, show pp - y.st i = y.st (i + 1) - y.st i - 1 by omega]) (by omega) H locs hP hD hS ls (lv_sub hl [1, 2, 0] rfl)
            · have x1 := b_xx (y.rw pp)
              have x2 := b_xx (y.rw (pp + 1))
              have x3 := b_yy (y.rw pp)
              have x4 := b_yy (y.rw (pp + 1))
              refine lv_iload_n hx hb dX4_allTravel_33 rfl (lv_at hl 1 rfl) ?_
              refine lv_aload_n hx hb dX4_allTravel_34 rfl (lv_at hl 0 rfl) ?_
              refine va_get (D := (dC, dI)) (ci := 4) (v := .ref (q 2)) (C := RX4) (T := TX4) (N := 23) hx hb hts inX4 hown hK hP 0 rfl rfl 3 (by decide) (hts _ tw_575) (fun _ h9 => h9) rfl dX4_allTravel_35 ?_
              refine lv_aload_n hx hb dX4_allTravel_38 rfl (lv_at hl 0 rfl) ?_
              refine va_get (D := (dC, dI)) (ci := 4) (v := .ref (q 6)) (C := RX4) (T := TX4) (N := 23) hx hb hts inX4 hown hK hP 0 rfl rfl 8 (by decide) (hts _ tw_580) (fun _ h9 => h9) rfl dX4_allTravel_39 ?_
              refine lv_iload_n hx hb dX4_allTravel_42 rfl (lv_at hl 3 rfl) ?_
              refine xa_ild hx hb hK hP 6 0 rfl rfl (v := nI ((MS.rw y) pp)) (by omega) (by decide) rfl dX4_allTravel_43 ?_
              refine xa_ild hx hb hK hP 2 0 rfl rfl (v := zI ((MS.xx y) ((MS.rw y) pp))) (b_rw _) (by decide) rfl dX4_allTravel_44 ?_
              refine lv_aload_n hx hb dX4_allTravel_45 rfl (lv_at hl 0 rfl) ?_
              refine va_get (D := (dC, dI)) (ci := 4) (v := .ref (q 2)) (C := RX4) (T := TX4) (N := 23) hx hb hts inX4 hown hK hP 0 rfl rfl 3 (by decide) (hts _ tw_575) (fun _ h9 => h9) rfl dX4_allTravel_46 ?_
              refine lv_aload_n hx hb dX4_allTravel_49 rfl (lv_at hl 0 rfl) ?_
              refine va_get (D := (dC, dI)) (ci := 4) (v := .ref (q 6)) (C := RX4) (T := TX4) (N := 23) hx hb hts inX4 hown hK hP 0 rfl rfl 8 (by decide) (hts _ tw_580) (fun _ h9 => h9) rfl dX4_allTravel_50 ?_
              refine lv_iload_n hx hb dX4_allTravel_53 rfl (lv_at hl 3 rfl) ?_
              refine lv_iconst (v := nI 1) hx hb dX4_allTravel_54 (by decide) ?_
              refine xn_add hx hb dX4_allTravel_55 ?_
              refine xa_ild hx hb hK hP 6 0 rfl rfl (v := nI ((MS.rw y) (pp + 1))) (by omega) (by decide) rfl dX4_allTravel_56 ?_
              refine xa_ild hx hb hK hP 2 0 rfl rfl (v := zI ((MS.xx y) ((MS.rw y) (pp + 1)))) (b_rw _) (by decide) rfl dX4_allTravel_57 ?_
              refine xz_sub hx hb dX4_allTravel_58 ?_
              refine xc_Si (As := [.int (zI (((MS.xx y) ((MS.rw y) pp)) - ((MS.xx y) ((MS.rw y) (pp + 1)))))]) (wr := wM q cI cZ y) ⟨hx, hb, hml, hown, hts⟩ (c_ScanRowsModel_size l dC dI q cI cZ H.size (((MS.xx y) ((MS.rw y) pp)) - ((MS.xx y) ((MS.rw y) (pp + 1)))) (by omega) (by omega)) (cwS 1 hts (gS tw_680 tw_681 tw_5 tw_682) rfl rfl rfl (by decide +kernel) ⟨Nat.le_of_ble_eq_true rfl, Nat.le_of_ble_eq_true rfl⟩) rfl hl.1 rfl (Nat.le_of_ble_eq_true rfl) dX4_allTravel_59 ⟨Nat.zero_le _, Nat.zero_le _⟩ hP hD hK hS hA [] [0, 1, 2, 3, 4, 5, 6, 7, 8, 9, 10, 11, 12, 13] rfl rfl (by decide) (by decide) (by decide) [0, 1] rfl eT_M (trivial) (fun r_3 u_4 H locs w_5 hP hD hS => ?_)
              obtain rfl := w_5
              have hP : va_P (dC, dI) vwCl (wM q cI cZ y) H := hP
              have hD : va_D A (wM q cI cZ y) := hD
              refine xn_add hx hb dX4_allTravel_62 ?_
              refine lv_aload_n hx hb dX4_allTravel_63 rfl (lv_at hl 0 rfl) ?_
              refine va_get (D := (dC, dI)) (ci := 4) (v := .ref (q 3)) (C := RX4) (T := TX4) (N := 23) hx hb hts inX4 hown hK hP 0 rfl rfl 4 (by decide) (hts _ tw_576) (fun _ h9 => h9) rfl dX4_allTravel_64 ?_
              refine lv_aload_n hx hb dX4_allTravel_67 rfl (lv_at hl 0 rfl) ?_
              refine va_get (D := (dC, dI)) (ci := 4) (v := .ref (q 6)) (C := RX4) (T := TX4) (N := 23) hx hb hts inX4 hown hK hP 0 rfl rfl 8 (by decide) (hts _ tw_580) (fun _ h9 => h9) rfl dX4_allTravel_68 ?_
              refine lv_iload_n hx hb dX4_allTravel_71 rfl (lv_at hl 3 rfl) ?_
              refine xa_ild hx hb hK hP 6 0 rfl rfl (v := nI ((MS.rw y) pp)) (by omega) (by decide) rfl dX4_allTravel_72 ?_
              refine xa_ild hx hb hK hP 3 0 rfl rfl (v := zI ((MS.yy y) ((MS.rw y) pp))) (b_rw _) (by decide) rfl dX4_allTravel_73 ?_
              refine lv_aload_n hx hb dX4_allTravel_74 rfl (lv_at hl 0 rfl) ?_
              refine va_get (D := (dC, dI)) (ci := 4) (v := .ref (q 3)) (C := RX4) (T := TX4) (N := 23) hx hb hts inX4 hown hK hP 0 rfl rfl 4 (by decide) (hts _ tw_576) (fun _ h9 => h9) rfl dX4_allTravel_75 ?_
              refine lv_aload_n hx hb dX4_allTravel_78 rfl (lv_at hl 0 rfl) ?_
              refine va_get (D := (dC, dI)) (ci := 4) (v := .ref (q 6)) (C := RX4) (T := TX4) (N := 23) hx hb hts inX4 hown hK hP 0 rfl rfl 8 (by decide) (hts _ tw_580) (fun _ h9 => h9) rfl dX4_allTravel_79 ?_
              refine lv_iload_n hx hb dX4_allTravel_82 rfl (lv_at hl 3 rfl) ?_
              refine lv_iconst (v := nI 1) hx hb dX4_allTravel_83 (by decide) ?_
              refine xn_add hx hb dX4_allTravel_84 ?_
              refine xa_ild hx hb hK hP 6 0 rfl rfl (v := nI ((MS.rw y) (pp + 1))) (by omega) (by decide) rfl dX4_allTravel_85 ?_
              refine xa_ild hx hb hK hP 3 0 rfl rfl (v := zI ((MS.yy y) ((MS.rw y) (pp + 1)))) (b_rw _) (by decide) rfl dX4_allTravel_86 ?_
              refine xz_sub hx hb dX4_allTravel_87 ?_
              refine xc_Si (As := [.int (zI (((MS.yy y) ((MS.rw y) pp)) - ((MS.yy y) ((MS.rw y) (pp + 1)))))]) (wr := wM q cI cZ y) ⟨hx, hb, hml, hown, hts⟩ (c_ScanRowsModel_size l dC dI q cI cZ H.size (((MS.yy y) ((MS.rw y) pp)) - ((MS.yy y) ((MS.rw y) (pp + 1)))) (by omega) (by omega)) (cwS 1 hts (gS tw_680 tw_681 tw_5 tw_682) rfl rfl rfl (by decide +kernel) ⟨Nat.le_of_ble_eq_true rfl, Nat.le_of_ble_eq_true rfl⟩) rfl hl.1 rfl (Nat.le_of_ble_eq_true rfl) dX4_allTravel_88 ⟨Nat.zero_le _, Nat.zero_le _⟩ hP hD hK hS hA [] [0, 1, 2, 3, 4, 5, 6, 7, 8, 9, 10, 11, 12, 13] rfl rfl (by decide) (by decide) (by decide) [0, 1] rfl eT_M (trivial) (fun r_6 u_7 H locs w_8 hP hD hS => ?_)
              obtain rfl := w_8
              have hP : va_P (dC, dI) vwCl (wM q cI cZ y) H := hP
              have hD : va_D A (wM q cI cZ y) := hD
              refine xn_add hx hb dX4_allTravel_91 ?_
              refine lv_istore_n (lv' := [(1, .int (nI ((sm + ((((MS.xx y) ((MS.rw y) pp)) - ((MS.xx y) ((MS.rw y) (pp + 1)))).natAbs)) + ((((MS.yy y) ((MS.rw y) pp)) - ((MS.yy y) ((MS.rw y) (pp + 1)))).natAbs)))), (0, .ref (q 0)), (2, .int (nI i)), (3, .int (nI pp))]) hx hb dX4_allTravel_92 rfl hl (by decide) rfl (fun ls hl => ?_)
              refine lv_iinc (v := nI (pp + 1)) (lv' := [(3, .int (nI (pp + 1))), (1, .int (nI ((sm + ((((MS.xx y) ((MS.rw y) pp)) - ((MS.xx y) ((MS.rw y) (pp + 1)))).natAbs)) + ((((MS.yy y) ((MS.rw y) pp)) - ((MS.yy y) ((MS.rw y) (pp + 1)))).natAbs)))), (0, .ref (q 0)), (2, .int (nI i))]) hx hb dX4_allTravel_93 hl (k := 3) rfl (nI_1 _) (by decide) rfl (fun ls hl => ?_)
              refine lv_goto (tgt := 19) hx hb dX4_allTravel_96 (by decide) ?_
              exact ih19 (pp + 1) ((sm + ((((MS.xx y) ((MS.rw y) pp)) - ((MS.xx y) ((MS.rw y) (pp + 1)))).natAbs)) + ((((MS.yy y) ((MS.rw y) pp)) - ((MS.yy y) ((MS.rw y) (pp + 1)))).natAbs)) (by omega) (by omega) (Or.inr (by omega)) (by rw [e2, show pp + 1 - y.st i = (pp - y.st i) + 1 by omega]; show _ = trC y i + (sumN (fun t => dM y (y.st i + t)) (pp - y.st i) + dM y (y.st i + (pp - y.st i))); rw [show y.st i + (pp - y.st i) = pp by omega]; unfold dM; omega) (by omega) H locs hP hD hS ls (lv_sub hl [2, 1, 3, 0] rfl)
        exact L19 ((y.st (i + 1) - y.st i) + 1) ((MS.st y) i) sm (Nat.le_refl _) (by omega) (Or.inl rfl) (by rw [e1, Nat.sub_self]; rfl) (Nat.lt_succ_self _) H locs hP hD hS ls (lv_sub hl [1, 2, 3, 0] rfl)
  exact L4 ((y.c - 0) + 1) 0 0 (Nat.zero_le _) rfl (Nat.lt_succ_self _) H locs hP hD hS ls (lv_sub hl [2, 1, 0] rfl)
set_option maxHeartbeats 4000000 in
set_option maxRecDepth 100000 in
theorem c_ScanRowsModel_travel (l : Launch) (dC : Nat → ClassId) (dI : Nat → Nat → Nat) (q : Nat → Nat) (cI cZ : ClassId) (sz : Nat) (y : MS) (hM : MB y) (hmo : mono y) : Met l yX4_travel (.code yX4_travel cX4_travel 1 (some .long) :: ALLG) ({ frames := 2, cells := 0, slots := 0, locals := 43 }) (va_Pc [.ref (q 0)] (cP (dC, dI) vwCl [(cI, .int), (cZ, .boolean)] (wM q cI cZ y) eT sz)) (va_Ql (fun (x : Int64) (u : MS) => x = lN (trC y y.c) ∧ u = y.s_th 0) (fun (u : MS) => cB (dC, dI) vwCl [(cI, .int), (cZ, .boolean)] (wM q cI cZ u) (va_A (wM q cI cZ y) sz)) (va_A (wM q cI cZ y) sz)) 0 0 (va_A (wM q cI cZ y) sz) := by
  refine xm_of (cc := cX4_travel) (maxL := 1) (ret := some .long) (by decide) rfl (Nat.le_of_ble_eq_true rfl) ?_
  intro p e s m below meth c A hAe hx hb hr hml hts0 hown hlk hin hsz H locs hP hK hD hA hS hE ls hl
  have hts : ∀ w ∈ ALLG, w.before _ s = true := fun w h => hts0 w (List.mem_cons_of_mem _ h)
  rw [← hAe]
  have g1 := trC_le hM.1 y.c
  have g2 : y.c ≤ 8 := hM.1.2.1
  have hl : lv_has ls 1 [(0, .ref (q 0))] := hl
  refine lv_aload_n hx hb dX4_travel_0 rfl (lv_at hl 0 rfl) ?_
  refine lv_iconst (v := nI 0) hx hb dX4_travel_1 (by decide) ?_
  refine va_put (D := (dC, dI)) (ci := 4) (v := .int (nI 0)) (ty := .int) (C := RX4) (T := TX4) (N := 23) hx hb hts inX4 tyX4 tyX4_ok nmX4 hown hK hP hD hS 0 rfl rfl 0 (by decide) (hts _ tw_572) (fun _ h9 => h9) rfl (by decide +kernel) rfl rfl (Nat.le_of_ble_eq_true rfl) dX4_travel_2 (fun H locs hP hD hS => ?_)
  have hP : va_P (dC, dI) vwCl (wM q cI cZ (MS.s_th y 0)) H := hP
  have hD : va_D A (wM q cI cZ (MS.s_th y 0)) := hD
  refine lv_aload_n hx hb dX4_travel_5 rfl (lv_at hl 0 rfl) ?_
  refine xc_Vi (As := []) (wr := []) ⟨hx, hb, hml, hown, hts⟩ (c_ScanRowsModel_allTravel l dC dI q cI cZ H.size (MS.s_th y 0) hM hmo) (cwV 0 hts (gV tw_676 tw_678 sw_27 tw_5 tw_679) rfl rfl rfl (by decide +kernel) ⟨Nat.le_of_ble_eq_true rfl, Nat.le_of_ble_eq_true rfl⟩) rfl hl.1 rfl (Nat.le_of_ble_eq_true rfl) dX4_travel_6 ⟨Nat.zero_le _, Nat.zero_le _⟩ hP hD hK hS hA [0, 1, 2, 3, 4, 5, 6, 7, 8, 9, 10, 11, 12, 13] [] rfl rfl (by decide) (by decide) (by decide) [0, 1] rfl (q0 := 0) rfl rfl rfl eT_M (trivial) (fun r_1 u_2 H locs w_3 hP hD hS => ?_)
  obtain rfl := w_3
  have hP : va_P (dC, dI) vwCl (wM q cI cZ (MS.s_th y 0)) H := hP
  have hD : va_D A (wM q cI cZ (MS.s_th y 0)) := hD
  refine xt_i (show nI (trC (MS.s_th y 0) (MS.c (MS.s_th y 0))) = nI (trC y y.c) from congrArg nI (trC_th y 0 y.c)) ?_
  refine lv_i2l hx hb dX4_travel_9 rfl ?_
  refine xt_l (show ((nI (trC y y.c)).toInt64) = (lN (trC y y.c)) from nI_l (by omega)) ?_
  exact xr_l hx hb hr hlk (u := MS.s_th y 0) (⟨rfl, rfl⟩) hP hK hD hS dX4_travel_10
set_option maxHeartbeats 4000000 in
set_option maxRecDepth 100000 in
theorem c_ScanRowsModel_placeOf (l : Launch) (dC : Nat → ClassId) (dI : Nat → Nat → Nat) (q : Nat → Nat) (cI cZ : ClassId) (sz : Nat) (y : MS) (t : Nat) (hM : MB y) (h1 : t < 32) : Met l yX4_placeOf (.code yX4_placeOf cX4_placeOf 3 (some .int) :: ALLG) ({ frames := 0, cells := 0, slots := 0, locals := 0 }) (va_Pc [.ref (q 0), .int (nI t)] (cP (dC, dI) vwCl [(cI, .int), (cZ, .boolean)] (wM q cI cZ y) eT sz)) (va_Qi (fun (x : Int32) (_ : Unit) => x = zI (plF y.rw t y.p)) (fun (_ : Unit) => cB (dC, dI) vwCl [(cI, .int), (cZ, .boolean)] (wM q cI cZ y) (va_A (wM q cI cZ y) sz)) (va_A (wM q cI cZ y) sz)) 0 0 (va_A (wM q cI cZ y) sz) := by
  refine xm_of (cc := cX4_placeOf) (maxL := 3) (ret := some .int) (by decide) rfl (Nat.le_of_ble_eq_true rfl) ?_
  intro p e s m below meth c A hAe hx hb hr hml hts0 hown hlk hin hsz H locs hP hK hD hA hS hE ls hl
  have hts : ∀ w ∈ ALLG, w.before _ s = true := fun w h => hts0 w (List.mem_cons_of_mem _ h)
  rw [← hAe]
  have hM0 := hM
  have b_n : y.n ≤ 32 := hM.1.1
  have b_c : y.c ≤ 8 := hM.1.2.1
  have b_p : y.p ≤ y.n := hM.1.2.2.1
  have b_vb : ∀ z, y.vb z < 2 := hM.1.2.2.2.1
  have b_ck : ∀ z, y.ck z < 4 := hM.1.2.2.2.2.1
  have b_xx : ∀ z, -1000 ≤ y.xx z ∧ y.xx z ≤ 1000 := hM.1.2.2.2.2.2.1
  have b_yy : ∀ z, -1000 ≤ y.yy z ∧ y.yy z ≤ 1000 := hM.1.2.2.2.2.2.2.1
  have b_fl : ∀ z, y.fl z < 2 := hM.1.2.2.2.2.2.2.2.1
  have b_rw : ∀ z, y.rw z < 32 := hM.1.2.2.2.2.2.2.2.2.2.1
  have b_st : ∀ z, y.st z ≤ 32 := hM.1.2.2.2.2.2.2.2.2.2.2.2
  have hl : lv_has ls 3 [(0, .ref (q 0)), (1, .int (nI t))] := hl
  refine lv_iconst (v := nI 0) hx hb dX4_placeOf_0 (by decide) ?_
  refine lv_istore_n (lv' := [(2, .int (nI 0)), (0, .ref (q 0)), (1, .int (nI t))]) hx hb dX4_placeOf_1 rfl hl (by decide) rfl (fun ls hl => ?_)
  have L2 : ∀ (fuel : Nat) (i : Nat), (i ≤ y.p) → (plF y.rw t i = -1) → y.p - i < fuel → ∀ (H : Heap) (locs : List Loc), va_P (dC, dI) vwCl (wM q cI cZ y) H → va_D A (wM q cI cZ y) → va_S A s.heap H locs → ∀ ls : Array Slot, lv_has ls 3 [(0, .ref (q 0)), (1, .int (nI t)), (2, .int (nI i))] → W p l e ({ frames := 0, cells := 0, slots := 0, locals := 0 } : Room) s m ([.ref (q 0), .int (nI t)] : List Value).toArray below meth c H locs 0 0 (MQ below (va_Qi (fun (x : Int32) (_ : Unit) => x = zI (plF y.rw t y.p)) (fun (_ : Unit) => cB (dC, dI) vwCl [(cI, .int), (cZ, .boolean)] (wM q cI cZ y) (A)) (A)) ([.ref (q 0), .int (nI t)] : List Value).toArray s 0 0 A) (F0 m 2 ls []) := by
    intro fuel
    induction fuel with
    | zero => intro i i1 e1 hm H locs hP hD hS ls hl; exact absurd hm (Nat.not_lt_zero _)
    | succ fuel ih2 =>
      intro i i1 e1 hm H locs hP hD hS ls hl
      refine lv_iload_n hx hb dX4_placeOf_2 rfl (lv_at hl 2 rfl) ?_
      refine lv_aload_n hx hb dX4_placeOf_3 rfl (lv_at hl 0 rfl) ?_
      refine va_get (D := (dC, dI)) (ci := 4) (v := .int (nI (MS.p y))) (C := RX4) (T := TX4) (N := 23) hx hb hts inX4 hown hK hP 0 rfl rfl 9 (by decide) (hts _ tw_581) (fun _ h9 => h9) rfl dX4_placeOf_4 ?_
      refine xn_cge (tgt := 28) hx hb (by omega) (by omega) dX4_placeOf_7 (by decide) (fun c_1 => ?_) (fun c_1 => ?_)
      · refine lv_iconst (v := zI (-1)) hx hb dX4_placeOf_28 (by decide) ?_
        exact xr_i hx hb hr hlk (u := ()) (by rw [show y.p = i by omega, e1]) hP hK hD hS dX4_placeOf_29
      · have g1 := b_rw i
        refine lv_aload_n hx hb dX4_placeOf_10 rfl (lv_at hl 0 rfl) ?_
        refine va_get (D := (dC, dI)) (ci := 4) (v := .ref (q 6)) (C := RX4) (T := TX4) (N := 23) hx hb hts inX4 hown hK hP 0 rfl rfl 8 (by decide) (hts _ tw_580) (fun _ h9 => h9) rfl dX4_placeOf_11 ?_
        refine lv_iload_n hx hb dX4_placeOf_14 rfl (lv_at hl 2 rfl) ?_
        refine xa_ild hx hb hK hP 6 0 rfl rfl (v := nI ((MS.rw y) i)) (by omega) (by decide) rfl dX4_placeOf_15 ?_
        refine lv_iload_n hx hb dX4_placeOf_16 rfl (lv_at hl 1 rfl) ?_
        refine xn_cne (tgt := 22) hx hb (by omega) (by omega) dX4_placeOf_17 (by decide) (fun c_2 => ?_) (fun c_2 => ?_)
        · refine lv_iinc (v := nI (i + 1)) (lv' := [(2, .int (nI (i + 1))), (0, .ref (q 0)), (1, .int (nI t))]) hx hb dX4_placeOf_22 hl (k := 2) rfl (nI_1 _) (by decide) rfl (fun ls hl => ?_)
          refine lv_goto (tgt := 2) hx hb dX4_placeOf_25 (by decide) ?_
          exact ih2 (i + 1) (by omega) (plF_no e1 (by assumption)) (by omega) H locs hP hD hS ls (lv_sub hl [1, 2, 0] rfl)
        · refine lv_iload_n hx hb dX4_placeOf_20 rfl (lv_at hl 2 rfl) ?_
          refine xt_i (show nI i = zI ((i : Nat) : Int) from (zI_nI _).symm) ?_
          exact xr_i hx hb hr hlk (u := ()) (by have h8 := plF_st (plF_yes e1 (by assumption)) (by omega) (y.p - (i + 1)); rw [show i + 1 + (y.p - (i + 1)) = y.p by omega] at h8; rw [h8]) hP hK hD hS dX4_placeOf_21
  exact L2 ((y.p - 0) + 1) 0 (Nat.zero_le _) rfl (Nat.lt_succ_self _) H locs hP hD hS ls (lv_sub hl [1, 2, 0] rfl)
set_option maxHeartbeats 4000000 in
set_option maxRecDepth 100000 in
theorem c_ScanRowsModel_exchange (l : Launch) (dC : Nat → ClassId) (dI : Nat → Nat → Nat) (q : Nat → Nat) (cI cZ : ClassId) (sz : Nat) (y : MS) (i j : Nat) (h1 : i < 32) (h2 : j < 32) : Met l yX4_exchange (.code yX4_exchange cX4_exchange 4 none :: ALLG) ({ frames := 0, cells := 0, slots := 0, locals := 0 }) (va_Pc [.ref (q 0), .int (nI i), .int (nI j)] (cP (dC, dI) vwCl [(cI, .int), (cZ, .boolean)] (wM q cI cZ y) eT sz)) (va_Qv (fun (u : MS) => u = mX y i j) (fun (u : MS) => cB (dC, dI) vwCl [(cI, .int), (cZ, .boolean)] (wM q cI cZ u) (va_A (wM q cI cZ y) sz)) (va_A (wM q cI cZ y) sz)) 0 0 (va_A (wM q cI cZ y) sz) := by
  refine xm_of (cc := cX4_exchange) (maxL := 4) (ret := none) (by decide) rfl (Nat.le_of_ble_eq_true rfl) ?_
  intro p e s m below meth c A hAe hx hb hr hml hts0 hown hlk hin hsz H locs hP hK hD hA hS hE ls hl
  have hts : ∀ w ∈ ALLG, w.before _ s = true := fun w h => hts0 w (List.mem_cons_of_mem _ h)
  rw [← hAe]
  have hl : lv_has ls 4 [(0, .ref (q 0)), (1, .int (nI i)), (2, .int (nI j))] := hl
  refine lv_aload_n hx hb dX4_exchange_0 rfl (lv_at hl 0 rfl) ?_
  refine va_get (D := (dC, dI)) (ci := 4) (v := .ref (q 6)) (C := RX4) (T := TX4) (N := 23) hx hb hts inX4 hown hK hP 0 rfl rfl 8 (by decide) (hts _ tw_580) (fun _ h9 => h9) rfl dX4_exchange_1 ?_
  refine lv_iload_n hx hb dX4_exchange_4 rfl (lv_at hl 1 rfl) ?_
  refine xa_ild hx hb hK hP 6 0 rfl rfl (v := nI ((MS.rw y) i)) (by omega) (by decide) rfl dX4_exchange_5 ?_
  refine lv_istore_n (lv' := [(3, .int (nI ((MS.rw y) i))), (0, .ref (q 0)), (1, .int (nI i)), (2, .int (nI j))]) hx hb dX4_exchange_6 rfl hl (by decide) rfl (fun ls hl => ?_)
  refine lv_aload_n hx hb dX4_exchange_7 rfl (lv_at hl 1 rfl) ?_
  refine va_get (D := (dC, dI)) (ci := 4) (v := .ref (q 6)) (C := RX4) (T := TX4) (N := 23) hx hb hts inX4 hown hK hP 0 rfl rfl 8 (by decide) (hts _ tw_580) (fun _ h9 => h9) rfl dX4_exchange_8 ?_
  refine lv_iload_n hx hb dX4_exchange_11 rfl (lv_at hl 2 rfl) ?_
  refine lv_aload_n hx hb dX4_exchange_12 rfl (lv_at hl 1 rfl) ?_
  refine va_get (D := (dC, dI)) (ci := 4) (v := .ref (q 6)) (C := RX4) (T := TX4) (N := 23) hx hb hts inX4 hown hK hP 0 rfl rfl 8 (by decide) (hts _ tw_580) (fun _ h9 => h9) rfl dX4_exchange_13 ?_
  refine lv_iload_n hx hb dX4_exchange_16 rfl (lv_at hl 3 rfl) ?_
  refine xa_ild hx hb hK hP 6 0 rfl rfl (v := nI ((MS.rw y) j)) (by omega) (by decide) rfl dX4_exchange_17 ?_
  refine xa_ist hx hb hK hP hD hS 6 0 rfl rfl (by omega) (by decide) (aN_up _ _ _) dX4_exchange_18 (fun H locs hP hD hS => ?_)
  have hP : va_P (dC, dI) vwCl (wM q cI cZ (MS.s_rw y (va_up (MS.rw y) i ((MS.rw y) j)))) H := hP
  have hD : va_D A (wM q cI cZ (MS.s_rw y (va_up (MS.rw y) i ((MS.rw y) j)))) := hD
  refine lv_aload_n hx hb dX4_exchange_19 rfl (lv_at hl 1 rfl) ?_
  refine va_get (D := (dC, dI)) (ci := 4) (v := .ref (q 6)) (C := RX4) (T := TX4) (N := 23) hx hb hts inX4 hown hK hP 0 rfl rfl 8 (by decide) (hts _ tw_580) (fun _ h9 => h9) rfl dX4_exchange_20 ?_
  refine lv_iload_n hx hb dX4_exchange_23 rfl (lv_at hl 3 rfl) ?_
  refine lv_iload_n hx hb dX4_exchange_24 rfl (lv_at hl 0 rfl) ?_
  refine xa_ist hx hb hK hP hD hS 6 0 rfl rfl (by omega) (by decide) (aN_up _ _ _) dX4_exchange_25 (fun H locs hP hD hS => ?_)
  have hP : va_P (dC, dI) vwCl (wM q cI cZ (MS.s_rw (MS.s_rw y (va_up (MS.rw y) i ((MS.rw y) j))) (va_up (va_up (MS.rw y) i ((MS.rw y) j)) j ((MS.rw y) i)))) H := hP
  have hD : va_D A (wM q cI cZ (MS.s_rw (MS.s_rw y (va_up (MS.rw y) i ((MS.rw y) j))) (va_up (va_up (MS.rw y) i ((MS.rw y) j)) j ((MS.rw y) i)))) := hD
  exact xr_v hx hb hr hlk (u := MS.s_rw (MS.s_rw y (va_up (MS.rw y) i ((MS.rw y) j))) (va_up (va_up (MS.rw y) i ((MS.rw y) j)) j ((MS.rw y) i))) rfl hP hK hD hS dX4_exchange_26
set_option maxHeartbeats 4000000 in
set_option maxRecDepth 100000 in
theorem c_ScanRowsModel_step (l : Launch) (dC : Nat → ClassId) (dI : Nat → Nat → Nat) (q : Nat → Nat) (cI cZ : ClassId) (sz : Nat) (y : MS) (hM : MB y) (hmo : mono y) : Met l yX4_step (.code yX4_step cX4_step 6 (some .boolean) :: ALLG) ({ frames := 2, cells := 0, slots := 0, locals := 43 }) (va_Pc [.ref (q 0)] (cP (dC, dI) vwCl [(cI, .int), (cZ, .boolean)] (wM q cI cZ y) eT sz)) (va_Qi (fun (x : Int32) (u : MS) => mOnce y x u) (fun (u : MS) => cB (dC, dI) vwCl [(cI, .int), (cZ, .boolean)] (wM q cI cZ u) (va_A (wM q cI cZ y) sz)) (va_A (wM q cI cZ y) sz)) 0 0 (va_A (wM q cI cZ y) sz) := by
  refine xm_of (cc := cX4_step) (maxL := 6) (ret := some .boolean) (by decide) rfl (Nat.le_of_ble_eq_true rfl) ?_
  intro p e s m below meth c A hAe hx hb hr hml hts0 hown hlk hin hsz H locs hP hK hD hA hS hE ls hl
  have hts : ∀ w ∈ ALLG, w.before _ s = true := fun w h => hts0 w (List.mem_cons_of_mem _ h)
  rw [← hAe]
  have hM0 := hM
  have b_n : y.n ≤ 32 := hM.1.1
  have b_c : y.c ≤ 8 := hM.1.2.1
  have b_p : y.p ≤ y.n := hM.1.2.2.1
  have b_vb : ∀ z, y.vb z < 2 := hM.1.2.2.2.1
  have b_ck : ∀ z, y.ck z < 4 := hM.1.2.2.2.2.1
  have b_xx : ∀ z, -1000 ≤ y.xx z ∧ y.xx z ≤ 1000 := hM.1.2.2.2.2.2.1
  have b_yy : ∀ z, -1000 ≤ y.yy z ∧ y.yy z ≤ 1000 := hM.1.2.2.2.2.2.2.1
  have b_fl : ∀ z, y.fl z < 2 := hM.1.2.2.2.2.2.2.2.1
  have b_rw : ∀ z, y.rw z < 32 := hM.1.2.2.2.2.2.2.2.2.2.1
  have b_st : ∀ z, y.st z ≤ 32 := hM.1.2.2.2.2.2.2.2.2.2.2.2
  have g1 := trC_le hM.1 y.c
  have e00 : (y.c) = y.c := rfl
  have hl : lv_has ls 6 [(0, .ref (q 0))] := hl
  refine lv_aload_n hx hb dX4_step_0 rfl (lv_at hl 0 rfl) ?_
  refine xc_Vi (As := []) (wr := []) ⟨hx, hb, hml, hown, hts⟩ (c_ScanRowsModel_allTravel l dC dI q cI cZ H.size y hM0 hmo) (cwV 0 hts (gV tw_676 tw_678 sw_27 tw_5 tw_679) rfl rfl rfl (by decide +kernel) ⟨Nat.le_of_ble_eq_true rfl, Nat.le_of_ble_eq_true rfl⟩) rfl hl.1 rfl (Nat.le_of_ble_eq_true rfl) dX4_step_1 ⟨Nat.zero_le _, Nat.zero_le _⟩ hP hD hK hS hA [0, 1, 2, 3, 4, 5, 6, 7, 8, 9, 10, 11, 12, 13] [] rfl rfl (by decide) (by decide) (by decide) [0, 1] rfl (q0 := 0) rfl rfl rfl eT_M (trivial) (fun r_1 u_2 H locs w_3 hP hD hS => ?_)
  obtain rfl := w_3
  have hP : va_P (dC, dI) vwCl (wM q cI cZ y) H := hP
  have hD : va_D A (wM q cI cZ y) := hD
  refine lv_istore_n (lv' := [(1, .int (nI (trC y (MS.c y)))), (0, .ref (q 0))]) hx hb dX4_step_4 rfl hl (by decide) rfl (fun ls hl => ?_)
  refine lv_iconst (v := nI 0) hx hb dX4_step_5 (by decide) ?_
  refine lv_istore_n (lv' := [(2, .int (nI 0)), (1, .int (nI (trC y (MS.c y)))), (0, .ref (q 0))]) hx hb dX4_step_6 rfl hl (by decide) rfl (fun ls hl => ?_)
  have L7 : ∀ (fuel : Nat) (i : Nat), (i ≤ y.n) → (∀ a' b', a' < i → a' < b' → b' < y.n → ¬ mGood y a' b') → y.n - i < fuel → ∀ (H : Heap) (locs : List Loc), va_P (dC, dI) vwCl (wM q cI cZ y) H → va_D A (wM q cI cZ y) → va_S A s.heap H locs → ∀ ls : Array Slot, lv_has ls 6 [(0, .ref (q 0)), (1, .int (nI (trC y y.c))), (2, .int (nI i))] → W p l e ({ frames := 2, cells := 0, slots := 0, locals := 43 } : Room) s m ([.ref (q 0)] : List Value).toArray below meth c H locs 0 0 (MQ below (va_Qi (fun (x : Int32) (u : MS) => mOnce y x u) (fun (u : MS) => cB (dC, dI) vwCl [(cI, .int), (cZ, .boolean)] (wM q cI cZ u) (A)) (A)) ([.ref (q 0)] : List Value).toArray s 0 0 A) (F0 m 7 ls []) := by
    intro fuel
    induction fuel with
    | zero => intro i i1 o1 hm H locs hP hD hS ls hl; exact absurd hm (Nat.not_lt_zero _)
    | succ fuel ih7 =>
      intro i i1 o1 hm H locs hP hD hS ls hl
      refine lv_iload_n hx hb dX4_step_7 rfl (lv_at hl 2 rfl) ?_
      refine lv_aload_n hx hb dX4_step_8 rfl (lv_at hl 0 rfl) ?_
      refine va_get (D := (dC, dI)) (ci := 4) (v := .int (nI (MS.n y))) (C := RX4) (T := TX4) (N := 23) hx hb hts inX4 hown hK hP 0 rfl rfl 7 (by decide) (hts _ tw_579) (fun _ h9 => h9) rfl dX4_step_9 ?_
      refine xn_cge (tgt := 106) hx hb (by omega) (by omega) dX4_step_12 (by decide) (fun c_4 => ?_) (fun c_4 => ?_)
      · refine lv_iconst (v := nI 0) hx hb dX4_step_106 (by decide) ?_
        exact xr_z hx hb hr hlk (by decide) (u := y) (Or.inr ⟨rfl, rfl, fun a' b' z1 z2 => o1 a' b' (by omega) z1 z2⟩) hP hK hD hS dX4_step_107
      · refine lv_iload_n hx hb dX4_step_15 rfl (lv_at hl 2 rfl) ?_
        refine lv_iconst (v := nI 1) hx hb dX4_step_16 (by decide) ?_
        refine xn_add hx hb dX4_step_17 ?_
        refine lv_istore_n (lv' := [(3, .int (nI (i + 1))), (0, .ref (q 0)), (1, .int (nI (trC y y.c))), (2, .int (nI i))]) hx hb dX4_step_18 rfl hl (by decide) rfl (fun ls hl => ?_)
        have L19 : ∀ (fuel : Nat) (j : Nat), (i + 1 ≤ j) → (j ≤ y.n) → (∀ a' b', a' = i → a' < b' → b' < j → ¬ mGood y a' b') → y.n - j < fuel → ∀ (H : Heap) (locs : List Loc), va_P (dC, dI) vwCl (wM q cI cZ y) H → va_D A (wM q cI cZ y) → va_S A s.heap H locs → ∀ ls : Array Slot, lv_has ls 6 [(0, .ref (q 0)), (1, .int (nI (trC y y.c))), (2, .int (nI i)), (3, .int (nI j))] → W p l e ({ frames := 2, cells := 0, slots := 0, locals := 43 } : Room) s m ([.ref (q 0)] : List Value).toArray below meth c H locs 0 0 (MQ below (va_Qi (fun (x : Int32) (u : MS) => mOnce y x u) (fun (u : MS) => cB (dC, dI) vwCl [(cI, .int), (cZ, .boolean)] (wM q cI cZ u) (A)) (A)) ([.ref (q 0)] : List Value).toArray s 0 0 A) (F0 m 19 ls []) := by
          intro fuel
          induction fuel with
          | zero => intro j j1 j2 o2 hm H locs hP hD hS ls hl; exact absurd hm (Nat.not_lt_zero _)
          | succ fuel ih19 =>
            intro j j1 j2 o2 hm H locs hP hD hS ls hl
            refine lv_iload_n hx hb dX4_step_19 rfl (lv_at hl 3 rfl) ?_
            refine lv_aload_n hx hb dX4_step_20 rfl (lv_at hl 0 rfl) ?_
            refine va_get (D := (dC, dI)) (ci := 4) (v := .int (nI (MS.n y))) (C := RX4) (T := TX4) (N := 23) hx hb hts inX4 hown hK hP 0 rfl rfl 7 (by decide) (hts _ tw_579) (fun _ h9 => h9) rfl dX4_step_21 ?_
            refine xn_cge (tgt := 100) hx hb (by omega) (by omega) dX4_step_24 (by decide) (fun c_5 => ?_) (fun c_5 => ?_)
            · refine lv_iinc (v := nI (i + 1)) (lv' := [(2, .int (nI (i + 1))), (0, .ref (q 0)), (1, .int (nI (trC y y.c))), (3, .int (nI j))]) hx hb dX4_step_100 hl (k := 2) rfl (nI_1 _) (by decide) rfl (fun ls hl => ?_)
              refine lv_goto (tgt := 7) hx hb dX4_step_103 (by decide) ?_
              exact ih7 (i + 1) (by omega) (fun a' b' z1 z2 z3 => (Nat.lt_succ_iff_lt_or_eq.mp z1).elim (fun z => o1 a' b' z z2 z3) (fun z => o2 a' b' z z2 (by omega))) (by omega) H locs hP hD hS ls (lv_sub hl [1, 2, 0] rfl)
            · have q1 := plF_b y.rw i y.p
              have q2 := plF_b y.rw j y.p
              have q3 := b_ck i
              have q4 := b_ck j
              refine lv_aload_n hx hb dX4_step_27 rfl (lv_at hl 0 rfl) ?_
              refine lv_iload_n hx hb dX4_step_28 rfl (lv_at hl 2 rfl) ?_
              refine xc_Vi (As := [.int (nI i)]) (wr := []) ⟨hx, hb, hml, hown, hts⟩ (c_ScanRowsModel_placeOf l dC dI q cI cZ H.size y i hM0 (by omega)) (cwV 1 hts (gV tw_691 tw_693 sw_29 tw_5 tw_694) rfl rfl rfl (by decide +kernel) ⟨Nat.le_of_ble_eq_true rfl, Nat.le_of_ble_eq_true rfl⟩) rfl hl.1 rfl (Nat.le_of_ble_eq_true rfl) dX4_step_29 ⟨Nat.zero_le _, Nat.zero_le _⟩ hP hD hK hS hA [0, 1, 2, 3, 4, 5, 6, 7, 8, 9, 10, 11, 12, 13] [] rfl rfl (by decide) (by decide) (by decide) [0, 1] rfl (q0 := 0) rfl rfl rfl eT_M (trivial) (fun r_6 u_7 H locs w_8 hP hD hS => ?_)
              obtain rfl := w_8
              have hP : va_P (dC, dI) vwCl (wM q cI cZ y) H := hP
              have hD : va_D A (wM q cI cZ y) := hD
              refine lv_istore (lv' := [(4, .int (zI (plF y.rw i y.p))), (0, .ref (q 0)), (1, .int (nI (trC y y.c))), (2, .int (nI i)), (3, .int (nI j))]) hx hb dX4_step_32 hl (by decide) rfl (fun ls hl => ?_)
              refine lv_aload_n hx hb dX4_step_34 rfl (lv_at hl 1 rfl) ?_
              refine lv_iload_n hx hb dX4_step_35 rfl (lv_at hl 4 rfl) ?_
              refine xc_Vi (As := [.int (nI j)]) (wr := []) ⟨hx, hb, hml, hown, hts⟩ (c_ScanRowsModel_placeOf l dC dI q cI cZ H.size y j hM0 (by omega)) (cwV 1 hts (gV tw_691 tw_693 sw_29 tw_5 tw_694) rfl rfl rfl (by decide +kernel) ⟨Nat.le_of_ble_eq_true rfl, Nat.le_of_ble_eq_true rfl⟩) rfl hl.1 rfl (Nat.le_of_ble_eq_true rfl) dX4_step_36 ⟨Nat.zero_le _, Nat.zero_le _⟩ hP hD hK hS hA [0, 1, 2, 3, 4, 5, 6, 7, 8, 9, 10, 11, 12, 13] [] rfl rfl (by decide) (by decide) (by decide) [0, 1] rfl (q0 := 0) rfl rfl rfl eT_M (trivial) (fun r_9 u_10 H locs w_11 hP hD hS => ?_)
              obtain rfl := w_11
              have hP : va_P (dC, dI) vwCl (wM q cI cZ y) H := hP
              have hD : va_D A (wM q cI cZ y) := hD
              refine lv_istore (lv' := [(5, .int (zI (plF y.rw j y.p))), (4, .int (zI (plF y.rw i y.p))), (0, .ref (q 0)), (1, .int (nI (trC y y.c))), (2, .int (nI i)), (3, .int (nI j))]) hx hb dX4_step_39 hl (by decide) rfl (fun ls hl => ?_)
              refine lv_iload hx hb dX4_step_41 (lv_at hl 1 rfl) ?_
              refine lv_iconst (v := zI (-1)) hx hb dX4_step_43 (by decide) ?_
              refine xz_ceq (tgt := 94) hx hb (by omega) (by omega) (by omega) (by omega) dX4_step_44 (by decide) (fun c_12 => ?_) (fun c_12 => ?_)
              · have ng : ¬ mGood y i j := fun z => z.1 c_12
                refine lv_iinc (v := nI (j + 1)) (lv' := [(3, .int (nI (j + 1))), (5, .int (zI (plF y.rw j y.p))), (4, .int (zI (plF y.rw i y.p))), (0, .ref (q 0)), (1, .int (nI (trC y y.c))), (2, .int (nI i))]) hx hb dX4_step_94 hl (k := 5) rfl (nI_1 _) (by decide) rfl (fun ls hl => ?_)
                refine lv_goto (tgt := 19) hx hb dX4_step_97 (by decide) ?_
                exact ih19 (j + 1) (by omega) (by omega) (fun a' b' z1 z2 z3 => (Nat.lt_succ_iff_lt_or_eq.mp z3).elim (fun z => o2 a' b' z1 z2 z) (fun z => by rw [z1, z]; exact ng)) (by omega) H locs hP hD hS ls (lv_sub hl [3, 4, 5, 0] rfl)
              · refine lv_iload hx hb dX4_step_47 (lv_at hl 0 rfl) ?_
                refine lv_iconst (v := zI (-1)) hx hb dX4_step_49 (by decide) ?_
                refine xz_ceq (tgt := 94) hx hb (by omega) (by omega) (by omega) (by omega) dX4_step_50 (by decide) (fun c_13 => ?_) (fun c_13 => ?_)
                · have ng : ¬ mGood y i j := fun z => z.2.1 c_13
                  refine lv_iinc (v := nI (j + 1)) (lv' := [(3, .int (nI (j + 1))), (5, .int (zI (plF y.rw j y.p))), (4, .int (zI (plF y.rw i y.p))), (0, .ref (q 0)), (1, .int (nI (trC y y.c))), (2, .int (nI i))]) hx hb dX4_step_94 hl (k := 5) rfl (nI_1 _) (by decide) rfl (fun ls hl => ?_)
                  refine lv_goto (tgt := 19) hx hb dX4_step_97 (by decide) ?_
                  exact ih19 (j + 1) (by omega) (by omega) (fun a' b' z1 z2 z3 => (Nat.lt_succ_iff_lt_or_eq.mp z3).elim (fun z => o2 a' b' z1 z2 z) (fun z => by rw [z1, z]; exact ng)) (by omega) H locs hP hD hS ls (lv_sub hl [3, 4, 5, 0] rfl)
                · refine lv_aload_n hx hb dX4_step_53 rfl (lv_at hl 2 rfl) ?_
                  refine va_get (D := (dC, dI)) (ci := 4) (v := .ref (q 1)) (C := RX4) (T := TX4) (N := 23) hx hb hts inX4 hown hK hP 0 rfl rfl 2 (by decide) (hts _ tw_574) (fun _ h9 => h9) rfl dX4_step_54 ?_
                  refine lv_iload_n hx hb dX4_step_57 rfl (lv_at hl 4 rfl) ?_
                  refine xa_ild hx hb hK hP 1 0 rfl rfl (v := nI ((MS.ck y) i)) (by omega) (by decide) rfl dX4_step_58 ?_
                  refine lv_aload_n hx hb dX4_step_59 rfl (lv_at hl 2 rfl) ?_
                  refine va_get (D := (dC, dI)) (ci := 4) (v := .ref (q 1)) (C := RX4) (T := TX4) (N := 23) hx hb hts inX4 hown hK hP 0 rfl rfl 2 (by decide) (hts _ tw_574) (fun _ h9 => h9) rfl dX4_step_60 ?_
                  refine lv_iload_n hx hb dX4_step_63 rfl (lv_at hl 5 rfl) ?_
                  refine xa_ild hx hb hK hP 1 0 rfl rfl (v := nI ((MS.ck y) j)) (by omega) (by decide) rfl dX4_step_64 ?_
                  refine xn_cne (tgt := 94) hx hb (by omega) (by omega) dX4_step_65 (by decide) (fun c_14 => ?_) (fun c_14 => ?_)
                  · have ng : ¬ mGood y i j := fun z => c_14 z.2.2.1
                    refine lv_iinc (v := nI (j + 1)) (lv' := [(3, .int (nI (j + 1))), (5, .int (zI (plF y.rw j y.p))), (4, .int (zI (plF y.rw i y.p))), (0, .ref (q 0)), (1, .int (nI (trC y y.c))), (2, .int (nI i))]) hx hb dX4_step_94 hl (k := 5) rfl (nI_1 _) (by decide) rfl (fun ls hl => ?_)
                    refine lv_goto (tgt := 19) hx hb dX4_step_97 (by decide) ?_
                    exact ih19 (j + 1) (by omega) (by omega) (fun a' b' z1 z2 z3 => (Nat.lt_succ_iff_lt_or_eq.mp z3).elim (fun z => o2 a' b' z1 z2 z) (fun z => by rw [z1, z]; exact ng)) (by omega) H locs hP hD hS ls (lv_sub hl [3, 4, 5, 0] rfl)
                  · have pa := pm_z c_12
                    have pb := pm_z c_13
                    have l4 : zI (plF y.rw i y.p) = nI (pm y i) := by rw [pa.1]; exact zI_nI _
                    have l5 : zI (plF y.rw j y.p) = nI (pm y j) := by rw [pb.1]; exact zI_nI _
                    rw [l4, l5] at hl
                    have g3 := trC_le (MB_mX hM0 (pm y i) (pm y j)).1 y.c
                    have e0 : (mX y (pm y i) (pm y j)).c = y.c := rfl
                    refine lv_aload_n hx hb dX4_step_68 rfl (lv_at hl 2 rfl) ?_
                    refine lv_iload hx hb dX4_step_69 (lv_at hl 1 rfl) ?_
                    refine lv_iload hx hb dX4_step_71 (lv_at hl 0 rfl) ?_
                    refine xc_Vv (As := [.int (nI (pm y i)), .int (nI (pm y j))]) (wr := []) ⟨hx, hb, hml, hown, hts⟩ (c_ScanRowsModel_exchange l dC dI q cI cZ H.size y (pm y i) (pm y j) (by omega) (by omega)) (cwV 2 hts (gV tw_695 tw_697 sw_30 tw_5 tw_698) rfl rfl rfl (by decide +kernel) ⟨Nat.le_of_ble_eq_true rfl, Nat.le_of_ble_eq_true rfl⟩) rfl hl.1 rfl (Nat.le_of_ble_eq_true rfl) dX4_step_73 ⟨Nat.zero_le _, Nat.zero_le _⟩ hP hD hK hS hA [0, 1, 2, 3, 4, 5, 6, 7, 8, 9, 10, 11, 12, 13] [] rfl rfl (by decide) (by decide) (by decide) [0, 1] rfl (q0 := 0) rfl rfl rfl eT_M (trivial) (fun u_16 H locs w_17 hP hD hS => ?_)
                    obtain rfl := w_17
                    have hP : va_P (dC, dI) vwCl (wM q cI cZ (mX y (pm y i) (pm y j))) H := hP
                    have hD : va_D A (wM q cI cZ (mX y (pm y i) (pm y j))) := hD
                    refine lv_aload_n hx hb dX4_step_76 rfl (lv_at hl 2 rfl) ?_
                    refine xc_Vi (As := []) (wr := []) ⟨hx, hb, hml, hown, hts⟩ (c_ScanRowsModel_allTravel l dC dI q cI cZ H.size (mX y (pm y i) (pm y j)) (MB_mX hM0 _ _) hmo) (cwV 0 hts (gV tw_676 tw_678 sw_27 tw_5 tw_679) rfl rfl rfl (by decide +kernel) ⟨Nat.le_of_ble_eq_true rfl, Nat.le_of_ble_eq_true rfl⟩) rfl hl.1 rfl (Nat.le_of_ble_eq_true rfl) dX4_step_77 ⟨Nat.zero_le _, Nat.zero_le _⟩ hP hD hK hS hA [0, 1, 2, 3, 4, 5, 6, 7, 8, 9, 10, 11, 12, 13] [] rfl rfl (by decide) (by decide) (by decide) [0, 1] rfl (q0 := 0) rfl rfl rfl eT_M (trivial) (fun r_18 u_19 H locs w_20 hP hD hS => ?_)
                    obtain rfl := w_20
                    have hP : va_P (dC, dI) vwCl (wM q cI cZ (mX y (pm y i) (pm y j))) H := hP
                    have hD : va_D A (wM q cI cZ (mX y (pm y i) (pm y j))) := hD
                    refine xt_i (show nI (trC (mX y (pm y i) (pm y j)) (MS.c (mX y (pm y i) (pm y j)))) = nI (trC (mX y (pm y i) (pm y j)) y.c) from rfl) ?_
                    refine lv_iload_n hx hb dX4_step_80 rfl (lv_at hl 3 rfl) ?_
                    refine xn_cge (tgt := 86) hx hb (by omega) (by omega) dX4_step_81 (by decide) (fun c_21 => ?_) (fun c_21 => ?_)
                    · refine lv_aload_n hx hb dX4_step_86 rfl (lv_at hl 2 rfl) ?_
                      refine lv_iload hx hb dX4_step_87 (lv_at hl 1 rfl) ?_
                      refine lv_iload hx hb dX4_step_89 (lv_at hl 0 rfl) ?_
                      refine xc_Vv (As := [.int (nI (pm y i)), .int (nI (pm y j))]) (wr := []) ⟨hx, hb, hml, hown, hts⟩ (c_ScanRowsModel_exchange l dC dI q cI cZ H.size (mX y (pm y i) (pm y j)) (pm y i) (pm y j) (by omega) (by omega)) (cwV 2 hts (gV tw_695 tw_697 sw_30 tw_5 tw_698) rfl rfl rfl (by decide +kernel) ⟨Nat.le_of_ble_eq_true rfl, Nat.le_of_ble_eq_true rfl⟩) rfl hl.1 rfl (Nat.le_of_ble_eq_true rfl) dX4_step_91 ⟨Nat.zero_le _, Nat.zero_le _⟩ hP hD hK hS hA [0, 1, 2, 3, 4, 5, 6, 7, 8, 9, 10, 11, 12, 13] [] rfl rfl (by decide) (by decide) (by decide) [0, 1] rfl (q0 := 0) rfl rfl rfl eT_M (trivial) (fun u_23 H locs w_24 hP hD hS => ?_)
                      obtain rfl := w_24
                      have hP : va_P (dC, dI) vwCl (wM q cI cZ (mX (mX y (pm y i) (pm y j)) (pm y i) (pm y j))) H := hP
                      have hD : va_D A (wM q cI cZ (mX (mX y (pm y i) (pm y j)) (pm y i) (pm y j))) := hD
                      rw [mX2] at hP hD
                      have ng : ¬ mGood y i j := fun z => absurd z.2.2.2 (by omega)
                      refine lv_iinc (v := nI (j + 1)) (lv' := [(3, .int (nI (j + 1))), (5, .int (nI (pm y j))), (4, .int (nI (pm y i))), (0, .ref (q 0)), (1, .int (nI (trC y y.c))), (2, .int (nI i))]) hx hb dX4_step_94 hl (k := 5) rfl (nI_1 _) (by decide) rfl (fun ls hl => ?_)
                      refine lv_goto (tgt := 19) hx hb dX4_step_97 (by decide) ?_
                      exact ih19 (j + 1) (by omega) (by omega) (fun a' b' z1 z2 z3 => (Nat.lt_succ_iff_lt_or_eq.mp z3).elim (fun z => o2 a' b' z1 z2 z) (fun z => by rw [z1, z]; exact ng)) (by omega) H locs hP hD hS ls (lv_sub hl [3, 4, 5, 0] rfl)
                    · refine lv_iconst (v := nI 1) hx hb dX4_step_84 (by decide) ?_
                      exact xr_z hx hb hr hlk (by decide) (u := mX y (pm y i) (pm y j)) (Or.inl ⟨rfl, i, j, ⟨by omega, by omega, ⟨c_12, c_13, c_14, by omega⟩, fun a' b' z1 z2 z3 => z3.elim (fun z => o1 a' b' z z1 z2) (fun z => o2 a' b' z.1 z1 z.2)⟩, rfl⟩) hP hK hD hS dX4_step_85
        exact L19 ((y.n - (i + 1)) + 1) (i + 1) (Nat.le_refl _) (by omega) (fun a' b' z1 z2 z3 => absurd z3 (by omega)) (Nat.lt_succ_self _) H locs hP hD hS ls (lv_sub hl [1, 2, 3, 0] rfl)
  exact L7 ((y.n - 0) + 1) 0 (Nat.zero_le _) (fun _ _ z => absurd z (Nat.not_lt_zero _)) (Nat.lt_succ_self _) H locs hP hD hS ls (lv_sub hl [2, 1, 0] rfl)
