/-! sorting and cutting -/
def insP (r : RS) (t : Nat) : Nat → (Nat → Nat) → (Nat → Nat)
  | 0, g => va_up g 0 t
  | p + 1, g => if sbN r t (g p) = 1 then insP r t p (va_up g (p + 1) (g p)) else va_up g (p + 1) t
def srt (r : RS) : Nat → (Nat → Nat)
  | 0 => r.rw
  | n + 1 => insP r n n (srt r n)
theorem insP_pos {r : RS} {t p : Nat} {g : Nat → Nat} (h : 0 < p) : insP r t p g = if sbN r t (g (p - 1)) = 1 then insP r t (p - 1) (va_up g p (g (p - 1))) else va_up g p t := by
  obtain ⟨k, rfl⟩ : ∃ k, p = k + 1 := ⟨p - 1, by omega⟩
  rfl
theorem insP_lt {r : RS} {t : Nat} (ht : t < 32) (p : Nat) : ∀ {g : Nat → Nat}, (∀ k, g k < 32) → ∀ k, insP r t p g k < 32 := by
  induction p with
  | zero => intro g hg; exact up_lt hg ht 0
  | succ p ih =>
    intro g hg
    unfold insP; split
    · exact ih (up_lt hg (hg p) _)
    · exact up_lt hg ht _
theorem srt_lt {r : RS} (hB : RB r) {n : Nat} (hn : n ≤ 32) : ∀ k, srt r n k < 32 := by
  induction n with
  | zero => exact hB.2.2.2.2.2.2.2.2.2.1
  | succ n ih => exact insP_lt (by omega) n (ih (by omega))
def plc (g : Nat → Nat) (po : Nat → Int) : Nat → (Nat → Int)
  | 0 => po
  | i + 1 => va_up (plc g po i) (g i) (i : Int)
def srtF (r : RS) : RS := ((r.s_rw (srt r r.n)).s_p r.n).s_po (plc (srt r r.n) r.po r.n)
theorem RB_rw {r : RS} {g : Nat → Nat} (h : RB r) (hg : ∀ k, g k < 32) : RB (r.s_rw g) := ⟨h.1, h.2.1, h.2.2.1, h.2.2.2.1, h.2.2.2.2.1, h.2.2.2.2.2.1, h.2.2.2.2.2.2.1, h.2.2.2.2.2.2.2.1, h.2.2.2.2.2.2.2.2.1, hg, h.2.2.2.2.2.2.2.2.2.2.1, h.2.2.2.2.2.2.2.2.2.2.2⟩
theorem plc_lt {g : Nat → Nat} {po : Nat → Int} (h : ∀ k, -1 ≤ po k ∧ po k < 32) {n : Nat} (hn : n ≤ 32) : ∀ k, -1 ≤ plc g po n k ∧ plc g po n k < 32 := by
  induction n with
  | zero => exact h
  | succ n ih => exact up_lti (ih (by omega)) ⟨by omega, by omega⟩ _
theorem RB_srtF {r : RS} (h : RB r) : RB (srtF r) := ⟨h.1, h.2.1, Nat.le_refl _, h.2.2.2.1, h.2.2.2.2.1, h.2.2.2.2.2.1, h.2.2.2.2.2.2.1, h.2.2.2.2.2.2.2.1, plc_lt h.2.2.2.2.2.2.2.2.1 h.1, srt_lt h h.1, h.2.2.2.2.2.2.2.2.2.2.1, h.2.2.2.2.2.2.2.2.2.2.2⟩
/-- where chain i begins, of p latches in c chains -/
def bg (p c : Nat) : Nat → Nat
  | 0 => 0
  | i + 1 => bg p c i + p / c + (if i < p % c then 1 else 0)
theorem bg_eq (p c i : Nat) : bg p c i = i * (p / c) + min i (p % c) := by
  induction i with
  | zero => simp [bg]
  | succ i ih =>
    have e : (i + 1) * (p / c) = i * (p / c) + p / c := by rw [Nat.add_mul, Nat.one_mul]
    simp only [bg, ih, e]
    split <;> omega
theorem bg_end (p : Nat) {c : Nat} (hc : 0 < c) : bg p c c = p := by
  rw [bg_eq, Nat.min_eq_right (Nat.le_of_lt (Nat.mod_lt _ hc))]
  exact Nat.div_add_mod p c
theorem bg_mono (p c i : Nat) : bg p c i ≤ bg p c (i + 1) := Nat.le_trans (Nat.le_add_right _ (p / c)) (Nat.le_add_right _ _)
theorem bg_le' (p c : Nat) {i j : Nat} (h : i ≤ j) : bg p c i ≤ bg p c j := by
  induction j with
  | zero => rw [show i = 0 by omega]; exact Nat.le_refl _
  | succ j ih =>
    by_cases e : i = j + 1
    · rw [e]; exact Nat.le_refl _
    · exact Nat.le_trans (ih (by omega)) (bg_mono p c j)
theorem bg_le (p : Nat) {c i : Nat} (hc : 0 < c) (hi : i ≤ c) : bg p c i ≤ p := Nat.le_trans (bg_le' p c hi) (Nat.le_of_eq (bg_end p hc))
def chF (p c : Nat) (ch : Nat → Nat) : Nat → (Nat → Nat)
  | 0 => ch
  | i + 1 => fun j => if bg p c i ≤ j ∧ j < bg p c (i + 1) then i else chF p c ch i j
def chI (p c : Nat) (ch : Nat → Nat) (i e : Nat) : Nat → Nat := fun j => if bg p c i ≤ j ∧ j < e then i else chF p c ch i j
theorem chI_0 (p c : Nat) (ch : Nat → Nat) (i : Nat) : chI p c ch i (bg p c i) = chF p c ch i := by
  funext j; unfold chI; rw [if_neg (by omega)]
theorem chI_e (p c : Nat) (ch : Nat → Nat) (i : Nat) : chI p c ch i (bg p c (i + 1)) = chF p c ch (i + 1) := rfl
theorem chI_s {p c i e : Nat} (ch : Nat → Nat) (h : bg p c i ≤ e) : va_up (chI p c ch i e) e i = chI p c ch i (e + 1) := by
  funext j; unfold va_up chI
  by_cases q : j = e
  · rw [if_pos q, if_pos (by omega)]
  · rw [if_neg q]
    by_cases q2 : bg p c i ≤ j ∧ j < e
    · rw [if_pos q2, if_pos (by omega)]
    · rw [if_neg q2, if_neg (by omega)]
theorem mod_sub (p c : Nat) : p - p / c * c = p % c := by
  have h := Nat.div_add_mod p c
  rw [Nat.mul_comm] at h
  omega
theorem bg_s1 {p c i : Nat} (h : i < p % c) : bg p c i + p / c + 1 = bg p c (i + 1) := by simp only [bg]; rw [if_pos h]
theorem bg_s0 {p c i : Nat} (h : ¬ i < p % c) : bg p c i + p / c + 0 = bg p c (i + 1) := by simp only [bg]; rw [if_neg h]
def cutF (r : RS) (c : Nat) : RS := ((r.s_st (cpN (bg r.p c) r.st (c + 1))).s_ch (chF r.p c r.ch c)).s_c c
def arrF (r : RS) (c : Nat) : RS := cutF (srtF r) c
theorem chF_lt {p c : Nat} {ch : Nat → Nat} (h : ∀ k, ch k < 8) {i : Nat} (hi : i ≤ 8) : ∀ k, chF p c ch i k < 8 := by
  induction i with
  | zero => exact h
  | succ i ih =>
    intro k; simp only [chF]; split
    · omega
    · exact ih (by omega) k
theorem sw_5 : Cond.selects "ScanRows$Rows" (⟨"ScanRows$Rows", "standsBefore", "(II)Z"⟩ : MethodName) (⟨"ScanRows$Rows", "standsBefore", "(II)Z"⟩ : MethodName) ∈ ALLG := al_s (i := 5) (by decide +kernel) (by decide +kernel)
theorem tw_295 : (Cond.methodLink "ScanRows$Rows" (55 : Nat) ({ cls := "ScanRows$Rows", name := "standsBefore", desc := "(II)Z" } : Jvm.MethodName)) ∈ ALLG := al_t (i := 295) (by decide +kernel) (by decide +kernel)
theorem tw_297 : (Cond.instanceMethod ({ cls := "ScanRows$Rows", name := "standsBefore", desc := "(II)Z" } : Jvm.MethodName)) ∈ ALLG := al_t (i := 297) (by decide +kernel) (by decide +kernel)
theorem tw_298 : (Cond.code ({ cls := "ScanRows$Rows", name := "standsBefore", desc := "(II)Z" } : Jvm.MethodName) prog_4_method_5_code (3 : Nat) (Option.some FieldType.boolean)) ∈ ALLG := al_t (i := 298) (by decide +kernel) (by decide +kernel)
theorem dX2_shiftChains_0 : decode cX2_shiftChains 0 = .ok (.iconst 0, 1) := by decide +kernel
theorem dX2_shiftChains_1 : decode cX2_shiftChains 1 = .ok (.istore_n 2, 1) := by decide +kernel
theorem dX2_shiftChains_2 : decode cX2_shiftChains 2 = .ok (.iconst 0, 1) := by decide +kernel
theorem dX2_shiftChains_3 : decode cX2_shiftChains 3 = .ok (.istore_n 3, 1) := by decide +kernel
theorem dX2_shiftChains_4 : decode cX2_shiftChains 4 = .ok (.iload_n 3, 1) := by decide +kernel
theorem dX2_shiftChains_5 : decode cX2_shiftChains 5 = .ok (.aload_n 0, 1) := by decide +kernel
theorem dX2_shiftChains_6 : decode cX2_shiftChains 6 = .ok (.getfield 62, 3) := by decide +kernel
theorem dX2_shiftChains_9 : decode cX2_shiftChains 9 = .ok (.if_icmp .ge 41, 3) := by decide +kernel
theorem dX2_shiftChains_12 : decode cX2_shiftChains 12 = .ok (.iload_n 1, 1) := by decide +kernel
theorem dX2_shiftChains_13 : decode cX2_shiftChains 13 = .ok (.iload_n 3, 1) := by decide +kernel
theorem dX2_shiftChains_14 : decode cX2_shiftChains 14 = .ok (.ishr, 1) := by decide +kernel
theorem dX2_shiftChains_15 : decode cX2_shiftChains 15 = .ok (.iconst 1, 1) := by decide +kernel
theorem dX2_shiftChains_16 : decode cX2_shiftChains 16 = .ok (.iand, 1) := by decide +kernel
theorem dX2_shiftChains_17 : decode cX2_shiftChains 17 = .ok (.istore 4, 2) := by decide +kernel
theorem dX2_shiftChains_19 : decode cX2_shiftChains 19 = .ok (.iload_n 2, 1) := by decide +kernel
theorem dX2_shiftChains_20 : decode cX2_shiftChains 20 = .ok (.aload_n 0, 1) := by decide +kernel
theorem dX2_shiftChains_21 : decode cX2_shiftChains 21 = .ok (.aload_n 0, 1) := by decide +kernel
theorem dX2_shiftChains_22 : decode cX2_shiftChains 22 = .ok (.getfield 37, 3) := by decide +kernel
theorem dX2_shiftChains_25 : decode cX2_shiftChains 25 = .ok (.iload_n 3, 1) := by decide +kernel
theorem dX2_shiftChains_26 : decode cX2_shiftChains 26 = .ok (.iaload, 1) := by decide +kernel
theorem dX2_shiftChains_27 : decode cX2_shiftChains 27 = .ok (.aload_n 0, 1) := by decide +kernel
theorem dX2_shiftChains_28 : decode cX2_shiftChains 28 = .ok (.getfield 37, 3) := by decide +kernel
theorem dX2_shiftChains_31 : decode cX2_shiftChains 31 = .ok (.iload_n 3, 1) := by decide +kernel
theorem dX2_shiftChains_32 : decode cX2_shiftChains 32 = .ok (.iconst 1, 1) := by decide +kernel
theorem dX2_shiftChains_33 : decode cX2_shiftChains 33 = .ok (.iadd, 1) := by decide +kernel
theorem dX2_shiftChains_34 : decode cX2_shiftChains 34 = .ok (.iaload, 1) := by decide +kernel
theorem dX2_shiftChains_35 : decode cX2_shiftChains 35 = .ok (.iload 4, 2) := by decide +kernel
theorem dX2_shiftChains_37 : decode cX2_shiftChains 37 = .ok (.invokevirtual 97, 3) := by decide +kernel
theorem dX2_shiftChains_40 : decode cX2_shiftChains 40 = .ok (.iload_n 3, 1) := by decide +kernel
theorem dX2_shiftChains_41 : decode cX2_shiftChains 41 = .ok (.ishl, 1) := by decide +kernel
theorem dX2_shiftChains_42 : decode cX2_shiftChains 42 = .ok (.ior, 1) := by decide +kernel
theorem dX2_shiftChains_43 : decode cX2_shiftChains 43 = .ok (.istore_n 2, 1) := by decide +kernel
theorem dX2_shiftChains_44 : decode cX2_shiftChains 44 = .ok (.iinc 3 1, 3) := by decide +kernel
theorem dX2_shiftChains_47 : decode cX2_shiftChains 47 = .ok (.goto (-43), 3) := by decide +kernel
theorem dX2_shiftChains_50 : decode cX2_shiftChains 50 = .ok (.iload_n 2, 1) := by decide +kernel
theorem dX2_shiftChains_51 : decode cX2_shiftChains 51 = .ok (.ireturn, 1) := by decide +kernel
theorem dX2_standsBefore_0 : decode cX2_standsBefore 0 = .ok (.aload_n 0, 1) := by decide +kernel
theorem dX2_standsBefore_1 : decode cX2_standsBefore 1 = .ok (.getfield 15, 3) := by decide +kernel
theorem dX2_standsBefore_4 : decode cX2_standsBefore 4 = .ok (.iload_n 1, 1) := by decide +kernel
theorem dX2_standsBefore_5 : decode cX2_standsBefore 5 = .ok (.iaload, 1) := by decide +kernel
theorem dX2_standsBefore_6 : decode cX2_standsBefore 6 = .ok (.aload_n 0, 1) := by decide +kernel
theorem dX2_standsBefore_7 : decode cX2_standsBefore 7 = .ok (.getfield 15, 3) := by decide +kernel
theorem dX2_standsBefore_10 : decode cX2_standsBefore 10 = .ok (.iload_n 2, 1) := by decide +kernel
theorem dX2_standsBefore_11 : decode cX2_standsBefore 11 = .ok (.iaload, 1) := by decide +kernel
theorem dX2_standsBefore_12 : decode cX2_standsBefore 12 = .ok (.if_icmp .eq 24, 3) := by decide +kernel
theorem dX2_standsBefore_15 : decode cX2_standsBefore 15 = .ok (.aload_n 0, 1) := by decide +kernel
theorem dX2_standsBefore_16 : decode cX2_standsBefore 16 = .ok (.getfield 15, 3) := by decide +kernel
theorem dX2_standsBefore_19 : decode cX2_standsBefore 19 = .ok (.iload_n 1, 1) := by decide +kernel
theorem dX2_standsBefore_20 : decode cX2_standsBefore 20 = .ok (.iaload, 1) := by decide +kernel
theorem dX2_standsBefore_21 : decode cX2_standsBefore 21 = .ok (.aload_n 0, 1) := by decide +kernel
theorem dX2_standsBefore_22 : decode cX2_standsBefore 22 = .ok (.getfield 15, 3) := by decide +kernel
theorem dX2_standsBefore_25 : decode cX2_standsBefore 25 = .ok (.iload_n 2, 1) := by decide +kernel
theorem dX2_standsBefore_26 : decode cX2_standsBefore 26 = .ok (.iaload, 1) := by decide +kernel
theorem dX2_standsBefore_27 : decode cX2_standsBefore 27 = .ok (.if_icmp .ge 7, 3) := by decide +kernel
theorem dX2_standsBefore_30 : decode cX2_standsBefore 30 = .ok (.iconst 1, 1) := by decide +kernel
theorem dX2_standsBefore_31 : decode cX2_standsBefore 31 = .ok (.goto 4, 3) := by decide +kernel
theorem dX2_standsBefore_34 : decode cX2_standsBefore 34 = .ok (.iconst 0, 1) := by decide +kernel
theorem dX2_standsBefore_35 : decode cX2_standsBefore 35 = .ok (.ireturn, 1) := by decide +kernel
theorem dX2_standsBefore_36 : decode cX2_standsBefore 36 = .ok (.aload_n 0, 1) := by decide +kernel
theorem dX2_standsBefore_37 : decode cX2_standsBefore 37 = .ok (.getfield 18, 3) := by decide +kernel
theorem dX2_standsBefore_40 : decode cX2_standsBefore 40 = .ok (.iload_n 1, 1) := by decide +kernel
theorem dX2_standsBefore_41 : decode cX2_standsBefore 41 = .ok (.iaload, 1) := by decide +kernel
theorem dX2_standsBefore_42 : decode cX2_standsBefore 42 = .ok (.aload_n 0, 1) := by decide +kernel
theorem dX2_standsBefore_43 : decode cX2_standsBefore 43 = .ok (.getfield 18, 3) := by decide +kernel
theorem dX2_standsBefore_46 : decode cX2_standsBefore 46 = .ok (.iload_n 2, 1) := by decide +kernel
theorem dX2_standsBefore_47 : decode cX2_standsBefore 47 = .ok (.iaload, 1) := by decide +kernel
theorem dX2_standsBefore_48 : decode cX2_standsBefore 48 = .ok (.if_icmp .eq 24, 3) := by decide +kernel
theorem dX2_standsBefore_51 : decode cX2_standsBefore 51 = .ok (.aload_n 0, 1) := by decide +kernel
theorem dX2_standsBefore_52 : decode cX2_standsBefore 52 = .ok (.getfield 18, 3) := by decide +kernel
theorem dX2_standsBefore_55 : decode cX2_standsBefore 55 = .ok (.iload_n 1, 1) := by decide +kernel
theorem dX2_standsBefore_56 : decode cX2_standsBefore 56 = .ok (.iaload, 1) := by decide +kernel
theorem dX2_standsBefore_57 : decode cX2_standsBefore 57 = .ok (.aload_n 0, 1) := by decide +kernel
theorem dX2_standsBefore_58 : decode cX2_standsBefore 58 = .ok (.getfield 18, 3) := by decide +kernel
theorem dX2_standsBefore_61 : decode cX2_standsBefore 61 = .ok (.iload_n 2, 1) := by decide +kernel
theorem dX2_standsBefore_62 : decode cX2_standsBefore 62 = .ok (.iaload, 1) := by decide +kernel
theorem dX2_standsBefore_63 : decode cX2_standsBefore 63 = .ok (.if_icmp .ge 7, 3) := by decide +kernel
theorem dX2_standsBefore_66 : decode cX2_standsBefore 66 = .ok (.iconst 1, 1) := by decide +kernel
theorem dX2_standsBefore_67 : decode cX2_standsBefore 67 = .ok (.goto 4, 3) := by decide +kernel
theorem dX2_standsBefore_70 : decode cX2_standsBefore 70 = .ok (.iconst 0, 1) := by decide +kernel
theorem dX2_standsBefore_71 : decode cX2_standsBefore 71 = .ok (.ireturn, 1) := by decide +kernel
theorem dX2_standsBefore_72 : decode cX2_standsBefore 72 = .ok (.aload_n 0, 1) := by decide +kernel
theorem dX2_standsBefore_73 : decode cX2_standsBefore 73 = .ok (.getfield 21, 3) := by decide +kernel
theorem dX2_standsBefore_76 : decode cX2_standsBefore 76 = .ok (.iload_n 1, 1) := by decide +kernel
theorem dX2_standsBefore_77 : decode cX2_standsBefore 77 = .ok (.iaload, 1) := by decide +kernel
theorem dX2_standsBefore_78 : decode cX2_standsBefore 78 = .ok (.aload_n 0, 1) := by decide +kernel
theorem dX2_standsBefore_79 : decode cX2_standsBefore 79 = .ok (.getfield 21, 3) := by decide +kernel
theorem dX2_standsBefore_82 : decode cX2_standsBefore 82 = .ok (.iload_n 2, 1) := by decide +kernel
theorem dX2_standsBefore_83 : decode cX2_standsBefore 83 = .ok (.iaload, 1) := by decide +kernel
theorem dX2_standsBefore_84 : decode cX2_standsBefore 84 = .ok (.if_icmp .ge 7, 3) := by decide +kernel
theorem dX2_standsBefore_87 : decode cX2_standsBefore 87 = .ok (.iconst 1, 1) := by decide +kernel
theorem dX2_standsBefore_88 : decode cX2_standsBefore 88 = .ok (.goto 4, 3) := by decide +kernel
theorem dX2_standsBefore_91 : decode cX2_standsBefore 91 = .ok (.iconst 0, 1) := by decide +kernel
theorem dX2_standsBefore_92 : decode cX2_standsBefore 92 = .ok (.ireturn, 1) := by decide +kernel
theorem dX2_sortRow_0 : decode cX2_sortRow 0 = .ok (.iconst 0, 1) := by decide +kernel
theorem dX2_sortRow_1 : decode cX2_sortRow 1 = .ok (.istore_n 1, 1) := by decide +kernel
theorem dX2_sortRow_2 : decode cX2_sortRow 2 = .ok (.iload_n 1, 1) := by decide +kernel
theorem dX2_sortRow_3 : decode cX2_sortRow 3 = .ok (.aload_n 0, 1) := by decide +kernel
theorem dX2_sortRow_4 : decode cX2_sortRow 4 = .ok (.getfield 40, 3) := by decide +kernel
theorem dX2_sortRow_7 : decode cX2_sortRow 7 = .ok (.if_icmp .ge 58, 3) := by decide +kernel
theorem dX2_sortRow_10 : decode cX2_sortRow 10 = .ok (.iload_n 1, 1) := by decide +kernel
theorem dX2_sortRow_11 : decode cX2_sortRow 11 = .ok (.istore_n 2, 1) := by decide +kernel
theorem dX2_sortRow_12 : decode cX2_sortRow 12 = .ok (.iload_n 2, 1) := by decide +kernel
theorem dX2_sortRow_13 : decode cX2_sortRow 13 = .ok (.ifCond .le 39, 3) := by decide +kernel
theorem dX2_sortRow_16 : decode cX2_sortRow 16 = .ok (.aload_n 0, 1) := by decide +kernel
theorem dX2_sortRow_17 : decode cX2_sortRow 17 = .ok (.iload_n 1, 1) := by decide +kernel
theorem dX2_sortRow_18 : decode cX2_sortRow 18 = .ok (.aload_n 0, 1) := by decide +kernel
theorem dX2_sortRow_19 : decode cX2_sortRow 19 = .ok (.getfield 31, 3) := by decide +kernel
theorem dX2_sortRow_22 : decode cX2_sortRow 22 = .ok (.iload_n 2, 1) := by decide +kernel
theorem dX2_sortRow_23 : decode cX2_sortRow 23 = .ok (.iconst 1, 1) := by decide +kernel
theorem dX2_sortRow_24 : decode cX2_sortRow 24 = .ok (.isub, 1) := by decide +kernel
theorem dX2_sortRow_25 : decode cX2_sortRow 25 = .ok (.iaload, 1) := by decide +kernel
theorem dX2_sortRow_26 : decode cX2_sortRow 26 = .ok (.invokevirtual 55, 3) := by decide +kernel
theorem dX2_sortRow_29 : decode cX2_sortRow 29 = .ok (.ifCond .eq 23, 3) := by decide +kernel
theorem dX2_sortRow_32 : decode cX2_sortRow 32 = .ok (.aload_n 0, 1) := by decide +kernel
theorem dX2_sortRow_33 : decode cX2_sortRow 33 = .ok (.getfield 31, 3) := by decide +kernel
theorem dX2_sortRow_36 : decode cX2_sortRow 36 = .ok (.iload_n 2, 1) := by decide +kernel
theorem dX2_sortRow_37 : decode cX2_sortRow 37 = .ok (.aload_n 0, 1) := by decide +kernel
theorem dX2_sortRow_38 : decode cX2_sortRow 38 = .ok (.getfield 31, 3) := by decide +kernel
theorem dX2_sortRow_41 : decode cX2_sortRow 41 = .ok (.iload_n 2, 1) := by decide +kernel
theorem dX2_sortRow_42 : decode cX2_sortRow 42 = .ok (.iconst 1, 1) := by decide +kernel
theorem dX2_sortRow_43 : decode cX2_sortRow 43 = .ok (.isub, 1) := by decide +kernel
theorem dX2_sortRow_44 : decode cX2_sortRow 44 = .ok (.iaload, 1) := by decide +kernel
theorem dX2_sortRow_45 : decode cX2_sortRow 45 = .ok (.iastore, 1) := by decide +kernel
theorem dX2_sortRow_46 : decode cX2_sortRow 46 = .ok (.iinc 2 (-1), 3) := by decide +kernel
theorem dX2_sortRow_49 : decode cX2_sortRow 49 = .ok (.goto (-37), 3) := by decide +kernel
theorem dX2_sortRow_52 : decode cX2_sortRow 52 = .ok (.aload_n 0, 1) := by decide +kernel
theorem dX2_sortRow_53 : decode cX2_sortRow 53 = .ok (.getfield 31, 3) := by decide +kernel
theorem dX2_sortRow_56 : decode cX2_sortRow 56 = .ok (.iload_n 2, 1) := by decide +kernel
theorem dX2_sortRow_57 : decode cX2_sortRow 57 = .ok (.iload_n 1, 1) := by decide +kernel
theorem dX2_sortRow_58 : decode cX2_sortRow 58 = .ok (.iastore, 1) := by decide +kernel
theorem dX2_sortRow_59 : decode cX2_sortRow 59 = .ok (.iinc 1 1, 3) := by decide +kernel
theorem dX2_sortRow_62 : decode cX2_sortRow 62 = .ok (.goto (-60), 3) := by decide +kernel
theorem dX2_sortRow_65 : decode cX2_sortRow 65 = .ok (.aload_n 0, 1) := by decide +kernel
theorem dX2_sortRow_66 : decode cX2_sortRow 66 = .ok (.aload_n 0, 1) := by decide +kernel
theorem dX2_sortRow_67 : decode cX2_sortRow 67 = .ok (.getfield 40, 3) := by decide +kernel
theorem dX2_sortRow_70 : decode cX2_sortRow 70 = .ok (.putfield 59, 3) := by decide +kernel
theorem dX2_sortRow_73 : decode cX2_sortRow 73 = .ok (.iconst 0, 1) := by decide +kernel
theorem dX2_sortRow_74 : decode cX2_sortRow 74 = .ok (.istore_n 1, 1) := by decide +kernel
theorem dX2_sortRow_75 : decode cX2_sortRow 75 = .ok (.iload_n 1, 1) := by decide +kernel
theorem dX2_sortRow_76 : decode cX2_sortRow 76 = .ok (.aload_n 0, 1) := by decide +kernel
theorem dX2_sortRow_77 : decode cX2_sortRow 77 = .ok (.getfield 59, 3) := by decide +kernel
theorem dX2_sortRow_80 : decode cX2_sortRow 80 = .ok (.if_icmp .ge 21, 3) := by decide +kernel
theorem dX2_sortRow_83 : decode cX2_sortRow 83 = .ok (.aload_n 0, 1) := by decide +kernel
theorem dX2_sortRow_84 : decode cX2_sortRow 84 = .ok (.getfield 28, 3) := by decide +kernel
theorem dX2_sortRow_87 : decode cX2_sortRow 87 = .ok (.aload_n 0, 1) := by decide +kernel
theorem dX2_sortRow_88 : decode cX2_sortRow 88 = .ok (.getfield 31, 3) := by decide +kernel
theorem dX2_sortRow_91 : decode cX2_sortRow 91 = .ok (.iload_n 1, 1) := by decide +kernel
theorem dX2_sortRow_92 : decode cX2_sortRow 92 = .ok (.iaload, 1) := by decide +kernel
theorem dX2_sortRow_93 : decode cX2_sortRow 93 = .ok (.iload_n 1, 1) := by decide +kernel
theorem dX2_sortRow_94 : decode cX2_sortRow 94 = .ok (.iastore, 1) := by decide +kernel
theorem dX2_sortRow_95 : decode cX2_sortRow 95 = .ok (.iinc 1 1, 3) := by decide +kernel
theorem dX2_sortRow_98 : decode cX2_sortRow 98 = .ok (.goto (-23), 3) := by decide +kernel
theorem dX2_sortRow_101 : decode cX2_sortRow 101 = .ok (.return_, 1) := by decide +kernel
theorem dX2_cutRow_0 : decode cX2_cutRow 0 = .ok (.aload_n 0, 1) := by decide +kernel
theorem dX2_cutRow_1 : decode cX2_cutRow 1 = .ok (.getfield 59, 3) := by decide +kernel
theorem dX2_cutRow_4 : decode cX2_cutRow 4 = .ok (.iload_n 1, 1) := by decide +kernel
theorem dX2_cutRow_5 : decode cX2_cutRow 5 = .ok (.idiv, 1) := by decide +kernel
theorem dX2_cutRow_6 : decode cX2_cutRow 6 = .ok (.istore_n 2, 1) := by decide +kernel
theorem dX2_cutRow_7 : decode cX2_cutRow 7 = .ok (.aload_n 0, 1) := by decide +kernel
theorem dX2_cutRow_8 : decode cX2_cutRow 8 = .ok (.getfield 59, 3) := by decide +kernel
theorem dX2_cutRow_11 : decode cX2_cutRow 11 = .ok (.iload_n 2, 1) := by decide +kernel
theorem dX2_cutRow_12 : decode cX2_cutRow 12 = .ok (.iload_n 1, 1) := by decide +kernel
theorem dX2_cutRow_13 : decode cX2_cutRow 13 = .ok (.imul, 1) := by decide +kernel
theorem dX2_cutRow_14 : decode cX2_cutRow 14 = .ok (.isub, 1) := by decide +kernel
theorem dX2_cutRow_15 : decode cX2_cutRow 15 = .ok (.istore_n 3, 1) := by decide +kernel
theorem dX2_cutRow_16 : decode cX2_cutRow 16 = .ok (.iconst 0, 1) := by decide +kernel
theorem dX2_cutRow_17 : decode cX2_cutRow 17 = .ok (.istore 4, 2) := by decide +kernel
theorem dX2_cutRow_19 : decode cX2_cutRow 19 = .ok (.iconst 0, 1) := by decide +kernel
theorem dX2_cutRow_20 : decode cX2_cutRow 20 = .ok (.istore 5, 2) := by decide +kernel
theorem dX2_cutRow_22 : decode cX2_cutRow 22 = .ok (.iload 5, 2) := by decide +kernel
theorem dX2_cutRow_24 : decode cX2_cutRow 24 = .ok (.iload_n 1, 1) := by decide +kernel
theorem dX2_cutRow_25 : decode cX2_cutRow 25 = .ok (.if_icmp .ge 58, 3) := by decide +kernel
theorem dX2_cutRow_28 : decode cX2_cutRow 28 = .ok (.aload_n 0, 1) := by decide +kernel
theorem dX2_cutRow_29 : decode cX2_cutRow 29 = .ok (.getfield 37, 3) := by decide +kernel
theorem dX2_cutRow_32 : decode cX2_cutRow 32 = .ok (.iload 5, 2) := by decide +kernel
theorem dX2_cutRow_34 : decode cX2_cutRow 34 = .ok (.iload 4, 2) := by decide +kernel
theorem dX2_cutRow_36 : decode cX2_cutRow 36 = .ok (.iastore, 1) := by decide +kernel
theorem dX2_cutRow_37 : decode cX2_cutRow 37 = .ok (.iload 4, 2) := by decide +kernel
theorem dX2_cutRow_39 : decode cX2_cutRow 39 = .ok (.iload_n 2, 1) := by decide +kernel
theorem dX2_cutRow_40 : decode cX2_cutRow 40 = .ok (.iadd, 1) := by decide +kernel
theorem dX2_cutRow_41 : decode cX2_cutRow 41 = .ok (.iload 5, 2) := by decide +kernel
theorem dX2_cutRow_43 : decode cX2_cutRow 43 = .ok (.iload_n 3, 1) := by decide +kernel
theorem dX2_cutRow_44 : decode cX2_cutRow 44 = .ok (.if_icmp .ge 7, 3) := by decide +kernel
theorem dX2_cutRow_47 : decode cX2_cutRow 47 = .ok (.iconst 1, 1) := by decide +kernel
theorem dX2_cutRow_48 : decode cX2_cutRow 48 = .ok (.goto 4, 3) := by decide +kernel
theorem dX2_cutRow_51 : decode cX2_cutRow 51 = .ok (.iconst 0, 1) := by decide +kernel
theorem dX2_cutRow_52 : decode cX2_cutRow 52 = .ok (.iadd, 1) := by decide +kernel
theorem dX2_cutRow_53 : decode cX2_cutRow 53 = .ok (.istore 6, 2) := by decide +kernel
theorem dX2_cutRow_55 : decode cX2_cutRow 55 = .ok (.iload 4, 2) := by decide +kernel
theorem dX2_cutRow_57 : decode cX2_cutRow 57 = .ok (.iload 6, 2) := by decide +kernel
theorem dX2_cutRow_59 : decode cX2_cutRow 59 = .ok (.if_icmp .ge 18, 3) := by decide +kernel
theorem dX2_cutRow_62 : decode cX2_cutRow 62 = .ok (.aload_n 0, 1) := by decide +kernel
theorem dX2_cutRow_63 : decode cX2_cutRow 63 = .ok (.getfield 34, 3) := by decide +kernel
theorem dX2_cutRow_66 : decode cX2_cutRow 66 = .ok (.iload 4, 2) := by decide +kernel
theorem dX2_cutRow_68 : decode cX2_cutRow 68 = .ok (.iload 5, 2) := by decide +kernel
theorem dX2_cutRow_70 : decode cX2_cutRow 70 = .ok (.iastore, 1) := by decide +kernel
theorem dX2_cutRow_71 : decode cX2_cutRow 71 = .ok (.iinc 4 1, 3) := by decide +kernel
theorem dX2_cutRow_74 : decode cX2_cutRow 74 = .ok (.goto (-19), 3) := by decide +kernel
theorem dX2_cutRow_77 : decode cX2_cutRow 77 = .ok (.iinc 5 1, 3) := by decide +kernel
theorem dX2_cutRow_80 : decode cX2_cutRow 80 = .ok (.goto (-58), 3) := by decide +kernel
theorem dX2_cutRow_83 : decode cX2_cutRow 83 = .ok (.aload_n 0, 1) := by decide +kernel
theorem dX2_cutRow_84 : decode cX2_cutRow 84 = .ok (.getfield 37, 3) := by decide +kernel
theorem dX2_cutRow_87 : decode cX2_cutRow 87 = .ok (.iload_n 1, 1) := by decide +kernel
theorem dX2_cutRow_88 : decode cX2_cutRow 88 = .ok (.iload 4, 2) := by decide +kernel
theorem dX2_cutRow_90 : decode cX2_cutRow 90 = .ok (.iastore, 1) := by decide +kernel
theorem dX2_cutRow_91 : decode cX2_cutRow 91 = .ok (.aload_n 0, 1) := by decide +kernel
theorem dX2_cutRow_92 : decode cX2_cutRow 92 = .ok (.iload_n 1, 1) := by decide +kernel
theorem dX2_cutRow_93 : decode cX2_cutRow 93 = .ok (.putfield 62, 3) := by decide +kernel
theorem dX2_cutRow_96 : decode cX2_cutRow 96 = .ok (.return_, 1) := by decide +kernel
set_option maxHeartbeats 4000000 in
set_option maxRecDepth 100000 in
theorem c_Rows_shiftChains (l : Launch) (dC : Nat → ClassId) (dI : Nat → Nat → Nat) (q : Nat → Nat) (cI cZ : ClassId) (sz : Nat) (r : RS) (bits : Int32) (hB : RB r) : Met l yX2_shiftChains (.code yX2_shiftChains cX2_shiftChains 5 (some .int) :: ALLG) ({ frames := 1, cells := 0, slots := 0, locals := 27 }) (va_Pc [.ref (q 0), .int bits] (cP (dC, dI) vwCl [(cI, .int), (cZ, .boolean)] (wR q cI cZ r) eT sz)) (va_Qi (fun (x : Int32) (u : RS) => x = (shC r bits r.c).1 ∧ u = r.s_vb (shC r bits r.c).2) (fun (u : RS) => cB (dC, dI) vwCl [(cI, .int), (cZ, .boolean)] (wR q cI cZ u) (va_A (wR q cI cZ r) sz)) (va_A (wR q cI cZ r) sz)) 0 0 (va_A (wR q cI cZ r) sz) := by
  refine xm_of (cc := cX2_shiftChains) (maxL := 5) (ret := some .int) (by decide) rfl (Nat.le_of_ble_eq_true rfl) ?_
  intro p e s m below meth c A hAe hx hb hr hml hts0 hown hlk hin hsz H locs hP hK hD hA hS hE ls hl
  have hts : ∀ w ∈ ALLG, w.before _ s = true := fun w h => hts0 w (List.mem_cons_of_mem _ h)
  rw [← hAe]
  have hB0 := hB
  obtain ⟨b_n, b_c, b_p, b_vb, b_ck, b_xx, b_yy, b_fl, b_po, b_rw, b_ch, b_st⟩ := hB
  have hl : lv_has ls 5 [(0, .ref (q 0)), (1, .int bits)] := hl
  refine lv_iconst (v := nI 0) hx hb dX2_shiftChains_0 (by decide) ?_
  refine lv_istore_n (lv' := [(2, .int (nI 0)), (0, .ref (q 0)), (1, .int bits)]) hx hb dX2_shiftChains_1 rfl hl (by decide) rfl (fun ls hl => ?_)
  refine lv_iconst (v := nI 0) hx hb dX2_shiftChains_2 (by decide) ?_
  refine lv_istore_n (lv' := [(3, .int (nI 0)), (2, .int (nI 0)), (0, .ref (q 0)), (1, .int bits)]) hx hb dX2_shiftChains_3 rfl hl (by decide) rfl (fun ls hl => ?_)
  have L4 : ∀ (fuel : Nat) (i : Nat), (i ≤ r.c) → r.c - i < fuel → ∀ (H : Heap) (locs : List Loc), va_P (dC, dI) vwCl (wR q cI cZ (RS.s_vb r (shC r bits i).2)) H → va_D A (wR q cI cZ (RS.s_vb r (shC r bits i).2)) → va_S A s.heap H locs → ∀ ls : Array Slot, lv_has ls 5 [(0, .ref (q 0)), (1, .int bits), (2, .int ((shC r bits i).1)), (3, .int (nI i))] → W p l e ({ frames := 1, cells := 0, slots := 0, locals := 27 } : Room) s m ([.ref (q 0), .int bits] : List Value).toArray below meth c H locs 0 0 (MQ below (va_Qi (fun (x : Int32) (u : RS) => x = (shC r bits r.c).1 ∧ u = r.s_vb (shC r bits r.c).2) (fun (u : RS) => cB (dC, dI) vwCl [(cI, .int), (cZ, .boolean)] (wR q cI cZ u) (A)) (A)) ([.ref (q 0), .int bits] : List Value).toArray s 0 0 A) (F0 m 4 ls []) := by
    intro fuel
    induction fuel with
    | zero => intro i i1 hm H locs hP hD hS ls hl; exact absurd hm (Nat.not_lt_zero _)
    | succ fuel ih4 =>
      intro i i1 hm H locs hP hD hS ls hl
      refine lv_iload_n hx hb dX2_shiftChains_4 rfl (lv_at hl 3 rfl) ?_
      refine lv_aload_n hx hb dX2_shiftChains_5 rfl (lv_at hl 0 rfl) ?_
      refine va_get (D := (dC, dI)) (ci := 2) (v := .int (nI (RS.c r))) (C := RX2) (T := TX2) (N := 12) hx hb hts inX2 hown hK hP 0 rfl rfl 1 (by decide) (hts _ tw_29) (fun _ h9 => h9) rfl dX2_shiftChains_6 ?_
      refine xn_cge (tgt := 50) hx hb (by omega) (by omega) dX2_shiftChains_9 (by decide) (fun c_1 => ?_) (fun c_1 => ?_)
      · refine lv_iload_n hx hb dX2_shiftChains_50 rfl (lv_at hl 2 rfl) ?_
        exact xr_i hx hb hr hlk (u := RS.s_vb r (shC r bits i).2) (⟨by rw [show r.c = i by omega], by rw [show r.c = i by omega]⟩) hP hK hD hS dX2_shiftChains_51
      · refine lv_iload_n hx hb dX2_shiftChains_12 rfl (lv_at hl 1 rfl) ?_
        refine lv_iload_n hx hb dX2_shiftChains_13 rfl (lv_at hl 3 rfl) ?_
        refine lv_ishr hx hb dX2_shiftChains_14 ?_
        refine lv_iconst (v := nI 1) hx hb dX2_shiftChains_15 (by decide) ?_
        refine lv_iand hx hb dX2_shiftChains_16 ?_
        refine xt_i (show ((bits >>> ((nI i) &&& 31)) &&& (nI 1)) = nI (sbit bits i) from sbit_and _ _) ?_
        refine lv_istore (lv' := [(4, .int (nI (sbit bits i))), (0, .ref (q 0)), (1, .int bits), (2, .int ((shC r bits i).1)), (3, .int (nI i))]) hx hb dX2_shiftChains_17 hl (by decide) rfl (fun ls hl => ?_)
        refine lv_iload_n hx hb dX2_shiftChains_19 rfl (lv_at hl 3 rfl) ?_
        refine lv_aload_n hx hb dX2_shiftChains_20 rfl (lv_at hl 1 rfl) ?_
        refine lv_aload_n hx hb dX2_shiftChains_21 rfl (lv_at hl 1 rfl) ?_
        refine va_get (D := (dC, dI)) (ci := 2) (v := .ref (q 9)) (C := RX2) (T := TX2) (N := 12) hx hb hts inX2 hown hK hP 0 rfl rfl 11 (by decide) (hts _ tw_42) (fun _ h9 => h9) rfl dX2_shiftChains_22 ?_
        refine lv_iload_n hx hb dX2_shiftChains_25 rfl (lv_at hl 4 rfl) ?_
        refine xa_ild hx hb hK hP 9 0 rfl rfl (v := nI ((RS.st r) i)) (by omega) (by decide) rfl dX2_shiftChains_26 ?_
        refine lv_aload_n hx hb dX2_shiftChains_27 rfl (lv_at hl 1 rfl) ?_
        refine va_get (D := (dC, dI)) (ci := 2) (v := .ref (q 9)) (C := RX2) (T := TX2) (N := 12) hx hb hts inX2 hown hK hP 0 rfl rfl 11 (by decide) (hts _ tw_42) (fun _ h9 => h9) rfl dX2_shiftChains_28 ?_
        refine lv_iload_n hx hb dX2_shiftChains_31 rfl (lv_at hl 4 rfl) ?_
        refine lv_iconst (v := nI 1) hx hb dX2_shiftChains_32 (by decide) ?_
        refine xn_add hx hb dX2_shiftChains_33 ?_
        refine xa_ild hx hb hK hP 9 0 rfl rfl (v := nI ((RS.st r) (i + 1))) (by omega) (by decide) rfl dX2_shiftChains_34 ?_
        refine lv_iload hx hb dX2_shiftChains_35 (lv_at hl 0 rfl) ?_
        refine xc_Vi (As := [.int (nI ((RS.st r) i)), .int (nI ((RS.st r) (i + 1))), .int (nI (sbit bits i))]) (wr := []) ⟨hx, hb, hml, hown, hts⟩ (c_Rows_shiftPlaces l dC dI q cI cZ H.size (RS.s_vb r (shC r bits i).2) ((RS.st r) i) ((RS.st r) (i + 1)) (sbit bits i) (RB_vb hB0 (shC_lt b_vb bits i)) (b_st _) (b_st _)) (cwV 3 hts (gV tw_168 tw_170 sw_2 tw_2 tw_171) rfl rfl rfl (by decide +kernel) ⟨Nat.le_of_ble_eq_true rfl, Nat.le_of_ble_eq_true rfl⟩) rfl hl.1 rfl (Nat.le_of_ble_eq_true rfl) dX2_shiftChains_37 ⟨Nat.zero_le _, Nat.zero_le _⟩ hP hD hK hS hA [0, 1, 2, 3, 4, 5, 6, 7, 8, 9] [] rfl rfl (by decide) (by decide) (by decide) [0, 1] rfl (q0 := 0) rfl rfl rfl eT_M (trivial) (fun r_2 u_3 H locs w_4 hP hD hS => ?_)
        obtain ⟨rfl, rfl⟩ := w_4
        have hP : va_P (dC, dI) vwCl (wR q cI cZ (RS.s_vb r (shV (RS.s_vb r (shC r bits i).2) ((RS.st r) i) ((RS.st r) (i + 1)) (sbit bits i)))) H := hP
        have hD : va_D A (wR q cI cZ (RS.s_vb r (shV (RS.s_vb r (shC r bits i).2) ((RS.st r) i) ((RS.st r) (i + 1)) (sbit bits i)))) := hD
        refine lv_iload_n hx hb dX2_shiftChains_40 rfl (lv_at hl 4 rfl) ?_
        refine lv_ishl hx hb dX2_shiftChains_41 ?_
        refine lv_ior hx hb dX2_shiftChains_42 ?_
        refine lv_istore_n (lv' := [(2, .int (((shC r bits i).1) ||| ((nI (shO (RS.s_vb r (shC r bits i).2) ((RS.st r) i) ((RS.st r) (i + 1)) (sbit bits i))) <<< ((nI i) &&& 31)))), (4, .int (nI (sbit bits i))), (0, .ref (q 0)), (1, .int bits), (3, .int (nI i))]) hx hb dX2_shiftChains_43 rfl hl (by decide) rfl (fun ls hl => ?_)
        refine lv_iinc (v := nI (i + 1)) (lv' := [(3, .int (nI (i + 1))), (2, .int (((shC r bits i).1) ||| ((nI (shO (RS.s_vb r (shC r bits i).2) ((RS.st r) i) ((RS.st r) (i + 1)) (sbit bits i))) <<< ((nI i) &&& 31)))), (4, .int (nI (sbit bits i))), (0, .ref (q 0)), (1, .int bits)]) hx hb dX2_shiftChains_44 hl (k := 4) rfl (nI_1 _) (by decide) rfl (fun ls hl => ?_)
        refine lv_goto (tgt := 4) hx hb dX2_shiftChains_47 (by decide) ?_
        exact ih4 (i + 1) (by omega) (by omega) H locs hP hD hS ls (lv_sub hl [3, 4, 1, 0] rfl)
  exact L4 ((r.c - 0) + 1) 0 (by omega) (Nat.lt_succ_self _) H locs hP hD hS ls (lv_sub hl [2, 3, 1, 0] rfl)
set_option maxHeartbeats 4000000 in
set_option maxRecDepth 100000 in
theorem c_Rows_standsBefore (l : Launch) (dC : Nat → ClassId) (dI : Nat → Nat → Nat) (q : Nat → Nat) (cI cZ : ClassId) (sz : Nat) (r : RS) (i j : Nat) (hB : RB r) (h1 : i < 32) (h2 : j < 32) : Met l yX2_standsBefore (.code yX2_standsBefore cX2_standsBefore 3 (some .boolean) :: ALLG) ({ frames := 0, cells := 0, slots := 0, locals := 0 }) (va_Pc [.ref (q 0), .int (nI i), .int (nI j)] (cP (dC, dI) vwCl [(cI, .int), (cZ, .boolean)] (wR q cI cZ r) eT sz)) (va_Qi (fun (x : Int32) (_ : Unit) => x = nI (sbN r i j)) (fun (_ : Unit) => cB (dC, dI) vwCl [(cI, .int), (cZ, .boolean)] (wR q cI cZ r) (va_A (wR q cI cZ r) sz)) (va_A (wR q cI cZ r) sz)) 0 0 (va_A (wR q cI cZ r) sz) := by
  refine xm_of (cc := cX2_standsBefore) (maxL := 3) (ret := some .boolean) (by decide) rfl (Nat.le_of_ble_eq_true rfl) ?_
  intro p e s m below meth c A hAe hx hb hr hml hts0 hown hlk hin hsz H locs hP hK hD hA hS hE ls hl
  have hts : ∀ w ∈ ALLG, w.before _ s = true := fun w h => hts0 w (List.mem_cons_of_mem _ h)
  rw [← hAe]
  obtain ⟨b_n, b_c, b_p, b_vb, b_ck, b_xx, b_yy, b_fl, b_po, b_rw, b_ch, b_st⟩ := hB
  have g1 := b_ck i
  have g2 := b_ck j
  have g3 := b_xx i
  have g4 := b_xx j
  have g5 := b_yy i
  have g6 := b_yy j
  have hl : lv_has ls 3 [(0, .ref (q 0)), (1, .int (nI i)), (2, .int (nI j))] := hl
  refine lv_aload_n hx hb dX2_standsBefore_0 rfl (lv_at hl 0 rfl) ?_
  refine va_get (D := (dC, dI)) (ci := 2) (v := .ref (q 2)) (C := RX2) (T := TX2) (N := 12) hx hb hts inX2 hown hK hP 0 rfl rfl 4 (by decide) (hts _ tw_35) (fun _ h9 => h9) rfl dX2_standsBefore_1 ?_
  refine lv_iload_n hx hb dX2_standsBefore_4 rfl (lv_at hl 1 rfl) ?_
  refine xa_ild hx hb hK hP 2 0 rfl rfl (v := nI ((RS.ck r) i)) (by omega) (by decide) rfl dX2_standsBefore_5 ?_
  refine lv_aload_n hx hb dX2_standsBefore_6 rfl (lv_at hl 0 rfl) ?_
  refine va_get (D := (dC, dI)) (ci := 2) (v := .ref (q 2)) (C := RX2) (T := TX2) (N := 12) hx hb hts inX2 hown hK hP 0 rfl rfl 4 (by decide) (hts _ tw_35) (fun _ h9 => h9) rfl dX2_standsBefore_7 ?_
  refine lv_iload_n hx hb dX2_standsBefore_10 rfl (lv_at hl 2 rfl) ?_
  refine xa_ild hx hb hK hP 2 0 rfl rfl (v := nI ((RS.ck r) j)) (by omega) (by decide) rfl dX2_standsBefore_11 ?_
  refine xn_ceq (tgt := 36) hx hb (by omega) (by omega) dX2_standsBefore_12 (by decide) (fun c_1 => ?_) (fun c_1 => ?_)
  · refine lv_aload_n hx hb dX2_standsBefore_36 rfl (lv_at hl 0 rfl) ?_
    refine va_get (D := (dC, dI)) (ci := 2) (v := .ref (q 3)) (C := RX2) (T := TX2) (N := 12) hx hb hts inX2 hown hK hP 0 rfl rfl 5 (by decide) (hts _ tw_36) (fun _ h9 => h9) rfl dX2_standsBefore_37 ?_
    refine lv_iload_n hx hb dX2_standsBefore_40 rfl (lv_at hl 1 rfl) ?_
    refine xa_ild hx hb hK hP 3 0 rfl rfl (v := zI ((RS.xx r) i)) (by omega) (by decide) rfl dX2_standsBefore_41 ?_
    refine lv_aload_n hx hb dX2_standsBefore_42 rfl (lv_at hl 0 rfl) ?_
    refine va_get (D := (dC, dI)) (ci := 2) (v := .ref (q 3)) (C := RX2) (T := TX2) (N := 12) hx hb hts inX2 hown hK hP 0 rfl rfl 5 (by decide) (hts _ tw_36) (fun _ h9 => h9) rfl dX2_standsBefore_43 ?_
    refine lv_iload_n hx hb dX2_standsBefore_46 rfl (lv_at hl 2 rfl) ?_
    refine xa_ild hx hb hK hP 3 0 rfl rfl (v := zI ((RS.xx r) j)) (by omega) (by decide) rfl dX2_standsBefore_47 ?_
    refine xz_ceq (tgt := 72) hx hb (by omega) (by omega) (by omega) (by omega) dX2_standsBefore_48 (by decide) (fun c_2 => ?_) (fun c_2 => ?_)
    · refine lv_aload_n hx hb dX2_standsBefore_72 rfl (lv_at hl 0 rfl) ?_
      refine va_get (D := (dC, dI)) (ci := 2) (v := .ref (q 4)) (C := RX2) (T := TX2) (N := 12) hx hb hts inX2 hown hK hP 0 rfl rfl 6 (by decide) (hts _ tw_37) (fun _ h9 => h9) rfl dX2_standsBefore_73 ?_
      refine lv_iload_n hx hb dX2_standsBefore_76 rfl (lv_at hl 1 rfl) ?_
      refine xa_ild hx hb hK hP 4 0 rfl rfl (v := zI ((RS.yy r) i)) (by omega) (by decide) rfl dX2_standsBefore_77 ?_
      refine lv_aload_n hx hb dX2_standsBefore_78 rfl (lv_at hl 0 rfl) ?_
      refine va_get (D := (dC, dI)) (ci := 2) (v := .ref (q 4)) (C := RX2) (T := TX2) (N := 12) hx hb hts inX2 hown hK hP 0 rfl rfl 6 (by decide) (hts _ tw_37) (fun _ h9 => h9) rfl dX2_standsBefore_79 ?_
      refine lv_iload_n hx hb dX2_standsBefore_82 rfl (lv_at hl 2 rfl) ?_
      refine xa_ild hx hb hK hP 4 0 rfl rfl (v := zI ((RS.yy r) j)) (by omega) (by decide) rfl dX2_standsBefore_83 ?_
      refine xz_cge (tgt := 91) hx hb (by omega) (by omega) (by omega) (by omega) dX2_standsBefore_84 (by decide) (fun c_3 => ?_) (fun c_3 => ?_)
      · refine lv_iconst (v := nI 0) hx hb dX2_standsBefore_91 (by decide) ?_
        exact xr_z hx hb hr hlk (by decide) (u := ()) (by unfold sbN; rw [if_pos (by assumption), if_pos (by assumption), if_neg (by omega)]) hP hK hD hS dX2_standsBefore_92
      · refine lv_iconst (v := nI 1) hx hb dX2_standsBefore_87 (by decide) ?_
        refine lv_goto (tgt := 92) hx hb dX2_standsBefore_88 (by decide) ?_
        exact xr_z hx hb hr hlk (by decide) (u := ()) (by unfold sbN; rw [if_pos (by assumption), if_pos (by assumption), if_pos (by omega)]) hP hK hD hS dX2_standsBefore_92
    · refine lv_aload_n hx hb dX2_standsBefore_51 rfl (lv_at hl 0 rfl) ?_
      refine va_get (D := (dC, dI)) (ci := 2) (v := .ref (q 3)) (C := RX2) (T := TX2) (N := 12) hx hb hts inX2 hown hK hP 0 rfl rfl 5 (by decide) (hts _ tw_36) (fun _ h9 => h9) rfl dX2_standsBefore_52 ?_
      refine lv_iload_n hx hb dX2_standsBefore_55 rfl (lv_at hl 1 rfl) ?_
      refine xa_ild hx hb hK hP 3 0 rfl rfl (v := zI ((RS.xx r) i)) (by omega) (by decide) rfl dX2_standsBefore_56 ?_
      refine lv_aload_n hx hb dX2_standsBefore_57 rfl (lv_at hl 0 rfl) ?_
      refine va_get (D := (dC, dI)) (ci := 2) (v := .ref (q 3)) (C := RX2) (T := TX2) (N := 12) hx hb hts inX2 hown hK hP 0 rfl rfl 5 (by decide) (hts _ tw_36) (fun _ h9 => h9) rfl dX2_standsBefore_58 ?_
      refine lv_iload_n hx hb dX2_standsBefore_61 rfl (lv_at hl 2 rfl) ?_
      refine xa_ild hx hb hK hP 3 0 rfl rfl (v := zI ((RS.xx r) j)) (by omega) (by decide) rfl dX2_standsBefore_62 ?_
      refine xz_cge (tgt := 70) hx hb (by omega) (by omega) (by omega) (by omega) dX2_standsBefore_63 (by decide) (fun c_4 => ?_) (fun c_4 => ?_)
      · refine lv_iconst (v := nI 0) hx hb dX2_standsBefore_70 (by decide) ?_
        exact xr_z hx hb hr hlk (by decide) (u := ()) (by unfold sbN; rw [if_pos (by assumption), if_neg (by assumption), if_neg (by omega)]) hP hK hD hS dX2_standsBefore_71
      · refine lv_iconst (v := nI 1) hx hb dX2_standsBefore_66 (by decide) ?_
        refine lv_goto (tgt := 71) hx hb dX2_standsBefore_67 (by decide) ?_
        exact xr_z hx hb hr hlk (by decide) (u := ()) (by unfold sbN; rw [if_pos (by assumption), if_neg (by assumption), if_pos (by omega)]) hP hK hD hS dX2_standsBefore_71
  · refine lv_aload_n hx hb dX2_standsBefore_15 rfl (lv_at hl 0 rfl) ?_
    refine va_get (D := (dC, dI)) (ci := 2) (v := .ref (q 2)) (C := RX2) (T := TX2) (N := 12) hx hb hts inX2 hown hK hP 0 rfl rfl 4 (by decide) (hts _ tw_35) (fun _ h9 => h9) rfl dX2_standsBefore_16 ?_
    refine lv_iload_n hx hb dX2_standsBefore_19 rfl (lv_at hl 1 rfl) ?_
    refine xa_ild hx hb hK hP 2 0 rfl rfl (v := nI ((RS.ck r) i)) (by omega) (by decide) rfl dX2_standsBefore_20 ?_
    refine lv_aload_n hx hb dX2_standsBefore_21 rfl (lv_at hl 0 rfl) ?_
    refine va_get (D := (dC, dI)) (ci := 2) (v := .ref (q 2)) (C := RX2) (T := TX2) (N := 12) hx hb hts inX2 hown hK hP 0 rfl rfl 4 (by decide) (hts _ tw_35) (fun _ h9 => h9) rfl dX2_standsBefore_22 ?_
    refine lv_iload_n hx hb dX2_standsBefore_25 rfl (lv_at hl 2 rfl) ?_
    refine xa_ild hx hb hK hP 2 0 rfl rfl (v := nI ((RS.ck r) j)) (by omega) (by decide) rfl dX2_standsBefore_26 ?_
    refine xn_cge (tgt := 34) hx hb (by omega) (by omega) dX2_standsBefore_27 (by decide) (fun c_5 => ?_) (fun c_5 => ?_)
    · refine lv_iconst (v := nI 0) hx hb dX2_standsBefore_34 (by decide) ?_
      exact xr_z hx hb hr hlk (by decide) (u := ()) (by unfold sbN; rw [if_neg (by assumption), if_neg (by omega)]) hP hK hD hS dX2_standsBefore_35
    · refine lv_iconst (v := nI 1) hx hb dX2_standsBefore_30 (by decide) ?_
      refine lv_goto (tgt := 35) hx hb dX2_standsBefore_31 (by decide) ?_
      exact xr_z hx hb hr hlk (by decide) (u := ()) (by unfold sbN; rw [if_neg (by assumption), if_pos (by omega)]) hP hK hD hS dX2_standsBefore_35
set_option maxHeartbeats 4000000 in
set_option maxRecDepth 100000 in
theorem c_Rows_sortRow (l : Launch) (dC : Nat → ClassId) (dI : Nat → Nat → Nat) (q : Nat → Nat) (cI cZ : ClassId) (sz : Nat) (r : RS) (hB : RB r) : Met l yX2_sortRow (.code yX2_sortRow cX2_sortRow 3 none :: ALLG) ({ frames := 1, cells := 0, slots := 0, locals := 22 }) (va_Pc [.ref (q 0)] (cP (dC, dI) vwCl [(cI, .int), (cZ, .boolean)] (wR q cI cZ r) eT sz)) (va_Qv (fun (u : RS) => u = srtF r) (fun (u : RS) => cB (dC, dI) vwCl [(cI, .int), (cZ, .boolean)] (wR q cI cZ u) (va_A (wR q cI cZ r) sz)) (va_A (wR q cI cZ r) sz)) 0 0 (va_A (wR q cI cZ r) sz) := by
  refine xm_of (cc := cX2_sortRow) (maxL := 3) (ret := none) (by decide) rfl (Nat.le_of_ble_eq_true rfl) ?_
  intro p e s m below meth c A hAe hx hb hr hml hts0 hown hlk hin hsz H locs hP hK hD hA hS hE ls hl
  have hts : ∀ w ∈ ALLG, w.before _ s = true := fun w h => hts0 w (List.mem_cons_of_mem _ h)
  rw [← hAe]
  have hB0 := hB
  have b_n := hB.1
  have hl : lv_has ls 3 [(0, .ref (q 0))] := hl
  refine lv_iconst (v := nI 0) hx hb dX2_sortRow_0 (by decide) ?_
  refine lv_istore_n (lv' := [(1, .int (nI 0)), (0, .ref (q 0))]) hx hb dX2_sortRow_1 rfl hl (by decide) rfl (fun ls hl => ?_)
  have L2 : ∀ (fuel : Nat) (i : Nat) (g : Nat → Nat), (i ≤ r.n) → (g = srt r i) → r.n - i < fuel → ∀ (H : Heap) (locs : List Loc), va_P (dC, dI) vwCl (wR q cI cZ (RS.s_rw r g)) H → va_D A (wR q cI cZ (RS.s_rw r g)) → va_S A s.heap H locs → ∀ ls : Array Slot, lv_has ls 3 [(0, .ref (q 0)), (1, .int (nI i))] → W p l e ({ frames := 1, cells := 0, slots := 0, locals := 22 } : Room) s m ([.ref (q 0)] : List Value).toArray below meth c H locs 0 0 (MQ below (va_Qv (fun (u : RS) => u = srtF r) (fun (u : RS) => cB (dC, dI) vwCl [(cI, .int), (cZ, .boolean)] (wR q cI cZ u) (A)) (A)) ([.ref (q 0)] : List Value).toArray s 0 0 A) (F0 m 2 ls []) := by
    intro fuel
    induction fuel with
    | zero => intro i g i1 e1 hm H locs hP hD hS ls hl; exact absurd hm (Nat.not_lt_zero _)
    | succ fuel ih2 =>
      intro i g i1 e1 hm H locs hP hD hS ls hl
      refine lv_iload_n hx hb dX2_sortRow_2 rfl (lv_at hl 1 rfl) ?_
      refine lv_aload_n hx hb dX2_sortRow_3 rfl (lv_at hl 0 rfl) ?_
      refine va_get (D := (dC, dI)) (ci := 2) (v := .int (nI (RS.n r))) (C := RX2) (T := TX2) (N := 12) hx hb hts inX2 hown hK hP 0 rfl rfl 0 (by decide) (hts _ tw_27) (fun _ h9 => h9) rfl dX2_sortRow_4 ?_
      refine xn_cge (tgt := 65) hx hb (by omega) (by omega) dX2_sortRow_7 (by decide) (fun c_1 => ?_) (fun c_1 => ?_)
      · have e4 : g = srt r r.n := by rw [e1, show r.n = i by omega]
        subst e4
        refine lv_aload_n hx hb dX2_sortRow_65 rfl (lv_at hl 0 rfl) ?_
        refine lv_aload_n hx hb dX2_sortRow_66 rfl (lv_at hl 0 rfl) ?_
        refine va_get (D := (dC, dI)) (ci := 2) (v := .int (nI (RS.n r))) (C := RX2) (T := TX2) (N := 12) hx hb hts inX2 hown hK hP 0 rfl rfl 0 (by decide) (hts _ tw_27) (fun _ h9 => h9) rfl dX2_sortRow_67 ?_
        refine va_put (D := (dC, dI)) (ci := 2) (v := .int (nI (RS.n r))) (ty := .int) (C := RX2) (T := TX2) (N := 12) hx hb hts inX2 tyX2 tyX2_ok nmX2 hown hK hP hD hS 0 rfl rfl 2 (by decide) (hts _ tw_32) (fun _ h9 => h9) rfl (by decide +kernel) rfl rfl (Nat.le_of_ble_eq_true rfl) dX2_sortRow_70 (fun H locs hP hD hS => ?_)
        have hP : va_P (dC, dI) vwCl (wR q cI cZ (RS.s_p (RS.s_rw r (srt r r.n)) (RS.n r))) H := hP
        have hD : va_D A (wR q cI cZ (RS.s_p (RS.s_rw r (srt r r.n)) (RS.n r))) := hD
        refine lv_iconst (v := nI 0) hx hb dX2_sortRow_73 (by decide) ?_
        refine lv_istore_n (lv' := [(1, .int (nI 0)), (0, .ref (q 0))]) hx hb dX2_sortRow_74 rfl hl (by decide) rfl (fun ls hl => ?_)
        have L75 : ∀ (fuel : Nat) (i : Nat) (po : Nat → Int), (i ≤ r.n) → (po = plc (srt r r.n) r.po i) → r.n - i < fuel → ∀ (H : Heap) (locs : List Loc), va_P (dC, dI) vwCl (wR q cI cZ (RS.s_po (RS.s_p (RS.s_rw r (srt r r.n)) r.n) po)) H → va_D A (wR q cI cZ (RS.s_po (RS.s_p (RS.s_rw r (srt r r.n)) r.n) po)) → va_S A s.heap H locs → ∀ ls : Array Slot, lv_has ls 3 [(0, .ref (q 0)), (1, .int (nI i))] → W p l e ({ frames := 1, cells := 0, slots := 0, locals := 22 } : Room) s m ([.ref (q 0)] : List Value).toArray below meth c H locs 0 0 (MQ below (va_Qv (fun (u : RS) => u = srtF r) (fun (u : RS) => cB (dC, dI) vwCl [(cI, .int), (cZ, .boolean)] (wR q cI cZ u) (A)) (A)) ([.ref (q 0)] : List Value).toArray s 0 0 A) (F0 m 75 ls []) := by
          intro fuel
          induction fuel with
          | zero => intro i po k1 e3 hm H locs hP hD hS ls hl; exact absurd hm (Nat.not_lt_zero _)
          | succ fuel ih75 =>
            intro i po k1 e3 hm H locs hP hD hS ls hl
            have b_g := srt_lt hB0 b_n
            refine lv_iload_n hx hb dX2_sortRow_75 rfl (lv_at hl 1 rfl) ?_
            refine lv_aload_n hx hb dX2_sortRow_76 rfl (lv_at hl 0 rfl) ?_
            refine va_get (D := (dC, dI)) (ci := 2) (v := .int (nI r.n)) (C := RX2) (T := TX2) (N := 12) hx hb hts inX2 hown hK hP 0 rfl rfl 2 (by decide) (hts _ tw_32) (fun _ h9 => h9) rfl dX2_sortRow_77 ?_
            refine xn_cge (tgt := 101) hx hb (by omega) (by omega) dX2_sortRow_80 (by decide) (fun c_2 => ?_) (fun c_2 => ?_)
            · exact xr_v hx hb hr hlk (u := RS.s_po (RS.s_p (RS.s_rw r (srt r r.n)) r.n) po) (by rw [e3, show i = r.n by omega]; rfl) hP hK hD hS dX2_sortRow_101
            · refine lv_aload_n hx hb dX2_sortRow_83 rfl (lv_at hl 0 rfl) ?_
              refine va_get (D := (dC, dI)) (ci := 2) (v := .ref (q 6)) (C := RX2) (T := TX2) (N := 12) hx hb hts inX2 hown hK hP 0 rfl rfl 8 (by decide) (hts _ tw_39) (fun _ h9 => h9) rfl dX2_sortRow_84 ?_
              refine lv_aload_n hx hb dX2_sortRow_87 rfl (lv_at hl 0 rfl) ?_
              refine va_get (D := (dC, dI)) (ci := 2) (v := .ref (q 7)) (C := RX2) (T := TX2) (N := 12) hx hb hts inX2 hown hK hP 0 rfl rfl 9 (by decide) (hts _ tw_40) (fun _ h9 => h9) rfl dX2_sortRow_88 ?_
              refine lv_iload_n hx hb dX2_sortRow_91 rfl (lv_at hl 1 rfl) ?_
              refine xa_ild hx hb hK hP 7 0 rfl rfl (v := nI ((srt r r.n) i)) (by omega) (by decide) rfl dX2_sortRow_92 ?_
              refine lv_iload_n hx hb dX2_sortRow_93 rfl (lv_at hl 1 rfl) ?_
              refine xa_ist hx hb hK hP hD hS 6 0 rfl rfl (b_g _) (by decide) (aZ_upN _ _ _) dX2_sortRow_94 (fun H locs hP hD hS => ?_)
              have hP : va_P (dC, dI) vwCl (wR q cI cZ (RS.s_po (RS.s_po (RS.s_p (RS.s_rw r (srt r r.n)) r.n) po) (va_up po ((srt r r.n) i) ((i : Nat) : Int)))) H := hP
              have hD : va_D A (wR q cI cZ (RS.s_po (RS.s_po (RS.s_p (RS.s_rw r (srt r r.n)) r.n) po) (va_up po ((srt r r.n) i) ((i : Nat) : Int)))) := hD
              refine lv_iinc (v := nI (i + 1)) (lv' := [(1, .int (nI (i + 1))), (0, .ref (q 0))]) hx hb dX2_sortRow_95 hl (k := 1) rfl (nI_1 _) (by decide) rfl (fun ls hl => ?_)
              refine lv_goto (tgt := 75) hx hb dX2_sortRow_98 (by decide) ?_
              exact ih75 (i + 1) (va_up po ((srt r r.n) i) ((i : Nat) : Int)) (by omega) (by rw [e3]; rfl) (by omega) H locs hP hD hS ls (lv_sub hl [1, 0] rfl)
        exact L75 ((r.n - 0) + 1) 0 (RS.po r) (Nat.zero_le _) rfl (Nat.lt_succ_self _) H locs hP hD hS ls (lv_sub hl [1, 0] rfl)
      · refine lv_iload_n hx hb dX2_sortRow_10 rfl (lv_at hl 1 rfl) ?_
        refine lv_istore_n (lv' := [(2, .int (nI i)), (0, .ref (q 0)), (1, .int (nI i))]) hx hb dX2_sortRow_11 rfl hl (by decide) rfl (fun ls hl => ?_)
        have L12 : ∀ (fuel : Nat) (pp : Nat) (g : Nat → Nat), (pp ≤ i) → (∀ z, g z < 32) → (insP r i pp g = srt r (i + 1)) → pp < fuel → ∀ (H : Heap) (locs : List Loc), va_P (dC, dI) vwCl (wR q cI cZ (RS.s_rw r g)) H → va_D A (wR q cI cZ (RS.s_rw r g)) → va_S A s.heap H locs → ∀ ls : Array Slot, lv_has ls 3 [(0, .ref (q 0)), (1, .int (nI i)), (2, .int (nI pp))] → W p l e ({ frames := 1, cells := 0, slots := 0, locals := 22 } : Room) s m ([.ref (q 0)] : List Value).toArray below meth c H locs 0 0 (MQ below (va_Qv (fun (u : RS) => u = srtF r) (fun (u : RS) => cB (dC, dI) vwCl [(cI, .int), (cZ, .boolean)] (wR q cI cZ u) (A)) (A)) ([.ref (q 0)] : List Value).toArray s 0 0 A) (F0 m 12 ls []) := by
          intro fuel
          induction fuel with
          | zero => intro pp g p1 b_g e2 hm H locs hP hD hS ls hl; exact absurd hm (Nat.not_lt_zero _)
          | succ fuel ih12 =>
            intro pp g p1 b_g e2 hm H locs hP hD hS ls hl
            refine lv_iload_n hx hb dX2_sortRow_12 rfl (lv_at hl 2 rfl) ?_
            refine xn_zle (tgt := 52) hx hb (by omega) dX2_sortRow_13 (by decide) (fun c_3 => ?_) (fun c_3 => ?_)
            · have e5 : va_up g pp i = srt r (i + 1) := by rw [← e2, show pp = 0 by omega]; rfl
              refine lv_aload_n hx hb dX2_sortRow_52 rfl (lv_at hl 0 rfl) ?_
              refine va_get (D := (dC, dI)) (ci := 2) (v := .ref (q 7)) (C := RX2) (T := TX2) (N := 12) hx hb hts inX2 hown hK hP 0 rfl rfl 9 (by decide) (hts _ tw_40) (fun _ h9 => h9) rfl dX2_sortRow_53 ?_
              refine lv_iload_n hx hb dX2_sortRow_56 rfl (lv_at hl 2 rfl) ?_
              refine lv_iload_n hx hb dX2_sortRow_57 rfl (lv_at hl 1 rfl) ?_
              refine xa_ist hx hb hK hP hD hS 7 0 rfl rfl (by omega) (by decide) (aN_up _ _ _) dX2_sortRow_58 (fun H locs hP hD hS => ?_)
              have hP : va_P (dC, dI) vwCl (wR q cI cZ (RS.s_rw (RS.s_rw r g) (va_up g pp i))) H := hP
              have hD : va_D A (wR q cI cZ (RS.s_rw (RS.s_rw r g) (va_up g pp i))) := hD
              refine lv_iinc (v := nI (i + 1)) (lv' := [(1, .int (nI (i + 1))), (0, .ref (q 0)), (2, .int (nI pp))]) hx hb dX2_sortRow_59 hl (k := 1) rfl (nI_1 _) (by decide) rfl (fun ls hl => ?_)
              refine lv_goto (tgt := 2) hx hb dX2_sortRow_62 (by decide) ?_
              exact ih2 (i + 1) (va_up g pp i) (by omega) e5 (by omega) H locs hP hD hS ls (lv_sub hl [1, 0] rfl)
            · have g1 := sbN_le r i (g (pp - 1))
              refine lv_aload_n hx hb dX2_sortRow_16 rfl (lv_at hl 0 rfl) ?_
              refine lv_iload_n hx hb dX2_sortRow_17 rfl (lv_at hl 1 rfl) ?_
              refine lv_aload_n hx hb dX2_sortRow_18 rfl (lv_at hl 0 rfl) ?_
              refine va_get (D := (dC, dI)) (ci := 2) (v := .ref (q 7)) (C := RX2) (T := TX2) (N := 12) hx hb hts inX2 hown hK hP 0 rfl rfl 9 (by decide) (hts _ tw_40) (fun _ h9 => h9) rfl dX2_sortRow_19 ?_
              refine lv_iload_n hx hb dX2_sortRow_22 rfl (lv_at hl 2 rfl) ?_
              refine lv_iconst (v := nI 1) hx hb dX2_sortRow_23 (by decide) ?_
              refine xn_sub hx hb (by omega) dX2_sortRow_24 ?_
              refine xa_ild hx hb hK hP 7 0 rfl rfl (v := nI (g (pp - 1))) (by omega) (by decide) rfl dX2_sortRow_25 ?_
              refine xc_Vi (As := [.int (nI i), .int (nI (g (pp - 1)))]) (wr := []) ⟨hx, hb, hml, hown, hts⟩ (c_Rows_standsBefore l dC dI q cI cZ H.size (RS.s_rw r g) i (g (pp - 1)) (RB_rw hB0 b_g) (by omega) (b_g _)) (cwV 2 hts (gV tw_295 tw_297 sw_5 tw_2 tw_298) rfl rfl rfl (by decide +kernel) ⟨Nat.le_of_ble_eq_true rfl, Nat.le_of_ble_eq_true rfl⟩) rfl hl.1 rfl (Nat.le_of_ble_eq_true rfl) dX2_sortRow_26 ⟨Nat.zero_le _, Nat.zero_le _⟩ hP hD hK hS hA [0, 1, 2, 3, 4, 5, 6, 7, 8, 9] [] rfl rfl (by decide) (by decide) (by decide) [0, 1] rfl (q0 := 0) rfl rfl rfl eT_M (trivial) (fun r_4 u_5 H locs w_6 hP hD hS => ?_)
              obtain rfl := w_6
              have hP : va_P (dC, dI) vwCl (wR q cI cZ (RS.s_rw r g)) H := hP
              have hD : va_D A (wR q cI cZ (RS.s_rw r g)) := hD
              refine xt_i (show nI (sbN (RS.s_rw r g) i (g (pp - 1))) = nI (sbN r i (g (pp - 1))) from rfl) ?_
              refine xn_zeq (tgt := 52) hx hb (by omega) dX2_sortRow_29 (by decide) (fun c_7 => ?_) (fun c_7 => ?_)
              · have e5 : va_up g pp i = srt r (i + 1) := by rw [← e2, insP_pos (show 0 < pp by omega), if_neg (by omega)]
                refine lv_aload_n hx hb dX2_sortRow_52 rfl (lv_at hl 0 rfl) ?_
                refine va_get (D := (dC, dI)) (ci := 2) (v := .ref (q 7)) (C := RX2) (T := TX2) (N := 12) hx hb hts inX2 hown hK hP 0 rfl rfl 9 (by decide) (hts _ tw_40) (fun _ h9 => h9) rfl dX2_sortRow_53 ?_
                refine lv_iload_n hx hb dX2_sortRow_56 rfl (lv_at hl 2 rfl) ?_
                refine lv_iload_n hx hb dX2_sortRow_57 rfl (lv_at hl 1 rfl) ?_
                refine xa_ist hx hb hK hP hD hS 7 0 rfl rfl (by omega) (by decide) (aN_up _ _ _) dX2_sortRow_58 (fun H locs hP hD hS => ?_)
                have hP : va_P (dC, dI) vwCl (wR q cI cZ (RS.s_rw (RS.s_rw r g) (va_up g pp i))) H := hP
                have hD : va_D A (wR q cI cZ (RS.s_rw (RS.s_rw r g) (va_up g pp i))) := hD
                refine lv_iinc (v := nI (i + 1)) (lv' := [(1, .int (nI (i + 1))), (0, .ref (q 0)), (2, .int (nI pp))]) hx hb dX2_sortRow_59 hl (k := 1) rfl (nI_1 _) (by decide) rfl (fun ls hl => ?_)
                refine lv_goto (tgt := 2) hx hb dX2_sortRow_62 (by decide) ?_
                exact ih2 (i + 1) (va_up g pp i) (by omega) e5 (by omega) H locs hP hD hS ls (lv_sub hl [1, 0] rfl)
              · have e5 : insP r i (pp - 1) (va_up g pp (g (pp - 1))) = srt r (i + 1) := by have h7 := e2; rw [insP_pos (show 0 < pp by omega), if_pos (by omega)] at h7; exact h7
                refine lv_aload_n hx hb dX2_sortRow_32 rfl (lv_at hl 0 rfl) ?_
                refine va_get (D := (dC, dI)) (ci := 2) (v := .ref (q 7)) (C := RX2) (T := TX2) (N := 12) hx hb hts inX2 hown hK hP 0 rfl rfl 9 (by decide) (hts _ tw_40) (fun _ h9 => h9) rfl dX2_sortRow_33 ?_
                refine lv_iload_n hx hb dX2_sortRow_36 rfl (lv_at hl 2 rfl) ?_
                refine lv_aload_n hx hb dX2_sortRow_37 rfl (lv_at hl 0 rfl) ?_
                refine va_get (D := (dC, dI)) (ci := 2) (v := .ref (q 7)) (C := RX2) (T := TX2) (N := 12) hx hb hts inX2 hown hK hP 0 rfl rfl 9 (by decide) (hts _ tw_40) (fun _ h9 => h9) rfl dX2_sortRow_38 ?_
                refine lv_iload_n hx hb dX2_sortRow_41 rfl (lv_at hl 2 rfl) ?_
                refine lv_iconst (v := nI 1) hx hb dX2_sortRow_42 (by decide) ?_
                refine xn_sub hx hb (by omega) dX2_sortRow_43 ?_
                refine xa_ild hx hb hK hP 7 0 rfl rfl (v := nI (g (pp - 1))) (by omega) (by decide) rfl dX2_sortRow_44 ?_
                refine xa_ist hx hb hK hP hD hS 7 0 rfl rfl (by omega) (by decide) (aN_up _ _ _) dX2_sortRow_45 (fun H locs hP hD hS => ?_)
                have hP : va_P (dC, dI) vwCl (wR q cI cZ (RS.s_rw (RS.s_rw r g) (va_up g pp (g (pp - 1))))) H := hP
                have hD : va_D A (wR q cI cZ (RS.s_rw (RS.s_rw r g) (va_up g pp (g (pp - 1))))) := hD
                refine lv_iinc (v := nI (pp - 1)) (lv' := [(2, .int (nI (pp - 1))), (0, .ref (q 0)), (1, .int (nI i))]) hx hb dX2_sortRow_46 hl (k := 2) rfl (sb_m1 (by omega)) (by decide) rfl (fun ls hl => ?_)
                refine lv_goto (tgt := 12) hx hb dX2_sortRow_49 (by decide) ?_
                exact ih12 (pp - 1) (va_up g pp (g (pp - 1))) (by omega) (up_lt b_g (b_g _) _) e5 (by omega) H locs hP hD hS ls (lv_sub hl [1, 2, 0] rfl)
        exact L12 (i + 1) i g (Nat.le_refl _) (by rw [e1]; exact srt_lt hB0 (by omega)) (by rw [e1]; rfl) (Nat.lt_succ_self _) H locs hP hD hS ls (lv_sub hl [1, 2, 0] rfl)
  exact L2 ((r.n - 0) + 1) 0 (RS.rw r) (Nat.zero_le _) rfl (Nat.lt_succ_self _) H locs hP hD hS ls (lv_sub hl [1, 0] rfl)
set_option maxHeartbeats 4000000 in
set_option maxRecDepth 100000 in
theorem c_Rows_cutRow (l : Launch) (dC : Nat → ClassId) (dI : Nat → Nat → Nat) (q : Nat → Nat) (cI cZ : ClassId) (sz : Nat) (r : RS) (c0 : Nat) (hB : RB r) (h1 : 0 < c0) (h2 : c0 ≤ 8) : Met l yX2_cutRow (.code yX2_cutRow cX2_cutRow 7 none :: ALLG) ({ frames := 0, cells := 0, slots := 0, locals := 0 }) (va_Pc [.ref (q 0), .int (nI c0)] (cP (dC, dI) vwCl [(cI, .int), (cZ, .boolean)] (wR q cI cZ r) eT sz)) (va_Qv (fun (u : RS) => u = cutF r c0) (fun (u : RS) => cB (dC, dI) vwCl [(cI, .int), (cZ, .boolean)] (wR q cI cZ u) (va_A (wR q cI cZ r) sz)) (va_A (wR q cI cZ r) sz)) 0 0 (va_A (wR q cI cZ r) sz) := by
  refine xm_of (cc := cX2_cutRow) (maxL := 7) (ret := none) (by decide) rfl (Nat.le_of_ble_eq_true rfl) ?_
  intro p e s m below meth c A hAe hx hb hr hml hts0 hown hlk hin hsz H locs hP hK hD hA hS hE ls hl
  have hts : ∀ w ∈ ALLG, w.before _ s = true := fun w h => hts0 w (List.mem_cons_of_mem _ h)
  rw [← hAe]
  have hB0 := hB
  have b_n := hB.1
  have b_p := hB.2.2.1
  have g4 := Nat.div_mul_le_self r.p c0
  have g5 : ∀ z, z ≤ c0 → bg r.p c0 z ≤ r.p := fun z hz => bg_le r.p h1 hz
  have g6 := Nat.div_le_self r.p c0
  have g7 := Nat.mod_lt r.p h1
  have hl : lv_has ls 7 [(0, .ref (q 0)), (1, .int (nI c0))] := hl
  refine lv_aload_n hx hb dX2_cutRow_0 rfl (lv_at hl 0 rfl) ?_
  refine va_get (D := (dC, dI)) (ci := 2) (v := .int (nI (RS.p r))) (C := RX2) (T := TX2) (N := 12) hx hb hts inX2 hown hK hP 0 rfl rfl 2 (by decide) (hts _ tw_32) (fun _ h9 => h9) rfl dX2_cutRow_1 ?_
  refine lv_iload_n hx hb dX2_cutRow_4 rfl (lv_at hl 1 rfl) ?_
  refine xn_div hx hb (by omega) (by omega) (by omega) dX2_cutRow_5 ?_
  refine lv_istore_n (lv' := [(2, .int (nI ((RS.p r) / c0))), (0, .ref (q 0)), (1, .int (nI c0))]) hx hb dX2_cutRow_6 rfl hl (by decide) rfl (fun ls hl => ?_)
  refine lv_aload_n hx hb dX2_cutRow_7 rfl (lv_at hl 1 rfl) ?_
  refine va_get (D := (dC, dI)) (ci := 2) (v := .int (nI (RS.p r))) (C := RX2) (T := TX2) (N := 12) hx hb hts inX2 hown hK hP 0 rfl rfl 2 (by decide) (hts _ tw_32) (fun _ h9 => h9) rfl dX2_cutRow_8 ?_
  refine lv_iload_n hx hb dX2_cutRow_11 rfl (lv_at hl 0 rfl) ?_
  refine lv_iload_n hx hb dX2_cutRow_12 rfl (lv_at hl 2 rfl) ?_
  refine xn_mul hx hb dX2_cutRow_13 ?_
  refine xn_sub hx hb (by omega) dX2_cutRow_14 ?_
  refine xt_i (show nI ((RS.p r) - (((RS.p r) / c0) * c0)) = nI (r.p % c0) from congrArg nI (mod_sub r.p c0)) ?_
  refine lv_istore_n (lv' := [(3, .int (nI (r.p % c0))), (2, .int (nI ((RS.p r) / c0))), (0, .ref (q 0)), (1, .int (nI c0))]) hx hb dX2_cutRow_15 rfl hl (by decide) rfl (fun ls hl => ?_)
  refine lv_iconst (v := nI 0) hx hb dX2_cutRow_16 (by decide) ?_
  refine lv_istore (lv' := [(4, .int (nI 0)), (3, .int (nI (r.p % c0))), (2, .int (nI ((RS.p r) / c0))), (0, .ref (q 0)), (1, .int (nI c0))]) hx hb dX2_cutRow_17 hl (by decide) rfl (fun ls hl => ?_)
  refine lv_iconst (v := nI 0) hx hb dX2_cutRow_19 (by decide) ?_
  refine lv_istore (lv' := [(5, .int (nI 0)), (4, .int (nI 0)), (3, .int (nI (r.p % c0))), (2, .int (nI ((RS.p r) / c0))), (0, .ref (q 0)), (1, .int (nI c0))]) hx hb dX2_cutRow_20 hl (by decide) rfl (fun ls hl => ?_)
  have L22 : ∀ (fuel : Nat) (i : Nat), (i ≤ c0) → c0 - i < fuel → ∀ (H : Heap) (locs : List Loc), va_P (dC, dI) vwCl (wR q cI cZ (RS.s_ch (RS.s_st r (cpN (bg r.p c0) r.st i)) (chF r.p c0 r.ch i))) H → va_D A (wR q cI cZ (RS.s_ch (RS.s_st r (cpN (bg r.p c0) r.st i)) (chF r.p c0 r.ch i))) → va_S A s.heap H locs → ∀ ls : Array Slot, lv_has ls 7 [(0, .ref (q 0)), (1, .int (nI c0)), (2, .int (nI (r.p / c0))), (3, .int (nI (r.p % c0))), (4, .int (nI (bg r.p c0 i))), (5, .int (nI i))] → W p l e ({ frames := 0, cells := 0, slots := 0, locals := 0 } : Room) s m ([.ref (q 0), .int (nI c0)] : List Value).toArray below meth c H locs 0 0 (MQ below (va_Qv (fun (u : RS) => u = cutF r c0) (fun (u : RS) => cB (dC, dI) vwCl [(cI, .int), (cZ, .boolean)] (wR q cI cZ u) (A)) (A)) ([.ref (q 0), .int (nI c0)] : List Value).toArray s 0 0 A) (F0 m 22 ls []) := by
    intro fuel
    induction fuel with
    | zero => intro i i1 hm H locs hP hD hS ls hl; exact absurd hm (Nat.not_lt_zero _)
    | succ fuel ih22 =>
      intro i i1 hm H locs hP hD hS ls hl
      have g8 := g5 i i1
      refine lv_iload hx hb dX2_cutRow_22 (lv_at hl 5 rfl) ?_
      refine lv_iload_n hx hb dX2_cutRow_24 rfl (lv_at hl 1 rfl) ?_
      refine xn_cge (tgt := 83) hx hb (by omega) (by omega) dX2_cutRow_25 (by decide) (fun c_1 => ?_) (fun c_1 => ?_)
      · refine lv_aload_n hx hb dX2_cutRow_83 rfl (lv_at hl 0 rfl) ?_
        refine va_get (D := (dC, dI)) (ci := 2) (v := .ref (q 9)) (C := RX2) (T := TX2) (N := 12) hx hb hts inX2 hown hK hP 0 rfl rfl 11 (by decide) (hts _ tw_42) (fun _ h9 => h9) rfl dX2_cutRow_84 ?_
        refine lv_iload_n hx hb dX2_cutRow_87 rfl (lv_at hl 1 rfl) ?_
        refine lv_iload hx hb dX2_cutRow_88 (lv_at hl 4 rfl) ?_
        refine xa_ist hx hb hK hP hD hS 9 0 rfl rfl (by omega) (by decide) (aN_up _ _ _) dX2_cutRow_90 (fun H locs hP hD hS => ?_)
        have hP : va_P (dC, dI) vwCl (wR q cI cZ (RS.s_st (RS.s_ch (RS.s_st r (cpN (bg r.p c0) r.st i)) (chF r.p c0 r.ch i)) (va_up (cpN (bg r.p c0) r.st i) c0 (bg r.p c0 i)))) H := hP
        have hD : va_D A (wR q cI cZ (RS.s_st (RS.s_ch (RS.s_st r (cpN (bg r.p c0) r.st i)) (chF r.p c0 r.ch i)) (va_up (cpN (bg r.p c0) r.st i) c0 (bg r.p c0 i)))) := hD
        refine lv_aload_n hx hb dX2_cutRow_91 rfl (lv_at hl 0 rfl) ?_
        refine lv_iload_n hx hb dX2_cutRow_92 rfl (lv_at hl 1 rfl) ?_
        refine va_put (D := (dC, dI)) (ci := 2) (v := .int (nI c0)) (ty := .int) (C := RX2) (T := TX2) (N := 12) hx hb hts inX2 tyX2 tyX2_ok nmX2 hown hK hP hD hS 0 rfl rfl 1 (by decide) (hts _ tw_29) (fun _ h9 => h9) rfl (by decide +kernel) rfl rfl (Nat.le_of_ble_eq_true rfl) dX2_cutRow_93 (fun H locs hP hD hS => ?_)
        have hP : va_P (dC, dI) vwCl (wR q cI cZ (RS.s_c (RS.s_st (RS.s_ch (RS.s_st r (cpN (bg r.p c0) r.st i)) (chF r.p c0 r.ch i)) (va_up (cpN (bg r.p c0) r.st i) c0 (bg r.p c0 i))) c0)) H := hP
        have hD : va_D A (wR q cI cZ (RS.s_c (RS.s_st (RS.s_ch (RS.s_st r (cpN (bg r.p c0) r.st i)) (chF r.p c0 r.ch i)) (va_up (cpN (bg r.p c0) r.st i) c0 (bg r.p c0 i))) c0)) := hD
        exact xr_v hx hb hr hlk (u := RS.s_c (RS.s_st (RS.s_ch (RS.s_st r (cpN (bg r.p c0) r.st i)) (chF r.p c0 r.ch i)) (va_up (cpN (bg r.p c0) r.st i) c0 (bg r.p c0 i))) c0) (by unfold cutF; rw [show c0 = i by omega, cpN_s]) hP hK hD hS dX2_cutRow_96
      · have g8 := g5 i (by omega)
        have g9 := g5 (i + 1) (by omega)
        refine lv_aload_n hx hb dX2_cutRow_28 rfl (lv_at hl 0 rfl) ?_
        refine va_get (D := (dC, dI)) (ci := 2) (v := .ref (q 9)) (C := RX2) (T := TX2) (N := 12) hx hb hts inX2 hown hK hP 0 rfl rfl 11 (by decide) (hts _ tw_42) (fun _ h9 => h9) rfl dX2_cutRow_29 ?_
        refine lv_iload hx hb dX2_cutRow_32 (lv_at hl 5 rfl) ?_
        refine lv_iload hx hb dX2_cutRow_34 (lv_at hl 4 rfl) ?_
        refine xa_ist hx hb hK hP hD hS 9 0 rfl rfl (by omega) (by decide) (aN_up _ _ _) dX2_cutRow_36 (fun H locs hP hD hS => ?_)
        have hP : va_P (dC, dI) vwCl (wR q cI cZ (RS.s_st (RS.s_ch (RS.s_st r (cpN (bg r.p c0) r.st i)) (chF r.p c0 r.ch i)) (va_up (cpN (bg r.p c0) r.st i) i (bg r.p c0 i)))) H := hP
        have hD : va_D A (wR q cI cZ (RS.s_st (RS.s_ch (RS.s_st r (cpN (bg r.p c0) r.st i)) (chF r.p c0 r.ch i)) (va_up (cpN (bg r.p c0) r.st i) i (bg r.p c0 i)))) := hD
        rw [cpN_s] at hP hD
        refine lv_iload hx hb dX2_cutRow_37 (lv_at hl 4 rfl) ?_
        refine lv_iload_n hx hb dX2_cutRow_39 rfl (lv_at hl 2 rfl) ?_
        refine xn_add hx hb dX2_cutRow_40 ?_
        refine lv_iload hx hb dX2_cutRow_41 (lv_at hl 5 rfl) ?_
        refine lv_iload_n hx hb dX2_cutRow_43 rfl (lv_at hl 3 rfl) ?_
        refine xn_cge (tgt := 51) hx hb (by omega) (by omega) dX2_cutRow_44 (by decide) (fun c_2 => ?_) (fun c_2 => ?_)
        · refine lv_iconst (v := nI 0) hx hb dX2_cutRow_51 (by decide) ?_
          refine xn_add hx hb dX2_cutRow_52 ?_
          refine xt_i (show nI (((bg r.p c0 i) + (r.p / c0)) + 0) = nI (bg r.p c0 (i + 1)) from congrArg nI (bg_s0 (by omega))) ?_
          refine lv_istore (lv' := [(6, .int (nI (bg r.p c0 (i + 1)))), (0, .ref (q 0)), (1, .int (nI c0)), (2, .int (nI (r.p / c0))), (3, .int (nI (r.p % c0))), (4, .int (nI (bg r.p c0 i))), (5, .int (nI i))]) hx hb dX2_cutRow_53 hl (by decide) rfl (fun ls hl => ?_)
          have hP : va_P (dC, dI) vwCl (wR q cI cZ (RS.s_ch (RS.s_st r (cpN (bg r.p c0) r.st (i + 1))) (chI r.p c0 r.ch i (bg r.p c0 i)))) H := by rw [chI_0]; exact hP
          have hD : va_D A (wR q cI cZ (RS.s_ch (RS.s_st r (cpN (bg r.p c0) r.st (i + 1))) (chI r.p c0 r.ch i (bg r.p c0 i)))) := by rw [chI_0]; exact hD
          have L55 : ∀ (fuel : Nat) (e0 : Nat), (bg r.p c0 i ≤ e0) → (e0 ≤ bg r.p c0 (i + 1)) → bg r.p c0 (i + 1) - e0 < fuel → ∀ (H : Heap) (locs : List Loc), va_P (dC, dI) vwCl (wR q cI cZ (RS.s_ch (RS.s_st r (cpN (bg r.p c0) r.st (i + 1))) (chI r.p c0 r.ch i e0))) H → va_D A (wR q cI cZ (RS.s_ch (RS.s_st r (cpN (bg r.p c0) r.st (i + 1))) (chI r.p c0 r.ch i e0))) → va_S A s.heap H locs → ∀ ls : Array Slot, lv_has ls 7 [(0, .ref (q 0)), (1, .int (nI c0)), (2, .int (nI (r.p / c0))), (3, .int (nI (r.p % c0))), (4, .int (nI e0)), (5, .int (nI i)), (6, .int (nI (bg r.p c0 (i + 1))))] → W p l e ({ frames := 0, cells := 0, slots := 0, locals := 0 } : Room) s m ([.ref (q 0), .int (nI c0)] : List Value).toArray below meth c H locs 0 0 (MQ below (va_Qv (fun (u : RS) => u = cutF r c0) (fun (u : RS) => cB (dC, dI) vwCl [(cI, .int), (cZ, .boolean)] (wR q cI cZ u) (A)) (A)) ([.ref (q 0), .int (nI c0)] : List Value).toArray s 0 0 A) (F0 m 55 ls []) := by
            intro fuel
            induction fuel with
            | zero => intro e0 p1 p2 hm H locs hP hD hS ls hl; exact absurd hm (Nat.not_lt_zero _)
            | succ fuel ih55 =>
              intro e0 p1 p2 hm H locs hP hD hS ls hl
              refine lv_iload hx hb dX2_cutRow_55 (lv_at hl 4 rfl) ?_
              refine lv_iload hx hb dX2_cutRow_57 (lv_at hl 6 rfl) ?_
              refine xn_cge (tgt := 77) hx hb (by omega) (by omega) dX2_cutRow_59 (by decide) (fun c_3 => ?_) (fun c_3 => ?_)
              · have e6 : e0 = bg r.p c0 (i + 1) := by omega
                subst e6
                refine lv_iinc (v := nI (i + 1)) (lv' := [(5, .int (nI (i + 1))), (0, .ref (q 0)), (1, .int (nI c0)), (2, .int (nI (r.p / c0))), (3, .int (nI (r.p % c0))), (4, .int (nI (bg r.p c0 (i + 1)))), (6, .int (nI (bg r.p c0 (i + 1))))]) hx hb dX2_cutRow_77 hl (k := 5) rfl (nI_1 _) (by decide) rfl (fun ls hl => ?_)
                refine lv_goto (tgt := 22) hx hb dX2_cutRow_80 (by decide) ?_
                exact ih22 (i + 1) (by omega) (by omega) H locs hP hD hS ls (lv_sub hl [1, 2, 3, 4, 5, 0] rfl)
              · refine lv_aload_n hx hb dX2_cutRow_62 rfl (lv_at hl 0 rfl) ?_
                refine va_get (D := (dC, dI)) (ci := 2) (v := .ref (q 8)) (C := RX2) (T := TX2) (N := 12) hx hb hts inX2 hown hK hP 0 rfl rfl 10 (by decide) (hts _ tw_41) (fun _ h9 => h9) rfl dX2_cutRow_63 ?_
                refine lv_iload hx hb dX2_cutRow_66 (lv_at hl 4 rfl) ?_
                refine lv_iload hx hb dX2_cutRow_68 (lv_at hl 5 rfl) ?_
                refine xa_ist hx hb hK hP hD hS 8 0 rfl rfl (by omega) (by decide) (aN_up _ _ _) dX2_cutRow_70 (fun H locs hP hD hS => ?_)
                have hP : va_P (dC, dI) vwCl (wR q cI cZ (RS.s_ch (RS.s_ch (RS.s_st r (cpN (bg r.p c0) r.st (i + 1))) (chI r.p c0 r.ch i e0)) (va_up (chI r.p c0 r.ch i e0) e0 i))) H := hP
                have hD : va_D A (wR q cI cZ (RS.s_ch (RS.s_ch (RS.s_st r (cpN (bg r.p c0) r.st (i + 1))) (chI r.p c0 r.ch i e0)) (va_up (chI r.p c0 r.ch i e0) e0 i))) := hD
                rw [chI_s r.ch (show bg r.p c0 i ≤ e0 by omega)] at hP hD
                refine lv_iinc (v := nI (e0 + 1)) (lv' := [(4, .int (nI (e0 + 1))), (0, .ref (q 0)), (1, .int (nI c0)), (2, .int (nI (r.p / c0))), (3, .int (nI (r.p % c0))), (5, .int (nI i)), (6, .int (nI (bg r.p c0 (i + 1))))]) hx hb dX2_cutRow_71 hl (k := 4) rfl (nI_1 _) (by decide) rfl (fun ls hl => ?_)
                refine lv_goto (tgt := 55) hx hb dX2_cutRow_74 (by decide) ?_
                exact ih55 (e0 + 1) (by omega) (by omega) (by omega) H locs hP hD hS ls (lv_sub hl [1, 2, 3, 4, 0, 5, 6] rfl)
          exact L55 ((bg r.p c0 (i + 1) - bg r.p c0 i) + 1) (bg r.p c0 i) (Nat.le_refl _) (bg_mono _ _ _) (Nat.lt_succ_self _) H locs hP hD hS ls (lv_sub hl [1, 2, 3, 4, 5, 6, 0] rfl)
        · refine lv_iconst (v := nI 1) hx hb dX2_cutRow_47 (by decide) ?_
          refine lv_goto (tgt := 52) hx hb dX2_cutRow_48 (by decide) ?_
          refine xn_add hx hb dX2_cutRow_52 ?_
          refine xt_i (show nI (((bg r.p c0 i) + (r.p / c0)) + 1) = nI (bg r.p c0 (i + 1)) from congrArg nI (bg_s1 (by omega))) ?_
          refine lv_istore (lv' := [(6, .int (nI (bg r.p c0 (i + 1)))), (0, .ref (q 0)), (1, .int (nI c0)), (2, .int (nI (r.p / c0))), (3, .int (nI (r.p % c0))), (4, .int (nI (bg r.p c0 i))), (5, .int (nI i))]) hx hb dX2_cutRow_53 hl (by decide) rfl (fun ls hl => ?_)
          have hP : va_P (dC, dI) vwCl (wR q cI cZ (RS.s_ch (RS.s_st r (cpN (bg r.p c0) r.st (i + 1))) (chI r.p c0 r.ch i (bg r.p c0 i)))) H := by rw [chI_0]; exact hP
          have hD : va_D A (wR q cI cZ (RS.s_ch (RS.s_st r (cpN (bg r.p c0) r.st (i + 1))) (chI r.p c0 r.ch i (bg r.p c0 i)))) := by rw [chI_0]; exact hD
          have L55 : ∀ (fuel : Nat) (e0 : Nat), (bg r.p c0 i ≤ e0) → (e0 ≤ bg r.p c0 (i + 1)) → bg r.p c0 (i + 1) - e0 < fuel → ∀ (H : Heap) (locs : List Loc), va_P (dC, dI) vwCl (wR q cI cZ (RS.s_ch (RS.s_st r (cpN (bg r.p c0) r.st (i + 1))) (chI r.p c0 r.ch i e0))) H → va_D A (wR q cI cZ (RS.s_ch (RS.s_st r (cpN (bg r.p c0) r.st (i + 1))) (chI r.p c0 r.ch i e0))) → va_S A s.heap H locs → ∀ ls : Array Slot, lv_has ls 7 [(0, .ref (q 0)), (1, .int (nI c0)), (2, .int (nI (r.p / c0))), (3, .int (nI (r.p % c0))), (4, .int (nI e0)), (5, .int (nI i)), (6, .int (nI (bg r.p c0 (i + 1))))] → W p l e ({ frames := 0, cells := 0, slots := 0, locals := 0 } : Room) s m ([.ref (q 0), .int (nI c0)] : List Value).toArray below meth c H locs 0 0 (MQ below (va_Qv (fun (u : RS) => u = cutF r c0) (fun (u : RS) => cB (dC, dI) vwCl [(cI, .int), (cZ, .boolean)] (wR q cI cZ u) (A)) (A)) ([.ref (q 0), .int (nI c0)] : List Value).toArray s 0 0 A) (F0 m 55 ls []) := by
            intro fuel
            induction fuel with
            | zero => intro e0 p1 p2 hm H locs hP hD hS ls hl; exact absurd hm (Nat.not_lt_zero _)
            | succ fuel ih55 =>
              intro e0 p1 p2 hm H locs hP hD hS ls hl
              refine lv_iload hx hb dX2_cutRow_55 (lv_at hl 4 rfl) ?_
              refine lv_iload hx hb dX2_cutRow_57 (lv_at hl 6 rfl) ?_
              refine xn_cge (tgt := 77) hx hb (by omega) (by omega) dX2_cutRow_59 (by decide) (fun c_4 => ?_) (fun c_4 => ?_)
              · have e6 : e0 = bg r.p c0 (i + 1) := by omega
                subst e6
                refine lv_iinc (v := nI (i + 1)) (lv' := [(5, .int (nI (i + 1))), (0, .ref (q 0)), (1, .int (nI c0)), (2, .int (nI (r.p / c0))), (3, .int (nI (r.p % c0))), (4, .int (nI (bg r.p c0 (i + 1)))), (6, .int (nI (bg r.p c0 (i + 1))))]) hx hb dX2_cutRow_77 hl (k := 5) rfl (nI_1 _) (by decide) rfl (fun ls hl => ?_)
                refine lv_goto (tgt := 22) hx hb dX2_cutRow_80 (by decide) ?_
                exact ih22 (i + 1) (by omega) (by omega) H locs hP hD hS ls (lv_sub hl [1, 2, 3, 4, 5, 0] rfl)
              · refine lv_aload_n hx hb dX2_cutRow_62 rfl (lv_at hl 0 rfl) ?_
                refine va_get (D := (dC, dI)) (ci := 2) (v := .ref (q 8)) (C := RX2) (T := TX2) (N := 12) hx hb hts inX2 hown hK hP 0 rfl rfl 10 (by decide) (hts _ tw_41) (fun _ h9 => h9) rfl dX2_cutRow_63 ?_
                refine lv_iload hx hb dX2_cutRow_66 (lv_at hl 4 rfl) ?_
                refine lv_iload hx hb dX2_cutRow_68 (lv_at hl 5 rfl) ?_
                refine xa_ist hx hb hK hP hD hS 8 0 rfl rfl (by omega) (by decide) (aN_up _ _ _) dX2_cutRow_70 (fun H locs hP hD hS => ?_)
                have hP : va_P (dC, dI) vwCl (wR q cI cZ (RS.s_ch (RS.s_ch (RS.s_st r (cpN (bg r.p c0) r.st (i + 1))) (chI r.p c0 r.ch i e0)) (va_up (chI r.p c0 r.ch i e0) e0 i))) H := hP
                have hD : va_D A (wR q cI cZ (RS.s_ch (RS.s_ch (RS.s_st r (cpN (bg r.p c0) r.st (i + 1))) (chI r.p c0 r.ch i e0)) (va_up (chI r.p c0 r.ch i e0) e0 i))) := hD
                rw [chI_s r.ch (show bg r.p c0 i ≤ e0 by omega)] at hP hD
                refine lv_iinc (v := nI (e0 + 1)) (lv' := [(4, .int (nI (e0 + 1))), (0, .ref (q 0)), (1, .int (nI c0)), (2, .int (nI (r.p / c0))), (3, .int (nI (r.p % c0))), (5, .int (nI i)), (6, .int (nI (bg r.p c0 (i + 1))))]) hx hb dX2_cutRow_71 hl (k := 4) rfl (nI_1 _) (by decide) rfl (fun ls hl => ?_)
                refine lv_goto (tgt := 55) hx hb dX2_cutRow_74 (by decide) ?_
                exact ih55 (e0 + 1) (by omega) (by omega) (by omega) H locs hP hD hS ls (lv_sub hl [1, 2, 3, 4, 0, 5, 6] rfl)
          exact L55 ((bg r.p c0 (i + 1) - bg r.p c0 i) + 1) (bg r.p c0 i) (Nat.le_refl _) (bg_mono _ _ _) (Nat.lt_succ_self _) H locs hP hD hS ls (lv_sub hl [1, 2, 3, 4, 5, 6, 0] rfl)
  exact L22 ((c0 - 0) + 1) 0 (by omega) (Nat.lt_succ_self _) H locs hP hD hS ls (lv_sub hl [4, 5, 3, 2, 1, 0] rfl)
