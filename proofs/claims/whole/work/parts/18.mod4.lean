/-! the reference: its port -/
def mReg (co n p : Nat) : Nat := if co < 2 then (if 0 < n then 0 else 4) else if co = 2 then 2 else if co = 3 ∧ 0 < p then 3 else 4
theorem mReg_le (co n p : Nat) : mReg co n p ≤ 4 := by unfold mReg; split <;> (try split) <;> (try split) <;> omega
theorem mReg_0 {co n p : Nat} (h : mReg co n p = 0) : 0 < n := by
  unfold mReg at h
  split at h
  · split at h
    · assumption
    · cases h
  · split at h
    · cases h
    · split at h <;> cases h
def nxG (t m : Nat) : Nat := if t = 3 ∨ t = 4 then (if m = 0 then 4 else 5) else if t = 5 then (if m = 0 then 6 else 8) else if t = 6 then (if m = 0 then 6 else 7) else (if m = 0 then 4 else 8)
def nxF (s m : Nat) : Nat := if s = 0 then (if m = 0 then 1 else 0) else if s = 1 ∨ s = 8 ∨ s = 15 then (if m = 0 then 1 else 2) else if s = 2 then (if m = 0 then 3 else 9) else if s = 9 then (if m = 0 then 10 else 0) else if s ≤ 9 then nxG s m else nxG (s - 7) m + 7
theorem nxF_eq : ∀ s, s < 16 → ∀ m, m < 2 → nxF s m = NX (2 * s + m) := by decide +kernel
theorem nxT : ∀ s, s < 16 → (s = 0 ∨ s = 1 ∨ s = 8 ∨ s = 15 ∨ s = 2 ∨ s = 9) ∨ (#[79, 89, 99, 121, 121, 121, 121, 121, 89, 110, 121, 121, 121, 121, 121, 89] : Array Int)[((nI s).toInt - 0).toNat]? = some 121 := by decide +kernel
theorem nxT1 : ∀ s, s < 16 → (s = 1 ∨ s = 8 ∨ s = 15) → (#[79, 89, 99, 121, 121, 121, 121, 121, 89, 110, 121, 121, 121, 121, 121, 89] : Array Int)[((nI s).toInt - 0).toNat]? = some 89 := by decide +kernel
/-- bit k of the number's row: the row begins with the highest -/
def nbF (nu : Int32) (k : Nat) : Nat := ((nu.toUInt32 >>> ((nI (31 - k)).toUInt32 &&& Int32.toUInt32 31)).toInt32).toBitVec.toNat % 2
def mCap (y : MS) : MS := ((y.s_ir (if mReg y.co y.cn y.p = 0 then cpN y.pin y.ir y.cn else y.ir)).s_nb (if mReg y.co y.cn y.p = 2 then cpN (nbF y.nu) y.nb 32 else y.nb)).s_by_ (if mReg y.co y.cn y.p = 4 then 0 else y.by_)
theorem cap_e {R c i n : Nat} {f g : Nat → Nat} (h : i = 0 ∨ R = c) (h2 : n ≤ i ∨ R ≠ c) (hi : i ≤ n) : cpN f g i = if R = c then cpN f g n else g := by
  split
  · rw [show i = n by omega]
  · rw [show i = 0 by omega]; exact cpN_0 _ _
/-- a row that moves, from its end on -/
def bkS (g : Nat → Nat) (n p : Nat) : Nat → Nat := fun j => if p < j ∧ j < n then g (j - 1) else g j
theorem bkS_0 (g : Nat → Nat) (n : Nat) : bkS g n (n - 1) = g := by
  funext j; unfold bkS; rw [if_neg (by omega)]
theorem bkS_s (g : Nat → Nat) {n p : Nat} (h : 0 < p) (hn : p < n) : va_up (bkS g n p) p (bkS g n p (p - 1)) = bkS g n (p - 1) := by
  funext j; unfold va_up bkS
  by_cases e : j = p
  · rw [if_pos e, if_neg (by omega), if_pos (by omega), e]
  · rw [if_neg e]
    by_cases e2 : p < j ∧ j < n
    · rw [if_pos e2, if_pos (by omega)]
    · rw [if_neg e2, if_neg (by omega)]
theorem bkS_e (g : Nat → Nat) {n : Nat} (b : Nat) (hn : 0 < n) : va_up (bkS g n 0) 0 b = srV g b n := by
  funext j; unfold va_up bkS srV
  by_cases e : j = 0
  · rw [if_pos e, if_pos (by omega), if_pos e]
  · rw [if_neg e]
    by_cases e2 : j < n
    · rw [if_pos (by omega), if_pos e2, if_neg e]
    · rw [if_neg (by omega), if_neg e2]
def mShD (y : MS) (b : Nat) : Nat × MS := if mReg y.co y.cn y.p = 0 then (y.ir (y.cn - 1), y.s_ir (srV y.ir b y.cn)) else if mReg y.co y.cn y.p = 2 then (y.nb 31, y.s_nb (srV y.nb b 32)) else if mReg y.co y.cn y.p = 3 then (mvO y 0 y.p, y.s_vb (mvV y 0 y.p b)) else (y.by_, y.s_by_ b)
def mAct (y : MS) (b : Nat) : Int × MS := if y.sa = 3 then (-1, mCap y) else if y.sa = 4 then (((mShD y b).1 : Int), (mShD y b).2) else if y.sa = 8 ∧ y.co < 2 then (-1, y.s_he (cpN y.ir y.he y.cn)) else if y.sa = 10 then (-1, y.s_cr 1) else if y.sa = 11 then (((y.cr % 2 : Nat) : Int), y.s_cr (y.cr / 2 + b * 8)) else if y.sa = 15 then (-1, y.s_co y.cr) else (-1, y)
def mTick (y : MS) (m b : Nat) : Int × MS := ((mAct y b).1, ((mAct y b).2.s_sa (NX (2 * (mAct y b).2.sa + m))).s_co (if NX (2 * (mAct y b).2.sa + m) = 0 then 2 else (mAct y b).2.co))
theorem cr_sh2 {c b : Nat} (h : c < 16) (hb : b < 2) : (nI c >>> (nI 1 &&& 31)) ||| (nI b <<< (nI 3 &&& 31)) = nI (c / 2 + b * 8) := by
  have : ∀ c, c < 16 → ∀ b, b < 2 → (nI c >>> (nI 1 &&& 31)) ||| (nI b <<< (nI 3 &&& 31)) = nI (c / 2 + b * 8) := by decide +kernel
  exact this c h b hb
theorem mCap_sa (y : MS) : (mCap y).sa = y.sa ∧ (mCap y).fa = y.fa := ⟨rfl, rfl⟩
theorem mShD_sa (y : MS) (b : Nat) : (mShD y b).2.sa = y.sa ∧ (mShD y b).2.fa = y.fa := by
  unfold mShD; split
  · exact ⟨rfl, rfl⟩
  · split
    · exact ⟨rfl, rfl⟩
    · split <;> exact ⟨rfl, rfl⟩
theorem mAct_sa (y : MS) (b : Nat) : (mAct y b).2.sa = y.sa ∧ (mAct y b).2.fa = y.fa := by
  unfold mAct
  split
  · exact mCap_sa y
  · split
    · exact mShD_sa y b
    · split
      · exact ⟨rfl, rfl⟩
      · split
        · exact ⟨rfl, rfl⟩
        · split
          · exact ⟨rfl, rfl⟩
          · split <;> exact ⟨rfl, rfl⟩
theorem nbF_lt (nu : Int32) (k : Nat) : nbF nu k < 2 := Nat.mod_lt _ (by decide)
theorem mCap_MB {y : MS} (h : MB y) : MB (mCap y) := by
  obtain ⟨hr, ⟨k1, k2, k3, k4, k5⟩, a1, a2, a3, a4, a5⟩ := h
  refine ⟨hr, ⟨k1, k2, k3, k4, ?_⟩, ?_, a2, a3, a4, ?_⟩
  · intro i
    show (if mReg y.co y.cn y.p = 0 then cpN y.pin y.ir y.cn else y.ir) i < 2
    split
    · exact cpN_lt k2 k5 _ i
    · exact k5 i
  · show (if mReg y.co y.cn y.p = 4 then 0 else y.by_) < 2
    split
    · decide
    · exact a1
  · intro i
    show (if mReg y.co y.cn y.p = 2 then cpN (nbF y.nu) y.nb 32 else y.nb) i < 2
    split
    · exact cpN_lt (nbF_lt y.nu) a5 _ i
    · exact a5 i
theorem mShD_MB {y : MS} {b : Nat} (hb : b < 2) (h : MB y) : MB (mShD y b).2 ∧ (mShD y b).1 < 2 := by
  have h0 := h
  obtain ⟨hr, ⟨k1, k2, k3, k4, k5⟩, a1, a2, a3, a4, a5⟩ := h
  have hv : ∀ z, y.vb z < 2 := hr.2.2.2.1
  unfold mShD
  split
  · exact ⟨⟨hr, ⟨k1, k2, k3, k4, srV_lt k5 hb _⟩, a1, a2, a3, a4, a5⟩, k5 _⟩
  · split
    · exact ⟨⟨hr, ⟨k1, k2, k3, k4, k5⟩, a1, a2, a3, a4, srV_lt a5 hb _⟩, a5 _⟩
    · split
      · refine ⟨MB_vb h0 (mvV_lt hv hb), ?_⟩
        show mvO y 0 y.p < 2
        unfold mvO; split
        · decide
        · exact hv _
      · exact ⟨⟨hr, ⟨k1, k2, k3, k4, k5⟩, hb, a2, a3, a4, a5⟩, a1⟩
theorem mAct_MB {y : MS} {b : Nat} (hb : b < 2) (h : MB y) : MB (mAct y b).2 := by
  have h0 := h
  obtain ⟨hr, ⟨k1, k2, k3, k4, k5⟩, a1, a2, a3, a4, a5⟩ := h
  unfold mAct
  split
  · exact mCap_MB h0
  · split
    · exact (mShD_MB hb h0).1
    · split
      · exact ⟨hr, ⟨k1, k2, k3, cpN_lt k5 k4 _, k5⟩, a1, a2, a3, a4, a5⟩
      · split
        · exact ⟨hr, ⟨k1, k2, k3, k4, k5⟩, a1, by show (1 : Nat) < 16; decide, a3, a4, a5⟩
        · split
          · exact ⟨hr, ⟨k1, k2, k3, k4, k5⟩, a1, by show y.cr / 2 + b * 8 < 16; omega, a3, a4, a5⟩
          · split
            · exact ⟨hr, ⟨k1, k2, k3, k4, k5⟩, a1, a2, a2, a4, a5⟩
            · exact h0
theorem mTick_MB {y : MS} {m b : Nat} (hb : b < 2) (h : MB y) : MB (mTick y m b).2 := by
  obtain ⟨hr, hk, a1, a2, a3, a4, a5⟩ := mAct_MB hb h
  refine ⟨hr, hk, a1, a2, ?_, NX_lt _, a5⟩
  show (if NX (2 * (mAct y b).2.sa + m) = 0 then 2 else (mAct y b).2.co) < 16
  split
  · decide
  · exact a3
theorem mTick_sa (y : MS) (m b : Nat) : (mTick y m b).2.sa = NX (2 * y.sa + m) ∧ (mTick y m b).2.fa = y.fa := by
  refine ⟨?_, (mAct_sa y b).2⟩
  show NX (2 * (mAct y b).2.sa + m) = _
  rw [(mAct_sa y b).1]
/-! how far a state is -/
def DTl : List (List Nat) := [[0, 3, 2, 5, 5, 4, 5, 4, 3, 1, 5, 5, 4, 5, 4, 3], [1, 0, 3, 3, 3, 2, 3, 2, 1, 2, 3, 3, 2, 3, 2, 1], [2, 1, 0, 3, 3, 2, 3, 2, 1, 3, 3, 3, 2, 3, 2, 1], [3, 2, 1, 0, 4, 3, 4, 3, 2, 4, 4, 4, 3, 4, 3, 2], [4, 3, 2, 1, 0, 3, 2, 1, 3, 5, 5, 5, 4, 5, 4, 3], [4, 3, 2, 1, 1, 0, 3, 2, 3, 5, 5, 5, 4, 5, 4, 3], [5, 4, 3, 2, 2, 1, 0, 3, 4, 6, 6, 6, 5, 6, 5, 4], [6, 5, 4, 3, 3, 2, 1, 0, 5, 7, 7, 7, 6, 7, 6, 5], [5, 4, 3, 2, 2, 1, 2, 1, 0, 6, 6, 6, 5, 6, 5, 4], [3, 2, 1, 4, 4, 3, 4, 3, 2, 0, 4, 4, 3, 4, 3, 2], [4, 3, 2, 5, 5, 4, 5, 4, 3, 1, 0, 5, 4, 5, 4, 3], [5, 4, 3, 6, 6, 5, 6, 5, 4, 2, 1, 0, 3, 2, 1, 4], [5, 4, 3, 6, 6, 5, 6, 5, 4, 2, 1, 1, 0, 3, 2, 4], [6, 5, 4, 7, 7, 6, 7, 6, 5, 3, 2, 2, 1, 0, 3, 5], [7, 6, 5, 8, 8, 7, 8, 7, 6, 4, 3, 3, 2, 1, 0, 6], [6, 5, 4, 7, 7, 6, 7, 6, 5, 3, 2, 2, 1, 2, 1, 0]]
def DT (t s : Nat) : Nat := (DTl.getD t []).getD s 0
theorem DT_t : ∀ t, t < 16 → DT t t = 0 := by decide +kernel
theorem DT_s : ∀ t, t < 16 → ∀ s, s < 16 → s ≠ t → DT t s = min (DT t (NX (2 * s))) (DT t (NX (2 * s + 1))) + 1 := by decide +kernel
theorem DT_b : ∀ t, t < 16 → ∀ s, s < 16 → DT t s ≤ 15 := by decide +kernel
theorem mtS_dn (g : Nat → Nat) (i j : Nat) : mtS g i j ≤ g j := by
  unfold mtS va_up; split
  · rename_i e; rw [e]; exact Nat.min_le_left _ _
  · exact Nat.le_refl _
theorem mtI_dn (g : Nat → Nat) (n k j : Nat) : mtI g (n + k) j ≤ mtI g n j := by
  induction k with
  | zero => exact Nat.le_refl _
  | succ k ih => exact Nat.le_trans (mtS_dn (mtI g (n + k)) (n + k) j) ih
theorem mtS_lo {t : Nat} (ht : t < 16) {g : Nat → Nat} (h : ∀ j, j < 16 → DT t j ≤ g j) {i : Nat} (hi : i < 16) : ∀ j, j < 16 → DT t j ≤ mtS g i j := by
  intro j hj
  unfold mtS va_up; split
  · rename_i e
    rw [e]
    have g1 := h i hi
    have g2 := h _ (NX_lt (2 * i))
    have g3 := h _ (NX_lt (2 * i + 1))
    by_cases e2 : i = t
    · rw [e2, DT_t t ht]; exact Nat.zero_le _
    · have g4 := DT_s t ht i hi e2
      omega
  · exact h j hj
theorem mtI_lo {t : Nat} (ht : t < 16) {g : Nat → Nat} (h : ∀ j, j < 16 → DT t j ≤ g j) {n : Nat} (hn : n ≤ 16) : ∀ j, j < 16 → DT t j ≤ mtI g n j := by
  induction n with
  | zero => exact h
  | succ n ih => exact mtS_lo ht (ih (by omega)) (by omega)
theorem mtO_lo {t : Nat} (ht : t < 16) {g : Nat → Nat} (h : ∀ j, j < 16 → DT t j ≤ g j) (n : Nat) : ∀ j, j < 16 → DT t j ≤ mtO g n j := by
  induction n with
  | zero => exact h
  | succ n ih => exact mtI_lo ht ih (Nat.le_refl _)
theorem mtI_up {t : Nat} (ht : t < 16) {g : Nat → Nat} {k : Nat} (h : ∀ j, j < 16 → DT t j ≤ k → g j ≤ DT t j) : ∀ j, j < 16 → DT t j ≤ k + 1 → mtI g 16 j ≤ DT t j := by
  intro j hj hk
  by_cases e : DT t j ≤ k
  · exact Nat.le_trans (by have := mtI_dn g 0 16 j; exact this) (h j hj e)
  · have e2 : j ≠ t := fun z => e (by rw [z, DT_t t ht]; exact Nat.zero_le _)
    have g4 := DT_s t ht j hj e2
    have g1 : mtI g 16 j ≤ mtI g (j + 1) j := by have := mtI_dn g (j + 1) (15 - j) j; rw [show j + 1 + (15 - j) = 16 by omega] at this; exact this
    have g2 : mtI g (j + 1) j = min (mtI g j j) (min (mtI g j (NX (2 * j))) (mtI g j (NX (2 * j + 1))) + 1) := by
      show mtS (mtI g j) j j = _
      unfold mtS va_up; rw [if_pos rfl]
    have a1 : mtI g j (NX (2 * j)) ≤ g (NX (2 * j)) := by have := mtI_dn g 0 j (NX (2 * j)); rw [Nat.zero_add] at this; exact this
    have a2 : mtI g j (NX (2 * j + 1)) ≤ g (NX (2 * j + 1)) := by have := mtI_dn g 0 j (NX (2 * j + 1)); rw [Nat.zero_add] at this; exact this
    have b1 := h _ (NX_lt (2 * j))
    have b2 := h _ (NX_lt (2 * j + 1))
    rcases Nat.le_total (DT t (NX (2 * j))) (DT t (NX (2 * j + 1))) with z | z
    · have := b1 (by omega); omega
    · have := b2 (by omega); omega
theorem mtO_up {t : Nat} (ht : t < 16) {g : Nat → Nat} (h : g t = 0) (n : Nat) : ∀ j, j < 16 → DT t j ≤ n → mtO g n j ≤ DT t j := by
  induction n with
  | zero =>
    intro j hj h0
    have e : j = t := Decidable.byContradiction fun z => by have := DT_s t ht j hj z; omega
    rw [e]; show g t ≤ _; omega
  | succ n ih => exact mtI_up ht ih
theorem mtO_DT {t : Nat} (ht : t < 16) {g : Nat → Nat} (h : g t = 0) (h1 : ∀ j, j < 16 → j ≠ t → 16 ≤ g j) : ∀ j, j < 16 → mtO g 16 j = DT t j := by
  intro j hj
  have a := mtO_up ht h 16 j hj (by have := DT_b t ht j hj; omega)
  have b := mtO_lo ht (g := g) (fun j hj => by
    by_cases e : j = t
    · rw [e, DT_t t ht]; exact Nat.zero_le _
    · have := h1 j hj e; have := DT_b t ht j hj; omega) 16 j hj
  omega
def tk1 (goal j : Nat) : Nat := if j = goal then 0 else 99
theorem mtF_DT {t : Nat} (ht : t < 16) (g : Nat → Nat) : ∀ j, j < 16 → mtF t g j = DT t j :=
  mtO_DT ht (by unfold cpN tk0; rw [if_pos ht, if_pos rfl]) (fun j hj e => by unfold cpN tk0; rw [if_pos hj, if_neg e]; exact Nat.le_refl _)
def mgF (goal : Nat) (g : Nat → Nat) : Nat → Nat := mtO (cpN (tk1 goal) g 16) 16
theorem mgF_DT {t : Nat} (ht : t < 16) (g : Nat → Nat) : ∀ j, j < 16 → mgF t g j = DT t j :=
  mtO_DT ht (by unfold cpN tk1; rw [if_pos ht, if_pos rfl]) (fun j hj e => by unfold cpN tk1; rw [if_pos hj, if_neg e]; omega)
theorem mtS_l9 {g : Nat → Nat} {m : Nat} (h : ∀ j, j < 16 → g j ≤ m) {i : Nat} (hi : i < 16) : ∀ j, j < 16 → mtS g i j ≤ m := fun j hj => Nat.le_trans (mtS_dn g i j) (h j hj)
theorem mtI_l9 {g : Nat → Nat} {m : Nat} (h : ∀ j, j < 16 → g j ≤ m) (n : Nat) : ∀ j, j < 16 → mtI g n j ≤ m := fun j hj => Nat.le_trans (by have := mtI_dn g 0 n j; rw [Nat.zero_add] at this; exact this) (h j hj)
theorem mtO_l9 {g : Nat → Nat} {m : Nat} (h : ∀ j, j < 16 → g j ≤ m) (n : Nat) : ∀ j, j < 16 → mtO g n j ≤ m := by
  induction n with
  | zero => exact h
  | succ n ih => exact mtI_l9 ih 16
theorem tk1_l9 (t : Nat) (g : Nat → Nat) : ∀ j, j < 16 → cpN (tk1 t) g 16 j ≤ 99 := by
  intro j hj; unfold cpN tk1; rw [if_pos hj]; split <;> omega
def mmode (y : MS) : Nat := if y.fa (NX (2 * y.sa)) ≤ y.fa (NX (2 * y.sa + 1)) then 0 else 1
theorem mmode_lt (y : MS) : mmode y < 2 := by unfold mmode; split <;> omega
def mgoIt (y : MS) : Nat → MS
  | 0 => y
  | i + 1 => (mTick (mgoIt y i) (mmode (mgoIt y i)) 0).2
theorem mgoIt_MB {y : MS} (h : MB y) (i : Nat) : MB (mgoIt y i) := by
  induction i with
  | zero => exact h
  | succ i ih => exact mTick_MB (by decide) ih
theorem mgoIt_fa (y : MS) (i : Nat) : (mgoIt y i).fa = y.fa := by
  induction i with
  | zero => rfl
  | succ i ih => exact ((mTick_sa _ _ _).2).trans ih
theorem mgoIt_DT {y : MS} {t : Nat} (ht : t < 16) (hf : ∀ j, j < 16 → y.fa j = DT t j) {i : Nat} (hs : (mgoIt y i).sa < 16) (hn : (mgoIt y i).sa ≠ t) : DT t (mgoIt y (i + 1)).sa + 1 = DT t (mgoIt y i).sa := by
  have e : (mgoIt y (i + 1)).sa = NX (2 * (mgoIt y i).sa + mmode (mgoIt y i)) := (mTick_sa _ _ _).1
  have g := DT_s t ht _ hs hn
  rw [e, g]
  unfold mmode
  rw [mgoIt_fa, hf _ (NX_lt _), hf _ (NX_lt _)]
  split
  · show DT t (NX (2 * (mgoIt y i).sa)) + 1 = _; omega
  · omega
def mLen (y : MS) : Nat := if mReg y.co y.cn y.p = 0 then y.cn else if mReg y.co y.cn y.p = 2 then 32 else if mReg y.co y.cn y.p = 3 then y.p else 1
def mCnt (y : MS) (w : Nat) : Nat := if w = 0 then y.n else if w = 1 then y.c else if w = 2 then y.cn else if w = 3 then mLen y else y.co
def mBadT (m b : Int32) : Prop := m < 0 ∨ nI 1 < m ∨ b < 0 ∨ ¬ b ≤ nI 1
theorem wM_r_ir (q : Nat → Nat) (cI cZ : ClassId) (y : MS) : wM q cI cZ y = wM q cI cZ (y.s_ir (MS.ir y)) := rfl
theorem wM_r_nb (q : Nat → Nat) (cI cZ : ClassId) (y : MS) : wM q cI cZ y = wM q cI cZ (y.s_nb (MS.nb y)) := rfl
theorem wM_r_he (q : Nat → Nat) (cI cZ : ClassId) (y : MS) : wM q cI cZ y = wM q cI cZ (y.s_he (MS.he y)) := rfl
theorem wM_r_fa (q : Nat → Nat) (cI cZ : ClassId) (y : MS) : wM q cI cZ y = wM q cI cZ (y.s_fa (MS.fa y)) := rfl
theorem wM_r_vb (q : Nat → Nat) (cI cZ : ClassId) (y : MS) : wM q cI cZ y = wM q cI cZ (y.s_vb (MS.vb y)) := rfl
theorem sw_36 : Cond.selects "ScanRowsModel" (⟨"ScanRowsModel", "register", "()I"⟩ : MethodName) (⟨"ScanRowsModel", "register", "()I"⟩ : MethodName) ∈ ALLG := al_s (i := 36) (by decide +kernel) (by decide +kernel)
theorem tw_573 : (Cond.fieldLink "ScanRowsModel" (50 : Nat) "ScanRowsModel" "number" "I") ∈ ALLG := al_t (i := 573) (by decide +kernel) (by decide +kernel)
theorem tw_587 : (Cond.fieldLink "ScanRowsModel" (41 : Nat) "ScanRowsModel" "cellBits" "[I") ∈ ALLG := al_t (i := 587) (by decide +kernel) (by decide +kernel)
theorem tw_589 : (Cond.fieldLink "ScanRowsModel" (44 : Nat) "ScanRowsModel" "numberBits" "[I") ∈ ALLG := al_t (i := 589) (by decide +kernel) (by decide +kernel)
theorem tw_590 : (Cond.fieldLink "ScanRowsModel" (116 : Nat) "ScanRowsModel" "bypass" "I") ∈ ALLG := al_t (i := 590) (by decide +kernel) (by decide +kernel)
theorem tw_755 : (Cond.methodLink "ScanRowsModel" (113 : Nat) ({ cls := "ScanRowsModel", name := "register", desc := "()I" } : Jvm.MethodName)) ∈ ALLG := al_t (i := 755) (by decide +kernel) (by decide +kernel)
theorem tw_757 : (Cond.instanceMethod ({ cls := "ScanRowsModel", name := "register", desc := "()I" } : Jvm.MethodName)) ∈ ALLG := al_t (i := 757) (by decide +kernel) (by decide +kernel)
theorem tw_758 : (Cond.code ({ cls := "ScanRowsModel", name := "register", desc := "()I" } : Jvm.MethodName) prog_6_method_27_code (1 : Nat) (Option.some FieldType.int)) ∈ ALLG := al_t (i := 758) (by decide +kernel) (by decide +kernel)
theorem dX4_register_0 : decode cX4_register 0 = .ok (.aload_n 0, 1) := by decide +kernel
theorem dX4_register_1 : decode cX4_register 1 = .ok (.getfield 54, 3) := by decide +kernel
theorem dX4_register_4 : decode cX4_register 4 = .ok (.iconst 2, 1) := by decide +kernel
theorem dX4_register_5 : decode cX4_register 5 = .ok (.if_icmp .ge 16, 3) := by decide +kernel
theorem dX4_register_8 : decode cX4_register 8 = .ok (.aload_n 0, 1) := by decide +kernel
theorem dX4_register_9 : decode cX4_register 9 = .ok (.getfield 66, 3) := by decide +kernel
theorem dX4_register_12 : decode cX4_register 12 = .ok (.ifCond .le 7, 3) := by decide +kernel
theorem dX4_register_15 : decode cX4_register 15 = .ok (.iconst 0, 1) := by decide +kernel
theorem dX4_register_16 : decode cX4_register 16 = .ok (.goto 4, 3) := by decide +kernel
theorem dX4_register_19 : decode cX4_register 19 = .ok (.iconst 4, 1) := by decide +kernel
theorem dX4_register_20 : decode cX4_register 20 = .ok (.ireturn, 1) := by decide +kernel
theorem dX4_register_21 : decode cX4_register 21 = .ok (.aload_n 0, 1) := by decide +kernel
theorem dX4_register_22 : decode cX4_register 22 = .ok (.getfield 54, 3) := by decide +kernel
theorem dX4_register_25 : decode cX4_register 25 = .ok (.iconst 2, 1) := by decide +kernel
theorem dX4_register_26 : decode cX4_register 26 = .ok (.if_icmp .ne 7, 3) := by decide +kernel
theorem dX4_register_29 : decode cX4_register 29 = .ok (.iconst 2, 1) := by decide +kernel
theorem dX4_register_30 : decode cX4_register 30 = .ok (.goto 23, 3) := by decide +kernel
theorem dX4_register_33 : decode cX4_register 33 = .ok (.aload_n 0, 1) := by decide +kernel
theorem dX4_register_34 : decode cX4_register 34 = .ok (.getfield 54, 3) := by decide +kernel
theorem dX4_register_37 : decode cX4_register 37 = .ok (.iconst 3, 1) := by decide +kernel
theorem dX4_register_38 : decode cX4_register 38 = .ok (.if_icmp .ne 14, 3) := by decide +kernel
theorem dX4_register_41 : decode cX4_register 41 = .ok (.aload_n 0, 1) := by decide +kernel
theorem dX4_register_42 : decode cX4_register 42 = .ok (.getfield 77, 3) := by decide +kernel
theorem dX4_register_45 : decode cX4_register 45 = .ok (.ifCond .le 7, 3) := by decide +kernel
theorem dX4_register_48 : decode cX4_register 48 = .ok (.iconst 3, 1) := by decide +kernel
theorem dX4_register_49 : decode cX4_register 49 = .ok (.goto 4, 3) := by decide +kernel
theorem dX4_register_52 : decode cX4_register 52 = .ok (.iconst 4, 1) := by decide +kernel
theorem dX4_register_53 : decode cX4_register 53 = .ok (.ireturn, 1) := by decide +kernel
theorem dX4_next_0 : decode cX4_next 0 = .ok (.iload_n 0, 1) := by decide +kernel
theorem dX4_next_1 : decode cX4_next 1 = .ok (.tableswitch 121 0 15 #[79, 89, 99, 121, 121, 121, 121, 121, 89, 110, 121, 121, 121, 121, 121, 89], 79) := by decide +kernel
theorem dX4_next_80 : decode cX4_next 80 = .ok (.iload_n 1, 1) := by decide +kernel
theorem dX4_next_81 : decode cX4_next 81 = .ok (.ifCond .ne 7, 3) := by decide +kernel
theorem dX4_next_84 : decode cX4_next 84 = .ok (.iconst 1, 1) := by decide +kernel
theorem dX4_next_85 : decode cX4_next 85 = .ok (.goto 4, 3) := by decide +kernel
theorem dX4_next_88 : decode cX4_next 88 = .ok (.iconst 0, 1) := by decide +kernel
theorem dX4_next_89 : decode cX4_next 89 = .ok (.ireturn, 1) := by decide +kernel
theorem dX4_next_90 : decode cX4_next 90 = .ok (.iload_n 1, 1) := by decide +kernel
theorem dX4_next_91 : decode cX4_next 91 = .ok (.ifCond .ne 7, 3) := by decide +kernel
theorem dX4_next_94 : decode cX4_next 94 = .ok (.iconst 1, 1) := by decide +kernel
theorem dX4_next_95 : decode cX4_next 95 = .ok (.goto 4, 3) := by decide +kernel
theorem dX4_next_98 : decode cX4_next 98 = .ok (.iconst 2, 1) := by decide +kernel
theorem dX4_next_99 : decode cX4_next 99 = .ok (.ireturn, 1) := by decide +kernel
theorem dX4_next_100 : decode cX4_next 100 = .ok (.iload_n 1, 1) := by decide +kernel
theorem dX4_next_101 : decode cX4_next 101 = .ok (.ifCond .ne 7, 3) := by decide +kernel
theorem dX4_next_104 : decode cX4_next 104 = .ok (.iconst 3, 1) := by decide +kernel
theorem dX4_next_105 : decode cX4_next 105 = .ok (.goto 5, 3) := by decide +kernel
theorem dX4_next_108 : decode cX4_next 108 = .ok (.bipush 9, 2) := by decide +kernel
theorem dX4_next_110 : decode cX4_next 110 = .ok (.ireturn, 1) := by decide +kernel
theorem dX4_next_111 : decode cX4_next 111 = .ok (.iload_n 1, 1) := by decide +kernel
theorem dX4_next_112 : decode cX4_next 112 = .ok (.ifCond .ne 8, 3) := by decide +kernel
theorem dX4_next_115 : decode cX4_next 115 = .ok (.bipush 10, 2) := by decide +kernel
theorem dX4_next_117 : decode cX4_next 117 = .ok (.goto 4, 3) := by decide +kernel
theorem dX4_next_120 : decode cX4_next 120 = .ok (.iconst 0, 1) := by decide +kernel
theorem dX4_next_121 : decode cX4_next 121 = .ok (.ireturn, 1) := by decide +kernel
theorem dX4_next_122 : decode cX4_next 122 = .ok (.iload_n 0, 1) := by decide +kernel
theorem dX4_next_123 : decode cX4_next 123 = .ok (.bipush 9, 2) := by decide +kernel
theorem dX4_next_125 : decode cX4_next 125 = .ok (.if_icmp .le 8, 3) := by decide +kernel
theorem dX4_next_128 : decode cX4_next 128 = .ok (.bipush 7, 2) := by decide +kernel
theorem dX4_next_130 : decode cX4_next 130 = .ok (.goto 4, 3) := by decide +kernel
theorem dX4_next_133 : decode cX4_next 133 = .ok (.iconst 0, 1) := by decide +kernel
theorem dX4_next_134 : decode cX4_next 134 = .ok (.istore_n 2, 1) := by decide +kernel
theorem dX4_next_135 : decode cX4_next 135 = .ok (.iload_n 0, 1) := by decide +kernel
theorem dX4_next_136 : decode cX4_next 136 = .ok (.iload_n 2, 1) := by decide +kernel
theorem dX4_next_137 : decode cX4_next 137 = .ok (.isub, 1) := by decide +kernel
theorem dX4_next_138 : decode cX4_next 138 = .ok (.istore_n 3, 1) := by decide +kernel
theorem dX4_next_139 : decode cX4_next 139 = .ok (.iload_n 3, 1) := by decide +kernel
theorem dX4_next_140 : decode cX4_next 140 = .ok (.iconst 3, 1) := by decide +kernel
theorem dX4_next_141 : decode cX4_next 141 = .ok (.if_icmp .eq 8, 3) := by decide +kernel
theorem dX4_next_144 : decode cX4_next 144 = .ok (.iload_n 3, 1) := by decide +kernel
theorem dX4_next_145 : decode cX4_next 145 = .ok (.iconst 4, 1) := by decide +kernel
theorem dX4_next_146 : decode cX4_next 146 = .ok (.if_icmp .ne 15, 3) := by decide +kernel
theorem dX4_next_149 : decode cX4_next 149 = .ok (.iload_n 1, 1) := by decide +kernel
theorem dX4_next_150 : decode cX4_next 150 = .ok (.ifCond .ne 7, 3) := by decide +kernel
theorem dX4_next_153 : decode cX4_next 153 = .ok (.iconst 4, 1) := by decide +kernel
theorem dX4_next_154 : decode cX4_next 154 = .ok (.goto 56, 3) := by decide +kernel
theorem dX4_next_157 : decode cX4_next 157 = .ok (.iconst 5, 1) := by decide +kernel
theorem dX4_next_158 : decode cX4_next 158 = .ok (.goto 52, 3) := by decide +kernel
theorem dX4_next_161 : decode cX4_next 161 = .ok (.iload_n 3, 1) := by decide +kernel
theorem dX4_next_162 : decode cX4_next 162 = .ok (.iconst 5, 1) := by decide +kernel
theorem dX4_next_163 : decode cX4_next 163 = .ok (.if_icmp .ne 17, 3) := by decide +kernel
theorem dX4_next_166 : decode cX4_next 166 = .ok (.iload_n 1, 1) := by decide +kernel
theorem dX4_next_167 : decode cX4_next 167 = .ok (.ifCond .ne 8, 3) := by decide +kernel
theorem dX4_next_170 : decode cX4_next 170 = .ok (.bipush 6, 2) := by decide +kernel
theorem dX4_next_172 : decode cX4_next 172 = .ok (.goto 38, 3) := by decide +kernel
theorem dX4_next_175 : decode cX4_next 175 = .ok (.bipush 8, 2) := by decide +kernel
theorem dX4_next_177 : decode cX4_next 177 = .ok (.goto 33, 3) := by decide +kernel
theorem dX4_next_180 : decode cX4_next 180 = .ok (.iload_n 3, 1) := by decide +kernel
theorem dX4_next_181 : decode cX4_next 181 = .ok (.bipush 6, 2) := by decide +kernel
theorem dX4_next_183 : decode cX4_next 183 = .ok (.if_icmp .ne 17, 3) := by decide +kernel
theorem dX4_next_186 : decode cX4_next 186 = .ok (.iload_n 1, 1) := by decide +kernel
theorem dX4_next_187 : decode cX4_next 187 = .ok (.ifCond .ne 8, 3) := by decide +kernel
theorem dX4_next_190 : decode cX4_next 190 = .ok (.bipush 6, 2) := by decide +kernel
theorem dX4_next_192 : decode cX4_next 192 = .ok (.goto 18, 3) := by decide +kernel
theorem dX4_next_195 : decode cX4_next 195 = .ok (.bipush 7, 2) := by decide +kernel
theorem dX4_next_197 : decode cX4_next 197 = .ok (.goto 13, 3) := by decide +kernel
theorem dX4_next_200 : decode cX4_next 200 = .ok (.iload_n 1, 1) := by decide +kernel
theorem dX4_next_201 : decode cX4_next 201 = .ok (.ifCond .ne 7, 3) := by decide +kernel
theorem dX4_next_204 : decode cX4_next 204 = .ok (.iconst 4, 1) := by decide +kernel
theorem dX4_next_205 : decode cX4_next 205 = .ok (.goto 5, 3) := by decide +kernel
theorem dX4_next_208 : decode cX4_next 208 = .ok (.bipush 8, 2) := by decide +kernel
theorem dX4_next_210 : decode cX4_next 210 = .ok (.istore 4, 2) := by decide +kernel
theorem dX4_next_212 : decode cX4_next 212 = .ok (.iload 4, 2) := by decide +kernel
theorem dX4_next_214 : decode cX4_next 214 = .ok (.iload_n 2, 1) := by decide +kernel
theorem dX4_next_215 : decode cX4_next 215 = .ok (.iadd, 1) := by decide +kernel
theorem dX4_next_216 : decode cX4_next 216 = .ok (.ireturn, 1) := by decide +kernel
theorem dX4_capture_0 : decode cX4_capture 0 = .ok (.aload_n 0, 1) := by decide +kernel
theorem dX4_capture_1 : decode cX4_capture 1 = .ok (.invokevirtual 113, 3) := by decide +kernel
theorem dX4_capture_4 : decode cX4_capture 4 = .ok (.istore_n 1, 1) := by decide +kernel
theorem dX4_capture_5 : decode cX4_capture 5 = .ok (.iconst 0, 1) := by decide +kernel
theorem dX4_capture_6 : decode cX4_capture 6 = .ok (.istore_n 2, 1) := by decide +kernel
theorem dX4_capture_7 : decode cX4_capture 7 = .ok (.iload_n 2, 1) := by decide +kernel
theorem dX4_capture_8 : decode cX4_capture 8 = .ok (.aload_n 0, 1) := by decide +kernel
theorem dX4_capture_9 : decode cX4_capture 9 = .ok (.getfield 66, 3) := by decide +kernel
theorem dX4_capture_12 : decode cX4_capture 12 = .ok (.if_icmp .ge 25, 3) := by decide +kernel
theorem dX4_capture_15 : decode cX4_capture 15 = .ok (.iload_n 1, 1) := by decide +kernel
theorem dX4_capture_16 : decode cX4_capture 16 = .ok (.ifCond .ne 21, 3) := by decide +kernel
theorem dX4_capture_19 : decode cX4_capture 19 = .ok (.aload_n 0, 1) := by decide +kernel
theorem dX4_capture_20 : decode cX4_capture 20 = .ok (.getfield 41, 3) := by decide +kernel
theorem dX4_capture_23 : decode cX4_capture 23 = .ok (.iload_n 2, 1) := by decide +kernel
theorem dX4_capture_24 : decode cX4_capture 24 = .ok (.aload_n 0, 1) := by decide +kernel
theorem dX4_capture_25 : decode cX4_capture 25 = .ok (.getfield 35, 3) := by decide +kernel
theorem dX4_capture_28 : decode cX4_capture 28 = .ok (.iload_n 2, 1) := by decide +kernel
theorem dX4_capture_29 : decode cX4_capture 29 = .ok (.iaload, 1) := by decide +kernel
theorem dX4_capture_30 : decode cX4_capture 30 = .ok (.iastore, 1) := by decide +kernel
theorem dX4_capture_31 : decode cX4_capture 31 = .ok (.iinc 2 1, 3) := by decide +kernel
theorem dX4_capture_34 : decode cX4_capture 34 = .ok (.goto (-27), 3) := by decide +kernel
theorem dX4_capture_37 : decode cX4_capture 37 = .ok (.iconst 0, 1) := by decide +kernel
theorem dX4_capture_38 : decode cX4_capture 38 = .ok (.istore_n 2, 1) := by decide +kernel
theorem dX4_capture_39 : decode cX4_capture 39 = .ok (.iload_n 2, 1) := by decide +kernel
theorem dX4_capture_40 : decode cX4_capture 40 = .ok (.bipush 32, 2) := by decide +kernel
theorem dX4_capture_42 : decode cX4_capture 42 = .ok (.if_icmp .ge 31, 3) := by decide +kernel
theorem dX4_capture_45 : decode cX4_capture 45 = .ok (.iload_n 1, 1) := by decide +kernel
theorem dX4_capture_46 : decode cX4_capture 46 = .ok (.iconst 2, 1) := by decide +kernel
theorem dX4_capture_47 : decode cX4_capture 47 = .ok (.if_icmp .ne 26, 3) := by decide +kernel
theorem dX4_capture_50 : decode cX4_capture 50 = .ok (.aload_n 0, 1) := by decide +kernel
theorem dX4_capture_51 : decode cX4_capture 51 = .ok (.getfield 44, 3) := by decide +kernel
theorem dX4_capture_54 : decode cX4_capture 54 = .ok (.iload_n 2, 1) := by decide +kernel
theorem dX4_capture_55 : decode cX4_capture 55 = .ok (.aload_n 0, 1) := by decide +kernel
theorem dX4_capture_56 : decode cX4_capture 56 = .ok (.getfield 50, 3) := by decide +kernel
theorem dX4_capture_59 : decode cX4_capture 59 = .ok (.bipush 31, 2) := by decide +kernel
theorem dX4_capture_61 : decode cX4_capture 61 = .ok (.iload_n 2, 1) := by decide +kernel
theorem dX4_capture_62 : decode cX4_capture 62 = .ok (.isub, 1) := by decide +kernel
theorem dX4_capture_63 : decode cX4_capture 63 = .ok (.iushr, 1) := by decide +kernel
theorem dX4_capture_64 : decode cX4_capture 64 = .ok (.iconst 1, 1) := by decide +kernel
theorem dX4_capture_65 : decode cX4_capture 65 = .ok (.iand, 1) := by decide +kernel
theorem dX4_capture_66 : decode cX4_capture 66 = .ok (.iastore, 1) := by decide +kernel
theorem dX4_capture_67 : decode cX4_capture 67 = .ok (.iinc 2 1, 3) := by decide +kernel
theorem dX4_capture_70 : decode cX4_capture 70 = .ok (.goto (-31), 3) := by decide +kernel
theorem dX4_capture_73 : decode cX4_capture 73 = .ok (.aload_n 0, 1) := by decide +kernel
theorem dX4_capture_74 : decode cX4_capture 74 = .ok (.iload_n 1, 1) := by decide +kernel
theorem dX4_capture_75 : decode cX4_capture 75 = .ok (.iconst 4, 1) := by decide +kernel
theorem dX4_capture_76 : decode cX4_capture 76 = .ok (.if_icmp .ne 7, 3) := by decide +kernel
theorem dX4_capture_79 : decode cX4_capture 79 = .ok (.iconst 0, 1) := by decide +kernel
theorem dX4_capture_80 : decode cX4_capture 80 = .ok (.goto 7, 3) := by decide +kernel
theorem dX4_capture_83 : decode cX4_capture 83 = .ok (.aload_n 0, 1) := by decide +kernel
theorem dX4_capture_84 : decode cX4_capture 84 = .ok (.getfield 116, 3) := by decide +kernel
theorem dX4_capture_87 : decode cX4_capture 87 = .ok (.putfield 116, 3) := by decide +kernel
theorem dX4_capture_90 : decode cX4_capture 90 = .ok (.return_, 1) := by decide +kernel
theorem dX4_shiftData_0 : decode cX4_shiftData 0 = .ok (.aload_n 0, 1) := by decide +kernel
theorem dX4_shiftData_1 : decode cX4_shiftData 1 = .ok (.invokevirtual 113, 3) := by decide +kernel
theorem dX4_shiftData_4 : decode cX4_shiftData 4 = .ok (.istore_n 2, 1) := by decide +kernel
theorem dX4_shiftData_5 : decode cX4_shiftData 5 = .ok (.aload_n 0, 1) := by decide +kernel
theorem dX4_shiftData_6 : decode cX4_shiftData 6 = .ok (.getfield 116, 3) := by decide +kernel
theorem dX4_shiftData_9 : decode cX4_shiftData 9 = .ok (.istore_n 3, 1) := by decide +kernel
theorem dX4_shiftData_10 : decode cX4_shiftData 10 = .ok (.iload_n 2, 1) := by decide +kernel
theorem dX4_shiftData_11 : decode cX4_shiftData 11 = .ok (.ifCond .ne 60, 3) := by decide +kernel
theorem dX4_shiftData_14 : decode cX4_shiftData 14 = .ok (.aload_n 0, 1) := by decide +kernel
theorem dX4_shiftData_15 : decode cX4_shiftData 15 = .ok (.getfield 41, 3) := by decide +kernel
theorem dX4_shiftData_18 : decode cX4_shiftData 18 = .ok (.aload_n 0, 1) := by decide +kernel
theorem dX4_shiftData_19 : decode cX4_shiftData 19 = .ok (.getfield 66, 3) := by decide +kernel
theorem dX4_shiftData_22 : decode cX4_shiftData 22 = .ok (.iconst 1, 1) := by decide +kernel
theorem dX4_shiftData_23 : decode cX4_shiftData 23 = .ok (.isub, 1) := by decide +kernel
theorem dX4_shiftData_24 : decode cX4_shiftData 24 = .ok (.iaload, 1) := by decide +kernel
theorem dX4_shiftData_25 : decode cX4_shiftData 25 = .ok (.istore_n 3, 1) := by decide +kernel
theorem dX4_shiftData_26 : decode cX4_shiftData 26 = .ok (.aload_n 0, 1) := by decide +kernel
theorem dX4_shiftData_27 : decode cX4_shiftData 27 = .ok (.getfield 66, 3) := by decide +kernel
theorem dX4_shiftData_30 : decode cX4_shiftData 30 = .ok (.iconst 1, 1) := by decide +kernel
theorem dX4_shiftData_31 : decode cX4_shiftData 31 = .ok (.isub, 1) := by decide +kernel
theorem dX4_shiftData_32 : decode cX4_shiftData 32 = .ok (.istore 4, 2) := by decide +kernel
theorem dX4_shiftData_34 : decode cX4_shiftData 34 = .ok (.iload 4, 2) := by decide +kernel
theorem dX4_shiftData_36 : decode cX4_shiftData 36 = .ok (.ifCond .le 25, 3) := by decide +kernel
theorem dX4_shiftData_39 : decode cX4_shiftData 39 = .ok (.aload_n 0, 1) := by decide +kernel
theorem dX4_shiftData_40 : decode cX4_shiftData 40 = .ok (.getfield 41, 3) := by decide +kernel
theorem dX4_shiftData_43 : decode cX4_shiftData 43 = .ok (.iload 4, 2) := by decide +kernel
theorem dX4_shiftData_45 : decode cX4_shiftData 45 = .ok (.aload_n 0, 1) := by decide +kernel
theorem dX4_shiftData_46 : decode cX4_shiftData 46 = .ok (.getfield 41, 3) := by decide +kernel
theorem dX4_shiftData_49 : decode cX4_shiftData 49 = .ok (.iload 4, 2) := by decide +kernel
theorem dX4_shiftData_51 : decode cX4_shiftData 51 = .ok (.iconst 1, 1) := by decide +kernel
theorem dX4_shiftData_52 : decode cX4_shiftData 52 = .ok (.isub, 1) := by decide +kernel
theorem dX4_shiftData_53 : decode cX4_shiftData 53 = .ok (.iaload, 1) := by decide +kernel
theorem dX4_shiftData_54 : decode cX4_shiftData 54 = .ok (.iastore, 1) := by decide +kernel
theorem dX4_shiftData_55 : decode cX4_shiftData 55 = .ok (.iinc 4 (-1), 3) := by decide +kernel
theorem dX4_shiftData_58 : decode cX4_shiftData 58 = .ok (.goto (-24), 3) := by decide +kernel
theorem dX4_shiftData_61 : decode cX4_shiftData 61 = .ok (.aload_n 0, 1) := by decide +kernel
theorem dX4_shiftData_62 : decode cX4_shiftData 62 = .ok (.getfield 41, 3) := by decide +kernel
theorem dX4_shiftData_65 : decode cX4_shiftData 65 = .ok (.iconst 0, 1) := by decide +kernel
theorem dX4_shiftData_66 : decode cX4_shiftData 66 = .ok (.iload_n 1, 1) := by decide +kernel
theorem dX4_shiftData_67 : decode cX4_shiftData 67 = .ok (.iastore, 1) := by decide +kernel
theorem dX4_shiftData_68 : decode cX4_shiftData 68 = .ok (.goto 81, 3) := by decide +kernel
theorem dX4_shiftData_71 : decode cX4_shiftData 71 = .ok (.iload_n 2, 1) := by decide +kernel
theorem dX4_shiftData_72 : decode cX4_shiftData 72 = .ok (.iconst 2, 1) := by decide +kernel
theorem dX4_shiftData_73 : decode cX4_shiftData 73 = .ok (.if_icmp .ne 52, 3) := by decide +kernel
theorem dX4_shiftData_76 : decode cX4_shiftData 76 = .ok (.aload_n 0, 1) := by decide +kernel
theorem dX4_shiftData_77 : decode cX4_shiftData 77 = .ok (.getfield 44, 3) := by decide +kernel
theorem dX4_shiftData_80 : decode cX4_shiftData 80 = .ok (.bipush 31, 2) := by decide +kernel
theorem dX4_shiftData_82 : decode cX4_shiftData 82 = .ok (.iaload, 1) := by decide +kernel
theorem dX4_shiftData_83 : decode cX4_shiftData 83 = .ok (.istore_n 3, 1) := by decide +kernel
theorem dX4_shiftData_84 : decode cX4_shiftData 84 = .ok (.bipush 31, 2) := by decide +kernel
theorem dX4_shiftData_86 : decode cX4_shiftData 86 = .ok (.istore 4, 2) := by decide +kernel
theorem dX4_shiftData_88 : decode cX4_shiftData 88 = .ok (.iload 4, 2) := by decide +kernel
theorem dX4_shiftData_90 : decode cX4_shiftData 90 = .ok (.ifCond .le 25, 3) := by decide +kernel
theorem dX4_shiftData_93 : decode cX4_shiftData 93 = .ok (.aload_n 0, 1) := by decide +kernel
theorem dX4_shiftData_94 : decode cX4_shiftData 94 = .ok (.getfield 44, 3) := by decide +kernel
theorem dX4_shiftData_97 : decode cX4_shiftData 97 = .ok (.iload 4, 2) := by decide +kernel
theorem dX4_shiftData_99 : decode cX4_shiftData 99 = .ok (.aload_n 0, 1) := by decide +kernel
theorem dX4_shiftData_100 : decode cX4_shiftData 100 = .ok (.getfield 44, 3) := by decide +kernel
theorem dX4_shiftData_103 : decode cX4_shiftData 103 = .ok (.iload 4, 2) := by decide +kernel
theorem dX4_shiftData_105 : decode cX4_shiftData 105 = .ok (.iconst 1, 1) := by decide +kernel
theorem dX4_shiftData_106 : decode cX4_shiftData 106 = .ok (.isub, 1) := by decide +kernel
theorem dX4_shiftData_107 : decode cX4_shiftData 107 = .ok (.iaload, 1) := by decide +kernel
theorem dX4_shiftData_108 : decode cX4_shiftData 108 = .ok (.iastore, 1) := by decide +kernel
theorem dX4_shiftData_109 : decode cX4_shiftData 109 = .ok (.iinc 4 (-1), 3) := by decide +kernel
theorem dX4_shiftData_112 : decode cX4_shiftData 112 = .ok (.goto (-24), 3) := by decide +kernel
theorem dX4_shiftData_115 : decode cX4_shiftData 115 = .ok (.aload_n 0, 1) := by decide +kernel
theorem dX4_shiftData_116 : decode cX4_shiftData 116 = .ok (.getfield 44, 3) := by decide +kernel
theorem dX4_shiftData_119 : decode cX4_shiftData 119 = .ok (.iconst 0, 1) := by decide +kernel
theorem dX4_shiftData_120 : decode cX4_shiftData 120 = .ok (.iload_n 1, 1) := by decide +kernel
theorem dX4_shiftData_121 : decode cX4_shiftData 121 = .ok (.iastore, 1) := by decide +kernel
theorem dX4_shiftData_122 : decode cX4_shiftData 122 = .ok (.goto 27, 3) := by decide +kernel
theorem dX4_shiftData_125 : decode cX4_shiftData 125 = .ok (.iload_n 2, 1) := by decide +kernel
theorem dX4_shiftData_126 : decode cX4_shiftData 126 = .ok (.iconst 3, 1) := by decide +kernel
theorem dX4_shiftData_127 : decode cX4_shiftData 127 = .ok (.if_icmp .ne 17, 3) := by decide +kernel
theorem dX4_shiftData_130 : decode cX4_shiftData 130 = .ok (.aload_n 0, 1) := by decide +kernel
theorem dX4_shiftData_131 : decode cX4_shiftData 131 = .ok (.iconst 0, 1) := by decide +kernel
theorem dX4_shiftData_132 : decode cX4_shiftData 132 = .ok (.aload_n 0, 1) := by decide +kernel
theorem dX4_shiftData_133 : decode cX4_shiftData 133 = .ok (.getfield 77, 3) := by decide +kernel
theorem dX4_shiftData_136 : decode cX4_shiftData 136 = .ok (.iload_n 1, 1) := by decide +kernel
theorem dX4_shiftData_137 : decode cX4_shiftData 137 = .ok (.invokevirtual 106, 3) := by decide +kernel
theorem dX4_shiftData_140 : decode cX4_shiftData 140 = .ok (.istore_n 3, 1) := by decide +kernel
theorem dX4_shiftData_141 : decode cX4_shiftData 141 = .ok (.goto 8, 3) := by decide +kernel
theorem dX4_shiftData_144 : decode cX4_shiftData 144 = .ok (.aload_n 0, 1) := by decide +kernel
theorem dX4_shiftData_145 : decode cX4_shiftData 145 = .ok (.iload_n 1, 1) := by decide +kernel
theorem dX4_shiftData_146 : decode cX4_shiftData 146 = .ok (.putfield 116, 3) := by decide +kernel
theorem dX4_shiftData_149 : decode cX4_shiftData 149 = .ok (.iload_n 3, 1) := by decide +kernel
theorem dX4_shiftData_150 : decode cX4_shiftData 150 = .ok (.ireturn, 1) := by decide +kernel
set_option maxHeartbeats 4000000 in
set_option maxRecDepth 100000 in
theorem c_ScanRowsModel_register (l : Launch) (dC : Nat → ClassId) (dI : Nat → Nat → Nat) (q : Nat → Nat) (cI cZ : ClassId) (sz : Nat) (y : MS) (h1 : y.co < 16) (h2 : y.cn ≤ 20) (h3 : y.p ≤ 32) : Met l yX4_register (.code yX4_register cX4_register 1 (some .int) :: ALLG) ({ frames := 0, cells := 0, slots := 0, locals := 0 }) (va_Pc [.ref (q 0)] (cP (dC, dI) vwCl [(cI, .int), (cZ, .boolean)] (wM q cI cZ y) eT sz)) (va_Qi (fun (x : Int32) (_ : Unit) => x = nI (mReg y.co y.cn y.p)) (fun (_ : Unit) => cB (dC, dI) vwCl [(cI, .int), (cZ, .boolean)] (wM q cI cZ y) (va_A (wM q cI cZ y) sz)) (va_A (wM q cI cZ y) sz)) 0 0 (va_A (wM q cI cZ y) sz) := by
  refine xm_of (cc := cX4_register) (maxL := 1) (ret := some .int) (by decide) rfl (Nat.le_of_ble_eq_true rfl) ?_
  intro p e s m below meth c A hAe hx hb hr hml hts0 hown hlk hin hsz H locs hP hK hD hA hS hE ls hl
  have hts : ∀ w ∈ ALLG, w.before _ s = true := fun w h => hts0 w (List.mem_cons_of_mem _ h)
  rw [← hAe]
  have hl : lv_has ls 1 [(0, .ref (q 0))] := hl
  refine lv_aload_n hx hb dX4_register_0 rfl (lv_at hl 0 rfl) ?_
  refine va_get (D := (dC, dI)) (ci := 4) (v := .int (nI (MS.co y))) (C := RX4) (T := TX4) (N := 23) hx hb hts inX4 hown hK hP 0 rfl rfl 20 (by decide) (hts _ tw_592) (fun _ h9 => h9) rfl dX4_register_1 ?_
  refine lv_iconst (v := nI 2) hx hb dX4_register_4 (by decide) ?_
  refine xn_cge (tgt := 21) hx hb (by omega) (by omega) dX4_register_5 (by decide) (fun c_1 => ?_) (fun c_1 => ?_)
  · refine lv_aload_n hx hb dX4_register_21 rfl (lv_at hl 0 rfl) ?_
    refine va_get (D := (dC, dI)) (ci := 4) (v := .int (nI (MS.co y))) (C := RX4) (T := TX4) (N := 23) hx hb hts inX4 hown hK hP 0 rfl rfl 20 (by decide) (hts _ tw_592) (fun _ h9 => h9) rfl dX4_register_22 ?_
    refine lv_iconst (v := nI 2) hx hb dX4_register_25 (by decide) ?_
    refine xn_cne (tgt := 33) hx hb (by omega) (by omega) dX4_register_26 (by decide) (fun c_2 => ?_) (fun c_2 => ?_)
    · refine lv_aload_n hx hb dX4_register_33 rfl (lv_at hl 0 rfl) ?_
      refine va_get (D := (dC, dI)) (ci := 4) (v := .int (nI (MS.co y))) (C := RX4) (T := TX4) (N := 23) hx hb hts inX4 hown hK hP 0 rfl rfl 20 (by decide) (hts _ tw_592) (fun _ h9 => h9) rfl dX4_register_34 ?_
      refine lv_iconst (v := nI 3) hx hb dX4_register_37 (by decide) ?_
      refine xn_cne (tgt := 52) hx hb (by omega) (by omega) dX4_register_38 (by decide) (fun c_3 => ?_) (fun c_3 => ?_)
      · refine lv_iconst (v := nI 4) hx hb dX4_register_52 (by decide) ?_
        exact xr_i hx hb hr hlk (u := ()) (by unfold mReg; split <;> (try split) <;> (try split) <;> first | rfl | omega) hP hK hD hS dX4_register_53
      · refine lv_aload_n hx hb dX4_register_41 rfl (lv_at hl 0 rfl) ?_
        refine va_get (D := (dC, dI)) (ci := 4) (v := .int (nI (MS.p y))) (C := RX4) (T := TX4) (N := 23) hx hb hts inX4 hown hK hP 0 rfl rfl 9 (by decide) (hts _ tw_581) (fun _ h9 => h9) rfl dX4_register_42 ?_
        refine xn_zle (tgt := 52) hx hb (by omega) dX4_register_45 (by decide) (fun c_4 => ?_) (fun c_4 => ?_)
        · refine lv_iconst (v := nI 4) hx hb dX4_register_52 (by decide) ?_
          exact xr_i hx hb hr hlk (u := ()) (by unfold mReg; split <;> (try split) <;> (try split) <;> first | rfl | omega) hP hK hD hS dX4_register_53
        · refine lv_iconst (v := nI 3) hx hb dX4_register_48 (by decide) ?_
          refine lv_goto (tgt := 53) hx hb dX4_register_49 (by decide) ?_
          exact xr_i hx hb hr hlk (u := ()) (by unfold mReg; split <;> (try split) <;> (try split) <;> first | rfl | omega) hP hK hD hS dX4_register_53
    · refine lv_iconst (v := nI 2) hx hb dX4_register_29 (by decide) ?_
      refine lv_goto (tgt := 53) hx hb dX4_register_30 (by decide) ?_
      exact xr_i hx hb hr hlk (u := ()) (by unfold mReg; split <;> (try split) <;> (try split) <;> first | rfl | omega) hP hK hD hS dX4_register_53
  · refine lv_aload_n hx hb dX4_register_8 rfl (lv_at hl 0 rfl) ?_
    refine va_get (D := (dC, dI)) (ci := 4) (v := .int (nI (MS.cn y))) (C := RX4) (T := TX4) (N := 23) hx hb hts inX4 hown hK hP 0 rfl rfl 16 (by decide) (hts _ tw_588) (fun _ h9 => h9) rfl dX4_register_9 ?_
    refine xn_zle (tgt := 19) hx hb (by omega) dX4_register_12 (by decide) (fun c_5 => ?_) (fun c_5 => ?_)
    · refine lv_iconst (v := nI 4) hx hb dX4_register_19 (by decide) ?_
      exact xr_i hx hb hr hlk (u := ()) (by unfold mReg; split <;> (try split) <;> (try split) <;> first | rfl | omega) hP hK hD hS dX4_register_20
    · refine lv_iconst (v := nI 0) hx hb dX4_register_15 (by decide) ?_
      refine lv_goto (tgt := 20) hx hb dX4_register_16 (by decide) ?_
      exact xr_i hx hb hr hlk (u := ()) (by unfold mReg; split <;> (try split) <;> (try split) <;> first | rfl | omega) hP hK hD hS dX4_register_20
set_option maxHeartbeats 4000000 in
set_option maxRecDepth 100000 in
theorem c_ScanRowsModel_next (l : Launch) (dC : Nat → ClassId) (dI : Nat → Nat → Nat) (q : Nat → Nat) (cI cZ : ClassId) (sz : Nat) (s0 m0 : Nat) (h1 : s0 < 16) (h2 : m0 < 2) : Met l yX4_next (.code yX4_next cX4_next 5 (some .int) :: ALLG) ({ frames := 0, cells := 0, slots := 0, locals := 0 }) (va_Pc [.int (nI s0), .int (nI m0)] (cP (dC, dI) vwCl [(cI, .int), (cZ, .boolean)] (([] : va_W)) eT sz)) (va_Qi (fun (x : Int32) (_ : Unit) => x = nI (NX (2 * s0 + m0))) (fun (_ : Unit) => cB (dC, dI) vwCl [(cI, .int), (cZ, .boolean)] ([]) (va_A (([] : va_W)) sz)) (va_A (([] : va_W)) sz)) 0 0 (va_A (([] : va_W)) sz) := by
  refine xm_of (cc := cX4_next) (maxL := 5) (ret := some .int) (by decide) rfl (Nat.le_of_ble_eq_true rfl) ?_
  intro p e s m below meth c A hAe hx hb hr hml hts0 hown hlk hin hsz H locs hP hK hD hA hS hE ls hl
  have hts : ∀ w ∈ ALLG, w.before _ s = true := fun w h => hts0 w (List.mem_cons_of_mem _ h)
  rw [← hAe]
  have hl : lv_has ls 5 [(0, .int (nI s0)), (1, .int (nI m0))] := hl
  refine lv_iload_n hx hb dX4_next_0 rfl (lv_at hl 0 rfl) ?_
  by_cases k0 : s0 = 0
  · refine lv_tableIn (tgt := 80) hx hb dX4_next_1 (by rw [nI_toInt (by omega)]; omega) (by rw [nI_toInt (by omega)]; omega) (by rw [k0]; rfl) (by decide) ?_
    refine lv_iload_n hx hb dX4_next_80 rfl (lv_at hl 1 rfl) ?_
    refine xn_zne (tgt := 88) hx hb (by omega) dX4_next_81 (by decide) (fun c_1 => ?_) (fun c_1 => ?_)
    · refine lv_iconst (v := nI 0) hx hb dX4_next_88 (by decide) ?_
      exact xr_i hx hb hr hlk (u := ()) (congrArg nI (by rw [← nxF_eq s0 h1 m0 h2]; unfold nxF; (try unfold nxG); (repeat' split) <;> omega)) hP hK hD hS dX4_next_89
    · refine lv_iconst (v := nI 1) hx hb dX4_next_84 (by decide) ?_
      refine lv_goto (tgt := 89) hx hb dX4_next_85 (by decide) ?_
      exact xr_i hx hb hr hlk (u := ()) (congrArg nI (by rw [← nxF_eq s0 h1 m0 h2]; unfold nxF; (try unfold nxG); (repeat' split) <;> omega)) hP hK hD hS dX4_next_89
  by_cases k1 : s0 = 1 ∨ s0 = 8 ∨ s0 = 15
  · refine lv_tableIn (tgt := 90) hx hb dX4_next_1 (by rw [nI_toInt (by omega)]; omega) (by rw [nI_toInt (by omega)]; omega) (nxT1 s0 h1 k1) (by decide) ?_
    refine lv_iload_n hx hb dX4_next_90 rfl (lv_at hl 1 rfl) ?_
    refine xn_zne (tgt := 98) hx hb (by omega) dX4_next_91 (by decide) (fun c_2 => ?_) (fun c_2 => ?_)
    · refine lv_iconst (v := nI 2) hx hb dX4_next_98 (by decide) ?_
      exact xr_i hx hb hr hlk (u := ()) (congrArg nI (by rw [← nxF_eq s0 h1 m0 h2]; unfold nxF; (try unfold nxG); (repeat' split) <;> omega)) hP hK hD hS dX4_next_99
    · refine lv_iconst (v := nI 1) hx hb dX4_next_94 (by decide) ?_
      refine lv_goto (tgt := 99) hx hb dX4_next_95 (by decide) ?_
      exact xr_i hx hb hr hlk (u := ()) (congrArg nI (by rw [← nxF_eq s0 h1 m0 h2]; unfold nxF; (try unfold nxG); (repeat' split) <;> omega)) hP hK hD hS dX4_next_99
  by_cases k2 : s0 = 2
  · refine lv_tableIn (tgt := 100) hx hb dX4_next_1 (by rw [nI_toInt (by omega)]; omega) (by rw [nI_toInt (by omega)]; omega) (by rw [k2]; rfl) (by decide) ?_
    refine lv_iload_n hx hb dX4_next_100 rfl (lv_at hl 1 rfl) ?_
    refine xn_zne (tgt := 108) hx hb (by omega) dX4_next_101 (by decide) (fun c_3 => ?_) (fun c_3 => ?_)
    · refine lv_bipush (v := nI 9) hx hb dX4_next_108 (by decide) ?_
      exact xr_i hx hb hr hlk (u := ()) (congrArg nI (by rw [← nxF_eq s0 h1 m0 h2]; unfold nxF; (try unfold nxG); (repeat' split) <;> omega)) hP hK hD hS dX4_next_110
    · refine lv_iconst (v := nI 3) hx hb dX4_next_104 (by decide) ?_
      refine lv_goto (tgt := 110) hx hb dX4_next_105 (by decide) ?_
      exact xr_i hx hb hr hlk (u := ()) (congrArg nI (by rw [← nxF_eq s0 h1 m0 h2]; unfold nxF; (try unfold nxG); (repeat' split) <;> omega)) hP hK hD hS dX4_next_110
  by_cases k3 : s0 = 9
  · refine lv_tableIn (tgt := 111) hx hb dX4_next_1 (by rw [nI_toInt (by omega)]; omega) (by rw [nI_toInt (by omega)]; omega) (by rw [k3]; rfl) (by decide) ?_
    refine lv_iload_n hx hb dX4_next_111 rfl (lv_at hl 1 rfl) ?_
    refine xn_zne (tgt := 120) hx hb (by omega) dX4_next_112 (by decide) (fun c_4 => ?_) (fun c_4 => ?_)
    · refine lv_iconst (v := nI 0) hx hb dX4_next_120 (by decide) ?_
      exact xr_i hx hb hr hlk (u := ()) (congrArg nI (by rw [← nxF_eq s0 h1 m0 h2]; unfold nxF; (try unfold nxG); (repeat' split) <;> omega)) hP hK hD hS dX4_next_121
    · refine lv_bipush (v := nI 10) hx hb dX4_next_115 (by decide) ?_
      refine lv_goto (tgt := 121) hx hb dX4_next_117 (by decide) ?_
      exact xr_i hx hb hr hlk (u := ()) (congrArg nI (by rw [← nxF_eq s0 h1 m0 h2]; unfold nxF; (try unfold nxG); (repeat' split) <;> omega)) hP hK hD hS dX4_next_121
  · refine lv_tableIn (tgt := 122) hx hb dX4_next_1 (by rw [nI_toInt (by omega)]; omega) (by rw [nI_toInt (by omega)]; omega) ((nxT s0 h1).resolve_left (fun z => by omega)) (by decide) ?_
    refine lv_iload_n hx hb dX4_next_122 rfl (lv_at hl 0 rfl) ?_
    refine lv_bipush (v := nI 9) hx hb dX4_next_123 (by decide) ?_
    refine xn_cle (tgt := 133) hx hb (by omega) (by omega) dX4_next_125 (by decide) (fun c_5 => ?_) (fun c_5 => ?_)
    · refine lv_iconst (v := nI 0) hx hb dX4_next_133 (by decide) ?_
      refine lv_istore_n (lv' := [(2, .int (nI 0)), (0, .int (nI s0)), (1, .int (nI m0))]) hx hb dX4_next_134 rfl hl (by decide) rfl (fun ls hl => ?_)
      refine lv_iload_n hx hb dX4_next_135 rfl (lv_at hl 1 rfl) ?_
      refine lv_iload_n hx hb dX4_next_136 rfl (lv_at hl 0 rfl) ?_
      refine xn_sub hx hb (by omega) dX4_next_137 ?_
      refine lv_istore_n (lv' := [(3, .int (nI (s0 - 0))), (2, .int (nI 0)), (0, .int (nI s0)), (1, .int (nI m0))]) hx hb dX4_next_138 rfl hl (by decide) rfl (fun ls hl => ?_)
      refine lv_iload_n hx hb dX4_next_139 rfl (lv_at hl 0 rfl) ?_
      refine lv_iconst (v := nI 3) hx hb dX4_next_140 (by decide) ?_
      refine xn_ceq (tgt := 149) hx hb (by omega) (by omega) dX4_next_141 (by decide) (fun c_6 => ?_) (fun c_6 => ?_)
      · refine lv_iload_n hx hb dX4_next_149 rfl (lv_at hl 3 rfl) ?_
        refine xn_zne (tgt := 157) hx hb (by omega) dX4_next_150 (by decide) (fun c_7 => ?_) (fun c_7 => ?_)
        · refine lv_iconst (v := nI 5) hx hb dX4_next_157 (by decide) ?_
          refine lv_goto (tgt := 210) hx hb dX4_next_158 (by decide) ?_
          refine lv_istore (lv' := [(4, .int (nI 5)), (3, .int (nI (s0 - 0))), (2, .int (nI 0)), (0, .int (nI s0)), (1, .int (nI m0))]) hx hb dX4_next_210 hl (by decide) rfl (fun ls hl => ?_)
          refine lv_iload hx hb dX4_next_212 (lv_at hl 0 rfl) ?_
          refine lv_iload_n hx hb dX4_next_214 rfl (lv_at hl 2 rfl) ?_
          refine xn_add hx hb dX4_next_215 ?_
          exact xr_i hx hb hr hlk (u := ()) (congrArg nI (by rw [← nxF_eq s0 h1 m0 h2]; unfold nxF; (try unfold nxG); (repeat' split) <;> omega)) hP hK hD hS dX4_next_216
        · refine lv_iconst (v := nI 4) hx hb dX4_next_153 (by decide) ?_
          refine lv_goto (tgt := 210) hx hb dX4_next_154 (by decide) ?_
          refine lv_istore (lv' := [(4, .int (nI 4)), (3, .int (nI (s0 - 0))), (2, .int (nI 0)), (0, .int (nI s0)), (1, .int (nI m0))]) hx hb dX4_next_210 hl (by decide) rfl (fun ls hl => ?_)
          refine lv_iload hx hb dX4_next_212 (lv_at hl 0 rfl) ?_
          refine lv_iload_n hx hb dX4_next_214 rfl (lv_at hl 2 rfl) ?_
          refine xn_add hx hb dX4_next_215 ?_
          exact xr_i hx hb hr hlk (u := ()) (congrArg nI (by rw [← nxF_eq s0 h1 m0 h2]; unfold nxF; (try unfold nxG); (repeat' split) <;> omega)) hP hK hD hS dX4_next_216
      · refine lv_iload_n hx hb dX4_next_144 rfl (lv_at hl 0 rfl) ?_
        refine lv_iconst (v := nI 4) hx hb dX4_next_145 (by decide) ?_
        refine xn_cne (tgt := 161) hx hb (by omega) (by omega) dX4_next_146 (by decide) (fun c_8 => ?_) (fun c_8 => ?_)
        · refine lv_iload_n hx hb dX4_next_161 rfl (lv_at hl 0 rfl) ?_
          refine lv_iconst (v := nI 5) hx hb dX4_next_162 (by decide) ?_
          refine xn_cne (tgt := 180) hx hb (by omega) (by omega) dX4_next_163 (by decide) (fun c_9 => ?_) (fun c_9 => ?_)
          · refine lv_iload_n hx hb dX4_next_180 rfl (lv_at hl 0 rfl) ?_
            refine lv_bipush (v := nI 6) hx hb dX4_next_181 (by decide) ?_
            refine xn_cne (tgt := 200) hx hb (by omega) (by omega) dX4_next_183 (by decide) (fun c_10 => ?_) (fun c_10 => ?_)
            · refine lv_iload_n hx hb dX4_next_200 rfl (lv_at hl 3 rfl) ?_
              refine xn_zne (tgt := 208) hx hb (by omega) dX4_next_201 (by decide) (fun c_11 => ?_) (fun c_11 => ?_)
              · refine lv_bipush (v := nI 8) hx hb dX4_next_208 (by decide) ?_
                refine lv_istore (lv' := [(4, .int (nI 8)), (3, .int (nI (s0 - 0))), (2, .int (nI 0)), (0, .int (nI s0)), (1, .int (nI m0))]) hx hb dX4_next_210 hl (by decide) rfl (fun ls hl => ?_)
                refine lv_iload hx hb dX4_next_212 (lv_at hl 0 rfl) ?_
                refine lv_iload_n hx hb dX4_next_214 rfl (lv_at hl 2 rfl) ?_
                refine xn_add hx hb dX4_next_215 ?_
                exact xr_i hx hb hr hlk (u := ()) (congrArg nI (by rw [← nxF_eq s0 h1 m0 h2]; unfold nxF; (try unfold nxG); (repeat' split) <;> omega)) hP hK hD hS dX4_next_216
              · refine lv_iconst (v := nI 4) hx hb dX4_next_204 (by decide) ?_
                refine lv_goto (tgt := 210) hx hb dX4_next_205 (by decide) ?_
                refine lv_istore (lv' := [(4, .int (nI 4)), (3, .int (nI (s0 - 0))), (2, .int (nI 0)), (0, .int (nI s0)), (1, .int (nI m0))]) hx hb dX4_next_210 hl (by decide) rfl (fun ls hl => ?_)
                refine lv_iload hx hb dX4_next_212 (lv_at hl 0 rfl) ?_
                refine lv_iload_n hx hb dX4_next_214 rfl (lv_at hl 2 rfl) ?_
                refine xn_add hx hb dX4_next_215 ?_
                exact xr_i hx hb hr hlk (u := ()) (congrArg nI (by rw [← nxF_eq s0 h1 m0 h2]; unfold nxF; (try unfold nxG); (repeat' split) <;> omega)) hP hK hD hS dX4_next_216
            · refine lv_iload_n hx hb dX4_next_186 rfl (lv_at hl 3 rfl) ?_
              refine xn_zne (tgt := 195) hx hb (by omega) dX4_next_187 (by decide) (fun c_12 => ?_) (fun c_12 => ?_)
              · refine lv_bipush (v := nI 7) hx hb dX4_next_195 (by decide) ?_
                refine lv_goto (tgt := 210) hx hb dX4_next_197 (by decide) ?_
                refine lv_istore (lv' := [(4, .int (nI 7)), (3, .int (nI (s0 - 0))), (2, .int (nI 0)), (0, .int (nI s0)), (1, .int (nI m0))]) hx hb dX4_next_210 hl (by decide) rfl (fun ls hl => ?_)
                refine lv_iload hx hb dX4_next_212 (lv_at hl 0 rfl) ?_
                refine lv_iload_n hx hb dX4_next_214 rfl (lv_at hl 2 rfl) ?_
                refine xn_add hx hb dX4_next_215 ?_
                exact xr_i hx hb hr hlk (u := ()) (congrArg nI (by rw [← nxF_eq s0 h1 m0 h2]; unfold nxF; (try unfold nxG); (repeat' split) <;> omega)) hP hK hD hS dX4_next_216
              · refine lv_bipush (v := nI 6) hx hb dX4_next_190 (by decide) ?_
                refine lv_goto (tgt := 210) hx hb dX4_next_192 (by decide) ?_
                refine lv_istore (lv' := [(4, .int (nI 6)), (3, .int (nI (s0 - 0))), (2, .int (nI 0)), (0, .int (nI s0)), (1, .int (nI m0))]) hx hb dX4_next_210 hl (by decide) rfl (fun ls hl => ?_)
                refine lv_iload hx hb dX4_next_212 (lv_at hl 0 rfl) ?_
                refine lv_iload_n hx hb dX4_next_214 rfl (lv_at hl 2 rfl) ?_
                refine xn_add hx hb dX4_next_215 ?_
                exact xr_i hx hb hr hlk (u := ()) (congrArg nI (by rw [← nxF_eq s0 h1 m0 h2]; unfold nxF; (try unfold nxG); (repeat' split) <;> omega)) hP hK hD hS dX4_next_216
          · refine lv_iload_n hx hb dX4_next_166 rfl (lv_at hl 3 rfl) ?_
            refine xn_zne (tgt := 175) hx hb (by omega) dX4_next_167 (by decide) (fun c_13 => ?_) (fun c_13 => ?_)
            · refine lv_bipush (v := nI 8) hx hb dX4_next_175 (by decide) ?_
              refine lv_goto (tgt := 210) hx hb dX4_next_177 (by decide) ?_
              refine lv_istore (lv' := [(4, .int (nI 8)), (3, .int (nI (s0 - 0))), (2, .int (nI 0)), (0, .int (nI s0)), (1, .int (nI m0))]) hx hb dX4_next_210 hl (by decide) rfl (fun ls hl => ?_)
              refine lv_iload hx hb dX4_next_212 (lv_at hl 0 rfl) ?_
              refine lv_iload_n hx hb dX4_next_214 rfl (lv_at hl 2 rfl) ?_
              refine xn_add hx hb dX4_next_215 ?_
              exact xr_i hx hb hr hlk (u := ()) (congrArg nI (by rw [← nxF_eq s0 h1 m0 h2]; unfold nxF; (try unfold nxG); (repeat' split) <;> omega)) hP hK hD hS dX4_next_216
            · refine lv_bipush (v := nI 6) hx hb dX4_next_170 (by decide) ?_
              refine lv_goto (tgt := 210) hx hb dX4_next_172 (by decide) ?_
              refine lv_istore (lv' := [(4, .int (nI 6)), (3, .int (nI (s0 - 0))), (2, .int (nI 0)), (0, .int (nI s0)), (1, .int (nI m0))]) hx hb dX4_next_210 hl (by decide) rfl (fun ls hl => ?_)
              refine lv_iload hx hb dX4_next_212 (lv_at hl 0 rfl) ?_
              refine lv_iload_n hx hb dX4_next_214 rfl (lv_at hl 2 rfl) ?_
              refine xn_add hx hb dX4_next_215 ?_
              exact xr_i hx hb hr hlk (u := ()) (congrArg nI (by rw [← nxF_eq s0 h1 m0 h2]; unfold nxF; (try unfold nxG); (repeat' split) <;> omega)) hP hK hD hS dX4_next_216
        · refine lv_iload_n hx hb dX4_next_149 rfl (lv_at hl 3 rfl) ?_
          refine xn_zne (tgt := 157) hx hb (by omega) dX4_next_150 (by decide) (fun c_14 => ?_) (fun c_14 => ?_)
          · refine lv_iconst (v := nI 5) hx hb dX4_next_157 (by decide) ?_
            refine lv_goto (tgt := 210) hx hb dX4_next_158 (by decide) ?_
            refine lv_istore (lv' := [(4, .int (nI 5)), (3, .int (nI (s0 - 0))), (2, .int (nI 0)), (0, .int (nI s0)), (1, .int (nI m0))]) hx hb dX4_next_210 hl (by decide) rfl (fun ls hl => ?_)
            refine lv_iload hx hb dX4_next_212 (lv_at hl 0 rfl) ?_
            refine lv_iload_n hx hb dX4_next_214 rfl (lv_at hl 2 rfl) ?_
            refine xn_add hx hb dX4_next_215 ?_
            exact xr_i hx hb hr hlk (u := ()) (congrArg nI (by rw [← nxF_eq s0 h1 m0 h2]; unfold nxF; (try unfold nxG); (repeat' split) <;> omega)) hP hK hD hS dX4_next_216
          · refine lv_iconst (v := nI 4) hx hb dX4_next_153 (by decide) ?_
            refine lv_goto (tgt := 210) hx hb dX4_next_154 (by decide) ?_
            refine lv_istore (lv' := [(4, .int (nI 4)), (3, .int (nI (s0 - 0))), (2, .int (nI 0)), (0, .int (nI s0)), (1, .int (nI m0))]) hx hb dX4_next_210 hl (by decide) rfl (fun ls hl => ?_)
            refine lv_iload hx hb dX4_next_212 (lv_at hl 0 rfl) ?_
            refine lv_iload_n hx hb dX4_next_214 rfl (lv_at hl 2 rfl) ?_
            refine xn_add hx hb dX4_next_215 ?_
            exact xr_i hx hb hr hlk (u := ()) (congrArg nI (by rw [← nxF_eq s0 h1 m0 h2]; unfold nxF; (try unfold nxG); (repeat' split) <;> omega)) hP hK hD hS dX4_next_216
    · refine lv_bipush (v := nI 7) hx hb dX4_next_128 (by decide) ?_
      refine lv_goto (tgt := 134) hx hb dX4_next_130 (by decide) ?_
      refine lv_istore_n (lv' := [(2, .int (nI 7)), (0, .int (nI s0)), (1, .int (nI m0))]) hx hb dX4_next_134 rfl hl (by decide) rfl (fun ls hl => ?_)
      refine lv_iload_n hx hb dX4_next_135 rfl (lv_at hl 1 rfl) ?_
      refine lv_iload_n hx hb dX4_next_136 rfl (lv_at hl 0 rfl) ?_
      refine xn_sub hx hb (by omega) dX4_next_137 ?_
      refine lv_istore_n (lv' := [(3, .int (nI (s0 - 7))), (2, .int (nI 7)), (0, .int (nI s0)), (1, .int (nI m0))]) hx hb dX4_next_138 rfl hl (by decide) rfl (fun ls hl => ?_)
      refine lv_iload_n hx hb dX4_next_139 rfl (lv_at hl 0 rfl) ?_
      refine lv_iconst (v := nI 3) hx hb dX4_next_140 (by decide) ?_
      refine xn_ceq (tgt := 149) hx hb (by omega) (by omega) dX4_next_141 (by decide) (fun c_15 => ?_) (fun c_15 => ?_)
      · refine lv_iload_n hx hb dX4_next_149 rfl (lv_at hl 3 rfl) ?_
        refine xn_zne (tgt := 157) hx hb (by omega) dX4_next_150 (by decide) (fun c_16 => ?_) (fun c_16 => ?_)
        · refine lv_iconst (v := nI 5) hx hb dX4_next_157 (by decide) ?_
          refine lv_goto (tgt := 210) hx hb dX4_next_158 (by decide) ?_
          refine lv_istore (lv' := [(4, .int (nI 5)), (3, .int (nI (s0 - 7))), (2, .int (nI 7)), (0, .int (nI s0)), (1, .int (nI m0))]) hx hb dX4_next_210 hl (by decide) rfl (fun ls hl => ?_)
          refine lv_iload hx hb dX4_next_212 (lv_at hl 0 rfl) ?_
          refine lv_iload_n hx hb dX4_next_214 rfl (lv_at hl 2 rfl) ?_
          refine xn_add hx hb dX4_next_215 ?_
          exact xr_i hx hb hr hlk (u := ()) (congrArg nI (by rw [← nxF_eq s0 h1 m0 h2]; unfold nxF; (try unfold nxG); (repeat' split) <;> omega)) hP hK hD hS dX4_next_216
        · refine lv_iconst (v := nI 4) hx hb dX4_next_153 (by decide) ?_
          refine lv_goto (tgt := 210) hx hb dX4_next_154 (by decide) ?_
          refine lv_istore (lv' := [(4, .int (nI 4)), (3, .int (nI (s0 - 7))), (2, .int (nI 7)), (0, .int (nI s0)), (1, .int (nI m0))]) hx hb dX4_next_210 hl (by decide) rfl (fun ls hl => ?_)
          refine lv_iload hx hb dX4_next_212 (lv_at hl 0 rfl) ?_
          refine lv_iload_n hx hb dX4_next_214 rfl (lv_at hl 2 rfl) ?_
          refine xn_add hx hb dX4_next_215 ?_
          exact xr_i hx hb hr hlk (u := ()) (congrArg nI (by rw [← nxF_eq s0 h1 m0 h2]; unfold nxF; (try unfold nxG); (repeat' split) <;> omega)) hP hK hD hS dX4_next_216
      · refine lv_iload_n hx hb dX4_next_144 rfl (lv_at hl 0 rfl) ?_
        refine lv_iconst (v := nI 4) hx hb dX4_next_145 (by decide) ?_
        refine xn_cne (tgt := 161) hx hb (by omega) (by omega) dX4_next_146 (by decide) (fun c_17 => ?_) (fun c_17 => ?_)
        · refine lv_iload_n hx hb dX4_next_161 rfl (lv_at hl 0 rfl) ?_
          refine lv_iconst (v := nI 5) hx hb dX4_next_162 (by decide) ?_
          refine xn_cne (tgt := 180) hx hb (by omega) (by omega) dX4_next_163 (by decide) (fun c_18 => ?_) (fun c_18 => ?_)
          · refine lv_iload_n hx hb dX4_next_180 rfl (lv_at hl 0 rfl) ?_
            refine lv_bipush (v := nI 6) hx hb dX4_next_181 (by decide) ?_
            refine xn_cne (tgt := 200) hx hb (by omega) (by omega) dX4_next_183 (by decide) (fun c_19 => ?_) (fun c_19 => ?_)
            · refine lv_iload_n hx hb dX4_next_200 rfl (lv_at hl 3 rfl) ?_
              refine xn_zne (tgt := 208) hx hb (by omega) dX4_next_201 (by decide) (fun c_20 => ?_) (fun c_20 => ?_)
              · refine lv_bipush (v := nI 8) hx hb dX4_next_208 (by decide) ?_
                refine lv_istore (lv' := [(4, .int (nI 8)), (3, .int (nI (s0 - 7))), (2, .int (nI 7)), (0, .int (nI s0)), (1, .int (nI m0))]) hx hb dX4_next_210 hl (by decide) rfl (fun ls hl => ?_)
                refine lv_iload hx hb dX4_next_212 (lv_at hl 0 rfl) ?_
                refine lv_iload_n hx hb dX4_next_214 rfl (lv_at hl 2 rfl) ?_
                refine xn_add hx hb dX4_next_215 ?_
                exact xr_i hx hb hr hlk (u := ()) (congrArg nI (by rw [← nxF_eq s0 h1 m0 h2]; unfold nxF; (try unfold nxG); (repeat' split) <;> omega)) hP hK hD hS dX4_next_216
              · refine lv_iconst (v := nI 4) hx hb dX4_next_204 (by decide) ?_
                refine lv_goto (tgt := 210) hx hb dX4_next_205 (by decide) ?_
                refine lv_istore (lv' := [(4, .int (nI 4)), (3, .int (nI (s0 - 7))), (2, .int (nI 7)), (0, .int (nI s0)), (1, .int (nI m0))]) hx hb dX4_next_210 hl (by decide) rfl (fun ls hl => ?_)
                refine lv_iload hx hb dX4_next_212 (lv_at hl 0 rfl) ?_
                refine lv_iload_n hx hb dX4_next_214 rfl (lv_at hl 2 rfl) ?_
                refine xn_add hx hb dX4_next_215 ?_
                exact xr_i hx hb hr hlk (u := ()) (congrArg nI (by rw [← nxF_eq s0 h1 m0 h2]; unfold nxF; (try unfold nxG); (repeat' split) <;> omega)) hP hK hD hS dX4_next_216
            · refine lv_iload_n hx hb dX4_next_186 rfl (lv_at hl 3 rfl) ?_
              refine xn_zne (tgt := 195) hx hb (by omega) dX4_next_187 (by decide) (fun c_21 => ?_) (fun c_21 => ?_)
              · refine lv_bipush (v := nI 7) hx hb dX4_next_195 (by decide) ?_
                refine lv_goto (tgt := 210) hx hb dX4_next_197 (by decide) ?_
                refine lv_istore (lv' := [(4, .int (nI 7)), (3, .int (nI (s0 - 7))), (2, .int (nI 7)), (0, .int (nI s0)), (1, .int (nI m0))]) hx hb dX4_next_210 hl (by decide) rfl (fun ls hl => ?_)
                refine lv_iload hx hb dX4_next_212 (lv_at hl 0 rfl) ?_
                refine lv_iload_n hx hb dX4_next_214 rfl (lv_at hl 2 rfl) ?_
                refine xn_add hx hb dX4_next_215 ?_
                exact xr_i hx hb hr hlk (u := ()) (congrArg nI (by rw [← nxF_eq s0 h1 m0 h2]; unfold nxF; (try unfold nxG); (repeat' split) <;> omega)) hP hK hD hS dX4_next_216
              · refine lv_bipush (v := nI 6) hx hb dX4_next_190 (by decide) ?_
                refine lv_goto (tgt := 210) hx hb dX4_next_192 (by decide) ?_
                refine lv_istore (lv' := [(4, .int (nI 6)), (3, .int (nI (s0 - 7))), (2, .int (nI 7)), (0, .int (nI s0)), (1, .int (nI m0))]) hx hb dX4_next_210 hl (by decide) rfl (fun ls hl => ?_)
                refine lv_iload hx hb dX4_next_212 (lv_at hl 0 rfl) ?_
                refine lv_iload_n hx hb dX4_next_214 rfl (lv_at hl 2 rfl) ?_
                refine xn_add hx hb dX4_next_215 ?_
                exact xr_i hx hb hr hlk (u := ()) (congrArg nI (by rw [← nxF_eq s0 h1 m0 h2]; unfold nxF; (try unfold nxG); (repeat' split) <;> omega)) hP hK hD hS dX4_next_216
          · refine lv_iload_n hx hb dX4_next_166 rfl (lv_at hl 3 rfl) ?_
            refine xn_zne (tgt := 175) hx hb (by omega) dX4_next_167 (by decide) (fun c_22 => ?_) (fun c_22 => ?_)
            · refine lv_bipush (v := nI 8) hx hb dX4_next_175 (by decide) ?_
              refine lv_goto (tgt := 210) hx hb dX4_next_177 (by decide) ?_
              refine lv_istore (lv' := [(4, .int (nI 8)), (3, .int (nI (s0 - 7))), (2, .int (nI 7)), (0, .int (nI s0)), (1, .int (nI m0))]) hx hb dX4_next_210 hl (by decide) rfl (fun ls hl => ?_)
              refine lv_iload hx hb dX4_next_212 (lv_at hl 0 rfl) ?_
              refine lv_iload_n hx hb dX4_next_214 rfl (lv_at hl 2 rfl) ?_
              refine xn_add hx hb dX4_next_215 ?_
              exact xr_i hx hb hr hlk (u := ()) (congrArg nI (by rw [← nxF_eq s0 h1 m0 h2]; unfold nxF; (try unfold nxG); (repeat' split) <;> omega)) hP hK hD hS dX4_next_216
            · refine lv_bipush (v := nI 6) hx hb dX4_next_170 (by decide) ?_
              refine lv_goto (tgt := 210) hx hb dX4_next_172 (by decide) ?_
              refine lv_istore (lv' := [(4, .int (nI 6)), (3, .int (nI (s0 - 7))), (2, .int (nI 7)), (0, .int (nI s0)), (1, .int (nI m0))]) hx hb dX4_next_210 hl (by decide) rfl (fun ls hl => ?_)
              refine lv_iload hx hb dX4_next_212 (lv_at hl 0 rfl) ?_
              refine lv_iload_n hx hb dX4_next_214 rfl (lv_at hl 2 rfl) ?_
              refine xn_add hx hb dX4_next_215 ?_
              exact xr_i hx hb hr hlk (u := ()) (congrArg nI (by rw [← nxF_eq s0 h1 m0 h2]; unfold nxF; (try unfold nxG); (repeat' split) <;> omega)) hP hK hD hS dX4_next_216
        · refine lv_iload_n hx hb dX4_next_149 rfl (lv_at hl 3 rfl) ?_
          refine xn_zne (tgt := 157) hx hb (by omega) dX4_next_150 (by decide) (fun c_23 => ?_) (fun c_23 => ?_)
          · refine lv_iconst (v := nI 5) hx hb dX4_next_157 (by decide) ?_
            refine lv_goto (tgt := 210) hx hb dX4_next_158 (by decide) ?_
            refine lv_istore (lv' := [(4, .int (nI 5)), (3, .int (nI (s0 - 7))), (2, .int (nI 7)), (0, .int (nI s0)), (1, .int (nI m0))]) hx hb dX4_next_210 hl (by decide) rfl (fun ls hl => ?_)
            refine lv_iload hx hb dX4_next_212 (lv_at hl 0 rfl) ?_
            refine lv_iload_n hx hb dX4_next_214 rfl (lv_at hl 2 rfl) ?_
            refine xn_add hx hb dX4_next_215 ?_
            exact xr_i hx hb hr hlk (u := ()) (congrArg nI (by rw [← nxF_eq s0 h1 m0 h2]; unfold nxF; (try unfold nxG); (repeat' split) <;> omega)) hP hK hD hS dX4_next_216
          · refine lv_iconst (v := nI 4) hx hb dX4_next_153 (by decide) ?_
            refine lv_goto (tgt := 210) hx hb dX4_next_154 (by decide) ?_
            refine lv_istore (lv' := [(4, .int (nI 4)), (3, .int (nI (s0 - 7))), (2, .int (nI 7)), (0, .int (nI s0)), (1, .int (nI m0))]) hx hb dX4_next_210 hl (by decide) rfl (fun ls hl => ?_)
            refine lv_iload hx hb dX4_next_212 (lv_at hl 0 rfl) ?_
            refine lv_iload_n hx hb dX4_next_214 rfl (lv_at hl 2 rfl) ?_
            refine xn_add hx hb dX4_next_215 ?_
            exact xr_i hx hb hr hlk (u := ()) (congrArg nI (by rw [← nxF_eq s0 h1 m0 h2]; unfold nxF; (try unfold nxG); (repeat' split) <;> omega)) hP hK hD hS dX4_next_216
set_option maxHeartbeats 4000000 in
set_option maxRecDepth 100000 in
theorem c_ScanRowsModel_capture (l : Launch) (dC : Nat → ClassId) (dI : Nat → Nat → Nat) (q : Nat → Nat) (cI cZ : ClassId) (sz : Nat) (y : MS) (hM : MB y) : Met l yX4_capture (.code yX4_capture cX4_capture 3 none :: ALLG) ({ frames := 1, cells := 0, slots := 0, locals := 20 }) (va_Pc [.ref (q 0)] (cP (dC, dI) vwCl [(cI, .int), (cZ, .boolean)] (wM q cI cZ y) eT sz)) (va_Qv (fun (u : MS) => u = mCap y) (fun (u : MS) => cB (dC, dI) vwCl [(cI, .int), (cZ, .boolean)] (wM q cI cZ u) (va_A (wM q cI cZ y) sz)) (va_A (wM q cI cZ y) sz)) 0 0 (va_A (wM q cI cZ y) sz) := by
  refine xm_of (cc := cX4_capture) (maxL := 3) (ret := none) (by decide) rfl (Nat.le_of_ble_eq_true rfl) ?_
  intro p e s m below meth c A hAe hx hb hr hml hts0 hown hlk hin hsz H locs hP hK hD hA hS hE ls hl
  have hts : ∀ w ∈ ALLG, w.before _ s = true := fun w h => hts0 w (List.mem_cons_of_mem _ h)
  rw [← hAe]
  have hM0 := hM
  have b_n : y.n ≤ 32 := hM.1.1
  have b_c : y.c ≤ 8 := hM.1.2.1
  have b_p : y.p ≤ y.n := hM.1.2.2.1
  have b_vb : ∀ z, y.vb z < 2 := hM.1.2.2.2.1
  have b_ck : ∀ z, y.ck z < 4 := hM.1.2.2.2.2.1
  have b_xx : ∀ z, -1000 ≤ y.xx z ∧ y.xx z ≤ 1000 := hM.1.2.2.2.2.2.1
  have b_yy : ∀ z, -1000 ≤ y.yy z ∧ y.yy z ≤ 1000 := hM.1.2.2.2.2.2.2.1
  have b_fl : ∀ z, y.fl z < 2 := hM.1.2.2.2.2.2.2.2.1
  have b_rw : ∀ z, y.rw z < 32 := hM.1.2.2.2.2.2.2.2.2.2.1
  have b_st : ∀ z, y.st z ≤ 32 := hM.1.2.2.2.2.2.2.2.2.2.2.2
  have k_n : y.cn ≤ 20 := hM.2.1.1
  have k_pin : ∀ z, y.pin z < 2 := hM.2.1.2.1
  have k_ki : ∀ z, y.ki z < 2 := hM.2.1.2.2.1
  have k_he : ∀ z, y.he z < 2 := hM.2.1.2.2.2.1
  have k_ir : ∀ z, y.ir z < 2 := hM.2.1.2.2.2.2
  have a_by := hM.2.2.1
  have a_cr := hM.2.2.2.1
  have a_co := hM.2.2.2.2.1
  have a_sa := hM.2.2.2.2.2.1
  have b_nb := hM.2.2.2.2.2.2
  have g0 := mReg_le y.co y.cn y.p
  have hl : lv_has ls 3 [(0, .ref (q 0))] := hl
  refine lv_aload_n hx hb dX4_capture_0 rfl (lv_at hl 0 rfl) ?_
  refine xc_Vi (As := []) (wr := []) ⟨hx, hb, hml, hown, hts⟩ (c_ScanRowsModel_register l dC dI q cI cZ H.size y (by omega) (by omega) (by omega)) (cwV 0 hts (gV tw_755 tw_757 sw_36 tw_5 tw_758) rfl rfl rfl (by decide +kernel) ⟨Nat.le_of_ble_eq_true rfl, Nat.le_of_ble_eq_true rfl⟩) rfl hl.1 rfl (Nat.le_of_ble_eq_true rfl) dX4_capture_1 ⟨Nat.zero_le _, Nat.zero_le _⟩ hP hD hK hS hA [0, 1, 2, 3, 4, 5, 6, 7, 8, 9, 10, 11, 12, 13] [] rfl rfl (by decide) (by decide) (by decide) [0, 1] rfl (q0 := 0) rfl rfl rfl eT_M (trivial) (fun r_1 u_2 H locs w_3 hP hD hS => ?_)
  obtain rfl : r_1 = nI (mReg y.co y.cn y.p) := w_3
  have hP : va_P (dC, dI) vwCl (wM q cI cZ y) H := hP
  have hD : va_D A (wM q cI cZ y) := hD
  refine lv_istore_n (lv' := [(1, .int (nI (mReg y.co y.cn y.p))), (0, .ref (q 0))]) hx hb dX4_capture_4 rfl hl (by decide) rfl (fun ls hl => ?_)
  refine lv_iconst (v := nI 0) hx hb dX4_capture_5 (by decide) ?_
  refine lv_istore_n (lv' := [(2, .int (nI 0)), (1, .int (nI (mReg y.co y.cn y.p))), (0, .ref (q 0))]) hx hb dX4_capture_6 rfl hl (by decide) rfl (fun ls hl => ?_)
  have hP : va_P (dC, dI) vwCl (wM q cI cZ (MS.s_ir y (MS.ir y))) H := va_eqP (wM_r_ir q cI cZ y) hP
  have hD : va_D A (wM q cI cZ (MS.s_ir y (MS.ir y))) := va_eqD (wM_r_ir q cI cZ y) hD
  have L7 : ∀ (fuel : Nat) (i : Nat) (g : Nat → Nat), (i ≤ y.cn) → (g = cpN y.pin y.ir i) → (i = 0 ∨ mReg y.co y.cn y.p = 0) → y.cn - i < fuel → ∀ (H : Heap) (locs : List Loc), va_P (dC, dI) vwCl (wM q cI cZ (MS.s_ir y g)) H → va_D A (wM q cI cZ (MS.s_ir y g)) → va_S A s.heap H locs → ∀ ls : Array Slot, lv_has ls 3 [(0, .ref (q 0)), (1, .int (nI (mReg y.co y.cn y.p))), (2, .int (nI i))] → W p l e ({ frames := 1, cells := 0, slots := 0, locals := 20 } : Room) s m ([.ref (q 0)] : List Value).toArray below meth c H locs 0 0 (MQ below (va_Qv (fun (u : MS) => u = mCap y) (fun (u : MS) => cB (dC, dI) vwCl [(cI, .int), (cZ, .boolean)] (wM q cI cZ u) (A)) (A)) ([.ref (q 0)] : List Value).toArray s 0 0 A) (F0 m 7 ls []) := by
    intro fuel
    induction fuel with
    | zero => intro i g i1 e1 o1 hm H locs hP hD hS ls hl; exact absurd hm (Nat.not_lt_zero _)
    | succ fuel ih7 =>
      intro i g i1 e1 o1 hm H locs hP hD hS ls hl
      refine lv_iload_n hx hb dX4_capture_7 rfl (lv_at hl 2 rfl) ?_
      refine lv_aload_n hx hb dX4_capture_8 rfl (lv_at hl 0 rfl) ?_
      refine va_get (D := (dC, dI)) (ci := 4) (v := .int (nI (MS.cn y))) (C := RX4) (T := TX4) (N := 23) hx hb hts inX4 hown hK hP 0 rfl rfl 16 (by decide) (hts _ tw_588) (fun _ h9 => h9) rfl dX4_capture_9 ?_
      refine xn_cge (tgt := 37) hx hb (by omega) (by omega) dX4_capture_12 (by decide) (fun c_4 => ?_) (fun c_4 => ?_)
      · refine lv_iconst (v := nI 0) hx hb dX4_capture_37 (by decide) ?_
        refine lv_istore_n (lv' := [(2, .int (nI 0)), (0, .ref (q 0)), (1, .int (nI (mReg y.co y.cn y.p)))]) hx hb dX4_capture_38 rfl hl (by decide) rfl (fun ls hl => ?_)
        have hP : va_P (dC, dI) vwCl (wM q cI cZ (MS.s_nb (MS.s_ir y g) (MS.nb y))) H := va_eqP (wM_r_nb q cI cZ (MS.s_ir y g)) hP
        have hD : va_D A (wM q cI cZ (MS.s_nb (MS.s_ir y g) (MS.nb y))) := va_eqD (wM_r_nb q cI cZ (MS.s_ir y g)) hD
        have L39 : ∀ (fuel : Nat) (i : Nat) (g1 : Nat → Nat) (g2 : Nat → Nat), (i ≤ 32) → (g1 = if mReg y.co y.cn y.p = 0 then cpN y.pin y.ir y.cn else y.ir) → (g2 = cpN (nbF y.nu) y.nb i) → (i = 0 ∨ mReg y.co y.cn y.p = 2) → 32 - i < fuel → ∀ (H : Heap) (locs : List Loc), va_P (dC, dI) vwCl (wM q cI cZ (MS.s_nb (MS.s_ir y g1) g2)) H → va_D A (wM q cI cZ (MS.s_nb (MS.s_ir y g1) g2)) → va_S A s.heap H locs → ∀ ls : Array Slot, lv_has ls 3 [(0, .ref (q 0)), (1, .int (nI (mReg y.co y.cn y.p))), (2, .int (nI i))] → W p l e ({ frames := 1, cells := 0, slots := 0, locals := 20 } : Room) s m ([.ref (q 0)] : List Value).toArray below meth c H locs 0 0 (MQ below (va_Qv (fun (u : MS) => u = mCap y) (fun (u : MS) => cB (dC, dI) vwCl [(cI, .int), (cZ, .boolean)] (wM q cI cZ u) (A)) (A)) ([.ref (q 0)] : List Value).toArray s 0 0 A) (F0 m 39 ls []) := by
          intro fuel
          induction fuel with
          | zero => intro i g1 g2 i1 e1 e2 o1 hm H locs hP hD hS ls hl; exact absurd hm (Nat.not_lt_zero _)
          | succ fuel ih39 =>
            intro i g1 g2 i1 e1 e2 o1 hm H locs hP hD hS ls hl
            refine lv_iload_n hx hb dX4_capture_39 rfl (lv_at hl 2 rfl) ?_
            refine lv_bipush (v := nI 32) hx hb dX4_capture_40 (by decide) ?_
            refine xn_cge (tgt := 73) hx hb (by omega) (by omega) dX4_capture_42 (by decide) (fun c_5 => ?_) (fun c_5 => ?_)
            · have e3 : g2 = if mReg y.co y.cn y.p = 2 then cpN (nbF y.nu) y.nb 32 else y.nb := by rw [e2]; exact cap_e o1 (by omega) i1
              refine lv_aload_n hx hb dX4_capture_73 rfl (lv_at hl 0 rfl) ?_
              refine lv_iload_n hx hb dX4_capture_74 rfl (lv_at hl 1 rfl) ?_
              refine lv_iconst (v := nI 4) hx hb dX4_capture_75 (by decide) ?_
              refine xn_cne (tgt := 83) hx hb (by omega) (by omega) dX4_capture_76 (by decide) (fun c_6 => ?_) (fun c_6 => ?_)
              · refine lv_aload_n hx hb dX4_capture_83 rfl (lv_at hl 0 rfl) ?_
                refine va_get (D := (dC, dI)) (ci := 4) (v := .int (nI (MS.by_ y))) (C := RX4) (T := TX4) (N := 23) hx hb hts inX4 hown hK hP 0 rfl rfl 18 (by decide) (hts _ tw_590) (fun _ h9 => h9) rfl dX4_capture_84 ?_
                refine va_put (D := (dC, dI)) (ci := 4) (v := .int (nI (MS.by_ y))) (ty := .int) (C := RX4) (T := TX4) (N := 23) hx hb hts inX4 tyX4 tyX4_ok nmX4 hown hK hP hD hS 0 rfl rfl 18 (by decide) (hts _ tw_590) (fun _ h9 => h9) rfl (by decide +kernel) rfl rfl (Nat.le_of_ble_eq_true rfl) dX4_capture_87 (fun H locs hP hD hS => ?_)
                have hP : va_P (dC, dI) vwCl (wM q cI cZ (MS.s_by_ (MS.s_nb (MS.s_ir y g1) g2) (MS.by_ y))) H := va_eqP (wM_s_by_ q cI cZ (MS.s_nb (MS.s_ir y g1) g2) (MS.by_ y)) hP
                have hD : va_D A (wM q cI cZ (MS.s_by_ (MS.s_nb (MS.s_ir y g1) g2) (MS.by_ y))) := va_eqD (wM_s_by_ q cI cZ (MS.s_nb (MS.s_ir y g1) g2) (MS.by_ y)) hD
                exact xr_v hx hb hr hlk (u := MS.s_by_ (MS.s_nb (MS.s_ir y g1) g2) (MS.by_ y)) (by unfold mCap; rw [← e1, ← e3, if_neg (by assumption)]) hP hK hD hS dX4_capture_90
              · refine lv_iconst (v := nI 0) hx hb dX4_capture_79 (by decide) ?_
                refine lv_goto (tgt := 87) hx hb dX4_capture_80 (by decide) ?_
                refine va_put (D := (dC, dI)) (ci := 4) (v := .int (nI 0)) (ty := .int) (C := RX4) (T := TX4) (N := 23) hx hb hts inX4 tyX4 tyX4_ok nmX4 hown hK hP hD hS 0 rfl rfl 18 (by decide) (hts _ tw_590) (fun _ h9 => h9) rfl (by decide +kernel) rfl rfl (Nat.le_of_ble_eq_true rfl) dX4_capture_87 (fun H locs hP hD hS => ?_)
                have hP : va_P (dC, dI) vwCl (wM q cI cZ (MS.s_by_ (MS.s_nb (MS.s_ir y g1) g2) 0)) H := va_eqP (wM_s_by_ q cI cZ (MS.s_nb (MS.s_ir y g1) g2) 0) hP
                have hD : va_D A (wM q cI cZ (MS.s_by_ (MS.s_nb (MS.s_ir y g1) g2) 0)) := va_eqD (wM_s_by_ q cI cZ (MS.s_nb (MS.s_ir y g1) g2) 0) hD
                exact xr_v hx hb hr hlk (u := MS.s_by_ (MS.s_nb (MS.s_ir y g1) g2) 0) (by unfold mCap; rw [← e1, ← e3, if_pos (by assumption)]) hP hK hD hS dX4_capture_90
            · refine lv_iload_n hx hb dX4_capture_45 rfl (lv_at hl 1 rfl) ?_
              refine lv_iconst (v := nI 2) hx hb dX4_capture_46 (by decide) ?_
              refine xn_cne (tgt := 73) hx hb (by omega) (by omega) dX4_capture_47 (by decide) (fun c_7 => ?_) (fun c_7 => ?_)
              · have e3 : g2 = if mReg y.co y.cn y.p = 2 then cpN (nbF y.nu) y.nb 32 else y.nb := by rw [e2]; exact cap_e o1 (by omega) i1
                refine lv_aload_n hx hb dX4_capture_73 rfl (lv_at hl 0 rfl) ?_
                refine lv_iload_n hx hb dX4_capture_74 rfl (lv_at hl 1 rfl) ?_
                refine lv_iconst (v := nI 4) hx hb dX4_capture_75 (by decide) ?_
                refine xn_cne (tgt := 83) hx hb (by omega) (by omega) dX4_capture_76 (by decide) (fun c_8 => ?_) (fun c_8 => ?_)
                · refine lv_aload_n hx hb dX4_capture_83 rfl (lv_at hl 0 rfl) ?_
                  refine va_get (D := (dC, dI)) (ci := 4) (v := .int (nI (MS.by_ y))) (C := RX4) (T := TX4) (N := 23) hx hb hts inX4 hown hK hP 0 rfl rfl 18 (by decide) (hts _ tw_590) (fun _ h9 => h9) rfl dX4_capture_84 ?_
                  refine va_put (D := (dC, dI)) (ci := 4) (v := .int (nI (MS.by_ y))) (ty := .int) (C := RX4) (T := TX4) (N := 23) hx hb hts inX4 tyX4 tyX4_ok nmX4 hown hK hP hD hS 0 rfl rfl 18 (by decide) (hts _ tw_590) (fun _ h9 => h9) rfl (by decide +kernel) rfl rfl (Nat.le_of_ble_eq_true rfl) dX4_capture_87 (fun H locs hP hD hS => ?_)
                  have hP : va_P (dC, dI) vwCl (wM q cI cZ (MS.s_by_ (MS.s_nb (MS.s_ir y g1) g2) (MS.by_ y))) H := va_eqP (wM_s_by_ q cI cZ (MS.s_nb (MS.s_ir y g1) g2) (MS.by_ y)) hP
                  have hD : va_D A (wM q cI cZ (MS.s_by_ (MS.s_nb (MS.s_ir y g1) g2) (MS.by_ y))) := va_eqD (wM_s_by_ q cI cZ (MS.s_nb (MS.s_ir y g1) g2) (MS.by_ y)) hD
                  exact xr_v hx hb hr hlk (u := MS.s_by_ (MS.s_nb (MS.s_ir y g1) g2) (MS.by_ y)) (by unfold mCap; rw [← e1, ← e3, if_neg (by assumption)]) hP hK hD hS dX4_capture_90
                · refine lv_iconst (v := nI 0) hx hb dX4_capture_79 (by decide) ?_
                  refine lv_goto (tgt := 87) hx hb dX4_capture_80 (by decide) ?_
                  refine va_put (D := (dC, dI)) (ci := 4) (v := .int (nI 0)) (ty := .int) (C := RX4) (T := TX4) (N := 23) hx hb hts inX4 tyX4 tyX4_ok nmX4 hown hK hP hD hS 0 rfl rfl 18 (by decide) (hts _ tw_590) (fun _ h9 => h9) rfl (by decide +kernel) rfl rfl (Nat.le_of_ble_eq_true rfl) dX4_capture_87 (fun H locs hP hD hS => ?_)
                  have hP : va_P (dC, dI) vwCl (wM q cI cZ (MS.s_by_ (MS.s_nb (MS.s_ir y g1) g2) 0)) H := va_eqP (wM_s_by_ q cI cZ (MS.s_nb (MS.s_ir y g1) g2) 0) hP
                  have hD : va_D A (wM q cI cZ (MS.s_by_ (MS.s_nb (MS.s_ir y g1) g2) 0)) := va_eqD (wM_s_by_ q cI cZ (MS.s_nb (MS.s_ir y g1) g2) 0) hD
                  exact xr_v hx hb hr hlk (u := MS.s_by_ (MS.s_nb (MS.s_ir y g1) g2) 0) (by unfold mCap; rw [← e1, ← e3, if_pos (by assumption)]) hP hK hD hS dX4_capture_90
              · refine lv_aload_n hx hb dX4_capture_50 rfl (lv_at hl 0 rfl) ?_
                refine va_get (D := (dC, dI)) (ci := 4) (v := .ref (q 12)) (C := RX4) (T := TX4) (N := 23) hx hb hts inX4 hown hK hP 0 rfl rfl 17 (by decide) (hts _ tw_589) (fun _ h9 => h9) rfl dX4_capture_51 ?_
                refine lv_iload_n hx hb dX4_capture_54 rfl (lv_at hl 2 rfl) ?_
                refine lv_aload_n hx hb dX4_capture_55 rfl (lv_at hl 0 rfl) ?_
                refine va_get (D := (dC, dI)) (ci := 4) (v := .int (MS.nu y)) (C := RX4) (T := TX4) (N := 23) hx hb hts inX4 hown hK hP 0 rfl rfl 1 (by decide) (hts _ tw_573) (fun _ h9 => h9) rfl dX4_capture_56 ?_
                refine lv_bipush (v := nI 31) hx hb dX4_capture_59 (by decide) ?_
                refine lv_iload_n hx hb dX4_capture_61 rfl (lv_at hl 2 rfl) ?_
                refine xn_sub hx hb (by omega) dX4_capture_62 ?_
                refine lv_iushr hx hb dX4_capture_63 rfl ?_
                refine lv_iconst (v := nI 1) hx hb dX4_capture_64 (by decide) ?_
                refine lv_iand hx hb dX4_capture_65 ?_
                refine xt_i (show ((((MS.nu y).toUInt32 >>> ((nI (31 - i)).toUInt32 &&& Int32.toUInt32 31)).toInt32) &&& (nI 1)) = nI (nbF y.nu i) from pk_and _ 1 (by decide)) ?_
                refine xa_ist hx hb hK hP hD hS 12 0 rfl rfl (by omega) (by decide) (aN_up _ _ _) dX4_capture_66 (fun H locs hP hD hS => ?_)
                have hP : va_P (dC, dI) vwCl (wM q cI cZ (MS.s_nb (MS.s_nb (MS.s_ir y g1) g2) (va_up g2 i (nbF y.nu i)))) H := va_eqP (wM_s_nb q cI cZ (MS.s_nb (MS.s_ir y g1) g2) (va_up g2 i (nbF y.nu i))) hP
                have hD : va_D A (wM q cI cZ (MS.s_nb (MS.s_nb (MS.s_ir y g1) g2) (va_up g2 i (nbF y.nu i)))) := va_eqD (wM_s_nb q cI cZ (MS.s_nb (MS.s_ir y g1) g2) (va_up g2 i (nbF y.nu i))) hD
                refine lv_iinc (v := nI (i + 1)) (lv' := [(2, .int (nI (i + 1))), (0, .ref (q 0)), (1, .int (nI (mReg y.co y.cn y.p)))]) hx hb dX4_capture_67 hl (k := 2) rfl (nI_1 _) (by decide) rfl (fun ls hl => ?_)
                refine lv_goto (tgt := 39) hx hb dX4_capture_70 (by decide) ?_
                exact ih39 (i + 1) g1 (va_up g2 i (nbF y.nu i)) (by omega) e1 (by rw [e2, ← cpN_s]) (Or.inr (by assumption)) (by omega) H locs hP hD hS ls (lv_sub hl [1, 2, 0] rfl)
        exact L39 ((32 - 0) + 1) 0 g (MS.nb y) (Nat.zero_le _) (by rw [e1]; exact cap_e o1 (by omega) i1) ((cpN_0 _ _).symm) (Or.inl rfl) (Nat.lt_succ_self _) H locs hP hD hS ls (lv_sub hl [1, 2, 0] rfl)
      · refine lv_iload_n hx hb dX4_capture_15 rfl (lv_at hl 1 rfl) ?_
        refine xn_zne (tgt := 37) hx hb (by omega) dX4_capture_16 (by decide) (fun c_9 => ?_) (fun c_9 => ?_)
        · refine lv_iconst (v := nI 0) hx hb dX4_capture_37 (by decide) ?_
          refine lv_istore_n (lv' := [(2, .int (nI 0)), (0, .ref (q 0)), (1, .int (nI (mReg y.co y.cn y.p)))]) hx hb dX4_capture_38 rfl hl (by decide) rfl (fun ls hl => ?_)
          have hP : va_P (dC, dI) vwCl (wM q cI cZ (MS.s_nb (MS.s_ir y g) (MS.nb y))) H := va_eqP (wM_r_nb q cI cZ (MS.s_ir y g)) hP
          have hD : va_D A (wM q cI cZ (MS.s_nb (MS.s_ir y g) (MS.nb y))) := va_eqD (wM_r_nb q cI cZ (MS.s_ir y g)) hD
          have L39 : ∀ (fuel : Nat) (i : Nat) (g1 : Nat → Nat) (g2 : Nat → Nat), (i ≤ 32) → (g1 = if mReg y.co y.cn y.p = 0 then cpN y.pin y.ir y.cn else y.ir) → (g2 = cpN (nbF y.nu) y.nb i) → (i = 0 ∨ mReg y.co y.cn y.p = 2) → 32 - i < fuel → ∀ (H : Heap) (locs : List Loc), va_P (dC, dI) vwCl (wM q cI cZ (MS.s_nb (MS.s_ir y g1) g2)) H → va_D A (wM q cI cZ (MS.s_nb (MS.s_ir y g1) g2)) → va_S A s.heap H locs → ∀ ls : Array Slot, lv_has ls 3 [(0, .ref (q 0)), (1, .int (nI (mReg y.co y.cn y.p))), (2, .int (nI i))] → W p l e ({ frames := 1, cells := 0, slots := 0, locals := 20 } : Room) s m ([.ref (q 0)] : List Value).toArray below meth c H locs 0 0 (MQ below (va_Qv (fun (u : MS) => u = mCap y) (fun (u : MS) => cB (dC, dI) vwCl [(cI, .int), (cZ, .boolean)] (wM q cI cZ u) (A)) (A)) ([.ref (q 0)] : List Value).toArray s 0 0 A) (F0 m 39 ls []) := by
            intro fuel
            induction fuel with
            | zero => intro i g1 g2 i1 e1 e2 o1 hm H locs hP hD hS ls hl; exact absurd hm (Nat.not_lt_zero _)
            | succ fuel ih39 =>
              intro i g1 g2 i1 e1 e2 o1 hm H locs hP hD hS ls hl
              refine lv_iload_n hx hb dX4_capture_39 rfl (lv_at hl 2 rfl) ?_
              refine lv_bipush (v := nI 32) hx hb dX4_capture_40 (by decide) ?_
              refine xn_cge (tgt := 73) hx hb (by omega) (by omega) dX4_capture_42 (by decide) (fun c_10 => ?_) (fun c_10 => ?_)
              · have e3 : g2 = if mReg y.co y.cn y.p = 2 then cpN (nbF y.nu) y.nb 32 else y.nb := by rw [e2]; exact cap_e o1 (by omega) i1
                refine lv_aload_n hx hb dX4_capture_73 rfl (lv_at hl 0 rfl) ?_
                refine lv_iload_n hx hb dX4_capture_74 rfl (lv_at hl 1 rfl) ?_
                refine lv_iconst (v := nI 4) hx hb dX4_capture_75 (by decide) ?_
                refine xn_cne (tgt := 83) hx hb (by omega) (by omega) dX4_capture_76 (by decide) (fun c_11 => ?_) (fun c_11 => ?_)
                · refine lv_aload_n hx hb dX4_capture_83 rfl (lv_at hl 0 rfl) ?_
                  refine va_get (D := (dC, dI)) (ci := 4) (v := .int (nI (MS.by_ y))) (C := RX4) (T := TX4) (N := 23) hx hb hts inX4 hown hK hP 0 rfl rfl 18 (by decide) (hts _ tw_590) (fun _ h9 => h9) rfl dX4_capture_84 ?_
                  refine va_put (D := (dC, dI)) (ci := 4) (v := .int (nI (MS.by_ y))) (ty := .int) (C := RX4) (T := TX4) (N := 23) hx hb hts inX4 tyX4 tyX4_ok nmX4 hown hK hP hD hS 0 rfl rfl 18 (by decide) (hts _ tw_590) (fun _ h9 => h9) rfl (by decide +kernel) rfl rfl (Nat.le_of_ble_eq_true rfl) dX4_capture_87 (fun H locs hP hD hS => ?_)
                  have hP : va_P (dC, dI) vwCl (wM q cI cZ (MS.s_by_ (MS.s_nb (MS.s_ir y g1) g2) (MS.by_ y))) H := va_eqP (wM_s_by_ q cI cZ (MS.s_nb (MS.s_ir y g1) g2) (MS.by_ y)) hP
                  have hD : va_D A (wM q cI cZ (MS.s_by_ (MS.s_nb (MS.s_ir y g1) g2) (MS.by_ y))) := va_eqD (wM_s_by_ q cI cZ (MS.s_nb (MS.s_ir y g1) g2) (MS.by_ y)) hD
                  exact xr_v hx hb hr hlk (u := MS.s_by_ (MS.s_nb (MS.s_ir y g1) g2) (MS.by_ y)) (by unfold mCap; rw [← e1, ← e3, if_neg (by assumption)]) hP hK hD hS dX4_capture_90
                · refine lv_iconst (v := nI 0) hx hb dX4_capture_79 (by decide) ?_
                  refine lv_goto (tgt := 87) hx hb dX4_capture_80 (by decide) ?_
                  refine va_put (D := (dC, dI)) (ci := 4) (v := .int (nI 0)) (ty := .int) (C := RX4) (T := TX4) (N := 23) hx hb hts inX4 tyX4 tyX4_ok nmX4 hown hK hP hD hS 0 rfl rfl 18 (by decide) (hts _ tw_590) (fun _ h9 => h9) rfl (by decide +kernel) rfl rfl (Nat.le_of_ble_eq_true rfl) dX4_capture_87 (fun H locs hP hD hS => ?_)
                  have hP : va_P (dC, dI) vwCl (wM q cI cZ (MS.s_by_ (MS.s_nb (MS.s_ir y g1) g2) 0)) H := va_eqP (wM_s_by_ q cI cZ (MS.s_nb (MS.s_ir y g1) g2) 0) hP
                  have hD : va_D A (wM q cI cZ (MS.s_by_ (MS.s_nb (MS.s_ir y g1) g2) 0)) := va_eqD (wM_s_by_ q cI cZ (MS.s_nb (MS.s_ir y g1) g2) 0) hD
                  exact xr_v hx hb hr hlk (u := MS.s_by_ (MS.s_nb (MS.s_ir y g1) g2) 0) (by unfold mCap; rw [← e1, ← e3, if_pos (by assumption)]) hP hK hD hS dX4_capture_90
              · refine lv_iload_n hx hb dX4_capture_45 rfl (lv_at hl 1 rfl) ?_
                refine lv_iconst (v := nI 2) hx hb dX4_capture_46 (by decide) ?_
                refine xn_cne (tgt := 73) hx hb (by omega) (by omega) dX4_capture_47 (by decide) (fun c_12 => ?_) (fun c_12 => ?_)
                · have e3 : g2 = if mReg y.co y.cn y.p = 2 then cpN (nbF y.nu) y.nb 32 else y.nb := by rw [e2]; exact cap_e o1 (by omega) i1
                  refine lv_aload_n hx hb dX4_capture_73 rfl (lv_at hl 0 rfl) ?_
                  refine lv_iload_n hx hb dX4_capture_74 rfl (lv_at hl 1 rfl) ?_
                  refine lv_iconst (v := nI 4) hx hb dX4_capture_75 (by decide) ?_
                  refine xn_cne (tgt := 83) hx hb (by omega) (by omega) dX4_capture_76 (by decide) (fun c_13 => ?_) (fun c_13 => ?_)
                  · refine lv_aload_n hx hb dX4_capture_83 rfl (lv_at hl 0 rfl) ?_
                    refine va_get (D := (dC, dI)) (ci := 4) (v := .int (nI (MS.by_ y))) (C := RX4) (T := TX4) (N := 23) hx hb hts inX4 hown hK hP 0 rfl rfl 18 (by decide) (hts _ tw_590) (fun _ h9 => h9) rfl dX4_capture_84 ?_
                    refine va_put (D := (dC, dI)) (ci := 4) (v := .int (nI (MS.by_ y))) (ty := .int) (C := RX4) (T := TX4) (N := 23) hx hb hts inX4 tyX4 tyX4_ok nmX4 hown hK hP hD hS 0 rfl rfl 18 (by decide) (hts _ tw_590) (fun _ h9 => h9) rfl (by decide +kernel) rfl rfl (Nat.le_of_ble_eq_true rfl) dX4_capture_87 (fun H locs hP hD hS => ?_)
                    have hP : va_P (dC, dI) vwCl (wM q cI cZ (MS.s_by_ (MS.s_nb (MS.s_ir y g1) g2) (MS.by_ y))) H := va_eqP (wM_s_by_ q cI cZ (MS.s_nb (MS.s_ir y g1) g2) (MS.by_ y)) hP
                    have hD : va_D A (wM q cI cZ (MS.s_by_ (MS.s_nb (MS.s_ir y g1) g2) (MS.by_ y))) := va_eqD (wM_s_by_ q cI cZ (MS.s_nb (MS.s_ir y g1) g2) (MS.by_ y)) hD
                    exact xr_v hx hb hr hlk (u := MS.s_by_ (MS.s_nb (MS.s_ir y g1) g2) (MS.by_ y)) (by unfold mCap; rw [← e1, ← e3, if_neg (by assumption)]) hP hK hD hS dX4_capture_90
                  · refine lv_iconst (v := nI 0) hx hb dX4_capture_79 (by decide) ?_
                    refine lv_goto (tgt := 87) hx hb dX4_capture_80 (by decide) ?_
                    refine va_put (D := (dC, dI)) (ci := 4) (v := .int (nI 0)) (ty := .int) (C := RX4) (T := TX4) (N := 23) hx hb hts inX4 tyX4 tyX4_ok nmX4 hown hK hP hD hS 0 rfl rfl 18 (by decide) (hts _ tw_590) (fun _ h9 => h9) rfl (by decide +kernel) rfl rfl (Nat.le_of_ble_eq_true rfl) dX4_capture_87 (fun H locs hP hD hS => ?_)
                    have hP : va_P (dC, dI) vwCl (wM q cI cZ (MS.s_by_ (MS.s_nb (MS.s_ir y g1) g2) 0)) H := va_eqP (wM_s_by_ q cI cZ (MS.s_nb (MS.s_ir y g1) g2) 0) hP
                    have hD : va_D A (wM q cI cZ (MS.s_by_ (MS.s_nb (MS.s_ir y g1) g2) 0)) := va_eqD (wM_s_by_ q cI cZ (MS.s_nb (MS.s_ir y g1) g2) 0) hD
                    exact xr_v hx hb hr hlk (u := MS.s_by_ (MS.s_nb (MS.s_ir y g1) g2) 0) (by unfold mCap; rw [← e1, ← e3, if_pos (by assumption)]) hP hK hD hS dX4_capture_90
                · refine lv_aload_n hx hb dX4_capture_50 rfl (lv_at hl 0 rfl) ?_
                  refine va_get (D := (dC, dI)) (ci := 4) (v := .ref (q 12)) (C := RX4) (T := TX4) (N := 23) hx hb hts inX4 hown hK hP 0 rfl rfl 17 (by decide) (hts _ tw_589) (fun _ h9 => h9) rfl dX4_capture_51 ?_
                  refine lv_iload_n hx hb dX4_capture_54 rfl (lv_at hl 2 rfl) ?_
                  refine lv_aload_n hx hb dX4_capture_55 rfl (lv_at hl 0 rfl) ?_
                  refine va_get (D := (dC, dI)) (ci := 4) (v := .int (MS.nu y)) (C := RX4) (T := TX4) (N := 23) hx hb hts inX4 hown hK hP 0 rfl rfl 1 (by decide) (hts _ tw_573) (fun _ h9 => h9) rfl dX4_capture_56 ?_
                  refine lv_bipush (v := nI 31) hx hb dX4_capture_59 (by decide) ?_
                  refine lv_iload_n hx hb dX4_capture_61 rfl (lv_at hl 2 rfl) ?_
                  refine xn_sub hx hb (by omega) dX4_capture_62 ?_
                  refine lv_iushr hx hb dX4_capture_63 rfl ?_
                  refine lv_iconst (v := nI 1) hx hb dX4_capture_64 (by decide) ?_
                  refine lv_iand hx hb dX4_capture_65 ?_
                  refine xt_i (show ((((MS.nu y).toUInt32 >>> ((nI (31 - i)).toUInt32 &&& Int32.toUInt32 31)).toInt32) &&& (nI 1)) = nI (nbF y.nu i) from pk_and _ 1 (by decide)) ?_
                  refine xa_ist hx hb hK hP hD hS 12 0 rfl rfl (by omega) (by decide) (aN_up _ _ _) dX4_capture_66 (fun H locs hP hD hS => ?_)
                  have hP : va_P (dC, dI) vwCl (wM q cI cZ (MS.s_nb (MS.s_nb (MS.s_ir y g1) g2) (va_up g2 i (nbF y.nu i)))) H := va_eqP (wM_s_nb q cI cZ (MS.s_nb (MS.s_ir y g1) g2) (va_up g2 i (nbF y.nu i))) hP
                  have hD : va_D A (wM q cI cZ (MS.s_nb (MS.s_nb (MS.s_ir y g1) g2) (va_up g2 i (nbF y.nu i)))) := va_eqD (wM_s_nb q cI cZ (MS.s_nb (MS.s_ir y g1) g2) (va_up g2 i (nbF y.nu i))) hD
                  refine lv_iinc (v := nI (i + 1)) (lv' := [(2, .int (nI (i + 1))), (0, .ref (q 0)), (1, .int (nI (mReg y.co y.cn y.p)))]) hx hb dX4_capture_67 hl (k := 2) rfl (nI_1 _) (by decide) rfl (fun ls hl => ?_)
                  refine lv_goto (tgt := 39) hx hb dX4_capture_70 (by decide) ?_
                  exact ih39 (i + 1) g1 (va_up g2 i (nbF y.nu i)) (by omega) e1 (by rw [e2, ← cpN_s]) (Or.inr (by assumption)) (by omega) H locs hP hD hS ls (lv_sub hl [1, 2, 0] rfl)
          exact L39 ((32 - 0) + 1) 0 g (MS.nb y) (Nat.zero_le _) (by rw [e1]; exact cap_e o1 (by omega) i1) ((cpN_0 _ _).symm) (Or.inl rfl) (Nat.lt_succ_self _) H locs hP hD hS ls (lv_sub hl [1, 2, 0] rfl)
        · refine lv_aload_n hx hb dX4_capture_19 rfl (lv_at hl 0 rfl) ?_
          refine va_get (D := (dC, dI)) (ci := 4) (v := .ref (q 11)) (C := RX4) (T := TX4) (N := 23) hx hb hts inX4 hown hK hP 0 rfl rfl 15 (by decide) (hts _ tw_587) (fun _ h9 => h9) rfl dX4_capture_20 ?_
          refine lv_iload_n hx hb dX4_capture_23 rfl (lv_at hl 2 rfl) ?_
          refine lv_aload_n hx hb dX4_capture_24 rfl (lv_at hl 0 rfl) ?_
          refine va_get (D := (dC, dI)) (ci := 4) (v := .ref (q 9)) (C := RX4) (T := TX4) (N := 23) hx hb hts inX4 hown hK hP 0 rfl rfl 13 (by decide) (hts _ tw_585) (fun _ h9 => h9) rfl dX4_capture_25 ?_
          refine lv_iload_n hx hb dX4_capture_28 rfl (lv_at hl 2 rfl) ?_
          refine xa_ild hx hb hK hP 9 0 rfl rfl (v := nI ((MS.pin y) i)) (by omega) (by decide) rfl dX4_capture_29 ?_
          refine xa_ist hx hb hK hP hD hS 11 0 rfl rfl (by omega) (by decide) (aN_up _ _ _) dX4_capture_30 (fun H locs hP hD hS => ?_)
          have hP : va_P (dC, dI) vwCl (wM q cI cZ (MS.s_ir (MS.s_ir y g) (va_up g i ((MS.pin y) i)))) H := va_eqP (wM_s_ir q cI cZ (MS.s_ir y g) (va_up g i ((MS.pin y) i))) hP
          have hD : va_D A (wM q cI cZ (MS.s_ir (MS.s_ir y g) (va_up g i ((MS.pin y) i)))) := va_eqD (wM_s_ir q cI cZ (MS.s_ir y g) (va_up g i ((MS.pin y) i))) hD
          refine lv_iinc (v := nI (i + 1)) (lv' := [(2, .int (nI (i + 1))), (0, .ref (q 0)), (1, .int (nI (mReg y.co y.cn y.p)))]) hx hb dX4_capture_31 hl (k := 2) rfl (nI_1 _) (by decide) rfl (fun ls hl => ?_)
          refine lv_goto (tgt := 7) hx hb dX4_capture_34 (by decide) ?_
          exact ih7 (i + 1) (va_up g i ((MS.pin y) i)) (by omega) (by rw [e1, ← cpN_s]) (Or.inr (by assumption)) (by omega) H locs hP hD hS ls (lv_sub hl [1, 2, 0] rfl)
  exact L7 ((y.cn - 0) + 1) 0 (MS.ir y) (Nat.zero_le _) ((cpN_0 _ _).symm) (Or.inl rfl) (Nat.lt_succ_self _) H locs hP hD hS ls (lv_sub hl [2, 1, 0] rfl)
set_option maxHeartbeats 4000000 in
set_option maxRecDepth 100000 in
theorem c_ScanRowsModel_shiftData (l : Launch) (dC : Nat → ClassId) (dI : Nat → Nat → Nat) (q : Nat → Nat) (cI cZ : ClassId) (sz : Nat) (y : MS) (b : Nat) (hM : MB y) : Met l yX4_shiftData (.code yX4_shiftData cX4_shiftData 5 (some .int) :: ALLG) ({ frames := 1, cells := 0, slots := 0, locals := 25 }) (va_Pc [.ref (q 0), .int (nI b)] (cP (dC, dI) vwCl [(cI, .int), (cZ, .boolean)] (wM q cI cZ y) eT sz)) (va_Qi (fun (x : Int32) (u : MS) => x = nI (mShD y b).1 ∧ u = (mShD y b).2) (fun (u : MS) => cB (dC, dI) vwCl [(cI, .int), (cZ, .boolean)] (wM q cI cZ u) (va_A (wM q cI cZ y) sz)) (va_A (wM q cI cZ y) sz)) 0 0 (va_A (wM q cI cZ y) sz) := by
  refine xm_of (cc := cX4_shiftData) (maxL := 5) (ret := some .int) (by decide) rfl (Nat.le_of_ble_eq_true rfl) ?_
  intro p e s m below meth c A hAe hx hb hr hml hts0 hown hlk hin hsz H locs hP hK hD hA hS hE ls hl
  have hts : ∀ w ∈ ALLG, w.before _ s = true := fun w h => hts0 w (List.mem_cons_of_mem _ h)
  rw [← hAe]
  have hM0 := hM
  have b_n : y.n ≤ 32 := hM.1.1
  have b_c : y.c ≤ 8 := hM.1.2.1
  have b_p : y.p ≤ y.n := hM.1.2.2.1
  have b_vb : ∀ z, y.vb z < 2 := hM.1.2.2.2.1
  have b_ck : ∀ z, y.ck z < 4 := hM.1.2.2.2.2.1
  have b_xx : ∀ z, -1000 ≤ y.xx z ∧ y.xx z ≤ 1000 := hM.1.2.2.2.2.2.1
  have b_yy : ∀ z, -1000 ≤ y.yy z ∧ y.yy z ≤ 1000 := hM.1.2.2.2.2.2.2.1
  have b_fl : ∀ z, y.fl z < 2 := hM.1.2.2.2.2.2.2.2.1
  have b_rw : ∀ z, y.rw z < 32 := hM.1.2.2.2.2.2.2.2.2.2.1
  have b_st : ∀ z, y.st z ≤ 32 := hM.1.2.2.2.2.2.2.2.2.2.2.2
  have k_n : y.cn ≤ 20 := hM.2.1.1
  have k_pin : ∀ z, y.pin z < 2 := hM.2.1.2.1
  have k_ki : ∀ z, y.ki z < 2 := hM.2.1.2.2.1
  have k_he : ∀ z, y.he z < 2 := hM.2.1.2.2.2.1
  have k_ir : ∀ z, y.ir z < 2 := hM.2.1.2.2.2.2
  have a_by := hM.2.2.1
  have a_cr := hM.2.2.2.1
  have a_co := hM.2.2.2.2.1
  have a_sa := hM.2.2.2.2.2.1
  have b_nb := hM.2.2.2.2.2.2
  have g0 := mReg_le y.co y.cn y.p
  have hl : lv_has ls 5 [(0, .ref (q 0)), (1, .int (nI b))] := hl
  refine lv_aload_n hx hb dX4_shiftData_0 rfl (lv_at hl 0 rfl) ?_
  refine xc_Vi (As := []) (wr := []) ⟨hx, hb, hml, hown, hts⟩ (c_ScanRowsModel_register l dC dI q cI cZ H.size y (by omega) (by omega) (by omega)) (cwV 0 hts (gV tw_755 tw_757 sw_36 tw_5 tw_758) rfl rfl rfl (by decide +kernel) ⟨Nat.le_of_ble_eq_true rfl, Nat.le_of_ble_eq_true rfl⟩) rfl hl.1 rfl (Nat.le_of_ble_eq_true rfl) dX4_shiftData_1 ⟨Nat.zero_le _, Nat.zero_le _⟩ hP hD hK hS hA [0, 1, 2, 3, 4, 5, 6, 7, 8, 9, 10, 11, 12, 13] [] rfl rfl (by decide) (by decide) (by decide) [0, 1] rfl (q0 := 0) rfl rfl rfl eT_M (trivial) (fun r_1 u_2 H locs w_3 hP hD hS => ?_)
  obtain rfl : r_1 = nI (mReg y.co y.cn y.p) := w_3
  have hP : va_P (dC, dI) vwCl (wM q cI cZ y) H := hP
  have hD : va_D A (wM q cI cZ y) := hD
  refine lv_istore_n (lv' := [(2, .int (nI (mReg y.co y.cn y.p))), (0, .ref (q 0)), (1, .int (nI b))]) hx hb dX4_shiftData_4 rfl hl (by decide) rfl (fun ls hl => ?_)
  refine lv_aload_n hx hb dX4_shiftData_5 rfl (lv_at hl 1 rfl) ?_
  refine va_get (D := (dC, dI)) (ci := 4) (v := .int (nI (MS.by_ y))) (C := RX4) (T := TX4) (N := 23) hx hb hts inX4 hown hK hP 0 rfl rfl 18 (by decide) (hts _ tw_590) (fun _ h9 => h9) rfl dX4_shiftData_6 ?_
  refine lv_istore_n (lv' := [(3, .int (nI (MS.by_ y))), (2, .int (nI (mReg y.co y.cn y.p))), (0, .ref (q 0)), (1, .int (nI b))]) hx hb dX4_shiftData_9 rfl hl (by decide) rfl (fun ls hl => ?_)
  refine lv_iload_n hx hb dX4_shiftData_10 rfl (lv_at hl 1 rfl) ?_
  refine xn_zne (tgt := 71) hx hb (by omega) dX4_shiftData_11 (by decide) (fun c_4 => ?_) (fun c_4 => ?_)
  · refine lv_iload_n hx hb dX4_shiftData_71 rfl (lv_at hl 1 rfl) ?_
    refine lv_iconst (v := nI 2) hx hb dX4_shiftData_72 (by decide) ?_
    refine xn_cne (tgt := 125) hx hb (by omega) (by omega) dX4_shiftData_73 (by decide) (fun c_5 => ?_) (fun c_5 => ?_)
    · refine lv_iload_n hx hb dX4_shiftData_125 rfl (lv_at hl 1 rfl) ?_
      refine lv_iconst (v := nI 3) hx hb dX4_shiftData_126 (by decide) ?_
      refine xn_cne (tgt := 144) hx hb (by omega) (by omega) dX4_shiftData_127 (by decide) (fun c_6 => ?_) (fun c_6 => ?_)
      · refine lv_aload_n hx hb dX4_shiftData_144 rfl (lv_at hl 2 rfl) ?_
        refine lv_iload_n hx hb dX4_shiftData_145 rfl (lv_at hl 3 rfl) ?_
        refine va_put (D := (dC, dI)) (ci := 4) (v := .int (nI b)) (ty := .int) (C := RX4) (T := TX4) (N := 23) hx hb hts inX4 tyX4 tyX4_ok nmX4 hown hK hP hD hS 0 rfl rfl 18 (by decide) (hts _ tw_590) (fun _ h9 => h9) rfl (by decide +kernel) rfl rfl (Nat.le_of_ble_eq_true rfl) dX4_shiftData_146 (fun H locs hP hD hS => ?_)
        have hP : va_P (dC, dI) vwCl (wM q cI cZ (MS.s_by_ y b)) H := va_eqP (wM_s_by_ q cI cZ y b) hP
        have hD : va_D A (wM q cI cZ (MS.s_by_ y b)) := va_eqD (wM_s_by_ q cI cZ y b) hD
        refine lv_iload_n hx hb dX4_shiftData_149 rfl (lv_at hl 0 rfl) ?_
        exact xr_i hx hb hr hlk (u := MS.s_by_ y b) (⟨by unfold mShD; rw [if_neg (by omega), if_neg (by omega), if_neg (by omega)], by unfold mShD; rw [if_neg (by omega), if_neg (by omega), if_neg (by omega)]⟩) hP hK hD hS dX4_shiftData_150
      · refine lv_aload_n hx hb dX4_shiftData_130 rfl (lv_at hl 2 rfl) ?_
        refine lv_iconst (v := nI 0) hx hb dX4_shiftData_131 (by decide) ?_
        refine lv_aload_n hx hb dX4_shiftData_132 rfl (lv_at hl 2 rfl) ?_
        refine va_get (D := (dC, dI)) (ci := 4) (v := .int (nI (MS.p y))) (C := RX4) (T := TX4) (N := 23) hx hb hts inX4 hown hK hP 0 rfl rfl 9 (by decide) (hts _ tw_581) (fun _ h9 => h9) rfl dX4_shiftData_133 ?_
        refine lv_iload_n hx hb dX4_shiftData_136 rfl (lv_at hl 3 rfl) ?_
        refine xc_Vi (As := [.int (nI 0), .int (nI (MS.p y)), .int (nI b)]) (wr := []) ⟨hx, hb, hml, hown, hts⟩ (c_ScanRowsModel_move l dC dI q cI cZ H.size y 0 y.p b hM0 (Nat.zero_le _) (by omega)) (cwV 3 hts (gV tw_723 tw_725 sw_32 tw_5 tw_726) rfl rfl rfl (by decide +kernel) ⟨Nat.le_of_ble_eq_true rfl, Nat.le_of_ble_eq_true rfl⟩) rfl hl.1 rfl (Nat.le_of_ble_eq_true rfl) dX4_shiftData_137 ⟨Nat.zero_le _, Nat.zero_le _⟩ hP hD hK hS hA [0, 1, 2, 3, 4, 5, 6, 7, 8, 9, 10, 11, 12, 13] [] rfl rfl (by decide) (by decide) (by decide) [0, 1] rfl (q0 := 0) rfl rfl rfl eT_M (trivial) (fun r_7 u_8 H locs w_9 hP hD hS => ?_)
        obtain ⟨rfl, rfl⟩ := w_9
        have hP : va_P (dC, dI) vwCl (wM q cI cZ (MS.s_vb y (mvV y 0 y.p b))) H := hP
        have hD : va_D A (wM q cI cZ (MS.s_vb y (mvV y 0 y.p b))) := hD
        refine lv_istore_n (lv' := [(3, .int (nI (mvO y 0 y.p))), (2, .int (nI (mReg y.co y.cn y.p))), (0, .ref (q 0)), (1, .int (nI b))]) hx hb dX4_shiftData_140 rfl hl (by decide) rfl (fun ls hl => ?_)
        refine lv_goto (tgt := 149) hx hb dX4_shiftData_141 (by decide) ?_
        refine lv_iload_n hx hb dX4_shiftData_149 rfl (lv_at hl 0 rfl) ?_
        exact xr_i hx hb hr hlk (u := MS.s_vb y (mvV y 0 y.p b)) (⟨by unfold mShD; rw [if_neg (by omega), if_neg (by omega), if_pos (by assumption)], by unfold mShD; rw [if_neg (by omega), if_neg (by omega), if_pos (by assumption)]⟩) hP hK hD hS dX4_shiftData_150
    · refine lv_aload_n hx hb dX4_shiftData_76 rfl (lv_at hl 2 rfl) ?_
      refine va_get (D := (dC, dI)) (ci := 4) (v := .ref (q 12)) (C := RX4) (T := TX4) (N := 23) hx hb hts inX4 hown hK hP 0 rfl rfl 17 (by decide) (hts _ tw_589) (fun _ h9 => h9) rfl dX4_shiftData_77 ?_
      refine lv_bipush (v := nI 31) hx hb dX4_shiftData_80 (by decide) ?_
      refine xa_ild hx hb hK hP 12 0 rfl rfl (v := nI ((MS.nb y) 31)) (by omega) (by decide) rfl dX4_shiftData_82 ?_
      refine lv_istore_n (lv' := [(3, .int (nI ((MS.nb y) 31))), (2, .int (nI (mReg y.co y.cn y.p))), (0, .ref (q 0)), (1, .int (nI b))]) hx hb dX4_shiftData_83 rfl hl (by decide) rfl (fun ls hl => ?_)
      refine lv_bipush (v := nI 31) hx hb dX4_shiftData_84 (by decide) ?_
      refine lv_istore (lv' := [(4, .int (nI 31)), (3, .int (nI ((MS.nb y) 31))), (2, .int (nI (mReg y.co y.cn y.p))), (0, .ref (q 0)), (1, .int (nI b))]) hx hb dX4_shiftData_86 hl (by decide) rfl (fun ls hl => ?_)
      have hP : va_P (dC, dI) vwCl (wM q cI cZ (MS.s_nb y (MS.nb y))) H := va_eqP (wM_r_nb q cI cZ y) hP
      have hD : va_D A (wM q cI cZ (MS.s_nb y (MS.nb y))) := va_eqD (wM_r_nb q cI cZ y) hD
      have L88 : ∀ (fuel : Nat) (pp : Nat) (g : Nat → Nat), (pp ≤ 32 - 1) → (g = bkS y.nb (32) pp) → pp < fuel → ∀ (H : Heap) (locs : List Loc), va_P (dC, dI) vwCl (wM q cI cZ (MS.s_nb y g)) H → va_D A (wM q cI cZ (MS.s_nb y g)) → va_S A s.heap H locs → ∀ ls : Array Slot, lv_has ls 5 [(0, .ref (q 0)), (1, .int (nI b)), (3, .int (nI (MS.nb y 31))), (4, .int (nI pp))] → W p l e ({ frames := 1, cells := 0, slots := 0, locals := 25 } : Room) s m ([.ref (q 0), .int (nI b)] : List Value).toArray below meth c H locs 0 0 (MQ below (va_Qi (fun (x : Int32) (u : MS) => x = nI (mShD y b).1 ∧ u = (mShD y b).2) (fun (u : MS) => cB (dC, dI) vwCl [(cI, .int), (cZ, .boolean)] (wM q cI cZ u) (A)) (A)) ([.ref (q 0), .int (nI b)] : List Value).toArray s 0 0 A) (F0 m 88 ls []) := by
        intro fuel
        induction fuel with
        | zero => intro pp g p1 e1 hm H locs hP hD hS ls hl; exact absurd hm (Nat.not_lt_zero _)
        | succ fuel ih88 =>
          intro pp g p1 e1 hm H locs hP hD hS ls hl
          refine lv_iload hx hb dX4_shiftData_88 (lv_at hl 3 rfl) ?_
          refine xn_zle (tgt := 115) hx hb (by omega) dX4_shiftData_90 (by decide) (fun c_10 => ?_) (fun c_10 => ?_)
          · refine lv_aload_n hx hb dX4_shiftData_115 rfl (lv_at hl 0 rfl) ?_
            refine va_get (D := (dC, dI)) (ci := 4) (v := .ref (q 12)) (C := RX4) (T := TX4) (N := 23) hx hb hts inX4 hown hK hP 0 rfl rfl 17 (by decide) (hts _ tw_589) (fun _ h9 => h9) rfl dX4_shiftData_116 ?_
            refine lv_iconst (v := nI 0) hx hb dX4_shiftData_119 (by decide) ?_
            refine lv_iload_n hx hb dX4_shiftData_120 rfl (lv_at hl 1 rfl) ?_
            refine xa_ist hx hb hK hP hD hS 12 0 rfl rfl (by omega) (by decide) (aN_up _ _ _) dX4_shiftData_121 (fun H locs hP hD hS => ?_)
            have hP : va_P (dC, dI) vwCl (wM q cI cZ (MS.s_nb (MS.s_nb y g) (va_up g 0 b))) H := va_eqP (wM_s_nb q cI cZ (MS.s_nb y g) (va_up g 0 b)) hP
            have hD : va_D A (wM q cI cZ (MS.s_nb (MS.s_nb y g) (va_up g 0 b))) := va_eqD (wM_s_nb q cI cZ (MS.s_nb y g) (va_up g 0 b)) hD
            refine lv_goto (tgt := 149) hx hb dX4_shiftData_122 (by decide) ?_
            refine lv_iload_n hx hb dX4_shiftData_149 rfl (lv_at hl 2 rfl) ?_
            exact xr_i hx hb hr hlk (u := MS.s_nb (MS.s_nb y g) (va_up g 0 b)) (⟨by unfold mShD; rw [if_neg (by omega), if_pos (by assumption)], by unfold mShD; rw [if_neg (by omega), if_pos (by assumption), e1, show pp = 0 by omega, bkS_e _ _ (by omega)]⟩) hP hK hD hS dX4_shiftData_150
          · refine lv_aload_n hx hb dX4_shiftData_93 rfl (lv_at hl 0 rfl) ?_
            refine va_get (D := (dC, dI)) (ci := 4) (v := .ref (q 12)) (C := RX4) (T := TX4) (N := 23) hx hb hts inX4 hown hK hP 0 rfl rfl 17 (by decide) (hts _ tw_589) (fun _ h9 => h9) rfl dX4_shiftData_94 ?_
            refine lv_iload hx hb dX4_shiftData_97 (lv_at hl 3 rfl) ?_
            refine lv_aload_n hx hb dX4_shiftData_99 rfl (lv_at hl 0 rfl) ?_
            refine va_get (D := (dC, dI)) (ci := 4) (v := .ref (q 12)) (C := RX4) (T := TX4) (N := 23) hx hb hts inX4 hown hK hP 0 rfl rfl 17 (by decide) (hts _ tw_589) (fun _ h9 => h9) rfl dX4_shiftData_100 ?_
            refine lv_iload hx hb dX4_shiftData_103 (lv_at hl 3 rfl) ?_
            refine lv_iconst (v := nI 1) hx hb dX4_shiftData_105 (by decide) ?_
            refine xn_sub hx hb (by omega) dX4_shiftData_106 ?_
            refine xa_ild hx hb hK hP 12 0 rfl rfl (v := nI (g (pp - 1))) (by omega) (by decide) rfl dX4_shiftData_107 ?_
            refine xa_ist hx hb hK hP hD hS 12 0 rfl rfl (by omega) (by decide) (aN_up _ _ _) dX4_shiftData_108 (fun H locs hP hD hS => ?_)
            have hP : va_P (dC, dI) vwCl (wM q cI cZ (MS.s_nb (MS.s_nb y g) (va_up g pp (g (pp - 1))))) H := va_eqP (wM_s_nb q cI cZ (MS.s_nb y g) (va_up g pp (g (pp - 1)))) hP
            have hD : va_D A (wM q cI cZ (MS.s_nb (MS.s_nb y g) (va_up g pp (g (pp - 1))))) := va_eqD (wM_s_nb q cI cZ (MS.s_nb y g) (va_up g pp (g (pp - 1)))) hD
            refine lv_iinc (v := nI (pp - 1)) (lv' := [(4, .int (nI (pp - 1))), (0, .ref (q 0)), (1, .int (nI b)), (3, .int (nI (MS.nb y 31)))]) hx hb dX4_shiftData_109 hl (k := 3) rfl (sb_m1 (by omega)) (by decide) rfl (fun ls hl => ?_)
            refine lv_goto (tgt := 88) hx hb dX4_shiftData_112 (by decide) ?_
            exact ih88 (pp - 1) (va_up g pp (g (pp - 1))) (by omega) (by rw [e1]; exact bkS_s _ (by omega) (by omega)) (by omega) H locs hP hD hS ls (lv_sub hl [1, 2, 3, 0] rfl)
      exact L88 ((32 - 1) + 1) 31 (MS.nb y) (Nat.le_refl _) ((bkS_0 _ _).symm) (Nat.lt_succ_self _) H locs hP hD hS ls (lv_sub hl [3, 4, 1, 0] rfl)
  · have g1 := mReg_0 (show mReg y.co y.cn y.p = 0 by omega)
    refine lv_aload_n hx hb dX4_shiftData_14 rfl (lv_at hl 2 rfl) ?_
    refine va_get (D := (dC, dI)) (ci := 4) (v := .ref (q 11)) (C := RX4) (T := TX4) (N := 23) hx hb hts inX4 hown hK hP 0 rfl rfl 15 (by decide) (hts _ tw_587) (fun _ h9 => h9) rfl dX4_shiftData_15 ?_
    refine lv_aload_n hx hb dX4_shiftData_18 rfl (lv_at hl 2 rfl) ?_
    refine va_get (D := (dC, dI)) (ci := 4) (v := .int (nI (MS.cn y))) (C := RX4) (T := TX4) (N := 23) hx hb hts inX4 hown hK hP 0 rfl rfl 16 (by decide) (hts _ tw_588) (fun _ h9 => h9) rfl dX4_shiftData_19 ?_
    refine lv_iconst (v := nI 1) hx hb dX4_shiftData_22 (by decide) ?_
    refine xn_sub hx hb (by omega) dX4_shiftData_23 ?_
    refine xa_ild hx hb hK hP 11 0 rfl rfl (v := nI ((MS.ir y) ((MS.cn y) - 1))) (by omega) (by decide) rfl dX4_shiftData_24 ?_
    refine lv_istore_n (lv' := [(3, .int (nI ((MS.ir y) ((MS.cn y) - 1)))), (2, .int (nI (mReg y.co y.cn y.p))), (0, .ref (q 0)), (1, .int (nI b))]) hx hb dX4_shiftData_25 rfl hl (by decide) rfl (fun ls hl => ?_)
    refine lv_aload_n hx hb dX4_shiftData_26 rfl (lv_at hl 2 rfl) ?_
    refine va_get (D := (dC, dI)) (ci := 4) (v := .int (nI (MS.cn y))) (C := RX4) (T := TX4) (N := 23) hx hb hts inX4 hown hK hP 0 rfl rfl 16 (by decide) (hts _ tw_588) (fun _ h9 => h9) rfl dX4_shiftData_27 ?_
    refine lv_iconst (v := nI 1) hx hb dX4_shiftData_30 (by decide) ?_
    refine xn_sub hx hb (by omega) dX4_shiftData_31 ?_
    refine lv_istore (lv' := [(4, .int (nI ((MS.cn y) - 1))), (3, .int (nI ((MS.ir y) ((MS.cn y) - 1)))), (2, .int (nI (mReg y.co y.cn y.p))), (0, .ref (q 0)), (1, .int (nI b))]) hx hb dX4_shiftData_32 hl (by decide) rfl (fun ls hl => ?_)
    have hP : va_P (dC, dI) vwCl (wM q cI cZ (MS.s_ir y (MS.ir y))) H := va_eqP (wM_r_ir q cI cZ y) hP
    have hD : va_D A (wM q cI cZ (MS.s_ir y (MS.ir y))) := va_eqD (wM_r_ir q cI cZ y) hD
    have L34 : ∀ (fuel : Nat) (pp : Nat) (g : Nat → Nat), (pp ≤ y.cn - 1) → (g = bkS y.ir (y.cn) pp) → pp < fuel → ∀ (H : Heap) (locs : List Loc), va_P (dC, dI) vwCl (wM q cI cZ (MS.s_ir y g)) H → va_D A (wM q cI cZ (MS.s_ir y g)) → va_S A s.heap H locs → ∀ ls : Array Slot, lv_has ls 5 [(0, .ref (q 0)), (1, .int (nI b)), (3, .int (nI (MS.ir y (y.cn - 1)))), (4, .int (nI pp))] → W p l e ({ frames := 1, cells := 0, slots := 0, locals := 25 } : Room) s m ([.ref (q 0), .int (nI b)] : List Value).toArray below meth c H locs 0 0 (MQ below (va_Qi (fun (x : Int32) (u : MS) => x = nI (mShD y b).1 ∧ u = (mShD y b).2) (fun (u : MS) => cB (dC, dI) vwCl [(cI, .int), (cZ, .boolean)] (wM q cI cZ u) (A)) (A)) ([.ref (q 0), .int (nI b)] : List Value).toArray s 0 0 A) (F0 m 34 ls []) := by
      intro fuel
      induction fuel with
      | zero => intro pp g p1 e1 hm H locs hP hD hS ls hl; exact absurd hm (Nat.not_lt_zero _)
      | succ fuel ih34 =>
        intro pp g p1 e1 hm H locs hP hD hS ls hl
        refine lv_iload hx hb dX4_shiftData_34 (lv_at hl 3 rfl) ?_
        refine xn_zle (tgt := 61) hx hb (by omega) dX4_shiftData_36 (by decide) (fun c_11 => ?_) (fun c_11 => ?_)
        · refine lv_aload_n hx hb dX4_shiftData_61 rfl (lv_at hl 0 rfl) ?_
          refine va_get (D := (dC, dI)) (ci := 4) (v := .ref (q 11)) (C := RX4) (T := TX4) (N := 23) hx hb hts inX4 hown hK hP 0 rfl rfl 15 (by decide) (hts _ tw_587) (fun _ h9 => h9) rfl dX4_shiftData_62 ?_
          refine lv_iconst (v := nI 0) hx hb dX4_shiftData_65 (by decide) ?_
          refine lv_iload_n hx hb dX4_shiftData_66 rfl (lv_at hl 1 rfl) ?_
          refine xa_ist hx hb hK hP hD hS 11 0 rfl rfl (by omega) (by decide) (aN_up _ _ _) dX4_shiftData_67 (fun H locs hP hD hS => ?_)
          have hP : va_P (dC, dI) vwCl (wM q cI cZ (MS.s_ir (MS.s_ir y g) (va_up g 0 b))) H := va_eqP (wM_s_ir q cI cZ (MS.s_ir y g) (va_up g 0 b)) hP
          have hD : va_D A (wM q cI cZ (MS.s_ir (MS.s_ir y g) (va_up g 0 b))) := va_eqD (wM_s_ir q cI cZ (MS.s_ir y g) (va_up g 0 b)) hD
          refine lv_goto (tgt := 149) hx hb dX4_shiftData_68 (by decide) ?_
          refine lv_iload_n hx hb dX4_shiftData_149 rfl (lv_at hl 2 rfl) ?_
          exact xr_i hx hb hr hlk (u := MS.s_ir (MS.s_ir y g) (va_up g 0 b)) (⟨by unfold mShD; rw [if_pos (by assumption)], by unfold mShD; rw [if_pos (by assumption), e1, show pp = 0 by omega, bkS_e _ _ (by omega)]⟩) hP hK hD hS dX4_shiftData_150
        · refine lv_aload_n hx hb dX4_shiftData_39 rfl (lv_at hl 0 rfl) ?_
          refine va_get (D := (dC, dI)) (ci := 4) (v := .ref (q 11)) (C := RX4) (T := TX4) (N := 23) hx hb hts inX4 hown hK hP 0 rfl rfl 15 (by decide) (hts _ tw_587) (fun _ h9 => h9) rfl dX4_shiftData_40 ?_
          refine lv_iload hx hb dX4_shiftData_43 (lv_at hl 3 rfl) ?_
          refine lv_aload_n hx hb dX4_shiftData_45 rfl (lv_at hl 0 rfl) ?_
          refine va_get (D := (dC, dI)) (ci := 4) (v := .ref (q 11)) (C := RX4) (T := TX4) (N := 23) hx hb hts inX4 hown hK hP 0 rfl rfl 15 (by decide) (hts _ tw_587) (fun _ h9 => h9) rfl dX4_shiftData_46 ?_
          refine lv_iload hx hb dX4_shiftData_49 (lv_at hl 3 rfl) ?_
          refine lv_iconst (v := nI 1) hx hb dX4_shiftData_51 (by decide) ?_
          refine xn_sub hx hb (by omega) dX4_shiftData_52 ?_
          refine xa_ild hx hb hK hP 11 0 rfl rfl (v := nI (g (pp - 1))) (by omega) (by decide) rfl dX4_shiftData_53 ?_
          refine xa_ist hx hb hK hP hD hS 11 0 rfl rfl (by omega) (by decide) (aN_up _ _ _) dX4_shiftData_54 (fun H locs hP hD hS => ?_)
          have hP : va_P (dC, dI) vwCl (wM q cI cZ (MS.s_ir (MS.s_ir y g) (va_up g pp (g (pp - 1))))) H := va_eqP (wM_s_ir q cI cZ (MS.s_ir y g) (va_up g pp (g (pp - 1)))) hP
          have hD : va_D A (wM q cI cZ (MS.s_ir (MS.s_ir y g) (va_up g pp (g (pp - 1))))) := va_eqD (wM_s_ir q cI cZ (MS.s_ir y g) (va_up g pp (g (pp - 1)))) hD
          refine lv_iinc (v := nI (pp - 1)) (lv' := [(4, .int (nI (pp - 1))), (0, .ref (q 0)), (1, .int (nI b)), (3, .int (nI (MS.ir y (y.cn - 1))))]) hx hb dX4_shiftData_55 hl (k := 3) rfl (sb_m1 (by omega)) (by decide) rfl (fun ls hl => ?_)
          refine lv_goto (tgt := 34) hx hb dX4_shiftData_58 (by decide) ?_
          exact ih34 (pp - 1) (va_up g pp (g (pp - 1))) (by omega) (by rw [e1]; exact bkS_s _ (by omega) (by omega)) (by omega) H locs hP hD hS ls (lv_sub hl [1, 2, 3, 0] rfl)
    exact L34 ((y.cn - 1) + 1) ((MS.cn y) - 1) (MS.ir y) (Nat.le_refl _) ((bkS_0 _ _).symm) (Nat.lt_succ_self _) H locs hP hD hS ls (lv_sub hl [3, 4, 1, 0] rfl)
