/-! the class and the reference side by side: sorting -/
theorem sumN_mono {f g : Nat → Nat} {n : Nat} (h : ∀ t, t < n → f t ≤ g t) : sumN f n ≤ sumN g n := by
  induction n with
  | zero => exact Nat.le_refl _
  | succ n ih => exact Nat.add_le_add (ih fun t ht => h t (by omega)) (h n (by omega))
theorem sumN_lt {f g : Nat → Nat} {n a : Nat} (h : ∀ t, t < n → f t ≤ g t) (ha : a < n) (hl : f a < g a) : sumN f n < sumN g n := by
  induction n with
  | zero => omega
  | succ n ih =>
    show sumN f n + f n < sumN g n + g n
    by_cases e : a = n
    · have := sumN_mono (f := f) (g := g) (n := n) fun t ht => h t (by omega)
      rw [e] at hl; omega
    · have := ih (fun t ht => h t (by omega)) (by omega); have := h n (by omega); omega
theorem sumN_add (f : Nat → Nat) (a b : Nat) : sumN f (a + b) = sumN f a + sumN (fun t => f (a + t)) b := by
  induction b with
  | zero => rfl
  | succ b ih => show sumN f (a + b) + f (a + b) = _; rw [ih]; show _ = sumN f a + (sumN (fun t => f (a + t)) b + f (a + b)); omega
def bef (r : RS) (a b : Nat) : Prop := r.ck a < r.ck b ∨ (r.ck a = r.ck b ∧ (r.xx a < r.xx b ∨ (r.xx a = r.xx b ∧ (r.yy a < r.yy b ∨ (r.yy a = r.yy b ∧ a < b)))))
theorem ibN_iff (r : RS) (a b : Nat) : ibN r a b = 1 ↔ bef r a b := by
  unfold ibN bef
  split
  · split
    · split
      · split <;> omega
      · split <;> omega
    · split <;> omega
  · split <;> omega
theorem ibN_01 (r : RS) (a b : Nat) : ibN r a b = 0 ∨ ibN r a b = 1 := by have := ibN_le r a b; omega
theorem bef_tr {r : RS} {a b c : Nat} (h1 : bef r a b) (h2 : bef r b c) : bef r a c := by unfold bef at *; omega
theorem bef_tot {r : RS} {a b : Nat} (h : ¬ bef r a b) (hn : a ≠ b) : bef r b a := by unfold bef at *; omega
theorem sbN_ibN (r : RS) {a b : Nat} (h : b < a) : sbN r a b = ibN r a b := by
  unfold sbN ibN
  split
  · split
    · by_cases e : r.yy a = r.yy b
      · rw [if_pos e, if_neg (by omega), if_neg (by omega)]
      · rw [if_neg e]
    · rfl
  · rfl
theorem rk_s (r : RS) (a n : Nat) : rk r a (n + 1) = rk r a n + ibN r n a := rfl
/-- what stands before m stands before a -/
theorem rk_ge {r : RS} {m a : Nat} (h : ibN r m a = 1) (n : Nat) : rk r m n ≤ rk r a n := by
  refine sumN_mono fun t _ => ?_
  rcases ibN_01 r t m with e | e
  · omega
  · have := (ibN_iff r t a).mpr (bef_tr ((ibN_iff r t m).mp e) ((ibN_iff r m a).mp h)); omega
theorem rk_lt2 {r : RS} {m a n : Nat} (h : ibN r m a = 0) (ha : a < n) (hne : m ≠ a) : rk r a n < rk r m n := by
  have h1 : bef r a m := bef_tot (fun z => by rw [(ibN_iff r m a).mpr z] at h; cases h) hne
  have h2 : ibN r a m = 1 := (ibN_iff r a m).mpr h1
  refine sumN_lt (a := a) (fun t _ => ?_) ha (by show ibN r a a < ibN r a m; rw [ibN_self, h2]; decide)
  rcases ibN_01 r t a with e | e
  · show ibN r t a ≤ _; omega
  · have := (ibN_iff r t m).mpr (bef_tr ((ibN_iff r t a).mp e) h1); show ibN r t a ≤ ibN r t m; omega
theorem insP_eq {r : RS} {t p0 : Nat} (p : Nat) : ∀ {g : Nat → Nat}, p0 ≤ p → (∀ j, p0 ≤ j → j < p → sbN r t (g j) = 1) → (p0 = 0 ∨ sbN r t (g (p0 - 1)) ≠ 1) → insP r t p g = fun j => if j < p0 then g j else if j = p0 then t else if j ≤ p then g (j - 1) else g j := by
  induction p with
  | zero =>
    intro g h1 h2 h3
    have e : p0 = 0 := by omega
    subst e
    funext j
    show va_up g 0 t j = _
    unfold va_up
    by_cases q : j = 0
    · rw [if_pos q, if_neg (by omega), if_pos q]
    · rw [if_neg q, if_neg (by omega), if_neg q, if_neg (by omega)]
  | succ p ih =>
    intro g h1 h2 h3
    unfold insP
    by_cases e : p0 = p + 1
    · have hn : ¬ sbN r t (g p) = 1 := by
        rcases h3 with h3 | h3
        · omega
        · rw [e] at h3; exact h3
      rw [if_neg hn]
      funext j
      unfold va_up
      by_cases q : j = p + 1
      · rw [if_pos q, if_neg (by omega), if_pos (by omega)]
      · rw [if_neg q]
        by_cases q2 : j < p0
        · rw [if_pos q2]
        · rw [if_neg q2, if_neg (by omega), if_neg (by omega)]
    · rw [if_pos (h2 p (by omega) (by omega))]
      have hg : ∀ j, j ≠ p + 1 → va_up g (p + 1) (g p) j = g j := fun j hj => by unfold va_up; rw [if_neg hj]
      have hg1 : va_up g (p + 1) (g p) (p + 1) = g p := by unfold va_up; rw [if_pos rfl]
      rw [ih (g := va_up g (p + 1) (g p)) (by omega) (fun j a b => by rw [hg j (by omega)]; exact h2 j a (by omega)) (by
        rcases h3 with h3 | h3
        · exact Or.inl h3
        · right; rw [hg _ (by omega)]; exact h3)]
      funext j
      by_cases q1 : j < p0
      · rw [if_pos q1, if_pos q1, hg j (by omega)]
      · rw [if_neg q1, if_neg q1]
        by_cases q2 : j = p0
        · rw [if_pos q2, if_pos q2]
        · rw [if_neg q2, if_neg q2]
          by_cases q3 : j ≤ p
          · rw [if_pos q3, if_pos (by omega), hg _ (by omega)]
          · rw [if_neg q3]
            by_cases q4 : j = p + 1
            · rw [if_pos (by omega), q4, hg1]; rfl
            · rw [if_neg (by omega), hg j q4]
/-- the row's sorting puts each latch at its rank -/
theorem srt_ok (r : RS) (m : Nat) : (∀ a, a < m → srt r m (rk r a m) = a) ∧ (∀ j, j < m → ∃ a, a < m ∧ rk r a m = j) ∧ (∀ j, m ≤ j → srt r m j = r.rw j) := by
  induction m with
  | zero => exact ⟨fun a h => absurd h (by omega), fun j h => absurd h (by omega), fun j _ => rfl⟩
  | succ m ih =>
    obtain ⟨hA, hB, hC⟩ := ih
    have key : ∀ a, a < m → (ibN r m a = 1 ↔ rk r m m ≤ rk r a m) := fun a ha => by
      constructor
      · intro h; exact rk_ge h m
      · intro h
        rcases ibN_01 r m a with e | e
        · have := rk_lt2 (r := r) (m := m) (a := a) (n := m) e ha (by omega); omega
        · exact e
    have e1 : srt r (m + 1) = fun j => if j < rk r m m then srt r m j else if j = rk r m m then m else if j ≤ m then srt r m (j - 1) else srt r m j := by
      show insP r m m (srt r m) = _
      refine insP_eq m (rk_le r m m) (fun j h1 h2 => ?_) ?_
      · obtain ⟨a, ha, rfl⟩ := hB j h2
        rw [hA a ha, sbN_ibN r ha]; exact (key a ha).mpr h1
      · by_cases e : rk r m m = 0
        · exact Or.inl e
        · right
          have hl := rk_le r m m
          obtain ⟨a, ha, ea⟩ := hB (rk r m m - 1) (by omega)
          rw [← ea, hA a ha, sbN_ibN r ha]
          intro z
          have := (key a ha).mp z; omega
    refine ⟨fun a ha => ?_, fun j hj => ?_, fun j hj => ?_⟩
    · rw [e1, rk_s]
      by_cases e : a = m
      · subst e
        rw [ibN_self]
        show (if rk r a a + 0 < rk r a a then _ else if rk r a a + 0 = rk r a a then a else _) = a
        rw [if_neg (by omega), if_pos (by omega)]
      · have ha : a < m := by omega
        have hk := key a ha
        have hl := rk_lt r ha
        rcases ibN_01 r m a with q | q
        · have : ¬ rk r m m ≤ rk r a m := fun z => by rw [hk.mpr z] at q; cases q
          rw [q]
          show (if rk r a m + 0 < rk r m m then srt r m (rk r a m + 0) else _) = a
          rw [if_pos (by omega)]; exact hA a ha
        · have := hk.mp q
          rw [q]
          show (if rk r a m + 1 < rk r m m then _ else if rk r a m + 1 = rk r m m then m else if rk r a m + 1 ≤ m then srt r m (rk r a m + 1 - 1) else _) = a
          rw [if_neg (by omega), if_neg (by omega), if_pos (by omega), Nat.add_sub_cancel]; exact hA a ha
    · have hl := rk_le r m m
      by_cases q1 : j < rk r m m
      · obtain ⟨a, ha, ea⟩ := hB j (by omega)
        refine ⟨a, by omega, ?_⟩
        rw [rk_s]
        rcases ibN_01 r m a with q | q
        · omega
        · have := (key a ha).mp q; omega
      · by_cases q2 : j = rk r m m
        · exact ⟨m, by omega, by rw [rk_s, ibN_self]; omega⟩
        · obtain ⟨a, ha, ea⟩ := hB (j - 1) (by omega)
          refine ⟨a, by omega, ?_⟩
          rw [rk_s, (key a ha).mpr (by omega)]; omega
    · have hl := rk_le r m m
      rw [e1]
      show (if j < rk r m m then _ else if j = rk r m m then m else if j ≤ m then _ else srt r m j) = _
      rw [if_neg (by omega), if_neg (by omega), if_neg (by omega)]; exact hC j (by omega)
theorem rk_inj {r : RS} {n a b : Nat} (ha : a < n) (hb : b < n) (h : rk r a n = rk r b n) : a = b := by
  rw [← (srt_ok r n).1 a ha, h, (srt_ok r n).1 b hb]
theorem mkR_ok (r : RS) (i : Nat) (hi : i ≤ r.n) : (∀ a, a < i → mkR r i (rk r a r.n) = a) ∧ (∀ j, (∀ a, a < i → rk r a r.n ≠ j) → mkR r i j = r.rw j) := by
  induction i with
  | zero => exact ⟨fun a h => absurd h (by omega), fun j _ => rfl⟩
  | succ i ih =>
    obtain ⟨h1, h2⟩ := ih (by omega)
    refine ⟨fun a ha => ?_, fun j hj => ?_⟩
    · show va_up (mkR r i) (rk r i r.n) i (rk r a r.n) = a
      unfold va_up
      by_cases e : rk r a r.n = rk r i r.n
      · rw [if_pos e]; exact (rk_inj (by omega) (by omega) e).symm
      · rw [if_neg e]; exact h1 a (by
          have : a ≠ i := fun z => e (by rw [z])
          omega)
    · show va_up (mkR r i) (rk r i r.n) i j = _
      unfold va_up
      rw [if_neg (fun z => hj i (by omega) z.symm)]; exact h2 j (fun a ha => hj a (by omega))
theorem mkR_srt (r : RS) : mkR r r.n = srt r r.n := by
  obtain ⟨a1, a2, a3⟩ := srt_ok r r.n
  obtain ⟨b1, b2⟩ := mkR_ok r r.n (Nat.le_refl _)
  funext j
  by_cases h : j < r.n
  · obtain ⟨a, ha, rfl⟩ := a2 j h
    rw [b1 a ha, a1 a ha]
  · rw [a3 j (by omega), b2 j (fun a ha z => by have := rk_lt r ha; omega)]
theorem srt_n {r : RS} {n : Nat} {i : Nat} (h : i < n) : srt r n i < n := by
  obtain ⟨a1, a2, a3⟩ := srt_ok r n
  obtain ⟨a, ha, rfl⟩ := a2 i h
  rw [a1 a ha]; exact ha
theorem srt_inj {r : RS} {n : Nat} {i j : Nat} (hi : i < n) (hj : j < n) (h : srt r n i = srt r n j) : i = j := by
  obtain ⟨a1, a2, a3⟩ := srt_ok r n
  obtain ⟨a, ha, rfl⟩ := a2 i hi
  obtain ⟨b, hb, rfl⟩ := a2 j hj
  rw [a1 a ha, a1 b hb] at h; rw [h]
theorem plc_ok {g : Nat → Nat} {po : Nat → Int} {n : Nat} (hinj : ∀ i j, i < n → j < n → g i = g j → i = j) (m : Nat) (hm : m ≤ n) : ∀ i, i < m → plc g po m (g i) = (i : Int) := by
  induction m with
  | zero => intro i h; exact absurd h (by omega)
  | succ m ih =>
    intro i hi
    show va_up (plc g po m) (g m) (m : Int) (g i) = _
    unfold va_up
    by_cases e : g i = g m
    · rw [if_pos e, hinj i m (by omega) (by omega) e]
    · rw [if_neg e]; exact ih (by omega) i (by
        have : i ≠ m := fun z => e (by rw [z])
        omega)
/-! what always holds of the rows -/
def PI (r : RS) : Prop := (∀ i, i < r.p → r.rw i < r.p ∧ r.po (r.rw i) = (i : Int)) ∧ (∀ t, t < r.p → ∃ i, i < r.p ∧ r.po t = (i : Int) ∧ r.rw i = t) ∧ (∀ t, r.p ≤ t → t < r.n → r.po t = -1)
def CI (r : RS) : Prop := r.st 0 = 0 ∧ r.st r.c = r.p ∧ (∀ i, i < r.c → r.st i ≤ r.st (i + 1)) ∧ (∀ i, i < r.c → ∀ j, r.st i ≤ j → j < r.st (i + 1) → r.ch j = i)
theorem PI_inj {r : RS} (h : PI r) {i j : Nat} (hi : i < r.p) (hj : j < r.p) (e : r.rw i = r.rw j) : i = j := by
  have a := (h.1 i hi).2
  have b := (h.1 j hj).2
  rw [e, b] at a
  omega
theorem PI_RC {r : RS} (h : PI r) : RC r := by
  intro t ht hp
  by_cases e : t < r.p
  · obtain ⟨i, hi, e1, e2⟩ := h.2.1 t e
    rw [e1]; exact ⟨e2, hi⟩
  · exact absurd (h.2.2 t (by omega) ht) hp
/-- the reference's search finds what the class keeps -/
theorem plF_none {g : Nat → Nat} {t n : Nat} (h : ∀ i, i < n → g i ≠ t) : plF g t n = -1 := by
  induction n with
  | zero => rfl
  | succ n ih => exact plF_no (ih fun i hi => h i (by omega)) (h n (by omega))
theorem plF_some {g : Nat → Nat} {t n i : Nat} (hi : i < n) (e : g i = t) (hu : ∀ j, j < i → g j ≠ t) : plF g t n = (i : Int) := by
  have h1 := plF_yes (plF_none hu) e
  have h2 := plF_st (n := n - (i + 1)) h1 (by omega)
  rw [show i + 1 + (n - (i + 1)) = n by omega] at h2
  exact h2
theorem plF_po {r : RS} (h : PI r) {t : Nat} (ht : t < r.n) : plF r.rw t r.p = r.po t := by
  by_cases e : t < r.p
  · obtain ⟨i, hi, e1, e2⟩ := h.2.1 t e
    rw [e1]
    exact plF_some hi e2 (fun j hj z => by
      have := PI_inj h (i := j) (j := i) (by omega) hi (z.trans e2.symm); omega)
  · rw [h.2.2 t (by omega) ht]
    exact plF_none fun i hi z => by have := (h.1 i hi).1; omega
/-- where a place lies -/
theorem loc_ex {st : Nat → Nat} (h0 : st 0 = 0) (c : Nat) {j : Nat} (hj : j < st c) : ∃ i, i < c ∧ st i ≤ j ∧ j < st (i + 1) := by
  induction c with
  | zero => omega
  | succ c ih =>
    by_cases e : j < st c
    · obtain ⟨i, a, b⟩ := ih e; exact ⟨i, by omega, b⟩
    · exact ⟨c, by omega, by omega, hj⟩
theorem st_le {st : Nat → Nat} {c : Nat} (h : ∀ i, i < c → st i ≤ st (i + 1)) {i j : Nat} (hij : i ≤ j) (hj : j ≤ c) : st i ≤ st j := by
  induction j with
  | zero => rw [show i = 0 by omega]; exact Nat.le_refl _
  | succ j ih =>
    by_cases e : i = j + 1
    · rw [e]; exact Nat.le_refl _
    · exact Nat.le_trans (ih (by omega) (by omega)) (h j (by omega))
theorem CI_nb {r : RS} (h : CI r) {i j : Nat} (hi : i < r.c) (h1 : r.st i ≤ j) (h2 : j < r.st (i + 1)) : (j + 1 < r.p ∧ r.ch j = r.ch (j + 1)) ↔ j + 1 < r.st (i + 1) := by
  obtain ⟨c0, cp, cm, cc⟩ := h
  have hle := st_le cm (i := i + 1) (j := r.c) (by omega) (Nat.le_refl _)
  constructor
  · rintro ⟨h3, h4⟩
    rw [← cp] at h3
    obtain ⟨i', a, b, d⟩ := loc_ex c0 r.c h3
    rw [cc i hi j h1 h2, cc i' a (j + 1) b d] at h4
    rw [← h4] at d; exact d
  · intro h3
    exact ⟨by omega, by rw [cc i hi j h1 h2, cc i hi (j + 1) (by omega) h3]⟩
def dR (r : RS) (j : Nat) : Nat := (r.xx (r.rw j) - r.xx (r.rw (j + 1))).natAbs + (r.yy (r.rw j) - r.yy (r.rw (j + 1))).natAbs
theorem wb_in {r : RS} (h : CI r) {i j : Nat} (hi : i < r.c) (h1 : r.st i ≤ j) (h2 : j < r.st (i + 1)) : wb r j = if j + 1 < r.st (i + 1) then dR r j else 0 := by
  unfold wb dR
  by_cases e : j + 1 < r.st (i + 1)
  · rw [if_pos ((CI_nb h hi h1 h2).mpr e), if_pos e]
  · rw [if_neg (fun z => e ((CI_nb h hi h1 h2).mp z)), if_neg e]
/-- same rows, the reference's words -/
def SR (r : RS) (y : MS) : Prop := y.n = r.n ∧ y.c = r.c ∧ y.p = r.p ∧ y.vb = r.vb ∧ y.ck = r.ck ∧ y.xx = r.xx ∧ y.yy = r.yy ∧ y.fl = r.fl ∧ y.rw = r.rw ∧ y.st = r.st
theorem tr_eq {r : RS} {y : MS} (h : CI r) (hs : SR r y) {i : Nat} (hi : i ≤ r.c) : trC y i = sumN (wb r) (r.st i) := by
  obtain ⟨e_n, e_c, e_p, e_vb, e_ck, e_xx, e_yy, e_fl, e_rw, e_st⟩ := hs
  induction i with
  | zero => rw [h.1]; rfl
  | succ i ih =>
    have hm := h.2.2.1 i (by omega)
    show trC y i + sumN (fun t => dM y (y.st i + t)) (y.st (i + 1) - y.st i - 1) = _
    rw [ih (by omega), show r.st (i + 1) = r.st i + (r.st (i + 1) - r.st i) by omega, sumN_add, e_st]
    congr 1
    by_cases e : r.st (i + 1) = r.st i
    · rw [e, Nat.sub_self]; rfl
    · obtain ⟨k, hk⟩ : ∃ k, r.st (i + 1) - r.st i = k + 1 := ⟨r.st (i + 1) - r.st i - 1, by omega⟩
      rw [hk]
      show sumN _ k = sumN _ k + wb r (r.st i + k)
      rw [wb_in h (i := i) (by omega) (by omega) (by omega), if_neg (by omega)]
      refine sumN_congr fun t ht => ?_
      rw [wb_in h (i := i) (by omega) (by omega) (by omega), if_pos (by omega)]
      unfold dM dR; rw [e_xx, e_yy, e_rw]
theorem tr_all {r : RS} {y : MS} (h : CI r) (hs : SR r y) : trC y y.c = sumN (wb r) r.p := by
  rw [hs.2.1, tr_eq h hs (Nat.le_refl _), h.2.1]
theorem lk_eq {r : RS} {y : MS} (h : CI r) (hs : SR r y) {c k : Nat} (hc : c < r.c) (hk : k < r.st (c + 1) - r.st c) : ccb r (r.st c + k) = mLk y c k := by
  obtain ⟨e_n, e_c, e_p, e_vb, e_ck, e_xx, e_yy, e_fl, e_rw, e_st⟩ := hs
  have hb := CI_nb h hc (j := r.st c + k) (by omega) (by omega)
  unfold ccb mLk
  rw [e_st, e_ck, e_rw]
  by_cases e : r.st c + k + 1 = r.st (c + 1)
  · rw [if_pos e, if_neg (fun z => by have := hb.mp z.1; omega)]
  · rw [if_neg e]
    by_cases e2 : r.ck (r.rw (r.st c + k)) = r.ck (r.rw (r.st c + k + 1))
    · rw [if_pos e2, if_neg (fun z => z.2 e2)]
    · rw [if_neg e2, if_pos ⟨hb.mpr (by omega), e2⟩]
/-! an exchange changes the whole way by what it changes around the two places -/
def waF (f : Nat → Nat) (i : Nat) : Nat := (if i = 0 then 0 else f (i - 1)) + f i
theorem sum_pt (f : Nat → Nat) (a n : Nat) : sumN (fun k => if k = a then f k else 0) n = if a < n then f a else 0 := by
  induction n with
  | zero => rfl
  | succ n ih =>
    show sumN _ n + (if n = a then f n else 0) = _
    rw [ih]
    by_cases e : n = a
    · rw [if_pos e, if_neg (by omega), if_pos (by omega), e]; omega
    · rw [if_neg e]
      by_cases e2 : a < n
      · rw [if_pos e2, if_pos (by omega)]; omega
      · rw [if_neg e2, if_neg (by omega)]
theorem sum_pt1 (f : Nat → Nat) (a n : Nat) (h : a < n) : sumN (fun k => if k + 1 = a then f k else 0) n = if a = 0 then 0 else f (a - 1) := by
  by_cases e : a = 0
  · rw [if_pos e, sumN_congr (g := fun _ => 0) (fun k _ => if_neg (by omega))]
    have : ∀ m, sumN (fun _ => 0) m = 0 := fun m => by induction m with | zero => rfl | succ m ih => show sumN _ m + 0 = 0; rw [ih]
    exact this n
  · rw [if_neg e, sumN_congr (g := fun k => if k = a - 1 then f k else 0) (fun k _ => by
      by_cases q : k + 1 = a
      · rw [if_pos q, if_pos (by omega)]
      · rw [if_neg q, if_neg (by omega)]), sum_pt, if_pos (by omega)]
theorem sumN_add2 (f g : Nat → Nat) (n : Nat) : sumN (fun k => f k + g k) n = sumN f n + sumN g n := by
  induction n with
  | zero => rfl
  | succ n ih => show sumN _ n + (f n + g n) = (sumN f n + f n) + (sumN g n + g n); rw [ih]; omega
def tW (f : Nat → Nat) (i j k : Nat) : Nat := ((if k + 1 = i then f k else 0) + (if k = i then f k else 0)) + ((if k + 1 = j then f k else 0) + (if k = j then f k else 0))
theorem sum_tW (f : Nat → Nat) {i j n : Nat} (hi : i < n) (hj : j < n) : sumN (tW f i j) n = waF f i + waF f j := by
  have e : tW f i j = fun k => ((if k + 1 = i then f k else 0) + (if k = i then f k else 0)) + ((if k + 1 = j then f k else 0) + (if k = j then f k else 0)) := rfl
  rw [e, sumN_add2, sumN_add2, sumN_add2, sum_pt, sum_pt, sum_pt1 f i n hi, sum_pt1 f j n hj, if_pos hi, if_pos hj]
  rfl
theorem sum_sw {f g : Nat → Nat} {i j n : Nat} (hi : i < n) (hj : j < n) (hij : i ≠ j) (h : ∀ k, k + 1 ≠ i → k ≠ i → k + 1 ≠ j → k ≠ j → g k = f k) (h1 : j = i + 1 → g i = f i) (h2 : i = j + 1 → g j = f j) :
    sumN g n + (waF f i + waF f j) = sumN f n + (waF g i + waF g j) := by
  rw [← sum_tW f hi hj, ← sum_tW g hi hj, ← sumN_add2, ← sumN_add2]
  refine sumN_congr fun k _ => ?_
  have cs : ∀ c : Prop, ∀ [Decidable c], (c ∧ ∀ x : Nat, (if c then x else 0) = x) ∨ (¬ c ∧ ∀ x : Nat, (if c then x else 0) = 0) := fun c _ => by
    by_cases q : c
    · exact Or.inl ⟨q, fun x => if_pos q⟩
    · exact Or.inr ⟨q, fun x => if_neg q⟩
  unfold tW
  rcases cs (k + 1 = i) with ⟨a1, b1⟩ | ⟨a1, b1⟩ <;> rcases cs (k = i) with ⟨a2, b2⟩ | ⟨a2, b2⟩ <;> rcases cs (k + 1 = j) with ⟨a3, b3⟩ | ⟨a3, b3⟩ <;> rcases cs (k = j) with ⟨a4, b4⟩ | ⟨a4, b4⟩ <;>
    simp only [b1, b2, b3, b4] <;> first
    | omega
    | (have q := h1 (by omega); rw [← a2] at q; omega)
    | (have q := h2 (by omega); rw [← a4] at q; omega)
    | (have q := h k a1 a2 a3 a4; omega)
theorem wa_waF (r : RS) (i : Nat) : wa r i = waF (wb r) i := rfl
theorem abs_sym (a b : Int) : (a - b).natAbs = (b - a).natAbs := by omega
theorem wb_far (r : RS) {i j k : Nat} (h1 : k + 1 ≠ i) (h2 : k ≠ i) (h3 : k + 1 ≠ j) (h4 : k ≠ j) : wb (exch r i j) k = wb r k := by
  have e1 : (exch r i j).rw k = r.rw k := exch_at3 r h2 h4
  have e2 : (exch r i j).rw (k + 1) = r.rw (k + 1) := exch_at3 r h1 h3
  unfold wb; rw [e1, e2]; rfl
theorem wb_mid (r : RS) {i j : Nat} (h : j = i + 1) : wb (exch r i j) i = wb r i := by
  have e1 : (exch r i j).rw i = r.rw j := exch_at1 r i j
  have e2 : (exch r i j).rw (i + 1) = r.rw i := by rw [← h]; exact exch_at2 r i j
  unfold wb; rw [e1, e2, h]
  show (if i + 1 < r.p ∧ r.ch i = r.ch (i + 1) then (r.xx (r.rw (i + 1)) - r.xx (r.rw i)).natAbs + (r.yy (r.rw (i + 1)) - r.yy (r.rw i)).natAbs else 0) = _
  rw [abs_sym (r.xx (r.rw (i + 1))), abs_sym (r.yy (r.rw (i + 1)))]
theorem wb_mid2 (r : RS) {i j : Nat} (h : i = j + 1) : wb (exch r i j) j = wb r j := by
  have e1 : (exch r i j).rw j = r.rw i := exch_at2 r i j
  have e2 : (exch r i j).rw (j + 1) = r.rw j := by rw [← h]; exact exch_at1 r i j
  unfold wb; rw [e1, e2, h]
  show (if j + 1 < r.p ∧ r.ch j = r.ch (j + 1) then (r.xx (r.rw (j + 1)) - r.xx (r.rw j)).natAbs + (r.yy (r.rw (j + 1)) - r.yy (r.rw j)).natAbs else 0) = _
  rw [abs_sym (r.xx (r.rw (j + 1))), abs_sym (r.yy (r.rw (j + 1)))]
theorem way_ex (r : RS) {i j : Nat} (hi : i < r.p) (hj : j < r.p) (hij : i ≠ j) : sumN (wb (exch r i j)) r.p + (wa r i + wa r j) = sumN (wb r) r.p + (wa (exch r i j) i + wa (exch r i j) j) :=
  sum_sw hi hj hij (fun k a b c d => wb_far r a b c d) (fun h => wb_mid r h) (fun h => wb_mid2 r h)
theorem CI_ex {r : RS} (h : CI r) (i j : Nat) : CI (exch r i j) := h
theorem SR_ex {r : RS} {y : MS} (h : SR r y) (i j : Nat) : SR (exch r i j) (mX y i j) := by
  obtain ⟨e_n, e_c, e_p, e_vb, e_ck, e_xx, e_yy, e_fl, e_rw, e_st⟩ := h
  refine ⟨e_n, e_c, e_p, e_vb, e_ck, e_xx, e_yy, e_fl, ?_, e_st⟩
  show va_up (va_up y.rw i (y.rw j)) j (y.rw i) = va_up (va_up r.rw i (r.rw j)) j (r.rw i)
  rw [e_rw]
theorem PI_ex {r : RS} (h : PI r) {i j : Nat} (hi : i < r.p) (hj : j < r.p) : PI (exch r i j) := by
  have e0 : (exch r i j).po = va_up (va_up r.po (r.rw j) (i : Int)) (r.rw i) (j : Int) := by
    have : (exch r i j).po = va_up (va_up r.po ((exch r i j).rw i) (i : Int)) ((exch r i j).rw j) (j : Int) := rfl
    rw [this, exch_at1, exch_at2]
  have ri := (h.1 i hi).1
  have rj := (h.1 j hj).1
  have key : ∀ x, x < r.p → (exch r i j).po ((exch r i j).rw x) = (x : Int) ∧ (exch r i j).rw x < r.p := by
    intro x hx
    rw [e0]
    by_cases q1 : x = j
    · rw [q1, exch_at2]; unfold va_up; rw [if_pos rfl]; exact ⟨rfl, ri⟩
    · by_cases q2 : x = i
      · rw [q2, exch_at1]; unfold va_up
        by_cases q3 : r.rw j = r.rw i
        · exact absurd (PI_inj h hj hi q3) (fun z => q1 (by rw [q2, z]))
        · rw [if_neg q3, if_pos rfl]; exact ⟨rfl, rj⟩
      · rw [exch_at3 r q2 q1]; unfold va_up
        rw [if_neg (fun z => q2 (PI_inj h hx hi z)), if_neg (fun z => q1 (PI_inj h hx hj z))]
        exact ⟨(h.1 x hx).2, (h.1 x hx).1⟩
  refine ⟨fun x hx => ⟨(key x hx).2, (key x hx).1⟩, fun t ht => ?_, fun t h1 h2 => ?_⟩
  · obtain ⟨x, hx, e1, e2⟩ := h.2.1 t ht
    by_cases q1 : x = j
    · have ej : r.rw j = t := by rw [← q1]; exact e2
      refine ⟨i, hi, ?_, ?_⟩
      · have := (key i hi).1; rw [exch_at1, ej] at this; exact this
      · rw [exch_at1]; exact ej
    · by_cases q2 : x = i
      · have ei : r.rw i = t := by rw [← q2]; exact e2
        refine ⟨j, hj, ?_, ?_⟩
        · have := (key j hj).1; rw [exch_at2, ei] at this; exact this
        · rw [exch_at2]; exact ei
      · refine ⟨x, hx, ?_, ?_⟩
        · have := (key x hx).1; rw [exch_at3 r q2 q1, e2] at this; exact this
        · rw [exch_at3 r q2 q1, e2]
  · rw [e0]; unfold va_up
    have h1' : r.p ≤ t := h1
    rw [if_neg (by omega), if_neg (by omega)]; exact h.2.2 t h1 h2
theorem pm_pl {r : RS} {y : MS} (hp : PI r) (hs : SR r y) {t : Nat} (ht : t < r.n) : plF y.rw t y.p = r.po t ∧ pm y t = pl r t := by
  have e : plF y.rw t y.p = r.po t := by rw [hs.2.2.2.2.2.2.2.2.1, hs.2.2.1]; exact plF_po hp ht
  exact ⟨e, by unfold pm pl; rw [e]⟩
theorem good_iff {r : RS} {y : MS} (hp : PI r) (hc : CI r) (hs : SR r y) {a b : Nat} (hab : a < b) (hb : b < r.n) : good r a b ↔ mGood y a b := by
  obtain ⟨ea, ea2⟩ := pm_pl hp hs (t := a) (by omega)
  obtain ⟨eb, eb2⟩ := pm_pl hp hs (t := b) hb
  have eck : y.ck = r.ck := hs.2.2.2.2.1
  unfold good mGood
  rw [ea, eb, ea2, eb2, eck]
  have h1 : mayN r a b = 1 ↔ r.ck a = r.ck b ∧ r.po a ≠ -1 ∧ r.po b ≠ -1 := by
    unfold mayN; constructor
    · intro h; split at h
      · assumption
      · cases h
    · intro h; rw [if_pos h]
  have h2 : r.po a ≠ -1 → r.po b ≠ -1 → (wa (exch r (pl r a) (pl r b)) (pl r a) + wa (exch r (pl r a) (pl r b)) (pl r b) < wa r (pl r a) + wa r (pl r b) ↔ trC (mX y (pl r a) (pl r b)) y.c < trC y y.c) := by
    intro qa qb
    have ca := PI_RC hp a (by omega) qa
    have cb := PI_RC hp b hb qb
    have hne : pl r a ≠ pl r b := fun z => by
      have z1 : (r.po a).toNat = (r.po b).toNat := z
      have : a = b := by rw [← ca.1, z1, cb.1]
      omega
    have e1 := way_ex r (i := pl r a) (j := pl r b) ca.2 cb.2 hne
    have e2 : trC (mX y (pl r a) (pl r b)) y.c = sumN (wb (exch r (pl r a) (pl r b))) r.p := tr_all (CI_ex hc _ _) (SR_ex hs _ _)
    rw [e2, tr_all hc hs]
    omega
  rw [h1]
  constructor
  · rintro ⟨⟨p1, p2, p3⟩, p4⟩; exact ⟨p2, p3, p1, (h2 p2 p3).mp p4⟩
  · rintro ⟨p2, p3, p1, p4⟩; exact ⟨⟨p1, p2, p3⟩, (h2 p2 p3).mpr p4⟩
theorem imp_eq : ∀ (s : Nat) {r : RS} {y : MS} {k k' : Nat} {u : RS} {u' : MS}, RB r → MB y → PI r → CI r → SR r y → impR s r k u → mImpR s y k' u' → k = k' ∧ RB u ∧ MB u' ∧ PI u ∧ CI u ∧ SR u u' ∧ u'.s_rw y.rw = y := by
  intro s
  induction s with
  | zero =>
    intro r y k k' u u' hB hM hp hc hs h1 h2
    obtain ⟨rfl, rfl⟩ := h1
    obtain ⟨rfl, rfl⟩ := h2
    exact ⟨rfl, hB, hM, hp, hc, hs, rfl⟩
  | succ s ih =>
    intro r y k k' u u' hB hM hp hc hs h1 h2
    have en : y.n = r.n := hs.1
    rcases h1 with ⟨n1, rfl, rfl⟩ | ⟨r1, k1, ⟨a, b, ⟨q1, q2, q3, q4⟩, rfl⟩, h1, rfl⟩
    · rcases h2 with ⟨n2, rfl, rfl⟩ | ⟨y1, k1, ⟨a, b, ⟨q1, q2, q3, q4⟩, rfl⟩, h2, rfl⟩
      · exact ⟨rfl, hB, hM, hp, hc, hs, rfl⟩
      · exact absurd ((good_iff hp hc hs q1 (by omega)).mpr q3) (n1 a b q1 (by omega))
    · rcases h2 with ⟨n2, rfl, rfl⟩ | ⟨y1, k1', ⟨a', b', ⟨q1', q2', q3', q4'⟩, rfl⟩, h2, rfl⟩
      · exact absurd ((good_iff hp hc hs q1 q2).mp q3) (n2 a b q1 (by omega))
      · have g1 : ¬ (a < a' ∨ (a = a' ∧ b < b')) := fun z => q4' a b q1 (by omega) z ((good_iff hp hc hs q1 q2).mp q3)
        have g2 : ¬ (a' < a ∨ (a' = a ∧ b' < b)) := fun z => q4 a' b' q1' (by omega) z ((good_iff hp hc hs q1' (by omega)).mpr q3')
        have e1 : a = a' := by omega
        have e2 : b = b' := by omega
        subst e1; subst e2
        obtain ⟨-, ea2⟩ := pm_pl hp hs (t := a) (by omega)
        obtain ⟨-, eb2⟩ := pm_pl hp hs (t := b) q2
        rw [ea2, eb2] at h2
        obtain ⟨-, -, m3, m4⟩ := mayN_1 (by rw [q3.1]; decide : 0 < mayN r a b)
        have ca := PI_RC hp a (by omega) m3
        have cb := PI_RC hp b q2 m4
        obtain ⟨w1, w2, w3, w4, w5, w6, w7⟩ := ih (RB_exch hB (pl_z hB m3).2 (pl_z hB m4).2) (MB_mX hM _ _) (PI_ex hp ca.2 cb.2) (CI_ex hc _ _) (SR_ex hs _ _) h1 h2
        refine ⟨by rw [w1], w2, w3, w4, w5, w6, ?_⟩
        have : MS.s_rw (MS.s_rw u' (mX y (pl r a) (pl r b)).rw) y.rw = y := by rw [w7]; rfl
        exact this
/-! rules -/
theorem br_eq {r : RS} {y : MS} (hp : PI r) (hs : SR r y) {t : Nat} (ht : t < 2 * r.n) : brT r t = mB y t := by
  unfold brT brk mB
  rw [(pm_pl hp hs (t := t / 2) (by omega)).1, hs.2.2.2.2.2.2.2.1]
theorem rul_eq {B B' : Nat → Nat} {n k w : Nat} {x x' : Int32} (h : ∀ t, t < n → B t = B' t) (h1 : rulR B n k w x) (h2 : rulR B' n k w x') : x = x' := by
  have hsum : ∀ t, t ≤ n → sumN B t = sumN B' t := fun t ht => sumN_congr fun j hj => h j (by omega)
  have hun : ∀ t t', t < t' → t' < n → B t = 1 → sumN B t = k → B t' = 1 → sumN B t' = k → False := by
    intro t t' a b c d e f
    have : sumN B (t + 1) ≤ sumN B t' := by
      obtain ⟨q, rfl⟩ : ∃ q, t' = t + 1 + q := ⟨t' - (t + 1), by omega⟩
      rw [sumN_add B (t + 1) q]; exact Nat.le_add_right _ _
    have e1 : sumN B (t + 1) = sumN B t + B t := rfl
    omega
  rcases h1 with ⟨t, a, b, c, rfl⟩ | ⟨n1, rfl⟩
  · rcases h2 with ⟨t', a', b', c', rfl⟩ | ⟨n2, rfl⟩
    · rw [← h t' a'] at b'
      rw [← hsum t' (by omega)] at c'
      rcases Nat.lt_trichotomy t t' with z | z | z
      · exact absurd (hun t t' z a' b c b' c') id
      · rw [z]
      · exact absurd (hun t' t z a b' c' b c) id
    · exact absurd ⟨by rw [← h t a]; exact b, by rw [← hsum t (by omega)]; exact c⟩ (n2 t a)
  · rcases h2 with ⟨t', a', b', c', rfl⟩ | ⟨n2, rfl⟩
    · exact absurd ⟨by rw [h t' a']; exact b', by rw [hsum t' (by omega)]; exact c'⟩ (n1 t' a')
    · rfl
/-! a shift: forward, carrying, or backward, moving: the same -/
def shP (r : RS) (f n b : Nat) (g : Nat → Nat) : Prop := (∀ j, j < n → g (r.rw (f + j)) = if j = 0 then b else r.vb (r.rw (f + j - 1))) ∧ (∀ z, (∀ j, j < n → r.rw (f + j) ≠ z) → g z = r.vb z)
theorem shP_un {r : RS} {f n b : Nat} {g g' : Nat → Nat} (h : shP r f n b g) (h' : shP r f n b g') : g = g' := by
  funext z
  by_cases e : ∃ j, j < n ∧ r.rw (f + j) = z
  · obtain ⟨j, hj, rfl⟩ := e; rw [h.1 j hj, h'.1 j hj]
  · have q : ∀ j, j < n → r.rw (f + j) ≠ z := fun j hj y => e ⟨j, hj, y⟩
    rw [h.2 z q, h'.2 z q]
theorem shL_P {r : RS} {f n b : Nat} (hinj : ∀ i j, i < n → j < n → r.rw (f + i) = r.rw (f + j) → i = j) (m : Nat) (hm : m ≤ n) : shP r f m b (shL r f b m).2 ∧ (shL r f b m).1 = if m = 0 then b else r.vb (r.rw (f + m - 1)) := by
  induction m with
  | zero => exact ⟨⟨fun j h => absurd h (by omega), fun z _ => rfl⟩, rfl⟩
  | succ m ih =>
    obtain ⟨⟨a1, a2⟩, a3⟩ := ih (by omega)
    have hv : (shL r f b m).2 (r.rw (f + m)) = r.vb (r.rw (f + m)) := a2 _ fun j hj z => by have := hinj j m (by omega) (by omega) z; omega
    refine ⟨⟨fun j hj => ?_, fun z hz => ?_⟩, ?_⟩
    · show va_up (shL r f b m).2 (r.rw (f + m)) (shL r f b m).1 (r.rw (f + j)) = _
      unfold va_up
      by_cases e : j = m
      · rw [e, if_pos rfl, a3]
      · rw [if_neg (fun z => e (hinj j m (by omega) (by omega) z))]; exact a1 j (by omega)
    · show va_up (shL r f b m).2 (r.rw (f + m)) (shL r f b m).1 z = _
      unfold va_up
      rw [if_neg (fun y => hz m (by omega) y.symm)]; exact a2 z fun j hj => hz j (by omega)
    · show (shL r f b m).2 (r.rw (f + m)) = _
      rw [hv, if_neg (by omega)]; rfl
theorem mvL_P {r : RS} {y : MS} (hs : SR r y) {f t : Nat} (hft : f < t) (hinj : ∀ i j, i < t - f → j < t - f → r.rw (f + i) = r.rw (f + j) → i = j) (k : Nat) (hk : k ≤ t - 1 - f) :
    (∀ j, j < k → mvL y t k (r.rw (t - 1 - j)) = r.vb (r.rw (t - 1 - j - 1))) ∧ (∀ z, (∀ j, j < k → r.rw (t - 1 - j) ≠ z) → mvL y t k z = r.vb z) := by
  have hi2 : ∀ i j, f ≤ i → i < t → f ≤ j → j < t → r.rw i = r.rw j → i = j := fun i j a b c d e => by
    have := hinj (i - f) (j - f) (by omega) (by omega) (by rw [show f + (i - f) = i by omega, show f + (j - f) = j by omega]; exact e)
    omega
  induction k with
  | zero => exact ⟨fun j h => absurd h (by omega), fun z _ => by show y.vb z = _; rw [hs.2.2.2.1]⟩
  | succ k ih =>
    obtain ⟨a1, a2⟩ := ih (by omega)
    have erw : y.rw = r.rw := hs.2.2.2.2.2.2.2.2.1
    have hv : mvL y t k (r.rw (t - 1 - k - 1)) = r.vb (r.rw (t - 1 - k - 1)) := a2 _ fun j hj z => by
      have := hi2 (t - 1 - j) (t - 1 - k - 1) (by omega) (by omega) (by omega) (by omega) z; omega
    refine ⟨fun j hj => ?_, fun z hz => ?_⟩
    · show va_up (mvL y t k) (y.rw (t - 1 - k)) (mvL y t k (y.rw (t - 1 - k - 1))) (r.rw (t - 1 - j)) = _
      rw [erw]; unfold va_up
      by_cases e : j = k
      · rw [e, if_pos rfl]; exact hv
      · rw [if_neg (fun z => e (by have := hi2 (t - 1 - j) (t - 1 - k) (by omega) (by omega) (by omega) (by omega) z; omega))]; exact a1 j (by omega)
    · show va_up (mvL y t k) (y.rw (t - 1 - k)) (mvL y t k (y.rw (t - 1 - k - 1))) z = _
      rw [erw]; unfold va_up
      rw [if_neg (fun q => hz k (by omega) q.symm)]; exact a2 z fun j hj => hz j (by omega)
theorem sh_eq {r : RS} {y : MS} (hs : SR r y) (hp : PI r) {f t : Nat} (b : Nat) (hft : f ≤ t) (ht : t ≤ r.p) : shO r f t b = mvO y f t ∧ shV r f t b = mvV y f t b := by
  by_cases e : f = t
  · rw [shO_no (by omega), shV_no (by omega)]
    unfold mvO mvV
    rw [if_pos e, if_pos e, hs.2.2.2.1]; exact ⟨rfl, rfl⟩
  · have hinj : ∀ i j, i < t - f → j < t - f → r.rw (f + i) = r.rw (f + j) → i = j := fun i j a c d => by
      have := PI_inj hp (i := f + i) (j := f + j) (by omega) (by omega) d; omega
    obtain ⟨p1, p2⟩ := shL_P (b := b) hinj (t - f) (Nat.le_refl _)
    have erw : y.rw = r.rw := hs.2.2.2.2.2.2.2.2.1
    rw [shO_yes (by omega), shV_yes (by omega)]
    unfold mvO mvV
    rw [if_neg e, if_neg e]
    refine ⟨?_, ?_⟩
    · rw [p2, if_neg (by omega), show f + (t - f) - 1 = t - 1 by omega, hs.2.2.2.1, erw]
    · refine shP_un p1 ?_
      obtain ⟨q1, q2⟩ := mvL_P hs (by omega : f < t) hinj (t - 1 - f) (Nat.le_refl _)
      refine ⟨fun j hj => ?_, fun z hz => ?_⟩
      · rw [erw]; unfold va_up
        by_cases e0 : j = 0
        · rw [e0, if_pos rfl]; exact if_pos rfl
        · rw [if_neg e0, if_neg (fun z => by have := hinj j 0 (by omega) (by omega) (by rw [Nat.add_zero]; exact z); omega)]
          have := q1 (t - 1 - (f + j)) (by omega)
          rw [show t - 1 - (t - 1 - (f + j)) = f + j by omega] at this
          exact this
      · rw [erw]; unfold va_up
        rw [if_neg (fun q => hz 0 (by omega) (by rw [Nat.add_zero]; exact q.symm))]
        refine q2 z fun j hj q => hz (t - 1 - j - f) (by omega) (by rw [show f + (t - 1 - j - f) = t - 1 - j by omega]; exact q)
theorem SR_vb {r : RS} {y : MS} (h : SR r y) (v : Nat → Nat) : SR (r.s_vb v) (y.s_vb v) := ⟨h.1, h.2.1, h.2.2.1, rfl, h.2.2.2.2⟩
theorem shC_msC {r : RS} {y : MS} (hs : SR r y) (hp : PI r) (hc : CI r) (bits : Int32) {i : Nat} (hi : i ≤ r.c) : shC r bits i = msC y bits i := by
  induction i with
  | zero => show (nI 0, r.vb) = (nI 0, y.vb); rw [hs.2.2.2.1]
  | succ i ih =>
    have e := ih (by omega)
    have est : y.st = r.st := hs.2.2.2.2.2.2.2.2.2
    have hm := hc.2.2.1 i (by omega)
    have hle : r.st (i + 1) ≤ r.p := by rw [← hc.2.1]; exact st_le hc.2.2.1 (by omega) (Nat.le_refl _)
    obtain ⟨a, b⟩ := sh_eq (SR_vb hs (msC y bits i).2) (show PI (r.s_vb (msC y bits i).2) from hp) (f := r.st i) (t := r.st (i + 1)) (sbit bits i) hm hle
    simp only [shC, msC]
    rw [e, est, a, b]
/-! the number's bits -/
theorem i32_sh (nu : Int32) {k : Nat} (h : k < 32) : ((nu.toUInt32 >>> ((nI k).toUInt32 &&& Int32.toUInt32 31)).toInt32).toBitVec = nu.toBitVec >>> k := by
  have e1 : (nI k).toUInt32 &&& Int32.toUInt32 31 = UInt32.ofNat k := by
    have : ∀ k, k < 32 → (nI k).toUInt32 &&& Int32.toUInt32 31 = UInt32.ofNat k := by decide +kernel
    exact this k h
  have e2 : (UInt32.ofNat k).toNat = k := UInt32.toNat_ofNat_of_lt (Nat.lt_of_lt_of_le h (by decide))
  rw [e1]
  apply BitVec.eq_of_toNat_eq
  show (nu.toUInt32 >>> UInt32.ofNat k).toNat = _
  rw [UInt32.toNat_shiftRight, e2, BitVec.toNat_ushiftRight, Nat.mod_eq_of_lt h]
  rfl
theorem nbF_bit (nu : Int32) {k : Nat} (h : k < 32) : nbF nu k = nu.toBitVec.toNat / 2 ^ (31 - k) % 2 := by
  unfold nbF
  rw [i32_sh nu (by omega), BitVec.toNat_ushiftRight, Nat.shiftRight_eq_div_pow]
theorem nrS_nat (x : Int32) {b : Nat} (hb : b < 2) : (nrS x b).toBitVec.toNat = x.toBitVec.toNat / 2 + b * 2147483648 := by
  have h1 : (nrS x b).toBitVec = (x.toBitVec >>> 1) ||| ((nI b <<< (nI 31 &&& 31)).toBitVec) := by
    unfold nrS
    show _ ||| _ = _
    rw [i32_sh x (k := 1) (by decide)]
  have h2 : (nI b <<< (nI 31 &&& 31)).toBitVec = BitVec.ofNat 32 (b * 2147483648) := by
    rcases (show b = 0 ∨ b = 1 by omega) with rfl | rfl <;> decide +kernel
  have hx : x.toBitVec.toNat < 4294967296 := x.toBitVec.isLt
  rw [h1, h2, BitVec.toNat_or, BitVec.toNat_ushiftRight, Nat.shiftRight_eq_div_pow, BitVec.toNat_ofNat]
  rcases (show b = 0 ∨ b = 1 by omega) with rfl | rfl
  · rw [show 0 * 2147483648 % 2 ^ 32 = 0 from rfl, Nat.or_zero]; rfl
  · have e : x.toBitVec.toNat / 2 ^ 1 < 2 ^ 31 := by omega
    have e4 := Nat.two_pow_add_eq_or_of_lt e 1
    rw [Nat.mul_one] at e4
    rw [show 1 * 2147483648 % 2 ^ 32 = 2 ^ 31 from rfl, Nat.or_comm, ← e4]
    omega
theorem nb_sh {x : Int32} {nb : Nat → Nat} {b : Nat} (hb : b < 2) (h : ∀ j, j < 32 → nb j = nbF x j) : ∀ j, j < 32 → srV nb b 32 j = nbF (nrS x b) j := by
  intro j hj
  have hx : x.toBitVec.toNat < 4294967296 := x.toBitVec.isLt
  rw [nbF_bit _ hj, nrS_nat x hb]
  unfold srV; rw [if_pos hj]
  by_cases e : j = 0
  · rw [if_pos e, e]
    show b = (x.toBitVec.toNat / 2 + b * 2147483648) / 2147483648 % 2
    omega
  · rw [if_neg e, h (j - 1) (by omega), nbF_bit _ (by omega)]
    obtain ⟨k, hk, rfl⟩ : ∃ k, k < 31 ∧ j = 31 - k := ⟨31 - j, by omega, by omega⟩
    rw [show 31 - (31 - k - 1) = k + 1 by omega, show 31 - (31 - k) = k by omega, Nat.pow_succ, Nat.mul_comm, ← Nat.div_div_eq_div_mul]
    have e2 : b * 2147483648 = 2 ^ k * (b * 2 ^ (31 - k)) := by
      rw [Nat.mul_left_comm, ← Nat.pow_add, show k + (31 - k) = 31 by omega]
    rw [e2, Nat.add_mul_div_left _ _ (Nat.two_pow_pos k)]
    have e3 : b * 2 ^ (31 - k) % 2 = 0 := by
      rw [show 31 - k = (30 - k) + 1 by omega, Nat.pow_succ, ← Nat.mul_assoc]; exact Nat.mul_mod_left _ _
    omega
theorem nb_out {x : Int32} {nb : Nat → Nat} (h : ∀ j, j < 32 → nb j = nbF x j) : nb 31 = nbit x := by
  rw [h 31 (by decide), nbF_bit _ (by decide)]
  unfold nbit
  show x.toBitVec.toNat / 1 % 2 = _
  rw [Nat.div_one]
/-! the two sides, side by side -/
def SA (a : AS) (y : MS) : Prop := y.sa = a.st ∧ y.co = a.co ∧ y.nu = a.nu ∧ y.cr = a.cr ∧ y.by_ = a.by_ ∧ ∀ j, j < 32 → y.nb j = nbF a.nr j
def Rel (r : RS) (k : CS) (a : AS) (y : MS) : Prop := YB (r, k, a) ∧ MB y ∧ PI r ∧ CI r ∧ SR r y ∧ toK y = k ∧ SA a y
theorem Rel_th {r : RS} {k : CS} {a : AS} {y : MS} (h : Rel r k a y) (t : Nat) : Rel r k a (y.s_th t) := h
theorem Rel_tk {r : RS} {k : CS} {a : AS} {y : MS} (h : Rel r k a y) {g : Nat → Nat} (hg : ∀ j, g j ≤ 16) : Rel r k (a.s_tk g) y := ⟨⟨h.1.1, h.1.2.1, h.1.2.2.1, h.1.2.2.2.1, h.1.2.2.2.2.1, h.1.2.2.2.2.2.1, hg⟩, h.2⟩
theorem Rel_fa {r : RS} {k : CS} {a : AS} {y : MS} (h : Rel r k a y) (g : Nat → Nat) : Rel r k a (y.s_fa g) := h
theorem Rel_mono {r : RS} {k : CS} {a : AS} {y : MS} (h : Rel r k a y) : mono y := by
  obtain ⟨-, -, -, hc, hs, -, -⟩ := h
  intro i hi
  rw [hs.2.2.2.2.2.2.2.2.2]; rw [hs.2.1] at hi; exact hc.2.2.1 i hi
theorem mReg_reg (co n p : Nat) : (reg co n p = 1 ↔ mReg co n p = 0) ∧ (reg co n p = 2 ↔ mReg co n p = 2) ∧ (reg co n p = 3 ↔ mReg co n p = 3) := by
  unfold reg mReg
  by_cases h0 : co = 0 ∨ co = 1
  · rw [if_pos h0, if_pos (show co < 2 by omega)]
    split <;> simp
  · rw [if_neg h0, if_neg (show ¬ co < 2 by omega)]
    split
    · simp
    · split <;> simp
/-- the port acts -/
theorem act_eq {r : RS} {k : CS} {a : AS} {y : MS} {b : Nat} (hb : b < 2) (h : Rel r k a y) : (actF r k a b).1 = (mAct y b).1 ∧ Rel (actF r k a b).2.1 (actF r k a b).2.2.1 (actF r k a b).2.2.2 (mAct y b).2 := by
  have hY2 := actF_YB hb h.1
  have hM2 := mAct_MB hb h.2.1
  obtain ⟨hY, hM, hp, hc, hs, hk, h1, h2, h3, h4, h5, h6⟩ := h
  have hpn : (reg a.co k.n r.p = 1 ↔ mReg y.co y.cn y.p = 0) ∧ (reg a.co k.n r.p = 2 ↔ mReg y.co y.cn y.p = 2) ∧ (reg a.co k.n r.p = 3 ↔ mReg y.co y.cn y.p = 3) := by
    rw [← hk, ← h2, ← hs.2.2.1]; exact mReg_reg _ _ _
  obtain ⟨m1, m2, m3⟩ := hpn
  revert hY2 hM2
  unfold actF mAct
  rw [h1]
  by_cases q3 : a.st = 3
  · rw [if_pos q3, if_pos q3]
    intro hY2 hM2
    refine ⟨rfl, hY2, hM2, ?_⟩
    revert hY2 hM2
    unfold capD
    by_cases g1 : reg a.co k.n r.p = 1
    · have g1' := m1.mp g1
      rw [if_pos g1]; intro _ _
      refine ⟨hp, hc, hs, ?_, h1, h2, h3, h4, ?_, ?_⟩
      · show (y.cn, y.pin, y.ki, y.he, (if mReg y.co y.cn y.p = 0 then cpN y.pin y.ir y.cn else y.ir)) = _
        rw [if_pos g1', ← hk]
      · show (if mReg y.co y.cn y.p = 4 then 0 else y.by_) = a.by_
        rw [if_neg (by omega)]; exact h5
      · intro j hj
        show (if mReg y.co y.cn y.p = 2 then cpN (nbF y.nu) y.nb 32 else y.nb) j = _
        rw [if_neg (by omega)]; exact h6 j hj
    · have g1' : ¬ mReg y.co y.cn y.p = 0 := fun z => g1 (m1.mpr z)
      have ek : toK (mCap y) = k := by
        show (y.cn, y.pin, y.ki, y.he, (if mReg y.co y.cn y.p = 0 then cpN y.pin y.ir y.cn else y.ir)) = _
        rw [if_neg g1']; exact hk
      rw [if_neg g1]
      by_cases g2 : reg a.co k.n r.p = 2
      · have g2' := m2.mp g2
        rw [if_pos g2]; intro _ _
        refine ⟨hp, hc, hs, ek, h1, h2, h3, h4, ?_, ?_⟩
        · show (if mReg y.co y.cn y.p = 4 then 0 else y.by_) = a.by_
          rw [if_neg (by omega)]; exact h5
        · intro j hj
          show (if mReg y.co y.cn y.p = 2 then cpN (nbF y.nu) y.nb 32 else y.nb) j = nbF a.nu j
          rw [if_pos g2']; unfold cpN; rw [if_pos hj, h3]
      · have g2' : ¬ mReg y.co y.cn y.p = 2 := fun z => g2 (m2.mpr z)
        have e6 : ∀ j, j < 32 → (mCap y).nb j = nbF a.nr j := by
          intro j hj
          show (if mReg y.co y.cn y.p = 2 then cpN (nbF y.nu) y.nb 32 else y.nb) j = _
          rw [if_neg g2']; exact h6 j hj
        rw [if_neg g2]
        by_cases g3 : reg a.co k.n r.p = 3
        · have g3' := m3.mp g3
          rw [if_pos g3]; intro _ _
          refine ⟨hp, hc, hs, ek, h1, h2, h3, h4, ?_, e6⟩
          show (if mReg y.co y.cn y.p = 4 then 0 else y.by_) = a.by_
          rw [if_neg (by omega)]; exact h5
        · have g3' : ¬ mReg y.co y.cn y.p = 3 := fun z => g3 (m3.mpr z)
          have g4 : mReg y.co y.cn y.p = 4 := by
            unfold mReg at g1' g2' g3' ⊢
            split
            · rw [if_pos (by assumption)] at g1'; split <;> simp_all
            · rw [if_neg (by assumption)] at g2' g3'
              split
              · simp_all
              · split <;> simp_all
          rw [if_neg g3]; intro _ _
          refine ⟨hp, hc, hs, ek, h1, h2, h3, h4, ?_, e6⟩
          show (if mReg y.co y.cn y.p = 4 then 0 else y.by_) = 0
          rw [if_pos g4]
  · rw [if_neg q3, if_neg q3]
    by_cases q4 : a.st = 4
    · rw [if_pos q4, if_pos q4]
      intro hY2 hM2
      revert hY2 hM2
      unfold shfD mShD
      by_cases g1 : reg a.co k.n r.p = 1
      · have g1' := m1.mp g1
        have hn := mReg_0 g1'
        rw [if_pos g1, if_pos g1']; intro hY2 hM2
        refine ⟨?_, hY2, hM2, hp, hc, hs, ?_, h1, h2, h3, h4, h5, h6⟩
        · show ((srO k.ir b k.n : Nat) : Int) = ((y.ir (y.cn - 1) : Nat) : Int)
          rw [← hk]
          show ((srO y.ir b y.cn : Nat) : Int) = _
          unfold srO; rw [if_neg (by omega)]
        · show (y.cn, y.pin, y.ki, y.he, srV y.ir b y.cn) = _
          rw [← hk]
      · rw [if_neg g1, if_neg (fun z => g1 (m1.mpr z))]
        by_cases g2 : reg a.co k.n r.p = 2
        · rw [if_pos g2, if_pos (m2.mp g2)]; intro hY2 hM2
          refine ⟨?_, hY2, hM2, hp, hc, hs, hk, h1, h2, h3, h4, h5, nb_sh hb h6⟩
          show ((nbit a.nr : Nat) : Int) = ((y.nb 31 : Nat) : Int)
          rw [nb_out h6]
        · rw [if_neg g2, if_neg (fun z => g2 (m2.mpr z))]
          by_cases g3 : reg a.co k.n r.p = 3
          · obtain ⟨w1, w2⟩ := sh_eq hs hp (f := 0) (t := r.p) b (Nat.zero_le _) (Nat.le_refl _)
            rw [if_pos g3, if_pos (m3.mp g3)]; intro hY2 hM2
            refine ⟨?_, hY2, hM2, hp, hc, ?_, hk, h1, h2, h3, h4, h5, h6⟩
            · show ((shO r 0 r.p b : Nat) : Int) = ((mvO y 0 y.p : Nat) : Int)
              rw [w1, hs.2.2.1]
            · show SR (r.s_vb (shV r 0 r.p b)) (y.s_vb (mvV y 0 y.p b))
              rw [w2, hs.2.2.1]; exact SR_vb hs _
          · rw [if_neg g3, if_neg (fun z => g3 (m3.mpr z))]; intro hY2 hM2
            refine ⟨?_, hY2, hM2, hp, hc, hs, hk, h1, h2, h3, h4, rfl, h6⟩
            show ((a.by_ : Nat) : Int) = ((y.by_ : Nat) : Int)
            rw [h5]
    · rw [if_neg q4, if_neg q4]
      by_cases q8 : a.st = 8
      · rw [if_pos q8]
        have n10 : ¬ a.st = 10 := by omega
        have n11 : ¬ a.st = 11 := by omega
        have n15 : ¬ a.st = 15 := by omega
        by_cases g : y.co < 2
        · rw [if_pos ⟨q8, g⟩]; intro hY2 hM2
          refine ⟨rfl, hY2, hM2, ?_⟩
          revert hY2 hM2
          unfold updD
          by_cases g1 : reg a.co k.n r.p = 1
          · rw [if_pos g1]; intro _ _
            refine ⟨hp, hc, hs, ?_, h1, h2, h3, h4, h5, h6⟩
            show (y.cn, y.pin, y.ki, cpN y.ir y.he y.cn, y.ir) = _
            rw [← hk]
          · rw [if_neg g1]; intro _ _
            have g0 : y.cn = 0 := Decidable.byContradiction fun z => g1 (m1.mpr (by unfold mReg; rw [if_pos g, if_pos (by omega)]))
            refine ⟨hp, hc, hs, ?_, h1, h2, h3, h4, h5, h6⟩
            show (y.cn, y.pin, y.ki, cpN y.ir y.he y.cn, y.ir) = _
            rw [← hk]
            show (y.cn, y.pin, y.ki, cpN y.ir y.he y.cn, y.ir) = (y.cn, y.pin, y.ki, y.he, y.ir)
            rw [g0, cpN_0]
        · rw [if_neg (fun z => g z.2), if_neg n10, if_neg n11, if_neg n15]; intro hY2 hM2
          refine ⟨rfl, hY2, hM2, ?_⟩
          revert hY2 hM2
          unfold updD
          have g1 : ¬ reg a.co k.n r.p = 1 := fun z => by
            have := m1.mp z
            unfold mReg at this
            rw [if_neg g] at this
            split at this
            · cases this
            · split at this <;> cases this
          rw [if_neg g1]; intro _ _
          exact ⟨hp, hc, hs, hk, h1, h2, h3, h4, h5, h6⟩
      · rw [if_neg q8, if_neg (show ¬ (a.st = 8 ∧ y.co < 2) from fun z => q8 z.1)]
        by_cases q10 : a.st = 10
        · rw [if_pos q10, if_pos q10]; intro hY2 hM2
          exact ⟨rfl, hY2, hM2, hp, hc, hs, hk, h1, h2, h3, rfl, h5, h6⟩
        · rw [if_neg q10, if_neg q10]
          by_cases q11 : a.st = 11
          · rw [if_pos q11, if_pos q11]; intro hY2 hM2
            refine ⟨?_, hY2, hM2, hp, hc, hs, hk, h1, h2, h3, ?_, h5, h6⟩
            · show ((a.cr % 2 : Nat) : Int) = ((y.cr % 2 : Nat) : Int); rw [h4]
            · show y.cr / 2 + b * 8 = a.cr / 2 + b * 8; rw [h4]
          · rw [if_neg q11, if_neg q11]
            by_cases q15 : a.st = 15
            · rw [if_pos q15, if_pos q15]; intro hY2 hM2
              exact ⟨rfl, hY2, hM2, hp, hc, hs, hk, h1, h4, h3, h4, h5, h6⟩
            · rw [if_neg q15, if_neg q15]; intro hY2 hM2
              exact ⟨rfl, hY2, hM2, hp, hc, hs, hk, h1, h2, h3, h4, h5, h6⟩
theorem step_eq {r : RS} {k : CS} {a : AS} {y : MS} {m b : Nat} (hb : b < 2) (h : Rel r k a y) : (stepF r k a m b).1 = (mTick y m b).1 ∧ Rel (stepF r k a m b).2.1 (stepF r k a m b).2.2.1 (stepF r k a m b).2.2.2 (mTick y m b).2 := by
  have hY2 := stepF_YB (m := m) hb h.1
  have hM2 := mTick_MB (m := m) hb h.2.1
  obtain ⟨e1, -, -, hp, hc, hs, hk, h1, h2, h3, h4, h5, h6⟩ := act_eq hb h
  refine ⟨e1, hY2, hM2, hp, hc, hs, hk, ?_⟩
  show SA (stepA (actF r k a b).2.2.2 m) _
  have f1 : (mTick y m b).2.sa = NX (2 * (actF r k a b).2.2.2.st + m) := by
    show NX (2 * (mAct y b).2.sa + m) = _
    rw [h1]
  have f2 : (mTick y m b).2.co = if NX (2 * (actF r k a b).2.2.2.st + m) = 0 then 2 else (actF r k a b).2.2.2.co := by
    show (if NX (2 * (mAct y b).2.sa + m) = 0 then 2 else (mAct y b).2.co) = _
    rw [h1, h2]
  unfold stepA
  split
  · rename_i g; rw [if_pos g] at f2
    exact ⟨f1, f2, h3, h4, h5, h6⟩
  · rename_i g; rw [if_neg g] at f2
    exact ⟨f1, f2, h3, h4, h5, h6⟩
theorem stepF_tk (r : RS) (k : CS) (a : AS) (m b : Nat) : (stepF r k a m b).2.2.2.tk = a.tk ∧ (stepF r k a m b).2.2.2.st = NX (2 * a.st + m) := by
  have e1 : (actF r k a b).2.2.2.tk = a.tk := by
    unfold actF capD shfD updD
    repeat' split
    all_goals rfl
  have e2 := actF_st r k a b
  refine ⟨?_, ?_⟩
  · show (stepA (actF r k a b).2.2.2 m).tk = _
    unfold stepA; split <;> exact e1
  · show (stepA (actF r k a b).2.2.2 m).st = _
    unfold stepA; split
    · show NX (2 * (actF r k a b).2.2.2.st + m) = _; rw [e2]
    · show NX (2 * (actF r k a b).2.2.2.st + m) = _; rw [e2]
theorem goIt_tk (x : RS × CS × AS) (i : Nat) : (goIt x i).2.2.tk = x.2.2.tk := by
  induction i with
  | zero => rfl
  | succ i ih => exact ((stepF_tk _ _ _ _ _).1).trans ih
theorem go_eq {r : RS} {k : CS} {a : AS} {y : MS} {t : Nat} (ht : t < 16) (ha : ∀ j, j < 16 → a.tk j = DT t j) (hy : ∀ j, j < 16 → y.fa j = DT t j) (h : Rel r k a y) (i : Nat) (hi : i ≤ DT t a.st) :
    Rel (goIt (r, k, a) i).1 (goIt (r, k, a) i).2.1 (goIt (r, k, a) i).2.2 (mgoIt y i) ∧ DT t (goIt (r, k, a) i).2.2.st + i = DT t a.st := by
  induction i with
  | zero => exact ⟨h, rfl⟩
  | succ i ih =>
    obtain ⟨hR, hD⟩ := ih (by omega)
    have e_sa : (mgoIt y i).sa = (goIt (r, k, a) i).2.2.st := hR.2.2.2.2.2.2.1
    have hs : (goIt (r, k, a) i).2.2.st < 16 := hR.1.2.2.1
    have hne : (goIt (r, k, a) i).2.2.st ≠ t := fun z => by rw [z, DT_t t ht] at hD; omega
    have hd := DT_s t ht _ hs hne
    have em : smode (goIt (r, k, a) i).2.2 = mmode (mgoIt y i) := by
      unfold smode mmode
      rw [goIt_tk, mgoIt_fa, e_sa]
      show (if a.tk (NX (2 * (goIt (r, k, a) i).2.2.st)) < a.tk (goIt (r, k, a) i).2.2.st then 0 else 1) = _
      rw [ha _ (NX_lt _), ha _ hs, hy _ (NX_lt _), hy _ (NX_lt _)]
      by_cases q : DT t (NX (2 * (goIt (r, k, a) i).2.2.st)) ≤ DT t (NX (2 * (goIt (r, k, a) i).2.2.st + 1))
      · rw [if_pos q, if_pos (by omega)]
      · rw [if_neg q, if_neg (by omega)]
    have hst := step_eq (m := smode (goIt (r, k, a) i).2.2) (b := 0) (by decide) hR
    refine ⟨?_, ?_⟩
    · show Rel (stepF (goIt (r, k, a) i).1 (goIt (r, k, a) i).2.1 (goIt (r, k, a) i).2.2 (smode (goIt (r, k, a) i).2.2) 0).2.1 _ _ (mTick (mgoIt y i) (mmode (mgoIt y i)) 0).2
      rw [← em]; exact hst.2
    · have e2 : (goIt (r, k, a) (i + 1)).2.2.st = NX (2 * (goIt (r, k, a) i).2.2.st + smode (goIt (r, k, a) i).2.2) := (stepF_tk _ _ _ _ _).2
      have e3 := mgoIt_DT (y := y) ht hy (i := i) (by rw [e_sa]; exact hs) (by rw [e_sa]; exact hne)
      have e4 : (mgoIt y (i + 1)).sa = NX (2 * (mgoIt y i).sa + mmode (mgoIt y i)) := (mTick_sa _ _ _).1
      rw [e4, e_sa, ← em] at e3
      rw [e2]; omega
/-! each call keeps the two sides side by side -/
theorem up_ltz {g : Nat → Int} (h : ∀ k, -1000 ≤ g k ∧ g k ≤ 1000) {v : Int} (hv : -1000 ≤ v ∧ v ≤ 1000) (i : Nat) : ∀ k, -1000 ≤ va_up g i v k ∧ va_up g i v k ≤ 1000 := by
  intro k; unfold va_up; split
  · exact hv
  · exact h k
theorem Rel_latch {r : RS} {k : CS} {a : AS} {y : MS} (h : Rel r k a y) {ck : Nat} {xx yy : Int} (h1 : r.n < 32) (h2 : ck < 4) (h3 : -1000 ≤ xx ∧ xx ≤ 1000) (h4 : -1000 ≤ yy ∧ yy ≤ 1000) : Rel (addL r ck xx yy) k a (mLatch y ck xx yy) := by
  obtain ⟨⟨⟨b_n, b_c, b_p, b_vb, b_ck, b_xx, b_yy, b_fl, b_po, b_rw, b_ch, b_st⟩, hk0, ha0⟩, ⟨⟨m_n, m_c, m_p, m_vb, m_ck, m_xx, m_yy, m_fl, m_po, m_rw, m_ch, m_st⟩, mk0, ma0⟩, hp, hc, ⟨e_n, e_c, e_p, e_vb, e_ck, e_xx, e_yy, e_fl, e_rw, e_st⟩, hk, hs⟩ := h
  have b_p' : r.p ≤ r.n := b_p
  have m_p' : y.p ≤ y.n := m_p
  refine ⟨⟨⟨by show r.n + 1 ≤ 32; omega, b_c, by show r.p ≤ r.n + 1; omega, b_vb, up_lt b_ck h2 _, up_ltz b_xx h3 _, up_ltz b_yy h4 _, b_fl, up_lti b_po ⟨by omega, by omega⟩ _, b_rw, b_ch, b_st⟩, hk0, ha0⟩, ⟨⟨by show y.n + 1 ≤ 32; omega, m_c, by show y.p ≤ y.n + 1; omega, m_vb, up_lt m_ck h2 _, up_ltz m_xx h3 _, up_ltz m_yy h4 _, m_fl, m_po, m_rw, m_ch, m_st⟩, mk0, ma0⟩, ?_, hc, ⟨?_, e_c, e_p, e_vb, ?_, ?_, ?_, e_fl, e_rw, e_st⟩, hk, hs⟩
  · obtain ⟨p1, p2, p3⟩ := hp
    refine ⟨fun i hi => ⟨(p1 i hi).1, ?_⟩, fun t ht => ?_, fun t ha hb => ?_⟩
    · have hi' : i < r.p := hi
      have := (p1 i hi).1
      show va_up r.po r.n (-1) (r.rw i) = _
      unfold va_up; rw [if_neg (by omega)]; exact (p1 i hi).2
    · have ht' : t < r.p := ht
      obtain ⟨i, q1, q2, q3⟩ := p2 t ht
      refine ⟨i, q1, ?_, q3⟩
      show va_up r.po r.n (-1) t = _
      unfold va_up; rw [if_neg (by omega)]; exact q2
    · show va_up r.po r.n (-1) t = -1
      have hb' : t < r.n + 1 := hb
      unfold va_up
      by_cases e : t = r.n
      · rw [if_pos e]
      · rw [if_neg e]; exact p3 t ha (by omega)
  · show y.n + 1 = r.n + 1; rw [e_n]
  · show va_up y.ck y.n ck = va_up r.ck r.n ck; rw [e_n, e_ck]
  · show va_up y.xx y.n xx = va_up r.xx r.n xx; rw [e_n, e_xx]
  · show va_up y.yy y.n yy = va_up r.yy r.n yy; rw [e_n, e_yy]
theorem chF_at (p c : Nat) (ch : Nat → Nat) {i j n : Nat} (hi : i < n) (h1 : bg p c i ≤ j) (h2 : j < bg p c (i + 1)) : chF p c ch n j = i := by
  induction n with
  | zero => omega
  | succ n ih =>
    show (if bg p c n ≤ j ∧ j < bg p c (n + 1) then n else chF p c ch n j) = i
    by_cases e : i = n
    · subst e; rw [if_pos ⟨h1, h2⟩]
    · have := bg_le' p c (i := i + 1) (j := n) (by omega)
      rw [if_neg (by omega)]; exact ih (by omega)
theorem rk_cong {r r' : RS} (h1 : r.ck = r'.ck) (h2 : r.xx = r'.xx) (h3 : r.yy = r'.yy) (a n : Nat) : rk r a n = rk r' a n := by
  refine sumN_congr fun t _ => ?_
  unfold ibN; rw [h1, h2, h3]
theorem mkR_cong {r r' : RS} (h1 : r.ck = r'.ck) (h2 : r.xx = r'.xx) (h3 : r.yy = r'.yy) (h4 : r.rw = r'.rw) (h5 : r.n = r'.n) (i : Nat) : mkR r i = mkR r' i := by
  induction i with
  | zero => exact h4
  | succ i ih => show va_up (mkR r i) (rk r i r.n) i = va_up (mkR r' i) (rk r' i r'.n) i; rw [ih, rk_cong h1 h2 h3, h5]
theorem st_cut {r : RS} {c0 i : Nat} (hi : i ≤ c0) : (arrF r c0).st i = bg r.n c0 i := arr_st r hi
theorem Rel_make {r : RS} {k : CS} {a : AS} {y : MS} (h : Rel r k a y) {c0 : Nat} (h1 : 0 < c0) (h2 : c0 ≤ 8) : Rel (arrF r c0) k a (mMake y c0) := by
  obtain ⟨⟨hB, hk0, ha0⟩, ⟨hM, mk0, ma0⟩, hp, hc, ⟨e_n, e_c, e_p, e_vb, e_ck, e_xx, e_yy, e_fl, e_rw, e_st⟩, hk, hs⟩ := h
  have hS := RB_srtF hB
  have hn : r.n ≤ 32 := hB.1
  have hmn : y.n ≤ 32 := hM.1
  obtain ⟨a1, a2, a3⟩ := srt_ok r r.n
  have hst : ∀ i, (arrF r c0).st i ≤ 32 := fun i => by
    show cpN (bg r.n c0) r.st (c0 + 1) i ≤ 32
    unfold cpN; split
    · exact Nat.le_trans (bg_le r.n h1 (by omega)) hn
    · exact hB.2.2.2.2.2.2.2.2.2.2.2 i
  have erw : mkR (toR y) y.n = srt r r.n := by
    rw [← mkR_srt r, e_n]; exact mkR_cong e_ck e_xx e_yy e_rw e_n r.n
  have est : cpN (bg y.n c0) y.st (c0 + 1) = cpN (bg r.n c0) r.st (c0 + 1) := by rw [e_n, e_st]
  have ech : ∀ j, (arrF r c0).ch j < 8 := chF_lt hB.2.2.2.2.2.2.2.2.2.2.1 h2
  have hB2 : RB (arrF r c0) := ⟨hS.1, h2, hS.2.2.1, hS.2.2.2.1, hS.2.2.2.2.1, hS.2.2.2.2.2.1, hS.2.2.2.2.2.2.1, hS.2.2.2.2.2.2.2.1, hS.2.2.2.2.2.2.2.2.1, hS.2.2.2.2.2.2.2.2.2.1, ech, hst⟩
  have hM2 : RB (toR (mMake y c0)) := by
    refine ⟨hM.1, h2, Nat.le_refl _, hM.2.2.2.1, hM.2.2.2.2.1, hM.2.2.2.2.2.1, hM.2.2.2.2.2.2.1, hM.2.2.2.2.2.2.2.1, hM.2.2.2.2.2.2.2.2.1, ?_, hM.2.2.2.2.2.2.2.2.2.2.1, ?_⟩
    · intro i; show mkR (toR y) y.n i < 32; rw [erw]; exact srt_lt hB hn i
    · intro i; show cpN (bg y.n c0) y.st (c0 + 1) i ≤ 32; rw [est]; exact hst i
  refine ⟨⟨hB2, hk0, ha0⟩, ⟨hM2, mk0, ma0⟩, ?_, ?_, ⟨e_n, rfl, e_n, e_vb, e_ck, e_xx, e_yy, e_fl, erw, est⟩, hk, hs⟩
  · have hpl : ∀ i, i < r.n → plc (srt r r.n) r.po r.n (srt r r.n i) = (i : Int) := plc_ok (fun i j hi hj e => srt_inj hi hj e) r.n (Nat.le_refl _)
    refine ⟨fun i hi => ⟨srt_n hi, hpl i hi⟩, fun t ht => ⟨rk r t r.n, rk_lt r ht, ?_, a1 t ht⟩, fun t ha hb => ?_⟩
    · have := hpl (rk r t r.n) (rk_lt r ht); rw [a1 t ht] at this; exact this
    · have ha' : r.n ≤ t := ha
      have hb' : t < r.n := hb
      omega
  · refine ⟨st_cut (Nat.zero_le _), (st_cut (Nat.le_refl _)).trans (bg_end r.n h1), fun i hi => ?_, fun i hi j q1 q2 => ?_⟩
    · have hi' : i < c0 := hi
      rw [st_cut (by omega), st_cut (by omega)]; exact bg_mono _ _ _
    · have hi' : i < c0 := hi
      rw [st_cut (by omega)] at q1
      rw [st_cut (by omega)] at q2
      exact chF_at r.n c0 r.ch hi' q1 q2
theorem Rel_set {r : RS} {k : CS} {a : AS} {y : MS} (h : Rel r k a y) (i : Nat) {f : Nat} (hf : f < 2) : Rel (r.s_fl (va_up r.fl i f)) k a ((y.s_th 0).s_fl (va_up y.fl i f)) := by
  obtain ⟨⟨⟨b_n, b_c, b_p, b_vb, b_ck, b_xx, b_yy, b_fl, b_po, b_rw, b_ch, b_st⟩, hk0, ha0⟩, ⟨⟨m_n, m_c, m_p, m_vb, m_ck, m_xx, m_yy, m_fl, m_po, m_rw, m_ch, m_st⟩, mk0, ma0⟩, hp, hc, ⟨e_n, e_c, e_p, e_vb, e_ck, e_xx, e_yy, e_fl, e_rw, e_st⟩, hk, hs⟩ := h
  exact ⟨⟨⟨b_n, b_c, b_p, b_vb, b_ck, b_xx, b_yy, up_lt b_fl hf _, b_po, b_rw, b_ch, b_st⟩, hk0, ha0⟩, ⟨⟨m_n, m_c, m_p, m_vb, m_ck, m_xx, m_yy, up_lt m_fl hf _, m_po, m_rw, m_ch, m_st⟩, mk0, ma0⟩, hp, hc, ⟨e_n, e_c, e_p, e_vb, e_ck, e_xx, e_yy, by show va_up y.fl i f = va_up r.fl i f; rw [e_fl], e_rw, e_st⟩, hk, hs⟩
theorem Rel_vb {r : RS} {k : CS} {a : AS} {y : MS} (h : Rel r k a y) {v : Nat → Nat} (hv : ∀ j, v j < 2) : Rel (r.s_vb v) k a ((y.s_th 0).s_vb v) :=
  ⟨⟨RB_vb h.1.1 hv, h.1.2⟩, MB_vb (MB_th h.2.1 0) hv, h.2.2.1, h.2.2.2.1, SR_vb h.2.2.2.2.1 v, h.2.2.2.2.2.1, h.2.2.2.2.2.2⟩
theorem Rel_load {r : RS} {k : CS} {a : AS} {y : MS} (h : Rel r k a y) (i : Nat) (v : Int32) : Rel (r.s_vb (va_up r.vb i (bitN v))) k a ((y.s_th 0).s_vb (va_up y.vb i (bitN v))) := by
  rw [h.2.2.2.2.1.2.2.2.1]; exact Rel_vb h (up_lt h.1.1.2.2.2.1 (bitN_lt v) _)
theorem Rel_shift {r : RS} {k : CS} {a : AS} {y : MS} (h : Rel r k a y) (bits : Int32) : (shC r bits r.c).1 = (msC y bits y.c).1 ∧ Rel (r.s_vb (shC r bits r.c).2) k a ((y.s_th 0).s_vb (msC y bits y.c).2) := by
  have e := shC_msC h.2.2.2.2.1 h.2.2.1 h.2.2.2.1 bits (i := r.c) (Nat.le_refl _)
  rw [h.2.2.2.2.1.2.1, ← e]
  exact ⟨rfl, Rel_vb h (shC_lt h.1.1.2.2.2.1 bits r.c)⟩
theorem Rel_port {r : RS} {k : CS} {a : AS} {y : MS} (h : Rel r k a y) {kd : Nat} (h1 : k.n < 20) (h2 : kd < 2) : Rel r ((k.s_ki (va_up k.ki k.n kd)).s_n (k.n + 1)) a (((y.s_th 0).s_ki (va_up y.ki y.cn kd)).s_cn (y.cn + 1)) := by
  obtain ⟨⟨hB, ⟨k1, k2, k3, k4, k5⟩, ha0⟩, ⟨hM, -, ma0⟩, hp, hc, hs, rfl, hA⟩ := h
  have h1' : y.cn < 20 := h1
  have q : CB (((toK y).s_ki (va_up (toK y).ki (toK y).n kd)).s_n ((toK y).n + 1)) := ⟨by show y.cn + 1 ≤ 20; omega, k2, up_lt k3 h2 _, k4, k5⟩
  exact ⟨⟨hB, q, ha0⟩, ⟨hM, q, ma0⟩, hp, hc, hs, rfl, hA⟩
theorem Rel_pin {r : RS} {k : CS} {a : AS} {y : MS} (h : Rel r k a y) (i : Nat) (v : Int32) : Rel r (k.s_pin (va_up k.pin i (bitN v))) a ((y.s_th 0).s_pin (va_up y.pin i (bitN v))) := by
  obtain ⟨⟨hB, ⟨k1, k2, k3, k4, k5⟩, ha0⟩, ⟨hM, -, ma0⟩, hp, hc, hs, rfl, hA⟩ := h
  have q : CB ((toK y).s_pin (va_up (toK y).pin i (bitN v))) := ⟨k1, up_lt k2 (bitN_lt v) _, k3, k4, k5⟩
  exact ⟨⟨hB, q, ha0⟩, ⟨hM, q, ma0⟩, hp, hc, hs, rfl, hA⟩
theorem Rel_imp {r : RS} {k : CS} {a : AS} {y : MS} (h : Rel r k a y) {n0 kq kq' : Nat} {u : RS} {u' : MS} (h1 : impR n0 r kq u) (h2 : mImpR n0 (y.s_th 0) kq' u') : kq = kq' ∧ u'.th = 0 ∧ Rel u k a u' := by
  obtain ⟨⟨hB, hk0, ha0⟩, hM, hp, hc, hs, hk, hA⟩ := h
  obtain ⟨w1, w2, w3, w4, w5, w6, w7⟩ := imp_eq n0 hB (MB_th hM 0) hp hc (show SR r (y.s_th 0) from hs) h1 h2
  have t0 := congrArg MS.th w7
  refine ⟨w1, t0, ⟨w2, hk0, ha0⟩, w3, w4, w5, w6, ?_, ?_⟩
  · have e0 := congrArg toK w7
    have e : toK u' = toK (y.s_th 0) := e0
    rw [e]; exact hk
  · obtain ⟨h1, h2, h3, h4, h5, h6⟩ := hA
    have gf1 := congrArg MS.sa w7
    have f1 : u'.sa = y.sa := gf1
    have gf2 := congrArg MS.co w7
    have f2 : u'.co = y.co := gf2
    have gf3 := congrArg MS.nu w7
    have f3 : u'.nu = y.nu := gf3
    have gf4 := congrArg MS.cr w7
    have f4 : u'.cr = y.cr := gf4
    have gf5 := congrArg MS.by_ w7
    have f5 : u'.by_ = y.by_ := gf5
    have gf6 := congrArg MS.nb w7
    have f6 : u'.nb = y.nb := gf6
    exact ⟨f1.trans h1, f2.trans h2, f3.trans h3, f4.trans h4, f5.trans h5, fun j hj => by rw [f6]; exact h6 j hj⟩
theorem Rel_go {r : RS} {k : CS} {a : AS} {y : MS} (h : Rel r k a y) {t : Nat} (ht : t < 16) : mtF t a.tk a.st = DT t y.sa ∧ Rel (goIt (r, k, a.s_tk (mtF t a.tk)) (mtF t a.tk a.st)).1 (goIt (r, k, a.s_tk (mtF t a.tk)) (mtF t a.tk a.st)).2.1 (goIt (r, k, a.s_tk (mtF t a.tk)) (mtF t a.tk a.st)).2.2 (mgoIt ((y.s_th 0).s_fa (mgF t y.fa)) (DT t y.sa)) := by
  have hs : a.st < 16 := h.1.2.2.1
  have e : mtF t a.tk a.st = DT t a.st := mtF_DT ht a.tk a.st hs
  have e2 : y.sa = a.st := h.2.2.2.2.2.2.1
  refine ⟨by rw [e, e2], ?_⟩
  rw [e, e2]
  exact (go_eq (a := a.s_tk (mtF t a.tk)) (y := (y.s_th 0).s_fa (mgF t y.fa)) ht (mtF_DT ht a.tk) (mgF_DT ht y.fa) (Rel_fa (Rel_th (Rel_tk h (mtF_le t h.1.2.2.2.2.2.2)) 0) _) (DT t a.st) (Nat.le_refl _)).1
theorem Rel_0 (nu : Int32) : Rel r0 k0 (a00 nu) (m00 nu) := by
  have hR : RB r0 := ⟨by decide, by decide, by decide, fun _ => by show (0 : Nat) < 2; decide, fun _ => by show (0 : Nat) < 4; decide, fun _ => by show (-1000 : Int) ≤ 0 ∧ (0 : Int) ≤ 1000; decide, fun _ => by show (-1000 : Int) ≤ 0 ∧ (0 : Int) ≤ 1000; decide, fun _ => by show (0 : Nat) < 2; decide, fun _ => by show (-1 : Int) ≤ 0 ∧ (0 : Int) < 32; decide, fun _ => by show (0 : Nat) < 32; decide, fun _ => by show (0 : Nat) < 8; decide, fun _ => by show (0 : Nat) ≤ 32; decide⟩
  have hC : CB k0 := ⟨by decide, fun _ => by show (0 : Nat) < 2; decide, fun _ => by show (0 : Nat) < 2; decide, fun _ => by show (0 : Nat) < 2; decide, fun _ => by show (0 : Nat) < 2; decide⟩
  refine ⟨⟨hR, hC, by show (0 : Nat) < 16; decide, by show (2 : Nat) < 16; decide, by show (0 : Nat) < 16; decide, by show (0 : Nat) < 2; decide, fun _ => by show (0 : Nat) ≤ 16; decide⟩, ⟨hR, hC, by show (0 : Nat) < 2; decide, by show (0 : Nat) < 16; decide, by show (2 : Nat) < 16; decide, by show (0 : Nat) < 16; decide, fun _ => by show (0 : Nat) < 2; decide⟩, ⟨fun i hi => absurd hi (Nat.not_lt_zero _), fun t ht => absurd ht (Nat.not_lt_zero _), fun t _ ht => absurd ht (Nat.not_lt_zero _)⟩, ⟨rfl, rfl, fun i hi => absurd hi (Nat.not_lt_zero _), fun i hi => absurd hi (Nat.not_lt_zero _)⟩, ⟨rfl, rfl, rfl, rfl, rfl, rfl, rfl, rfl, rfl, rfl⟩, rfl, rfl, rfl, rfl, rfl, rfl, fun j hj => ?_⟩
  show 0 = nbF (nI 0) j
  rw [nbF_bit _ hj]
  show 0 = 0 / 2 ^ (31 - j) % 2
  rw [Nat.zero_div]
/-! equal answers -/
theorem Rel_cnt {r : RS} {k : CS} {a : AS} {y : MS} (h : Rel r k a y) (w : Nat) : cntF r k a w = mCnt y w := by
  obtain ⟨-, -, -, -, hs, hk, hA⟩ := h
  unfold cntF mCnt
  have e1 : k.n = y.cn := by rw [← hk]
  have el : regLen a.co k.n r.p = mLen y := by
    unfold regLen mLen
    rw [e1, ← hA.2.1, ← hs.2.2.1]
    obtain ⟨m1, m2, m3⟩ := mReg_reg y.co y.cn y.p
    by_cases g1 : reg y.co y.cn y.p = 1
    · rw [if_pos g1, if_pos (m1.mp g1)]
    · rw [if_neg g1, if_neg (fun z => g1 (m1.mpr z))]
      by_cases g2 : reg y.co y.cn y.p = 2
      · rw [if_pos g2, if_pos (m2.mp g2)]
      · rw [if_neg g2, if_neg (fun z => g2 (m2.mpr z))]
        by_cases g3 : reg y.co y.cn y.p = 3
        · rw [if_pos g3, if_pos (m3.mp g3)]
        · rw [if_neg g3, if_neg (fun z => g3 (m3.mpr z))]
  rw [el, e1, hs.1, hs.2.1, hA.2.1]
theorem Rel_at {r : RS} {k : CS} {a : AS} {y : MS} (h : Rel r k a y) (c i : Nat) : atZ r c i = atZ (toR y) c i := by
  obtain ⟨e_n, e_c, e_p, e_vb, e_ck, e_xx, e_yy, e_fl, e_rw, e_st⟩ := h.2.2.2.2.1
  unfold atZ
  show _ = if i < y.st (c + 1) - y.st c then ((y.rw (y.st c + i) : Nat) : Int) else -1
  rw [e_rw, e_st]
theorem Rel_bd {r : RS} {k : CS} {a : AS} {y : MS} (h : Rel r k a y) (i : Nat) : drv k i (if a.co = 0 then 1 else 0) = drv (toK y) i (if y.co = 0 then 1 else 0) := by
  rw [h.2.2.2.2.2.1, h.2.2.2.2.2.2.2.1]
theorem Rel_tr {r : RS} {k : CS} {a : AS} {y : MS} (h : Rel r k a y) : lN (sumN (wb r) r.p) = (nI (trC y y.c)).toInt64 := by
  have e := tr_all h.2.2.2.1 h.2.2.2.2.1
  have b := trC_le h.2.1.1 y.c
  have c : y.c ≤ 8 := h.2.1.1.2.1
  rw [e] at b
  have b2 : y.c * 128000 ≤ 8 * 128000 := Nat.mul_le_mul_right _ c
  rw [e, nI_l (by omega)]
theorem mAct_th (y : MS) (b : Nat) : (mAct y b).2.th = y.th := by
  unfold mAct mCap mShD
  split
  · rfl
  · split
    · split
      · rfl
      · split
        · rfl
        · split <;> rfl
    · split
      · rfl
      · split
        · rfl
        · split
          · rfl
          · split <;> rfl
theorem mTick_th (y : MS) (m b : Nat) : (mTick y m b).2.th = y.th := mAct_th y b
theorem mgoIt_th (y : MS) (i : Nat) : (mgoIt y i).th = y.th := by
  induction i with
  | zero => rfl
  | succ i ih => exact (mTick_th _ _ _).trans ih
