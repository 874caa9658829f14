abbrev RS : Type := Nat × Nat × Nat × (Nat → Nat) × (Nat → Nat) × (Nat → Int) × (Nat → Int) × (Nat → Nat) × (Nat → Int) × (Nat → Nat) × (Nat → Nat) × (Nat → Nat)
abbrev RS.n (r : RS) : Nat := r.1
abbrev RS.c (r : RS) : Nat := r.2.1
abbrev RS.p (r : RS) : Nat := r.2.2.1
abbrev RS.vb (r : RS) : Nat → Nat := r.2.2.2.1
abbrev RS.ck (r : RS) : Nat → Nat := r.2.2.2.2.1
abbrev RS.xx (r : RS) : Nat → Int := r.2.2.2.2.2.1
abbrev RS.yy (r : RS) : Nat → Int := r.2.2.2.2.2.2.1
abbrev RS.fl (r : RS) : Nat → Nat := r.2.2.2.2.2.2.2.1
abbrev RS.po (r : RS) : Nat → Int := r.2.2.2.2.2.2.2.2.1
abbrev RS.rw (r : RS) : Nat → Nat := r.2.2.2.2.2.2.2.2.2.1
abbrev RS.ch (r : RS) : Nat → Nat := r.2.2.2.2.2.2.2.2.2.2.1
abbrev RS.st (r : RS) : Nat → Nat := r.2.2.2.2.2.2.2.2.2.2.2
abbrev RS.s_n (r : RS) (v : Nat) : RS := (v, r.2.1, r.2.2.1, r.2.2.2.1, r.2.2.2.2.1, r.2.2.2.2.2.1, r.2.2.2.2.2.2.1, r.2.2.2.2.2.2.2.1, r.2.2.2.2.2.2.2.2.1, r.2.2.2.2.2.2.2.2.2.1, r.2.2.2.2.2.2.2.2.2.2.1, r.2.2.2.2.2.2.2.2.2.2.2)
abbrev RS.s_c (r : RS) (v : Nat) : RS := (r.1, v, r.2.2.1, r.2.2.2.1, r.2.2.2.2.1, r.2.2.2.2.2.1, r.2.2.2.2.2.2.1, r.2.2.2.2.2.2.2.1, r.2.2.2.2.2.2.2.2.1, r.2.2.2.2.2.2.2.2.2.1, r.2.2.2.2.2.2.2.2.2.2.1, r.2.2.2.2.2.2.2.2.2.2.2)
abbrev RS.s_p (r : RS) (v : Nat) : RS := (r.1, r.2.1, v, r.2.2.2.1, r.2.2.2.2.1, r.2.2.2.2.2.1, r.2.2.2.2.2.2.1, r.2.2.2.2.2.2.2.1, r.2.2.2.2.2.2.2.2.1, r.2.2.2.2.2.2.2.2.2.1, r.2.2.2.2.2.2.2.2.2.2.1, r.2.2.2.2.2.2.2.2.2.2.2)
abbrev RS.s_vb (r : RS) (v : Nat → Nat) : RS := (r.1, r.2.1, r.2.2.1, v, r.2.2.2.2.1, r.2.2.2.2.2.1, r.2.2.2.2.2.2.1, r.2.2.2.2.2.2.2.1, r.2.2.2.2.2.2.2.2.1, r.2.2.2.2.2.2.2.2.2.1, r.2.2.2.2.2.2.2.2.2.2.1, r.2.2.2.2.2.2.2.2.2.2.2)
abbrev RS.s_ck (r : RS) (v : Nat → Nat) : RS := (r.1, r.2.1, r.2.2.1, r.2.2.2.1, v, r.2.2.2.2.2.1, r.2.2.2.2.2.2.1, r.2.2.2.2.2.2.2.1, r.2.2.2.2.2.2.2.2.1, r.2.2.2.2.2.2.2.2.2.1, r.2.2.2.2.2.2.2.2.2.2.1, r.2.2.2.2.2.2.2.2.2.2.2)
abbrev RS.s_xx (r : RS) (v : Nat → Int) : RS := (r.1, r.2.1, r.2.2.1, r.2.2.2.1, r.2.2.2.2.1, v, r.2.2.2.2.2.2.1, r.2.2.2.2.2.2.2.1, r.2.2.2.2.2.2.2.2.1, r.2.2.2.2.2.2.2.2.2.1, r.2.2.2.2.2.2.2.2.2.2.1, r.2.2.2.2.2.2.2.2.2.2.2)
abbrev RS.s_yy (r : RS) (v : Nat → Int) : RS := (r.1, r.2.1, r.2.2.1, r.2.2.2.1, r.2.2.2.2.1, r.2.2.2.2.2.1, v, r.2.2.2.2.2.2.2.1, r.2.2.2.2.2.2.2.2.1, r.2.2.2.2.2.2.2.2.2.1, r.2.2.2.2.2.2.2.2.2.2.1, r.2.2.2.2.2.2.2.2.2.2.2)
abbrev RS.s_fl (r : RS) (v : Nat → Nat) : RS := (r.1, r.2.1, r.2.2.1, r.2.2.2.1, r.2.2.2.2.1, r.2.2.2.2.2.1, r.2.2.2.2.2.2.1, v, r.2.2.2.2.2.2.2.2.1, r.2.2.2.2.2.2.2.2.2.1, r.2.2.2.2.2.2.2.2.2.2.1, r.2.2.2.2.2.2.2.2.2.2.2)
abbrev RS.s_po (r : RS) (v : Nat → Int) : RS := (r.1, r.2.1, r.2.2.1, r.2.2.2.1, r.2.2.2.2.1, r.2.2.2.2.2.1, r.2.2.2.2.2.2.1, r.2.2.2.2.2.2.2.1, v, r.2.2.2.2.2.2.2.2.2.1, r.2.2.2.2.2.2.2.2.2.2.1, r.2.2.2.2.2.2.2.2.2.2.2)
abbrev RS.s_rw (r : RS) (v : Nat → Nat) : RS := (r.1, r.2.1, r.2.2.1, r.2.2.2.1, r.2.2.2.2.1, r.2.2.2.2.2.1, r.2.2.2.2.2.2.1, r.2.2.2.2.2.2.2.1, r.2.2.2.2.2.2.2.2.1, v, r.2.2.2.2.2.2.2.2.2.2.1, r.2.2.2.2.2.2.2.2.2.2.2)
abbrev RS.s_ch (r : RS) (v : Nat → Nat) : RS := (r.1, r.2.1, r.2.2.1, r.2.2.2.1, r.2.2.2.2.1, r.2.2.2.2.2.1, r.2.2.2.2.2.2.1, r.2.2.2.2.2.2.2.1, r.2.2.2.2.2.2.2.2.1, r.2.2.2.2.2.2.2.2.2.1, v, r.2.2.2.2.2.2.2.2.2.2.2)
abbrev RS.s_st (r : RS) (v : Nat → Nat) : RS := (r.1, r.2.1, r.2.2.1, r.2.2.2.1, r.2.2.2.2.1, r.2.2.2.2.2.1, r.2.2.2.2.2.2.1, r.2.2.2.2.2.2.2.1, r.2.2.2.2.2.2.2.2.1, r.2.2.2.2.2.2.2.2.2.1, r.2.2.2.2.2.2.2.2.2.2.1, v)
abbrev CS : Type := Nat × (Nat → Nat) × (Nat → Nat) × (Nat → Nat) × (Nat → Nat)
abbrev CS.n (r : CS) : Nat := r.1
abbrev CS.pin (r : CS) : Nat → Nat := r.2.1
abbrev CS.ki (r : CS) : Nat → Nat := r.2.2.1
abbrev CS.he (r : CS) : Nat → Nat := r.2.2.2.1
abbrev CS.ir (r : CS) : Nat → Nat := r.2.2.2.2
abbrev CS.s_n (r : CS) (v : Nat) : CS := (v, r.2.1, r.2.2.1, r.2.2.2.1, r.2.2.2.2)
abbrev CS.s_pin (r : CS) (v : Nat → Nat) : CS := (r.1, v, r.2.2.1, r.2.2.2.1, r.2.2.2.2)
abbrev CS.s_ki (r : CS) (v : Nat → Nat) : CS := (r.1, r.2.1, v, r.2.2.2.1, r.2.2.2.2)
abbrev CS.s_he (r : CS) (v : Nat → Nat) : CS := (r.1, r.2.1, r.2.2.1, v, r.2.2.2.2)
abbrev CS.s_ir (r : CS) (v : Nat → Nat) : CS := (r.1, r.2.1, r.2.2.1, r.2.2.2.1, v)
abbrev AS : Type := Nat × Nat × Int32 × Nat × Int32 × Nat × (Nat → Nat)
abbrev AS.st (r : AS) : Nat := r.1
abbrev AS.co (r : AS) : Nat := r.2.1
abbrev AS.nu (r : AS) : Int32 := r.2.2.1
abbrev AS.cr (r : AS) : Nat := r.2.2.2.1
abbrev AS.nr (r : AS) : Int32 := r.2.2.2.2.1
abbrev AS.by_ (r : AS) : Nat := r.2.2.2.2.2.1
abbrev AS.tk (r : AS) : Nat → Nat := r.2.2.2.2.2.2
abbrev AS.s_st (r : AS) (v : Nat) : AS := (v, r.2.1, r.2.2.1, r.2.2.2.1, r.2.2.2.2.1, r.2.2.2.2.2.1, r.2.2.2.2.2.2)
abbrev AS.s_co (r : AS) (v : Nat) : AS := (r.1, v, r.2.2.1, r.2.2.2.1, r.2.2.2.2.1, r.2.2.2.2.2.1, r.2.2.2.2.2.2)
abbrev AS.s_nu (r : AS) (v : Int32) : AS := (r.1, r.2.1, v, r.2.2.2.1, r.2.2.2.2.1, r.2.2.2.2.2.1, r.2.2.2.2.2.2)
abbrev AS.s_cr (r : AS) (v : Nat) : AS := (r.1, r.2.1, r.2.2.1, v, r.2.2.2.2.1, r.2.2.2.2.2.1, r.2.2.2.2.2.2)
abbrev AS.s_nr (r : AS) (v : Int32) : AS := (r.1, r.2.1, r.2.2.1, r.2.2.2.1, v, r.2.2.2.2.2.1, r.2.2.2.2.2.2)
abbrev AS.s_by_ (r : AS) (v : Nat) : AS := (r.1, r.2.1, r.2.2.1, r.2.2.2.1, r.2.2.2.2.1, v, r.2.2.2.2.2.2)
abbrev AS.s_tk (r : AS) (v : Nat → Nat) : AS := (r.1, r.2.1, r.2.2.1, r.2.2.2.1, r.2.2.2.2.1, r.2.2.2.2.2.1, v)
/-- the cells of the class's objects: rows 0 .. 9, cells 10 .. 14, the port 15 and 16, the object itself 17 -/
abbrev wR (q : Nat → Nat) (cI cZ : ClassId) (r : RS) : va_W := [(q 0, .inr (2, [.int (nI (RS.n r)), .int (nI (RS.c r)), .int (nI (RS.p r)), .ref (q 1), .ref (q 2), .ref (q 3), .ref (q 4), .ref (q 5), .ref (q 6), .ref (q 7), .ref (q 8), .ref (q 9)])), (q 1, .inl (cI, 32, .inl (aN (RS.vb r)))), (q 2, .inl (cI, 32, .inl (aN (RS.ck r)))), (q 3, .inl (cI, 32, .inl (aZ (RS.xx r)))), (q 4, .inl (cI, 32, .inl (aZ (RS.yy r)))), (q 5, .inl (cZ, 32, .inl (aN (RS.fl r)))), (q 6, .inl (cI, 32, .inl (aZ (RS.po r)))), (q 7, .inl (cI, 32, .inl (aN (RS.rw r)))), (q 8, .inl (cI, 32, .inl (aN (RS.ch r)))), (q 9, .inl (cI, 9, .inl (aN (RS.st r))))]
abbrev wC (q : Nat → Nat) (cI : ClassId) (k : CS) : va_W := [(q 10, .inr (1, [.int (nI (CS.n k)), .ref (q 11), .ref (q 12), .ref (q 13), .ref (q 14)])), (q 11, .inl (cI, 20, .inl (aN (CS.pin k)))), (q 12, .inl (cI, 20, .inl (aN (CS.ki k)))), (q 13, .inl (cI, 20, .inl (aN (CS.he k)))), (q 14, .inl (cI, 20, .inl (aN (CS.ir k))))]
abbrev wA (q : Nat → Nat) (cI : ClassId) (a : AS) : va_W := [(q 15, .inr (0, [.int (nI (AS.st a)), .int (nI (AS.co a)), .int (AS.nu a), .ref (q 0), .ref (q 10), .int (nI (AS.cr a)), .int (AS.nr a), .int (nI (AS.by_ a)), .ref (q 16)])), (q 16, .inl (cI, 16, .inl (aN (AS.tk a))))]
abbrev wSf (q : Nat → Nat) : va_W := [(q 17, .inr (3, [.ref (q 0), .ref (q 10), .ref (q 15)]))]
abbrev wY (q : Nat → Nat) (cI cZ : ClassId) (r : RS) (k : CS) (a : AS) : va_W := [(q 0, .inr (2, [.int (nI (RS.n r)), .int (nI (RS.c r)), .int (nI (RS.p r)), .ref (q 1), .ref (q 2), .ref (q 3), .ref (q 4), .ref (q 5), .ref (q 6), .ref (q 7), .ref (q 8), .ref (q 9)])), (q 1, .inl (cI, 32, .inl (aN (RS.vb r)))), (q 2, .inl (cI, 32, .inl (aN (RS.ck r)))), (q 3, .inl (cI, 32, .inl (aZ (RS.xx r)))), (q 4, .inl (cI, 32, .inl (aZ (RS.yy r)))), (q 5, .inl (cZ, 32, .inl (aN (RS.fl r)))), (q 6, .inl (cI, 32, .inl (aZ (RS.po r)))), (q 7, .inl (cI, 32, .inl (aN (RS.rw r)))), (q 8, .inl (cI, 32, .inl (aN (RS.ch r)))), (q 9, .inl (cI, 9, .inl (aN (RS.st r)))), (q 10, .inr (1, [.int (nI (CS.n k)), .ref (q 11), .ref (q 12), .ref (q 13), .ref (q 14)])), (q 11, .inl (cI, 20, .inl (aN (CS.pin k)))), (q 12, .inl (cI, 20, .inl (aN (CS.ki k)))), (q 13, .inl (cI, 20, .inl (aN (CS.he k)))), (q 14, .inl (cI, 20, .inl (aN (CS.ir k)))), (q 15, .inr (0, [.int (nI (AS.st a)), .int (nI (AS.co a)), .int (AS.nu a), .ref (q 0), .ref (q 10), .int (nI (AS.cr a)), .int (AS.nr a), .int (nI (AS.by_ a)), .ref (q 16)])), (q 16, .inl (cI, 16, .inl (aN (AS.tk a))))]
abbrev wX (q : Nat → Nat) (cI cZ : ClassId) (r : RS) (k : CS) (a : AS) : va_W := [(q 0, .inr (2, [.int (nI (RS.n r)), .int (nI (RS.c r)), .int (nI (RS.p r)), .ref (q 1), .ref (q 2), .ref (q 3), .ref (q 4), .ref (q 5), .ref (q 6), .ref (q 7), .ref (q 8), .ref (q 9)])), (q 1, .inl (cI, 32, .inl (aN (RS.vb r)))), (q 2, .inl (cI, 32, .inl (aN (RS.ck r)))), (q 3, .inl (cI, 32, .inl (aZ (RS.xx r)))), (q 4, .inl (cI, 32, .inl (aZ (RS.yy r)))), (q 5, .inl (cZ, 32, .inl (aN (RS.fl r)))), (q 6, .inl (cI, 32, .inl (aZ (RS.po r)))), (q 7, .inl (cI, 32, .inl (aN (RS.rw r)))), (q 8, .inl (cI, 32, .inl (aN (RS.ch r)))), (q 9, .inl (cI, 9, .inl (aN (RS.st r)))), (q 10, .inr (1, [.int (nI (CS.n k)), .ref (q 11), .ref (q 12), .ref (q 13), .ref (q 14)])), (q 11, .inl (cI, 20, .inl (aN (CS.pin k)))), (q 12, .inl (cI, 20, .inl (aN (CS.ki k)))), (q 13, .inl (cI, 20, .inl (aN (CS.he k)))), (q 14, .inl (cI, 20, .inl (aN (CS.ir k)))), (q 15, .inr (0, [.int (nI (AS.st a)), .int (nI (AS.co a)), .int (AS.nu a), .ref (q 0), .ref (q 10), .int (nI (AS.cr a)), .int (AS.nr a), .int (nI (AS.by_ a)), .ref (q 16)])), (q 16, .inl (cI, 16, .inl (aN (AS.tk a)))), (q 17, .inr (3, [.ref (q 0), .ref (q 10), .ref (q 15)]))]
/-! What the class's methods do, in numbers. -/
def hnb (r : RS) (k : Nat) : Nat := if k + 1 < r.p ∧ r.ch k = r.ch (k + 1) then 1 else 0
def wb (r : RS) (k : Nat) : Nat := if k + 1 < r.p ∧ r.ch k = r.ch (k + 1) then (r.xx (r.rw k) - r.xx (r.rw (k + 1))).natAbs + (r.yy (r.rw k) - r.yy (r.rw (k + 1))).natAbs else 0
def wa (r : RS) (k : Nat) : Nat := (if k = 0 then 0 else wb r (k - 1)) + wb r k
def sumN (f : Nat → Nat) : Nat → Nat
  | 0 => 0
  | n + 1 => sumN f n + f n
/-- two places exchange their latches -/
def exch (r : RS) (a b : Nat) : RS :=
  let w := va_up (va_up r.rw a (r.rw b)) b (r.rw a)
  (r.s_rw w).s_po (va_up (va_up r.po (w a) (a : Int)) (w b) (b : Int))
/-- bounds that always hold -/
def RB (r : RS) : Prop := r.n ≤ 32 ∧ r.c ≤ 8 ∧ r.p ≤ r.n ∧ (∀ k, r.vb k < 2) ∧ (∀ k, r.ck k < 4) ∧ (∀ k, -1000 ≤ r.xx k ∧ r.xx k ≤ 1000) ∧ (∀ k, -1000 ≤ r.yy k ∧ r.yy k ≤ 1000) ∧ (∀ k, r.fl k < 2) ∧ (∀ k, -1 ≤ r.po k ∧ r.po k < 32) ∧ (∀ k, r.rw k < 32) ∧ (∀ k, r.ch k < 8) ∧ (∀ k, r.st k ≤ 32)
def hcN (v : Int32) (c : Nat) : Nat := if ¬ v < 0 ∧ v < nI c then 1 else 0
def ccb (r : RS) (k : Nat) : Nat := if (k + 1 < r.p ∧ r.ch k = r.ch (k + 1)) ∧ r.ck (r.rw k) ≠ r.ck (r.rw (k + 1)) then 1 else 0
def mayN (r : RS) (i j : Nat) : Nat := if r.ck i = r.ck j ∧ r.po i ≠ -1 ∧ r.po j ≠ -1 then 1 else 0
def brk (r : RS) (i j : Nat) : Nat := if j = 0 then r.fl i else if r.po i = -1 then 1 else 0
def addL (r : RS) (ck : Nat) (xx yy : Int) : RS := ((((r.s_ck (va_up r.ck r.n ck)).s_xx (va_up r.xx r.n xx)).s_yy (va_up r.yy r.n yy)).s_po (va_up r.po r.n (-1))).s_n (r.n + 1)
/-- k steps of a shift from place f on: what is carried, and the values -/
def shL (r : RS) (f b : Nat) : Nat → Nat × (Nat → Nat)
  | 0 => (b, r.vb)
  | k + 1 => ((shL r f b k).2 (r.rw (f + k)), va_up (shL r f b k).2 (r.rw (f + k)) (shL r f b k).1)
def shO (r : RS) (f t b : Nat) : Nat := if f < t then (shL r f b (t - f)).1 else 0
def shV (r : RS) (f t b : Nat) : Nat → Nat := if f < t then (shL r f b (t - f)).2 else r.vb
theorem shL_s (r : RS) (f b k : Nat) : shL r f b (k + 1) = ((shL r f b k).2 (r.rw (f + k)), va_up (shL r f b k).2 (r.rw (f + k)) (shL r f b k).1) := rfl
theorem shO_no {r : RS} {f t b : Nat} (h : ¬ f < t) : shO r f t b = 0 := if_neg h
theorem shV_no {r : RS} {f t b : Nat} (h : ¬ f < t) : shV r f t b = r.vb := if_neg h
theorem shO_yes {r : RS} {f t b : Nat} (h : f < t) : shO r f t b = (shL r f b (t - f)).1 := if_pos h
theorem shV_yes {r : RS} {f t b : Nat} (h : f < t) : shV r f t b = (shL r f b (t - f)).2 := if_pos h
theorem hnb_le (r : RS) (k : Nat) : hnb r k ≤ 1 := by unfold hnb; split <;> omega
theorem hnb_pos {r : RS} {k : Nat} (h : 0 < hnb r k) : k + 1 < r.p ∧ r.ch k = r.ch (k + 1) := by
  unfold hnb at h
  split at h
  · assumption
  · exact absurd h (Nat.lt_irrefl 0)
theorem hnb_one {r : RS} {k : Nat} (h : k + 1 < r.p ∧ r.ch k = r.ch (k + 1)) : hnb r k = 1 := if_pos h
theorem wb_yes {r : RS} {k : Nat} (h : k + 1 < r.p ∧ r.ch k = r.ch (k + 1)) : wb r k = (r.xx (r.rw k) - r.xx (r.rw (k + 1))).natAbs + (r.yy (r.rw k) - r.yy (r.rw (k + 1))).natAbs := if_pos h
theorem wb_no {r : RS} {k : Nat} (h : hnb r k = 0) : wb r k = 0 := if_neg (fun q => by rw [hnb_one q] at h; cases h)
theorem up_lt {g : Nat → Nat} {m : Nat} (h : ∀ k, g k < m) {v : Nat} (hv : v < m) (i : Nat) : ∀ k, va_up g i v k < m := by
  intro k; unfold va_up; split
  · exact hv
  · exact h k
theorem abs_zI {z : Int} (h1 : -1073741824 ≤ z) (h2 : z ≤ 1073741824) : (if (0 : Int32) ≤ zI z then zI z else 0 - zI z) = nI z.natAbs := by
  have e0 : (0 : Int32) = zI 0 := rfl
  by_cases h : 0 ≤ z
  · rw [e0, if_pos ((zI_le (by decide) (by decide) (by omega) (by omega)).mpr h), ← zI_nI, Int.natAbs_of_nonneg h]
  · rw [e0, if_neg (fun q => h ((zI_le (by decide) (by decide) (by omega) (by omega)).mp q)), zI_sub, ← zI_nI]
    congr 1
    omega
theorem nar01 {f : Nat} (h : f < 2) : vp_nar .boolean (nI f) = nI f := by
  rcases (show f = 0 ∨ f = 1 by omega) with rfl | rfl <;> decide
/-- the first n of f, then g -/
def cpN (f g : Nat → Nat) (n : Nat) : Nat → Nat := fun j => if j < n then f j else g j
theorem cpN_0 (f g : Nat → Nat) : cpN f g 0 = g := by funext j; simp [cpN]
theorem cpN_s (f g : Nat → Nat) (i : Nat) : va_up (cpN f g i) i (f i) = cpN f g (i + 1) := by
  funext j; unfold va_up cpN
  by_cases h : j = i
  · subst h; simp
  · rw [if_neg h]; by_cases h2 : j < i
    · rw [if_pos h2, if_pos (by omega)]
    · rw [if_neg h2, if_neg (by omega)]
/-- a row of bits that shifts by one: what goes out of its first n, and the row -/
def srO (g : Nat → Nat) (b n : Nat) : Nat := if n = 0 then b else g (n - 1)
def srV (g : Nat → Nat) (b n : Nat) : Nat → Nat := fun j => if j < n then (if j = 0 then b else g (j - 1)) else g j
theorem srV_0 (g : Nat → Nat) (b : Nat) : srV g b 0 = g := by funext j; simp [srV]
theorem srV_at (g : Nat → Nat) (b i : Nat) : srV g b i i = srO g b (i + 1) := by simp [srV, srO]
theorem srV_s (g : Nat → Nat) (b i : Nat) : va_up (srV g b i) i (srO g b i) = srV g b (i + 1) := by
  funext j; unfold va_up srV srO
  by_cases h : j = i
  · subst h; simp
  · rw [if_neg h]; by_cases h2 : j < i
    · rw [if_pos h2, if_pos (show j < i + 1 by omega)]
    · rw [if_neg h2, if_neg (show ¬ j < i + 1 by omega)]
def drv (k : CS) (i h : Nat) : Nat := if h = 1 ∧ k.ki i = 1 then k.he i else k.pin i
def CB (k : CS) : Prop := k.n ≤ 20 ∧ (∀ i, k.pin i < 2) ∧ (∀ i, k.ki i < 2) ∧ (∀ i, k.he i < 2) ∧ (∀ i, k.ir i < 2)
theorem aZ_upN (g : Nat → Int) (k v : Nat) : upd (aZ g) k (nI v) = aZ (va_up g k (v : Int)) := by rw [← zI_nI]; exact aZ_up _ _ _
theorem nar01v {f : Nat} (h : f < 2) : narrow .boolean (.int (nI f)) = .int (nI f) := by
  rcases (show f = 0 ∨ f = 1 by omega) with rfl | rfl <;> rfl
/-- which register the code names: 1 cells, 2 number, 3 chains, 0 bypass -/
def reg (co n p : Nat) : Nat := if co = 0 ∨ co = 1 then (if 0 < n then 1 else 0) else if co = 2 then 2 else if co = 3 ∧ 0 < p then 3 else 0
theorem reg_lt (co n p : Nat) : reg co n p < 4 := by unfold reg; split <;> (try split) <;> (try split) <;> omega
def regLen (co n p : Nat) : Nat := if reg co n p = 1 then n else if reg co n p = 2 then 32 else if reg co n p = 3 then p else 1
def nrS (x : Int32) (b : Nat) : Int32 := (x.toUInt32 >>> ((nI 1).toUInt32 &&& Int32.toUInt32 31)).toInt32 ||| (nI b <<< (nI 31 &&& 31))
theorem cr_and {c : Nat} (h : c < 16) : nI c &&& nI 1 = nI (c % 2) := by
  have : ∀ c, c < 16 → nI c &&& nI 1 = nI (c % 2) := by decide +kernel
  exact this c h
theorem cr_sh {c b : Nat} (h : c < 16) (hb : b < 2) : ((nI c).toUInt32 >>> ((nI 1).toUInt32 &&& Int32.toUInt32 31)).toInt32 ||| (nI b <<< (nI 3 &&& 31)) = nI (c / 2 + b * 8) := by
  have : ∀ c, c < 16 → ∀ b, b < 2 → ((nI c).toUInt32 >>> ((nI 1).toUInt32 &&& Int32.toUInt32 31)).toInt32 ||| (nI b <<< (nI 3 &&& 31)) = nI (c / 2 + b * 8) := by decide +kernel
  exact this c h b hb
/-! the port -/
def NXl : List Nat := [1, 0, 1, 2, 3, 9, 4, 5, 4, 5, 6, 8, 6, 7, 4, 8, 1, 2, 10, 0, 11, 12, 11, 12, 13, 15, 13, 14, 11, 15, 1, 2]
def NX (k : Nat) : Nat := NXl.getD k 0
theorem NX_lt (k : Nat) : NX k < 16 := by
  by_cases h : k < 32
  · have : ∀ k, k < 32 → NX k < 16 := by decide +kernel
    exact this k h
  · unfold NX; rw [List.getD_eq_getElem?_getD, List.getElem?_eq_none (by show NXl.length ≤ k; have : NXl.length = 32 := rfl; omega)]; decide
def eN (tN : Nat) (A : Nat → Prop) : State → Heap → Prop := fun U H => va_Z "ScanRows$Access" "NEXT" "[I" (.ref tN) A U H ∧ va_T .int tN 32 (fun j => .int (nI (NX j))) A U H
theorem eN_M (tN : Nat) (A : Nat → Prop) : eM (eN tN A) := fun _ _ _ h q => ⟨va_Z.moved h q.1, va_T.moved h q.2⟩
theorem eN_kn {tN : Nat} {A B : Nat → Prop} {s : State} {H0 H : Heap} {locs : List Loc} (h : eN tN A s H0) (hS : va_S A H0 H locs) (hAB : ∀ q, B q → A q) : eN tN B s H := ⟨(h.1.kept hS.2.1).narrow hAB, (h.2.kept hS.2.1).narrow hAB⟩
def nbit (x : Int32) : Nat := x.toBitVec.toNat % 2
theorem nbit_and (x : Int32) : x &&& nI 1 = nI (nbit x) := pk_and x 1 (by decide)
theorem nbit_lt (x : Int32) : nbit x < 2 := Nat.mod_lt _ (by decide)
theorem min_nI {x y : Nat} (h1 : x < 2 ^ 31) (h2 : y < 2 ^ 31) : (if nI y < nI x then nI y else nI x) = nI (min x y) := by
  by_cases h : y < x
  · rw [if_pos ((nI_ltI h2 h1).mpr h), Nat.min_eq_right (by omega)]
  · rw [if_neg (fun q => h ((nI_ltI h2 h1).mp q)), Nat.min_eq_left (by omega)]
def tk0 (goal j : Nat) : Nat := if j = goal then 0 else 16
def mtS (g : Nat → Nat) (i : Nat) : Nat → Nat := va_up g i (min (g i) (min (g (NX (2 * i))) (g (NX (2 * i + 1))) + 1))
def mtI (g : Nat → Nat) : Nat → (Nat → Nat)
  | 0 => g
  | n + 1 => mtS (mtI g n) n
def mtO (g : Nat → Nat) : Nat → (Nat → Nat)
  | 0 => g
  | n + 1 => mtI (mtO g n) 16
def mtF (goal : Nat) (g : Nat → Nat) : Nat → Nat := mtO (cpN (tk0 goal) g 16) 16
theorem tk0_le (goal j : Nat) : tk0 goal j ≤ 16 := by unfold tk0; split <;> omega
theorem cpN_le {f g : Nat → Nat} {m : Nat} (hf : ∀ j, f j ≤ m) (hg : ∀ j, g j ≤ m) (n : Nat) : ∀ j, cpN f g n j ≤ m := by
  intro j; unfold cpN; split
  · exact hf j
  · exact hg j
theorem mtS_le {g : Nat → Nat} (h : ∀ j, g j ≤ 16) (i : Nat) : ∀ j, mtS g i j ≤ 16 := by
  intro j; unfold mtS va_up; split
  · exact Nat.le_trans (Nat.min_le_left _ _) (h i)
  · exact h j
theorem mtI_le {g : Nat → Nat} (h : ∀ j, g j ≤ 16) (n : Nat) : ∀ j, mtI g n j ≤ 16 := by
  induction n with
  | zero => exact h
  | succ n ih => exact mtS_le ih n
theorem mtO_le {g : Nat → Nat} (h : ∀ j, g j ≤ 16) (n : Nat) : ∀ j, mtO g n j ≤ 16 := by
  induction n with
  | zero => exact h
  | succ n ih => exact mtI_le ih 16
def capD (r : RS) (k : CS) (a : AS) : RS × CS × AS := if reg a.co k.n r.p = 1 then (r, k.s_ir (cpN k.pin k.ir k.n), a) else if reg a.co k.n r.p = 2 then (r, k, a.s_nr a.nu) else if reg a.co k.n r.p = 3 then (r, k, a) else (r, k, a.s_by_ 0)
def shfD (r : RS) (k : CS) (a : AS) (b : Nat) : Nat × (RS × CS × AS) := if reg a.co k.n r.p = 1 then (srO k.ir b k.n, (r, k.s_ir (srV k.ir b k.n), a)) else if reg a.co k.n r.p = 2 then (nbit a.nr, (r, k, a.s_nr (nrS a.nr b))) else if reg a.co k.n r.p = 3 then (shO r 0 r.p b, (r.s_vb (shV r 0 r.p b), k, a)) else (a.by_, (r, k, a.s_by_ b))
def updD (r : RS) (k : CS) (a : AS) : RS × CS × AS := if reg a.co k.n r.p = 1 then (r, k.s_he (cpN k.ir k.he k.n), a) else (r, k, a)
def actF (r : RS) (k : CS) (a : AS) (b : Nat) : Int × (RS × CS × AS) :=
  if a.st = 3 then (-1, capD r k a) else if a.st = 4 then (((shfD r k a b).1 : Int), (shfD r k a b).2) else if a.st = 8 then (-1, updD r k a) else if a.st = 10 then (-1, (r, k, a.s_cr 1)) else if a.st = 11 then (((a.cr % 2 : Nat) : Int), (r, k, a.s_cr (a.cr / 2 + b * 8))) else if a.st = 15 then (-1, (r, k, a.s_co a.cr)) else (-1, (r, k, a))
def stepA (a : AS) (m : Nat) : AS := if NX (2 * a.st + m) = 0 then (a.s_st (NX (2 * a.st + m))).s_co 2 else a.s_st (NX (2 * a.st + m))
def stepF (r : RS) (k : CS) (a : AS) (m b : Nat) : Int × (RS × CS × AS) := ((actF r k a b).1, ((actF r k a b).2.1, (actF r k a b).2.2.1, stepA (actF r k a b).2.2.2 m))
def smode (a : AS) : Nat := if a.tk (NX (2 * a.st)) < a.tk a.st then 0 else 1
def AB (a : AS) : Prop := a.st < 16 ∧ a.co < 16 ∧ a.cr < 16 ∧ a.by_ < 2 ∧ ∀ j, a.tk j ≤ 16
def YB (y : RS × CS × AS) : Prop := RB y.1 ∧ CB y.2.1 ∧ AB y.2.2
def goIt (y : RS × CS × AS) : Nat → RS × CS × AS
  | 0 => y
  | i + 1 => (stepF (goIt y i).1 (goIt y i).2.1 (goIt y i).2.2 (smode (goIt y i).2.2) 0).2
theorem capD_st (r : RS) (k : CS) (a : AS) : (capD r k a).2.2.st = a.st := by unfold capD; split <;> (try split) <;> (try split) <;> rfl
theorem shfD_st (r : RS) (k : CS) (a : AS) (b : Nat) : (shfD r k a b).2.2.2.st = a.st := by unfold shfD; split <;> (try split) <;> (try split) <;> rfl
theorem updD_st (r : RS) (k : CS) (a : AS) : (updD r k a).2.2.st = a.st := by unfold updD; split <;> rfl
theorem actF_st (r : RS) (k : CS) (a : AS) (b : Nat) : (actF r k a b).2.2.2.st = a.st := by
  unfold actF
  split
  · exact capD_st r k a
  · split
    · exact shfD_st r k a b
    · split
      · exact updD_st r k a
      · split <;> (try split) <;> (try split) <;> rfl
