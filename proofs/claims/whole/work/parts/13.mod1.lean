abbrev MS : Type := Nat × Int32 × (Nat → Nat) × (Nat → Int) × (Nat → Int) × (Nat → Nat) × (Nat → Nat) × Nat × (Nat → Nat) × Nat × (Nat → Nat) × Nat × (Nat → Nat) × (Nat → Nat) × (Nat → Nat) × (Nat → Nat) × Nat × (Nat → Nat) × Nat × Nat × Nat × Nat × (Nat → Nat)
abbrev MS.th (r : MS) : Nat := r.1
abbrev MS.nu (r : MS) : Int32 := r.2.1
abbrev MS.ck (r : MS) : Nat → Nat := r.2.2.1
abbrev MS.xx (r : MS) : Nat → Int := r.2.2.2.1
abbrev MS.yy (r : MS) : Nat → Int := r.2.2.2.2.1
abbrev MS.vb (r : MS) : Nat → Nat := r.2.2.2.2.2.1
abbrev MS.fl (r : MS) : Nat → Nat := r.2.2.2.2.2.2.1
abbrev MS.n (r : MS) : Nat := r.2.2.2.2.2.2.2.1
abbrev MS.rw (r : MS) : Nat → Nat := r.2.2.2.2.2.2.2.2.1
abbrev MS.p (r : MS) : Nat := r.2.2.2.2.2.2.2.2.2.1
abbrev MS.st (r : MS) : Nat → Nat := r.2.2.2.2.2.2.2.2.2.2.1
abbrev MS.c (r : MS) : Nat := r.2.2.2.2.2.2.2.2.2.2.2.1
abbrev MS.ki (r : MS) : Nat → Nat := r.2.2.2.2.2.2.2.2.2.2.2.2.1
abbrev MS.pin (r : MS) : Nat → Nat := r.2.2.2.2.2.2.2.2.2.2.2.2.2.1
abbrev MS.he (r : MS) : Nat → Nat := r.2.2.2.2.2.2.2.2.2.2.2.2.2.2.1
abbrev MS.ir (r : MS) : Nat → Nat := r.2.2.2.2.2.2.2.2.2.2.2.2.2.2.2.1
abbrev MS.cn (r : MS) : Nat := r.2.2.2.2.2.2.2.2.2.2.2.2.2.2.2.2.1
abbrev MS.nb (r : MS) : Nat → Nat := r.2.2.2.2.2.2.2.2.2.2.2.2.2.2.2.2.2.1
abbrev MS.by_ (r : MS) : Nat := r.2.2.2.2.2.2.2.2.2.2.2.2.2.2.2.2.2.2.1
abbrev MS.cr (r : MS) : Nat := r.2.2.2.2.2.2.2.2.2.2.2.2.2.2.2.2.2.2.2.1
abbrev MS.co (r : MS) : Nat := r.2.2.2.2.2.2.2.2.2.2.2.2.2.2.2.2.2.2.2.2.1
abbrev MS.sa (r : MS) : Nat := r.2.2.2.2.2.2.2.2.2.2.2.2.2.2.2.2.2.2.2.2.2.1
abbrev MS.fa (r : MS) : Nat → Nat := r.2.2.2.2.2.2.2.2.2.2.2.2.2.2.2.2.2.2.2.2.2.2
abbrev MS.s_th (r : MS) (v : Nat) : MS := (v, r.2.1, r.2.2.1, r.2.2.2.1, r.2.2.2.2.1, r.2.2.2.2.2.1, r.2.2.2.2.2.2.1, r.2.2.2.2.2.2.2.1, r.2.2.2.2.2.2.2.2.1, r.2.2.2.2.2.2.2.2.2.1, r.2.2.2.2.2.2.2.2.2.2.1, r.2.2.2.2.2.2.2.2.2.2.2.1, r.2.2.2.2.2.2.2.2.2.2.2.2.1, r.2.2.2.2.2.2.2.2.2.2.2.2.2.1, r.2.2.2.2.2.2.2.2.2.2.2.2.2.2.1, r.2.2.2.2.2.2.2.2.2.2.2.2.2.2.2.1, r.2.2.2.2.2.2.2.2.2.2.2.2.2.2.2.2.1, r.2.2.2.2.2.2.2.2.2.2.2.2.2.2.2.2.2.1, r.2.2.2.2.2.2.2.2.2.2.2.2.2.2.2.2.2.2.1, r.2.2.2.2.2.2.2.2.2.2.2.2.2.2.2.2.2.2.2.1, r.2.2.2.2.2.2.2.2.2.2.2.2.2.2.2.2.2.2.2.2.1, r.2.2.2.2.2.2.2.2.2.2.2.2.2.2.2.2.2.2.2.2.2.1, r.2.2.2.2.2.2.2.2.2.2.2.2.2.2.2.2.2.2.2.2.2.2)
abbrev MS.s_nu (r : MS) (v : Int32) : MS := (r.1, v, r.2.2.1, r.2.2.2.1, r.2.2.2.2.1, r.2.2.2.2.2.1, r.2.2.2.2.2.2.1, r.2.2.2.2.2.2.2.1, r.2.2.2.2.2.2.2.2.1, r.2.2.2.2.2.2.2.2.2.1, r.2.2.2.2.2.2.2.2.2.2.1, r.2.2.2.2.2.2.2.2.2.2.2.1, r.2.2.2.2.2.2.2.2.2.2.2.2.1, r.2.2.2.2.2.2.2.2.2.2.2.2.2.1, r.2.2.2.2.2.2.2.2.2.2.2.2.2.2.1, r.2.2.2.2.2.2.2.2.2.2.2.2.2.2.2.1, r.2.2.2.2.2.2.2.2.2.2.2.2.2.2.2.2.1, r.2.2.2.2.2.2.2.2.2.2.2.2.2.2.2.2.2.1, r.2.2.2.2.2.2.2.2.2.2.2.2.2.2.2.2.2.2.1, r.2.2.2.2.2.2.2.2.2.2.2.2.2.2.2.2.2.2.2.1, r.2.2.2.2.2.2.2.2.2.2.2.2.2.2.2.2.2.2.2.2.1, r.2.2.2.2.2.2.2.2.2.2.2.2.2.2.2.2.2.2.2.2.2.1, r.2.2.2.2.2.2.2.2.2.2.2.2.2.2.2.2.2.2.2.2.2.2)
abbrev MS.s_ck (r : MS) (v : Nat → Nat) : MS := (r.1, r.2.1, v, r.2.2.2.1, r.2.2.2.2.1, r.2.2.2.2.2.1, r.2.2.2.2.2.2.1, r.2.2.2.2.2.2.2.1, r.2.2.2.2.2.2.2.2.1, r.2.2.2.2.2.2.2.2.2.1, r.2.2.2.2.2.2.2.2.2.2.1, r.2.2.2.2.2.2.2.2.2.2.2.1, r.2.2.2.2.2.2.2.2.2.2.2.2.1, r.2.2.2.2.2.2.2.2.2.2.2.2.2.1, r.2.2.2.2.2.2.2.2.2.2.2.2.2.2.1, r.2.2.2.2.2.2.2.2.2.2.2.2.2.2.2.1, r.2.2.2.2.2.2.2.2.2.2.2.2.2.2.2.2.1, r.2.2.2.2.2.2.2.2.2.2.2.2.2.2.2.2.2.1, r.2.2.2.2.2.2.2.2.2.2.2.2.2.2.2.2.2.2.1, r.2.2.2.2.2.2.2.2.2.2.2.2.2.2.2.2.2.2.2.1, r.2.2.2.2.2.2.2.2.2.2.2.2.2.2.2.2.2.2.2.2.1, r.2.2.2.2.2.2.2.2.2.2.2.2.2.2.2.2.2.2.2.2.2.1, r.2.2.2.2.2.2.2.2.2.2.2.2.2.2.2.2.2.2.2.2.2.2)
abbrev MS.s_xx (r : MS) (v : Nat → Int) : MS := (r.1, r.2.1, r.2.2.1, v, r.2.2.2.2.1, r.2.2.2.2.2.1, r.2.2.2.2.2.2.1, r.2.2.2.2.2.2.2.1, r.2.2.2.2.2.2.2.2.1, r.2.2.2.2.2.2.2.2.2.1, r.2.2.2.2.2.2.2.2.2.2.1, r.2.2.2.2.2.2.2.2.2.2.2.1, r.2.2.2.2.2.2.2.2.2.2.2.2.1, r.2.2.2.2.2.2.2.2.2.2.2.2.2.1, r.2.2.2.2.2.2.2.2.2.2.2.2.2.2.1, r.2.2.2.2.2.2.2.2.2.2.2.2.2.2.2.1, r.2.2.2.2.2.2.2.2.2.2.2.2.2.2.2.2.1, r.2.2.2.2.2.2.2.2.2.2.2.2.2.2.2.2.2.1, r.2.2.2.2.2.2.2.2.2.2.2.2.2.2.2.2.2.2.1, r.2.2.2.2.2.2.2.2.2.2.2.2.2.2.2.2.2.2.2.1, r.2.2.2.2.2.2.2.2.2.2.2.2.2.2.2.2.2.2.2.2.1, r.2.2.2.2.2.2.2.2.2.2.2.2.2.2.2.2.2.2.2.2.2.1, r.2.2.2.2.2.2.2.2.2.2.2.2.2.2.2.2.2.2.2.2.2.2)
abbrev MS.s_yy (r : MS) (v : Nat → Int) : MS := (r.1, r.2.1, r.2.2.1, r.2.2.2.1, v, r.2.2.2.2.2.1, r.2.2.2.2.2.2.1, r.2.2.2.2.2.2.2.1, r.2.2.2.2.2.2.2.2.1, r.2.2.2.2.2.2.2.2.2.1, r.2.2.2.2.2.2.2.2.2.2.1, r.2.2.2.2.2.2.2.2.2.2.2.1, r.2.2.2.2.2.2.2.2.2.2.2.2.1, r.2.2.2.2.2.2.2.2.2.2.2.2.2.1, r.2.2.2.2.2.2.2.2.2.2.2.2.2.2.1, r.2.2.2.2.2.2.2.2.2.2.2.2.2.2.2.1, r.2.2.2.2.2.2.2.2.2.2.2.2.2.2.2.2.1, r.2.2.2.2.2.2.2.2.2.2.2.2.2.2.2.2.2.1, r.2.2.2.2.2.2.2.2.2.2.2.2.2.2.2.2.2.2.1, r.2.2.2.2.2.2.2.2.2.2.2.2.2.2.2.2.2.2.2.1, r.2.2.2.2.2.2.2.2.2.2.2.2.2.2.2.2.2.2.2.2.1, r.2.2.2.2.2.2.2.2.2.2.2.2.2.2.2.2.2.2.2.2.2.1, r.2.2.2.2.2.2.2.2.2.2.2.2.2.2.2.2.2.2.2.2.2.2)
abbrev MS.s_vb (r : MS) (v : Nat → Nat) : MS := (r.1, r.2.1, r.2.2.1, r.2.2.2.1, r.2.2.2.2.1, v, r.2.2.2.2.2.2.1, r.2.2.2.2.2.2.2.1, r.2.2.2.2.2.2.2.2.1, r.2.2.2.2.2.2.2.2.2.1, r.2.2.2.2.2.2.2.2.2.2.1, r.2.2.2.2.2.2.2.2.2.2.2.1, r.2.2.2.2.2.2.2.2.2.2.2.2.1, r.2.2.2.2.2.2.2.2.2.2.2.2.2.1, r.2.2.2.2.2.2.2.2.2.2.2.2.2.2.1, r.2.2.2.2.2.2.2.2.2.2.2.2.2.2.2.1, r.2.2.2.2.2.2.2.2.2.2.2.2.2.2.2.2.1, r.2.2.2.2.2.2.2.2.2.2.2.2.2.2.2.2.2.1, r.2.2.2.2.2.2.2.2.2.2.2.2.2.2.2.2.2.2.1, r.2.2.2.2.2.2.2.2.2.2.2.2.2.2.2.2.2.2.2.1, r.2.2.2.2.2.2.2.2.2.2.2.2.2.2.2.2.2.2.2.2.1, r.2.2.2.2.2.2.2.2.2.2.2.2.2.2.2.2.2.2.2.2.2.1, r.2.2.2.2.2.2.2.2.2.2.2.2.2.2.2.2.2.2.2.2.2.2)
abbrev MS.s_fl (r : MS) (v : Nat → Nat) : MS := (r.1, r.2.1, r.2.2.1, r.2.2.2.1, r.2.2.2.2.1, r.2.2.2.2.2.1, v, r.2.2.2.2.2.2.2.1, r.2.2.2.2.2.2.2.2.1, r.2.2.2.2.2.2.2.2.2.1, r.2.2.2.2.2.2.2.2.2.2.1, r.2.2.2.2.2.2.2.2.2.2.2.1, r.2.2.2.2.2.2.2.2.2.2.2.2.1, r.2.2.2.2.2.2.2.2.2.2.2.2.2.1, r.2.2.2.2.2.2.2.2.2.2.2.2.2.2.1, r.2.2.2.2.2.2.2.2.2.2.2.2.2.2.2.1, r.2.2.2.2.2.2.2.2.2.2.2.2.2.2.2.2.1, r.2.2.2.2.2.2.2.2.2.2.2.2.2.2.2.2.2.1, r.2.2.2.2.2.2.2.2.2.2.2.2.2.2.2.2.2.2.1, r.2.2.2.2.2.2.2.2.2.2.2.2.2.2.2.2.2.2.2.1, r.2.2.2.2.2.2.2.2.2.2.2.2.2.2.2.2.2.2.2.2.1, r.2.2.2.2.2.2.2.2.2.2.2.2.2.2.2.2.2.2.2.2.2.1, r.2.2.2.2.2.2.2.2.2.2.2.2.2.2.2.2.2.2.2.2.2.2)
abbrev MS.s_n (r : MS) (v : Nat) : MS := (r.1, r.2.1, r.2.2.1, r.2.2.2.1, r.2.2.2.2.1, r.2.2.2.2.2.1, r.2.2.2.2.2.2.1, v, r.2.2.2.2.2.2.2.2.1, r.2.2.2.2.2.2.2.2.2.1, r.2.2.2.2.2.2.2.2.2.2.1, r.2.2.2.2.2.2.2.2.2.2.2.1, r.2.2.2.2.2.2.2.2.2.2.2.2.1, r.2.2.2.2.2.2.2.2.2.2.2.2.2.1, r.2.2.2.2.2.2.2.2.2.2.2.2.2.2.1, r.2.2.2.2.2.2.2.2.2.2.2.2.2.2.2.1, r.2.2.2.2.2.2.2.2.2.2.2.2.2.2.2.2.1, r.2.2.2.2.2.2.2.2.2.2.2.2.2.2.2.2.2.1, r.2.2.2.2.2.2.2.2.2.2.2.2.2.2.2.2.2.2.1, r.2.2.2.2.2.2.2.2.2.2.2.2.2.2.2.2.2.2.2.1, r.2.2.2.2.2.2.2.2.2.2.2.2.2.2.2.2.2.2.2.2.1, r.2.2.2.2.2.2.2.2.2.2.2.2.2.2.2.2.2.2.2.2.2.1, r.2.2.2.2.2.2.2.2.2.2.2.2.2.2.2.2.2.2.2.2.2.2)
abbrev MS.s_rw (r : MS) (v : Nat → Nat) : MS := (r.1, r.2.1, r.2.2.1, r.2.2.2.1, r.2.2.2.2.1, r.2.2.2.2.2.1, r.2.2.2.2.2.2.1, r.2.2.2.2.2.2.2.1, v, r.2.2.2.2.2.2.2.2.2.1, r.2.2.2.2.2.2.2.2.2.2.1, r.2.2.2.2.2.2.2.2.2.2.2.1, r.2.2.2.2.2.2.2.2.2.2.2.2.1, r.2.2.2.2.2.2.2.2.2.2.2.2.2.1, r.2.2.2.2.2.2.2.2.2.2.2.2.2.2.1, r.2.2.2.2.2.2.2.2.2.2.2.2.2.2.2.1, r.2.2.2.2.2.2.2.2.2.2.2.2.2.2.2.2.1, r.2.2.2.2.2.2.2.2.2.2.2.2.2.2.2.2.2.1, r.2.2.2.2.2.2.2.2.2.2.2.2.2.2.2.2.2.2.1, r.2.2.2.2.2.2.2.2.2.2.2.2.2.2.2.2.2.2.2.1, r.2.2.2.2.2.2.2.2.2.2.2.2.2.2.2.2.2.2.2.2.1, r.2.2.2.2.2.2.2.2.2.2.2.2.2.2.2.2.2.2.2.2.2.1, r.2.2.2.2.2.2.2.2.2.2.2.2.2.2.2.2.2.2.2.2.2.2)
abbrev MS.s_p (r : MS) (v : Nat) : MS := (r.1, r.2.1, r.2.2.1, r.2.2.2.1, r.2.2.2.2.1, r.2.2.2.2.2.1, r.2.2.2.2.2.2.1, r.2.2.2.2.2.2.2.1, r.2.2.2.2.2.2.2.2.1, v, r.2.2.2.2.2.2.2.2.2.2.1, r.2.2.2.2.2.2.2.2.2.2.2.1, r.2.2.2.2.2.2.2.2.2.2.2.2.1, r.2.2.2.2.2.2.2.2.2.2.2.2.2.1, r.2.2.2.2.2.2.2.2.2.2.2.2.2.2.1, r.2.2.2.2.2.2.2.2.2.2.2.2.2.2.2.1, r.2.2.2.2.2.2.2.2.2.2.2.2.2.2.2.2.1, r.2.2.2.2.2.2.2.2.2.2.2.2.2.2.2.2.2.1, r.2.2.2.2.2.2.2.2.2.2.2.2.2.2.2.2.2.2.1, r.2.2.2.2.2.2.2.2.2.2.2.2.2.2.2.2.2.2.2.1, r.2.2.2.2.2.2.2.2.2.2.2.2.2.2.2.2.2.2.2.2.1, r.2.2.2.2.2.2.2.2.2.2.2.2.2.2.2.2.2.2.2.2.2.1, r.2.2.2.2.2.2.2.2.2.2.2.2.2.2.2.2.2.2.2.2.2.2)
abbrev MS.s_st (r : MS) (v : Nat → Nat) : MS := (r.1, r.2.1, r.2.2.1, r.2.2.2.1, r.2.2.2.2.1, r.2.2.2.2.2.1, r.2.2.2.2.2.2.1, r.2.2.2.2.2.2.2.1, r.2.2.2.2.2.2.2.2.1, r.2.2.2.2.2.2.2.2.2.1, v, r.2.2.2.2.2.2.2.2.2.2.2.1, r.2.2.2.2.2.2.2.2.2.2.2.2.1, r.2.2.2.2.2.2.2.2.2.2.2.2.2.1, r.2.2.2.2.2.2.2.2.2.2.2.2.2.2.1, r.2.2.2.2.2.2.2.2.2.2.2.2.2.2.2.1, r.2.2.2.2.2.2.2.2.2.2.2.2.2.2.2.2.1, r.2.2.2.2.2.2.2.2.2.2.2.2.2.2.2.2.2.1, r.2.2.2.2.2.2.2.2.2.2.2.2.2.2.2.2.2.2.1, r.2.2.2.2.2.2.2.2.2.2.2.2.2.2.2.2.2.2.2.1, r.2.2.2.2.2.2.2.2.2.2.2.2.2.2.2.2.2.2.2.2.1, r.2.2.2.2.2.2.2.2.2.2.2.2.2.2.2.2.2.2.2.2.2.1, r.2.2.2.2.2.2.2.2.2.2.2.2.2.2.2.2.2.2.2.2.2.2)
abbrev MS.s_c (r : MS) (v : Nat) : MS := (r.1, r.2.1, r.2.2.1, r.2.2.2.1, r.2.2.2.2.1, r.2.2.2.2.2.1, r.2.2.2.2.2.2.1, r.2.2.2.2.2.2.2.1, r.2.2.2.2.2.2.2.2.1, r.2.2.2.2.2.2.2.2.2.1, r.2.2.2.2.2.2.2.2.2.2.1, v, r.2.2.2.2.2.2.2.2.2.2.2.2.1, r.2.2.2.2.2.2.2.2.2.2.2.2.2.1, r.2.2.2.2.2.2.2.2.2.2.2.2.2.2.1, r.2.2.2.2.2.2.2.2.2.2.2.2.2.2.2.1, r.2.2.2.2.2.2.2.2.2.2.2.2.2.2.2.2.1, r.2.2.2.2.2.2.2.2.2.2.2.2.2.2.2.2.2.1, r.2.2.2.2.2.2.2.2.2.2.2.2.2.2.2.2.2.2.1, r.2.2.2.2.2.2.2.2.2.2.2.2.2.2.2.2.2.2.2.1, r.2.2.2.2.2.2.2.2.2.2.2.2.2.2.2.2.2.2.2.2.1, r.2.2.2.2.2.2.2.2.2.2.2.2.2.2.2.2.2.2.2.2.2.1, r.2.2.2.2.2.2.2.2.2.2.2.2.2.2.2.2.2.2.2.2.2.2)
abbrev MS.s_ki (r : MS) (v : Nat → Nat) : MS := (r.1, r.2.1, r.2.2.1, r.2.2.2.1, r.2.2.2.2.1, r.2.2.2.2.2.1, r.2.2.2.2.2.2.1, r.2.2.2.2.2.2.2.1, r.2.2.2.2.2.2.2.2.1, r.2.2.2.2.2.2.2.2.2.1, r.2.2.2.2.2.2.2.2.2.2.1, r.2.2.2.2.2.2.2.2.2.2.2.1, v, r.2.2.2.2.2.2.2.2.2.2.2.2.2.1, r.2.2.2.2.2.2.2.2.2.2.2.2.2.2.1, r.2.2.2.2.2.2.2.2.2.2.2.2.2.2.2.1, r.2.2.2.2.2.2.2.2.2.2.2.2.2.2.2.2.1, r.2.2.2.2.2.2.2.2.2.2.2.2.2.2.2.2.2.1, r.2.2.2.2.2.2.2.2.2.2.2.2.2.2.2.2.2.2.1, r.2.2.2.2.2.2.2.2.2.2.2.2.2.2.2.2.2.2.2.1, r.2.2.2.2.2.2.2.2.2.2.2.2.2.2.2.2.2.2.2.2.1, r.2.2.2.2.2.2.2.2.2.2.2.2.2.2.2.2.2.2.2.2.2.1, r.2.2.2.2.2.2.2.2.2.2.2.2.2.2.2.2.2.2.2.2.2.2)
abbrev MS.s_pin (r : MS) (v : Nat → Nat) : MS := (r.1, r.2.1, r.2.2.1, r.2.2.2.1, r.2.2.2.2.1, r.2.2.2.2.2.1, r.2.2.2.2.2.2.1, r.2.2.2.2.2.2.2.1, r.2.2.2.2.2.2.2.2.1, r.2.2.2.2.2.2.2.2.2.1, r.2.2.2.2.2.2.2.2.2.2.1, r.2.2.2.2.2.2.2.2.2.2.2.1, r.2.2.2.2.2.2.2.2.2.2.2.2.1, v, r.2.2.2.2.2.2.2.2.2.2.2.2.2.2.1, r.2.2.2.2.2.2.2.2.2.2.2.2.2.2.2.1, r.2.2.2.2.2.2.2.2.2.2.2.2.2.2.2.2.1, r.2.2.2.2.2.2.2.2.2.2.2.2.2.2.2.2.2.1, r.2.2.2.2.2.2.2.2.2.2.2.2.2.2.2.2.2.2.1, r.2.2.2.2.2.2.2.2.2.2.2.2.2.2.2.2.2.2.2.1, r.2.2.2.2.2.2.2.2.2.2.2.2.2.2.2.2.2.2.2.2.1, r.2.2.2.2.2.2.2.2.2.2.2.2.2.2.2.2.2.2.2.2.2.1, r.2.2.2.2.2.2.2.2.2.2.2.2.2.2.2.2.2.2.2.2.2.2)
abbrev MS.s_he (r : MS) (v : Nat → Nat) : MS := (r.1, r.2.1, r.2.2.1, r.2.2.2.1, r.2.2.2.2.1, r.2.2.2.2.2.1, r.2.2.2.2.2.2.1, r.2.2.2.2.2.2.2.1, r.2.2.2.2.2.2.2.2.1, r.2.2.2.2.2.2.2.2.2.1, r.2.2.2.2.2.2.2.2.2.2.1, r.2.2.2.2.2.2.2.2.2.2.2.1, r.2.2.2.2.2.2.2.2.2.2.2.2.1, r.2.2.2.2.2.2.2.2.2.2.2.2.2.1, v, r.2.2.2.2.2.2.2.2.2.2.2.2.2.2.2.1, r.2.2.2.2.2.2.2.2.2.2.2.2.2.2.2.2.1, r.2.2.2.2.2.2.2.2.2.2.2.2.2.2.2.2.2.1, r.2.2.2.2.2.2.2.2.2.2.2.2.2.2.2.2.2.2.1, r.2.2.2.2.2.2.2.2.2.2.2.2.2.2.2.2.2.2.2.1, r.2.2.2.2.2.2.2.2.2.2.2.2.2.2.2.2.2.2.2.2.1, r.2.2.2.2.2.2.2.2.2.2.2.2.2.2.2.2.2.2.2.2.2.1, r.2.2.2.2.2.2.2.2.2.2.2.2.2.2.2.2.2.2.2.2.2.2)
abbrev MS.s_ir (r : MS) (v : Nat → Nat) : MS := (r.1, r.2.1, r.2.2.1, r.2.2.2.1, r.2.2.2.2.1, r.2.2.2.2.2.1, r.2.2.2.2.2.2.1, r.2.2.2.2.2.2.2.1, r.2.2.2.2.2.2.2.2.1, r.2.2.2.2.2.2.2.2.2.1, r.2.2.2.2.2.2.2.2.2.2.1, r.2.2.2.2.2.2.2.2.2.2.2.1, r.2.2.2.2.2.2.2.2.2.2.2.2.1, r.2.2.2.2.2.2.2.2.2.2.2.2.2.1, r.2.2.2.2.2.2.2.2.2.2.2.2.2.2.1, v, r.2.2.2.2.2.2.2.2.2.2.2.2.2.2.2.2.1, r.2.2.2.2.2.2.2.2.2.2.2.2.2.2.2.2.2.1, r.2.2.2.2.2.2.2.2.2.2.2.2.2.2.2.2.2.2.1, r.2.2.2.2.2.2.2.2.2.2.2.2.2.2.2.2.2.2.2.1, r.2.2.2.2.2.2.2.2.2.2.2.2.2.2.2.2.2.2.2.2.1, r.2.2.2.2.2.2.2.2.2.2.2.2.2.2.2.2.2.2.2.2.2.1, r.2.2.2.2.2.2.2.2.2.2.2.2.2.2.2.2.2.2.2.2.2.2)
abbrev MS.s_cn (r : MS) (v : Nat) : MS := (r.1, r.2.1, r.2.2.1, r.2.2.2.1, r.2.2.2.2.1, r.2.2.2.2.2.1, r.2.2.2.2.2.2.1, r.2.2.2.2.2.2.2.1, r.2.2.2.2.2.2.2.2.1, r.2.2.2.2.2.2.2.2.2.1, r.2.2.2.2.2.2.2.2.2.2.1, r.2.2.2.2.2.2.2.2.2.2.2.1, r.2.2.2.2.2.2.2.2.2.2.2.2.1, r.2.2.2.2.2.2.2.2.2.2.2.2.2.1, r.2.2.2.2.2.2.2.2.2.2.2.2.2.2.1, r.2.2.2.2.2.2.2.2.2.2.2.2.2.2.2.1, v, r.2.2.2.2.2.2.2.2.2.2.2.2.2.2.2.2.2.1, r.2.2.2.2.2.2.2.2.2.2.2.2.2.2.2.2.2.2.1, r.2.2.2.2.2.2.2.2.2.2.2.2.2.2.2.2.2.2.2.1, r.2.2.2.2.2.2.2.2.2.2.2.2.2.2.2.2.2.2.2.2.1, r.2.2.2.2.2.2.2.2.2.2.2.2.2.2.2.2.2.2.2.2.2.1, r.2.2.2.2.2.2.2.2.2.2.2.2.2.2.2.2.2.2.2.2.2.2)
abbrev MS.s_nb (r : MS) (v : Nat → Nat) : MS := (r.1, r.2.1, r.2.2.1, r.2.2.2.1, r.2.2.2.2.1, r.2.2.2.2.2.1, r.2.2.2.2.2.2.1, r.2.2.2.2.2.2.2.1, r.2.2.2.2.2.2.2.2.1, r.2.2.2.2.2.2.2.2.2.1, r.2.2.2.2.2.2.2.2.2.2.1, r.2.2.2.2.2.2.2.2.2.2.2.1, r.2.2.2.2.2.2.2.2.2.2.2.2.1, r.2.2.2.2.2.2.2.2.2.2.2.2.2.1, r.2.2.2.2.2.2.2.2.2.2.2.2.2.2.1, r.2.2.2.2.2.2.2.2.2.2.2.2.2.2.2.1, r.2.2.2.2.2.2.2.2.2.2.2.2.2.2.2.2.1, v, r.2.2.2.2.2.2.2.2.2.2.2.2.2.2.2.2.2.2.1, r.2.2.2.2.2.2.2.2.2.2.2.2.2.2.2.2.2.2.2.1, r.2.2.2.2.2.2.2.2.2.2.2.2.2.2.2.2.2.2.2.2.1, r.2.2.2.2.2.2.2.2.2.2.2.2.2.2.2.2.2.2.2.2.2.1, r.2.2.2.2.2.2.2.2.2.2.2.2.2.2.2.2.2.2.2.2.2.2)
abbrev MS.s_by_ (r : MS) (v : Nat) : MS := (r.1, r.2.1, r.2.2.1, r.2.2.2.1, r.2.2.2.2.1, r.2.2.2.2.2.1, r.2.2.2.2.2.2.1, r.2.2.2.2.2.2.2.1, r.2.2.2.2.2.2.2.2.1, r.2.2.2.2.2.2.2.2.2.1, r.2.2.2.2.2.2.2.2.2.2.1, r.2.2.2.2.2.2.2.2.2.2.2.1, r.2.2.2.2.2.2.2.2.2.2.2.2.1, r.2.2.2.2.2.2.2.2.2.2.2.2.2.1, r.2.2.2.2.2.2.2.2.2.2.2.2.2.2.1, r.2.2.2.2.2.2.2.2.2.2.2.2.2.2.2.1, r.2.2.2.2.2.2.2.2.2.2.2.2.2.2.2.2.1, r.2.2.2.2.2.2.2.2.2.2.2.2.2.2.2.2.2.1, v, r.2.2.2.2.2.2.2.2.2.2.2.2.2.2.2.2.2.2.2.1, r.2.2.2.2.2.2.2.2.2.2.2.2.2.2.2.2.2.2.2.2.1, r.2.2.2.2.2.2.2.2.2.2.2.2.2.2.2.2.2.2.2.2.2.1, r.2.2.2.2.2.2.2.2.2.2.2.2.2.2.2.2.2.2.2.2.2.2)
abbrev MS.s_cr (r : MS) (v : Nat) : MS := (r.1, r.2.1, r.2.2.1, r.2.2.2.1, r.2.2.2.2.1, r.2.2.2.2.2.1, r.2.2.2.2.2.2.1, r.2.2.2.2.2.2.2.1, r.2.2.2.2.2.2.2.2.1, r.2.2.2.2.2.2.2.2.2.1, r.2.2.2.2.2.2.2.2.2.2.1, r.2.2.2.2.2.2.2.2.2.2.2.1, r.2.2.2.2.2.2.2.2.2.2.2.2.1, r.2.2.2.2.2.2.2.2.2.2.2.2.2.1, r.2.2.2.2.2.2.2.2.2.2.2.2.2.2.1, r.2.2.2.2.2.2.2.2.2.2.2.2.2.2.2.1, r.2.2.2.2.2.2.2.2.2.2.2.2.2.2.2.2.1, r.2.2.2.2.2.2.2.2.2.2.2.2.2.2.2.2.2.1, r.2.2.2.2.2.2.2.2.2.2.2.2.2.2.2.2.2.2.1, v, r.2.2.2.2.2.2.2.2.2.2.2.2.2.2.2.2.2.2.2.2.1, r.2.2.2.2.2.2.2.2.2.2.2.2.2.2.2.2.2.2.2.2.2.1, r.2.2.2.2.2.2.2.2.2.2.2.2.2.2.2.2.2.2.2.2.2.2)
abbrev MS.s_co (r : MS) (v : Nat) : MS := (r.1, r.2.1, r.2.2.1, r.2.2.2.1, r.2.2.2.2.1, r.2.2.2.2.2.1, r.2.2.2.2.2.2.1, r.2.2.2.2.2.2.2.1, r.2.2.2.2.2.2.2.2.1, r.2.2.2.2.2.2.2.2.2.1, r.2.2.2.2.2.2.2.2.2.2.1, r.2.2.2.2.2.2.2.2.2.2.2.1, r.2.2.2.2.2.2.2.2.2.2.2.2.1, r.2.2.2.2.2.2.2.2.2.2.2.2.2.1, r.2.2.2.2.2.2.2.2.2.2.2.2.2.2.1, r.2.2.2.2.2.2.2.2.2.2.2.2.2.2.2.1, r.2.2.2.2.2.2.2.2.2.2.2.2.2.2.2.2.1, r.2.2.2.2.2.2.2.2.2.2.2.2.2.2.2.2.2.1, r.2.2.2.2.2.2.2.2.2.2.2.2.2.2.2.2.2.2.1, r.2.2.2.2.2.2.2.2.2.2.2.2.2.2.2.2.2.2.2.1, v, r.2.2.2.2.2.2.2.2.2.2.2.2.2.2.2.2.2.2.2.2.2.1, r.2.2.2.2.2.2.2.2.2.2.2.2.2.2.2.2.2.2.2.2.2.2)
abbrev MS.s_sa (r : MS) (v : Nat) : MS := (r.1, r.2.1, r.2.2.1, r.2.2.2.1, r.2.2.2.2.1, r.2.2.2.2.2.1, r.2.2.2.2.2.2.1, r.2.2.2.2.2.2.2.1, r.2.2.2.2.2.2.2.2.1, r.2.2.2.2.2.2.2.2.2.1, r.2.2.2.2.2.2.2.2.2.2.1, r.2.2.2.2.2.2.2.2.2.2.2.1, r.2.2.2.2.2.2.2.2.2.2.2.2.1, r.2.2.2.2.2.2.2.2.2.2.2.2.2.1, r.2.2.2.2.2.2.2.2.2.2.2.2.2.2.1, r.2.2.2.2.2.2.2.2.2.2.2.2.2.2.2.1, r.2.2.2.2.2.2.2.2.2.2.2.2.2.2.2.2.1, r.2.2.2.2.2.2.2.2.2.2.2.2.2.2.2.2.2.1, r.2.2.2.2.2.2.2.2.2.2.2.2.2.2.2.2.2.2.1, r.2.2.2.2.2.2.2.2.2.2.2.2.2.2.2.2.2.2.2.1, r.2.2.2.2.2.2.2.2.2.2.2.2.2.2.2.2.2.2.2.2.1, v, r.2.2.2.2.2.2.2.2.2.2.2.2.2.2.2.2.2.2.2.2.2.2)
abbrev MS.s_fa (r : MS) (v : Nat → Nat) : MS := (r.1, r.2.1, r.2.2.1, r.2.2.2.1, r.2.2.2.2.1, r.2.2.2.2.2.1, r.2.2.2.2.2.2.1, r.2.2.2.2.2.2.2.1, r.2.2.2.2.2.2.2.2.1, r.2.2.2.2.2.2.2.2.2.1, r.2.2.2.2.2.2.2.2.2.2.1, r.2.2.2.2.2.2.2.2.2.2.2.1, r.2.2.2.2.2.2.2.2.2.2.2.2.1, r.2.2.2.2.2.2.2.2.2.2.2.2.2.1, r.2.2.2.2.2.2.2.2.2.2.2.2.2.2.1, r.2.2.2.2.2.2.2.2.2.2.2.2.2.2.2.1, r.2.2.2.2.2.2.2.2.2.2.2.2.2.2.2.2.1, r.2.2.2.2.2.2.2.2.2.2.2.2.2.2.2.2.2.1, r.2.2.2.2.2.2.2.2.2.2.2.2.2.2.2.2.2.2.1, r.2.2.2.2.2.2.2.2.2.2.2.2.2.2.2.2.2.2.2.1, r.2.2.2.2.2.2.2.2.2.2.2.2.2.2.2.2.2.2.2.2.1, r.2.2.2.2.2.2.2.2.2.2.2.2.2.2.2.2.2.2.2.2.2.1, v)
abbrev wM (q : Nat → Nat) (cI cZ : ClassId) (y : MS) : va_W := [(q 0, .inr (4, [.int (nI (MS.th y)), .int (MS.nu y), .ref (q 1), .ref (q 2), .ref (q 3), .ref (q 4), .ref (q 5), .int (nI (MS.n y)), .ref (q 6), .int (nI (MS.p y)), .ref (q 7), .int (nI (MS.c y)), .ref (q 8), .ref (q 9), .ref (q 10), .ref (q 11), .int (nI (MS.cn y)), .ref (q 12), .int (nI (MS.by_ y)), .int (nI (MS.cr y)), .int (nI (MS.co y)), .int (nI (MS.sa y)), .ref (q 13)])), (q 1, .inl (cI, 32, .inl (aN (MS.ck y)))), (q 2, .inl (cI, 32, .inl (aZ (MS.xx y)))), (q 3, .inl (cI, 32, .inl (aZ (MS.yy y)))), (q 4, .inl (cI, 32, .inl (aN (MS.vb y)))), (q 5, .inl (cZ, 32, .inl (aN (MS.fl y)))), (q 6, .inl (cI, 32, .inl (aN (MS.rw y)))), (q 7, .inl (cI, 9, .inl (aN (MS.st y)))), (q 8, .inl (cI, 20, .inl (aN (MS.ki y)))), (q 9, .inl (cI, 20, .inl (aN (MS.pin y)))), (q 10, .inl (cI, 20, .inl (aN (MS.he y)))), (q 11, .inl (cI, 20, .inl (aN (MS.ir y)))), (q 12, .inl (cI, 32, .inl (aN (MS.nb y)))), (q 13, .inl (cI, 16, .inl (aN (MS.fa y))))]
/-! the reference: its state, and what its methods do -/
abbrev toR (y : MS) : RS := (y.n, y.c, y.p, y.vb, y.ck, y.xx, y.yy, y.fl, (fun _ => 0), y.rw, (fun _ => 0), y.st)
abbrev toK (y : MS) : CS := (y.cn, y.pin, y.ki, y.he, y.ir)
def MB (y : MS) : Prop := RB (toR y) ∧ CB (toK y) ∧ y.by_ < 2 ∧ y.cr < 16 ∧ y.co < 16 ∧ y.sa < 16 ∧ ∀ j, y.nb j < 2
def mLatch (y : MS) (ck : Nat) (xx yy : Int) : MS := ((((y.s_th 0).s_ck (va_up y.ck y.n ck)).s_xx (va_up y.xx y.n xx)).s_yy (va_up y.yy y.n yy)).s_n (y.n + 1)
def ibN (r : RS) (a b : Nat) : Nat := if r.ck a = r.ck b then (if r.xx a = r.xx b then (if r.yy a = r.yy b then (if a < b then 1 else 0) else (if r.yy a < r.yy b then 1 else 0)) else (if r.xx a < r.xx b then 1 else 0)) else (if r.ck a < r.ck b then 1 else 0)
theorem ibN_le (r : RS) (a b : Nat) : ibN r a b ≤ 1 := by unfold ibN; split <;> (try split) <;> (try split) <;> (try split) <;> omega
theorem ibN_self (r : RS) (a : Nat) : ibN r a a = 0 := by unfold ibN; simp
def rk (r : RS) (a n : Nat) : Nat := sumN (fun t => ibN r t a) n
theorem rk_le (r : RS) (a n : Nat) : rk r a n ≤ n := by
  have := sumN_le (f := fun t => ibN r t a) (m := 1) (fun k => ibN_le r k a) n
  unfold rk; omega
theorem rk_lt (r : RS) {a n : Nat} (h : a < n) : rk r a n < n := by
  induction n with
  | zero => omega
  | succ n ih =>
    show rk r a n + ibN r n a < n + 1
    by_cases e : a = n
    · rw [e, ibN_self]; have := rk_le r n n; omega
    · have := ih (by omega); have := ibN_le r n a; omega
def mkR (r : RS) : Nat → (Nat → Nat)
  | 0 => r.rw
  | i + 1 => va_up (mkR r i) (rk r i r.n) i
def mMake (y : MS) (c0 : Nat) : MS := ((((y.s_th 0).s_rw (mkR (toR y) y.n)).s_p y.n).s_c c0).s_st (cpN (bg y.n c0) y.st (c0 + 1))
def mLk (y : MS) (ch k : Nat) : Nat := if y.st ch + k + 1 = y.st (ch + 1) then 0 else if y.ck (y.rw (y.st ch + k)) = y.ck (y.rw (y.st ch + k + 1)) then 0 else 1
def dM (y : MS) (p : Nat) : Nat := (y.xx (y.rw p) - y.xx (y.rw (p + 1))).natAbs + (y.yy (y.rw p) - y.yy (y.rw (p + 1))).natAbs
def trC (y : MS) : Nat → Nat
  | 0 => 0
  | i + 1 => trC y i + sumN (fun t => dM y (y.st i + t)) (y.st (i + 1) - y.st i - 1)
def plF (g : Nat → Nat) (t : Nat) : Nat → Int
  | 0 => -1
  | n + 1 => if plF g t n ≠ -1 then plF g t n else if g n = t then (n : Int) else -1
theorem plF_st {g : Nat → Nat} {t i : Nat} {v : Int} (h : plF g t i = v) (hv : v ≠ -1) (n : Nat) : plF g t (i + n) = v := by
  induction n with
  | zero => exact h
  | succ n ih => show plF g t (i + n + 1) = v; unfold plF; rw [ih, if_pos hv]
theorem plF_no {g : Nat → Nat} {t i : Nat} (h : plF g t i = -1) (hn : g i ≠ t) : plF g t (i + 1) = -1 := by
  unfold plF; rw [if_neg (fun z => z h), if_neg hn]
theorem plF_yes {g : Nat → Nat} {t i : Nat} (h : plF g t i = -1) (hn : g i = t) : plF g t (i + 1) = (i : Int) := by
  unfold plF; rw [if_neg (fun z => z h), if_pos hn]
theorem plF_b (g : Nat → Nat) (t n : Nat) : -1 ≤ plF g t n ∧ plF g t n < n := by
  induction n with
  | zero => unfold plF; omega
  | succ n ih => unfold plF; split
                 · omega
                 · split <;> omega
def mX (y : MS) (i j : Nat) : MS := y.s_rw (va_up (va_up y.rw i (y.rw j)) j (y.rw i))
theorem mX2 (y : MS) (i j : Nat) : mX (mX y i j) i j = y := by
  have e : va_up (va_up (mX y i j).rw i ((mX y i j).rw j)) j ((mX y i j).rw i) = y.rw := by
    show va_up (va_up (va_up (va_up y.rw i (y.rw j)) j (y.rw i)) i (va_up (va_up y.rw i (y.rw j)) j (y.rw i) j)) j (va_up (va_up y.rw i (y.rw j)) j (y.rw i) i) = y.rw
    funext k; unfold va_up
    by_cases h1 : k = j <;> by_cases h2 : k = i <;> by_cases h3 : i = j <;> simp_all
  show MS.s_rw (mX y i j) (va_up (va_up (mX y i j).rw i ((mX y i j).rw j)) j ((mX y i j).rw i)) = y
  rw [e]
  rfl
theorem sumN_congr {f g : Nat → Nat} {n : Nat} (h : ∀ k, k < n → f k = g k) : sumN f n = sumN g n := by
  induction n with
  | zero => rfl
  | succ n ih => show sumN f n + f n = sumN g n + g n; rw [ih (fun k hk => h k (by omega)), h n (by omega)]
theorem dM_le {y : MS} (h : RB (toR y)) (p : Nat) : dM y p ≤ 4000 := by
  have g2 := h.2.2.2.2.2.1 (y.rw p)
  have g3 := h.2.2.2.2.2.1 (y.rw (p + 1))
  have g4 := h.2.2.2.2.2.2.1 (y.rw p)
  have g5 := h.2.2.2.2.2.2.1 (y.rw (p + 1))
  unfold dM
  have e1 : (toR y).xx = y.xx := rfl
  have e2 : (toR y).yy = y.yy := rfl
  rw [e1] at g2 g3
  rw [e2] at g4 g5
  omega
theorem trC_le {y : MS} (h : RB (toR y)) (i : Nat) : trC y i ≤ i * 128000 := by
  induction i with
  | zero => exact Nat.le_refl 0
  | succ i ih =>
    have g1 := sumN_le (f := fun t => dM y (y.st i + t)) (m := 4000) (fun k => dM_le h _) (y.st (i + 1) - y.st i - 1)
    have g2 : y.st (i + 1) ≤ 32 := h.2.2.2.2.2.2.2.2.2.2.2 (i + 1)
    have g3 : (y.st (i + 1) - y.st i - 1) * 4000 ≤ 32 * 4000 := Nat.mul_le_mul_right _ (by omega)
    show trC y i + sumN (fun t => dM y (y.st i + t)) (y.st (i + 1) - y.st i - 1) ≤ (i + 1) * 128000
    rw [Nat.add_mul]
    omega
def mBad (ck : Int32) (xl yl : Int64) : Prop := ¬ (¬ ck < 0 ∧ ¬ nI 3 < ck ∧ ¬ xl < (-1000) ∧ ¬ (1000 : Int64) < xl ∧ ¬ yl < (-1000) ∧ ¬ (1000 : Int64) < yl)
theorem sw_25 : Cond.selects "ScanRowsModel" (⟨"ScanRowsModel", "isBefore", "(II)Z"⟩ : MethodName) (⟨"ScanRowsModel", "isBefore", "(II)Z"⟩ : MethodName) ∈ ALLG := al_s (i := 25) (by decide +kernel) (by decide +kernel)
theorem tw_5 : (Cond.initialized "ScanRowsModel") ∈ ALLG := al_t (i := 5) (by decide +kernel) (by decide +kernel)
theorem tw_572 : (Cond.fieldLink "ScanRowsModel" (57 : Nat) "ScanRowsModel" "thrown" "I") ∈ ALLG := al_t (i := 572) (by decide +kernel) (by decide +kernel)
theorem tw_574 : (Cond.fieldLink "ScanRowsModel" (7 : Nat) "ScanRowsModel" "clocks" "[I") ∈ ALLG := al_t (i := 574) (by decide +kernel) (by decide +kernel)
theorem tw_575 : (Cond.fieldLink "ScanRowsModel" (13 : Nat) "ScanRowsModel" "xs" "[I") ∈ ALLG := al_t (i := 575) (by decide +kernel) (by decide +kernel)
theorem tw_576 : (Cond.fieldLink "ScanRowsModel" (16 : Nat) "ScanRowsModel" "ys" "[I") ∈ ALLG := al_t (i := 576) (by decide +kernel) (by decide +kernel)
theorem tw_579 : (Cond.fieldLink "ScanRowsModel" (60 : Nat) "ScanRowsModel" "latches" "I") ∈ ALLG := al_t (i := 579) (by decide +kernel) (by decide +kernel)
theorem tw_580 : (Cond.fieldLink "ScanRowsModel" (26 : Nat) "ScanRowsModel" "row" "[I") ∈ ALLG := al_t (i := 580) (by decide +kernel) (by decide +kernel)
theorem tw_581 : (Cond.fieldLink "ScanRowsModel" (77 : Nat) "ScanRowsModel" "chained" "I") ∈ ALLG := al_t (i := 581) (by decide +kernel) (by decide +kernel)
theorem tw_582 : (Cond.fieldLink "ScanRowsModel" (29 : Nat) "ScanRowsModel" "begins" "[I") ∈ ALLG := al_t (i := 582) (by decide +kernel) (by decide +kernel)
theorem tw_583 : (Cond.fieldLink "ScanRowsModel" (63 : Nat) "ScanRowsModel" "chains" "I") ∈ ALLG := al_t (i := 583) (by decide +kernel) (by decide +kernel)
theorem tw_588 : (Cond.fieldLink "ScanRowsModel" (66 : Nat) "ScanRowsModel" "cells" "I") ∈ ALLG := al_t (i := 588) (by decide +kernel) (by decide +kernel)
theorem tw_650 : (Cond.constantLong "ScanRowsModel" (69 : Nat) (-1000 : Int64)) ∈ ALLG := al_t (i := 650) (by decide +kernel) (by decide +kernel)
theorem tw_651 : (Cond.constantLong "ScanRowsModel" (71 : Nat) (1000 : Int64)) ∈ ALLG := al_t (i := 651) (by decide +kernel) (by decide +kernel)
theorem tw_656 : (Cond.methodLink "ScanRowsModel" (73 : Nat) ({ cls := "ScanRowsModel", name := "isBefore", desc := "(II)Z" } : Jvm.MethodName)) ∈ ALLG := al_t (i := 656) (by decide +kernel) (by decide +kernel)
theorem tw_658 : (Cond.instanceMethod ({ cls := "ScanRowsModel", name := "isBefore", desc := "(II)Z" } : Jvm.MethodName)) ∈ ALLG := al_t (i := 658) (by decide +kernel) (by decide +kernel)
theorem tw_659 : (Cond.code ({ cls := "ScanRowsModel", name := "isBefore", desc := "(II)Z" } : Jvm.MethodName) prog_6_method_7_code (3 : Nat) (Option.some FieldType.boolean)) ∈ ALLG := al_t (i := 659) (by decide +kernel) (by decide +kernel)
theorem dX4_isLatch_0 : decode cX4_isLatch 0 = .ok (.iload_n 1, 1) := by decide +kernel
theorem dX4_isLatch_1 : decode cX4_isLatch 1 = .ok (.ifCond .lt 15, 3) := by decide +kernel
theorem dX4_isLatch_4 : decode cX4_isLatch 4 = .ok (.iload_n 1, 1) := by decide +kernel
theorem dX4_isLatch_5 : decode cX4_isLatch 5 = .ok (.aload_n 0, 1) := by decide +kernel
theorem dX4_isLatch_6 : decode cX4_isLatch 6 = .ok (.getfield 60, 3) := by decide +kernel
theorem dX4_isLatch_9 : decode cX4_isLatch 9 = .ok (.if_icmp .ge 7, 3) := by decide +kernel
theorem dX4_isLatch_12 : decode cX4_isLatch 12 = .ok (.iconst 1, 1) := by decide +kernel
theorem dX4_isLatch_13 : decode cX4_isLatch 13 = .ok (.goto 4, 3) := by decide +kernel
theorem dX4_isLatch_16 : decode cX4_isLatch 16 = .ok (.iconst 0, 1) := by decide +kernel
theorem dX4_isLatch_17 : decode cX4_isLatch 17 = .ok (.ireturn, 1) := by decide +kernel
theorem dX4_isChain_0 : decode cX4_isChain 0 = .ok (.iload_n 1, 1) := by decide +kernel
theorem dX4_isChain_1 : decode cX4_isChain 1 = .ok (.ifCond .lt 15, 3) := by decide +kernel
theorem dX4_isChain_4 : decode cX4_isChain 4 = .ok (.iload_n 1, 1) := by decide +kernel
theorem dX4_isChain_5 : decode cX4_isChain 5 = .ok (.aload_n 0, 1) := by decide +kernel
theorem dX4_isChain_6 : decode cX4_isChain 6 = .ok (.getfield 63, 3) := by decide +kernel
theorem dX4_isChain_9 : decode cX4_isChain 9 = .ok (.if_icmp .ge 7, 3) := by decide +kernel
theorem dX4_isChain_12 : decode cX4_isChain 12 = .ok (.iconst 1, 1) := by decide +kernel
theorem dX4_isChain_13 : decode cX4_isChain 13 = .ok (.goto 4, 3) := by decide +kernel
theorem dX4_isChain_16 : decode cX4_isChain 16 = .ok (.iconst 0, 1) := by decide +kernel
theorem dX4_isChain_17 : decode cX4_isChain 17 = .ok (.ireturn, 1) := by decide +kernel
theorem dX4_isCell_0 : decode cX4_isCell 0 = .ok (.iload_n 1, 1) := by decide +kernel
theorem dX4_isCell_1 : decode cX4_isCell 1 = .ok (.ifCond .lt 15, 3) := by decide +kernel
theorem dX4_isCell_4 : decode cX4_isCell 4 = .ok (.iload_n 1, 1) := by decide +kernel
theorem dX4_isCell_5 : decode cX4_isCell 5 = .ok (.aload_n 0, 1) := by decide +kernel
theorem dX4_isCell_6 : decode cX4_isCell 6 = .ok (.getfield 66, 3) := by decide +kernel
theorem dX4_isCell_9 : decode cX4_isCell 9 = .ok (.if_icmp .ge 7, 3) := by decide +kernel
theorem dX4_isCell_12 : decode cX4_isCell 12 = .ok (.iconst 1, 1) := by decide +kernel
theorem dX4_isCell_13 : decode cX4_isCell 13 = .ok (.goto 4, 3) := by decide +kernel
theorem dX4_isCell_16 : decode cX4_isCell 16 = .ok (.iconst 0, 1) := by decide +kernel
theorem dX4_isCell_17 : decode cX4_isCell 17 = .ok (.ireturn, 1) := by decide +kernel
theorem dX4_thrown_0 : decode cX4_thrown 0 = .ok (.aload_n 0, 1) := by decide +kernel
theorem dX4_thrown_1 : decode cX4_thrown 1 = .ok (.getfield 57, 3) := by decide +kernel
theorem dX4_thrown_4 : decode cX4_thrown 4 = .ok (.ireturn, 1) := by decide +kernel
theorem dX4_latch_0 : decode cX4_latch 0 = .ok (.iload_n 1, 1) := by decide +kernel
theorem dX4_latch_1 : decode cX4_latch 1 = .ok (.ifCond .lt 46, 3) := by decide +kernel
theorem dX4_latch_4 : decode cX4_latch 4 = .ok (.iload_n 1, 1) := by decide +kernel
theorem dX4_latch_5 : decode cX4_latch 5 = .ok (.iconst 3, 1) := by decide +kernel
theorem dX4_latch_6 : decode cX4_latch 6 = .ok (.if_icmp .gt 41, 3) := by decide +kernel
theorem dX4_latch_9 : decode cX4_latch 9 = .ok (.lload_n 2, 1) := by decide +kernel
theorem dX4_latch_10 : decode cX4_latch 10 = .ok (.ldc2_w 69, 3) := by decide +kernel
theorem dX4_latch_13 : decode cX4_latch 13 = .ok (.lcmp, 1) := by decide +kernel
theorem dX4_latch_14 : decode cX4_latch 14 = .ok (.ifCond .lt 33, 3) := by decide +kernel
theorem dX4_latch_17 : decode cX4_latch 17 = .ok (.lload_n 2, 1) := by decide +kernel
theorem dX4_latch_18 : decode cX4_latch 18 = .ok (.ldc2_w 71, 3) := by decide +kernel
theorem dX4_latch_21 : decode cX4_latch 21 = .ok (.lcmp, 1) := by decide +kernel
theorem dX4_latch_22 : decode cX4_latch 22 = .ok (.ifCond .gt 25, 3) := by decide +kernel
theorem dX4_latch_25 : decode cX4_latch 25 = .ok (.lload 4, 2) := by decide +kernel
theorem dX4_latch_27 : decode cX4_latch 27 = .ok (.ldc2_w 69, 3) := by decide +kernel
theorem dX4_latch_30 : decode cX4_latch 30 = .ok (.lcmp, 1) := by decide +kernel
theorem dX4_latch_31 : decode cX4_latch 31 = .ok (.ifCond .lt 16, 3) := by decide +kernel
theorem dX4_latch_34 : decode cX4_latch 34 = .ok (.lload 4, 2) := by decide +kernel
theorem dX4_latch_36 : decode cX4_latch 36 = .ok (.ldc2_w 71, 3) := by decide +kernel
theorem dX4_latch_39 : decode cX4_latch 39 = .ok (.lcmp, 1) := by decide +kernel
theorem dX4_latch_40 : decode cX4_latch 40 = .ok (.ifCond .gt 7, 3) := by decide +kernel
theorem dX4_latch_43 : decode cX4_latch 43 = .ok (.iconst 1, 1) := by decide +kernel
theorem dX4_latch_44 : decode cX4_latch 44 = .ok (.goto 4, 3) := by decide +kernel
theorem dX4_latch_47 : decode cX4_latch 47 = .ok (.iconst 0, 1) := by decide +kernel
theorem dX4_latch_48 : decode cX4_latch 48 = .ok (.istore 6, 2) := by decide +kernel
theorem dX4_latch_50 : decode cX4_latch 50 = .ok (.aload_n 0, 1) := by decide +kernel
theorem dX4_latch_51 : decode cX4_latch 51 = .ok (.aload_n 0, 1) := by decide +kernel
theorem dX4_latch_52 : decode cX4_latch 52 = .ok (.getfield 60, 3) := by decide +kernel
theorem dX4_latch_55 : decode cX4_latch 55 = .ok (.bipush 32, 2) := by decide +kernel
theorem dX4_latch_57 : decode cX4_latch 57 = .ok (.if_icmp .ne 7, 3) := by decide +kernel
theorem dX4_latch_60 : decode cX4_latch 60 = .ok (.iconst 1, 1) := by decide +kernel
theorem dX4_latch_61 : decode cX4_latch 61 = .ok (.goto 13, 3) := by decide +kernel
theorem dX4_latch_64 : decode cX4_latch 64 = .ok (.iload 6, 2) := by decide +kernel
theorem dX4_latch_66 : decode cX4_latch 66 = .ok (.ifCond .ne 7, 3) := by decide +kernel
theorem dX4_latch_69 : decode cX4_latch 69 = .ok (.iconst 2, 1) := by decide +kernel
theorem dX4_latch_70 : decode cX4_latch 70 = .ok (.goto 4, 3) := by decide +kernel
theorem dX4_latch_73 : decode cX4_latch 73 = .ok (.iconst 0, 1) := by decide +kernel
theorem dX4_latch_74 : decode cX4_latch 74 = .ok (.putfield 57, 3) := by decide +kernel
theorem dX4_latch_77 : decode cX4_latch 77 = .ok (.aload_n 0, 1) := by decide +kernel
theorem dX4_latch_78 : decode cX4_latch 78 = .ok (.getfield 57, 3) := by decide +kernel
theorem dX4_latch_81 : decode cX4_latch 81 = .ok (.ifCond .le 5, 3) := by decide +kernel
theorem dX4_latch_84 : decode cX4_latch 84 = .ok (.iconst 0, 1) := by decide +kernel
theorem dX4_latch_85 : decode cX4_latch 85 = .ok (.ireturn, 1) := by decide +kernel
theorem dX4_latch_86 : decode cX4_latch 86 = .ok (.aload_n 0, 1) := by decide +kernel
theorem dX4_latch_87 : decode cX4_latch 87 = .ok (.getfield 7, 3) := by decide +kernel
theorem dX4_latch_90 : decode cX4_latch 90 = .ok (.aload_n 0, 1) := by decide +kernel
theorem dX4_latch_91 : decode cX4_latch 91 = .ok (.getfield 60, 3) := by decide +kernel
theorem dX4_latch_94 : decode cX4_latch 94 = .ok (.iload_n 1, 1) := by decide +kernel
theorem dX4_latch_95 : decode cX4_latch 95 = .ok (.iastore, 1) := by decide +kernel
theorem dX4_latch_96 : decode cX4_latch 96 = .ok (.aload_n 0, 1) := by decide +kernel
theorem dX4_latch_97 : decode cX4_latch 97 = .ok (.getfield 13, 3) := by decide +kernel
theorem dX4_latch_100 : decode cX4_latch 100 = .ok (.aload_n 0, 1) := by decide +kernel
theorem dX4_latch_101 : decode cX4_latch 101 = .ok (.getfield 60, 3) := by decide +kernel
theorem dX4_latch_104 : decode cX4_latch 104 = .ok (.lload_n 2, 1) := by decide +kernel
theorem dX4_latch_105 : decode cX4_latch 105 = .ok (.l2i, 1) := by decide +kernel
theorem dX4_latch_106 : decode cX4_latch 106 = .ok (.iastore, 1) := by decide +kernel
theorem dX4_latch_107 : decode cX4_latch 107 = .ok (.aload_n 0, 1) := by decide +kernel
theorem dX4_latch_108 : decode cX4_latch 108 = .ok (.getfield 16, 3) := by decide +kernel
theorem dX4_latch_111 : decode cX4_latch 111 = .ok (.aload_n 0, 1) := by decide +kernel
theorem dX4_latch_112 : decode cX4_latch 112 = .ok (.getfield 60, 3) := by decide +kernel
theorem dX4_latch_115 : decode cX4_latch 115 = .ok (.lload 4, 2) := by decide +kernel
theorem dX4_latch_117 : decode cX4_latch 117 = .ok (.l2i, 1) := by decide +kernel
theorem dX4_latch_118 : decode cX4_latch 118 = .ok (.iastore, 1) := by decide +kernel
theorem dX4_latch_119 : decode cX4_latch 119 = .ok (.aload_n 0, 1) := by decide +kernel
theorem dX4_latch_120 : decode cX4_latch 120 = .ok (.dup, 1) := by decide +kernel
theorem dX4_latch_121 : decode cX4_latch 121 = .ok (.getfield 60, 3) := by decide +kernel
theorem dX4_latch_124 : decode cX4_latch 124 = .ok (.iconst 1, 1) := by decide +kernel
theorem dX4_latch_125 : decode cX4_latch 125 = .ok (.iadd, 1) := by decide +kernel
theorem dX4_latch_126 : decode cX4_latch 126 = .ok (.putfield 60, 3) := by decide +kernel
theorem dX4_latch_129 : decode cX4_latch 129 = .ok (.aload_n 0, 1) := by decide +kernel
theorem dX4_latch_130 : decode cX4_latch 130 = .ok (.getfield 60, 3) := by decide +kernel
theorem dX4_latch_133 : decode cX4_latch 133 = .ok (.iconst 1, 1) := by decide +kernel
theorem dX4_latch_134 : decode cX4_latch 134 = .ok (.isub, 1) := by decide +kernel
theorem dX4_latch_135 : decode cX4_latch 135 = .ok (.ireturn, 1) := by decide +kernel
theorem dX4_isBefore_0 : decode cX4_isBefore 0 = .ok (.aload_n 0, 1) := by decide +kernel
theorem dX4_isBefore_1 : decode cX4_isBefore 1 = .ok (.getfield 7, 3) := by decide +kernel
theorem dX4_isBefore_4 : decode cX4_isBefore 4 = .ok (.iload_n 1, 1) := by decide +kernel
theorem dX4_isBefore_5 : decode cX4_isBefore 5 = .ok (.iaload, 1) := by decide +kernel
theorem dX4_isBefore_6 : decode cX4_isBefore 6 = .ok (.aload_n 0, 1) := by decide +kernel
theorem dX4_isBefore_7 : decode cX4_isBefore 7 = .ok (.getfield 7, 3) := by decide +kernel
theorem dX4_isBefore_10 : decode cX4_isBefore 10 = .ok (.iload_n 2, 1) := by decide +kernel
theorem dX4_isBefore_11 : decode cX4_isBefore 11 = .ok (.iaload, 1) := by decide +kernel
theorem dX4_isBefore_12 : decode cX4_isBefore 12 = .ok (.if_icmp .eq 24, 3) := by decide +kernel
theorem dX4_isBefore_15 : decode cX4_isBefore 15 = .ok (.aload_n 0, 1) := by decide +kernel
theorem dX4_isBefore_16 : decode cX4_isBefore 16 = .ok (.getfield 7, 3) := by decide +kernel
theorem dX4_isBefore_19 : decode cX4_isBefore 19 = .ok (.iload_n 1, 1) := by decide +kernel
theorem dX4_isBefore_20 : decode cX4_isBefore 20 = .ok (.iaload, 1) := by decide +kernel
theorem dX4_isBefore_21 : decode cX4_isBefore 21 = .ok (.aload_n 0, 1) := by decide +kernel
theorem dX4_isBefore_22 : decode cX4_isBefore 22 = .ok (.getfield 7, 3) := by decide +kernel
theorem dX4_isBefore_25 : decode cX4_isBefore 25 = .ok (.iload_n 2, 1) := by decide +kernel
theorem dX4_isBefore_26 : decode cX4_isBefore 26 = .ok (.iaload, 1) := by decide +kernel
theorem dX4_isBefore_27 : decode cX4_isBefore 27 = .ok (.if_icmp .ge 7, 3) := by decide +kernel
theorem dX4_isBefore_30 : decode cX4_isBefore 30 = .ok (.iconst 1, 1) := by decide +kernel
theorem dX4_isBefore_31 : decode cX4_isBefore 31 = .ok (.goto 4, 3) := by decide +kernel
theorem dX4_isBefore_34 : decode cX4_isBefore 34 = .ok (.iconst 0, 1) := by decide +kernel
theorem dX4_isBefore_35 : decode cX4_isBefore 35 = .ok (.ireturn, 1) := by decide +kernel
theorem dX4_isBefore_36 : decode cX4_isBefore 36 = .ok (.aload_n 0, 1) := by decide +kernel
theorem dX4_isBefore_37 : decode cX4_isBefore 37 = .ok (.getfield 13, 3) := by decide +kernel
theorem dX4_isBefore_40 : decode cX4_isBefore 40 = .ok (.iload_n 1, 1) := by decide +kernel
theorem dX4_isBefore_41 : decode cX4_isBefore 41 = .ok (.iaload, 1) := by decide +kernel
theorem dX4_isBefore_42 : decode cX4_isBefore 42 = .ok (.aload_n 0, 1) := by decide +kernel
theorem dX4_isBefore_43 : decode cX4_isBefore 43 = .ok (.getfield 13, 3) := by decide +kernel
theorem dX4_isBefore_46 : decode cX4_isBefore 46 = .ok (.iload_n 2, 1) := by decide +kernel
theorem dX4_isBefore_47 : decode cX4_isBefore 47 = .ok (.iaload, 1) := by decide +kernel
theorem dX4_isBefore_48 : decode cX4_isBefore 48 = .ok (.if_icmp .eq 24, 3) := by decide +kernel
theorem dX4_isBefore_51 : decode cX4_isBefore 51 = .ok (.aload_n 0, 1) := by decide +kernel
theorem dX4_isBefore_52 : decode cX4_isBefore 52 = .ok (.getfield 13, 3) := by decide +kernel
theorem dX4_isBefore_55 : decode cX4_isBefore 55 = .ok (.iload_n 1, 1) := by decide +kernel
theorem dX4_isBefore_56 : decode cX4_isBefore 56 = .ok (.iaload, 1) := by decide +kernel
theorem dX4_isBefore_57 : decode cX4_isBefore 57 = .ok (.aload_n 0, 1) := by decide +kernel
theorem dX4_isBefore_58 : decode cX4_isBefore 58 = .ok (.getfield 13, 3) := by decide +kernel
theorem dX4_isBefore_61 : decode cX4_isBefore 61 = .ok (.iload_n 2, 1) := by decide +kernel
theorem dX4_isBefore_62 : decode cX4_isBefore 62 = .ok (.iaload, 1) := by decide +kernel
theorem dX4_isBefore_63 : decode cX4_isBefore 63 = .ok (.if_icmp .ge 7, 3) := by decide +kernel
theorem dX4_isBefore_66 : decode cX4_isBefore 66 = .ok (.iconst 1, 1) := by decide +kernel
theorem dX4_isBefore_67 : decode cX4_isBefore 67 = .ok (.goto 4, 3) := by decide +kernel
theorem dX4_isBefore_70 : decode cX4_isBefore 70 = .ok (.iconst 0, 1) := by decide +kernel
theorem dX4_isBefore_71 : decode cX4_isBefore 71 = .ok (.ireturn, 1) := by decide +kernel
theorem dX4_isBefore_72 : decode cX4_isBefore 72 = .ok (.aload_n 0, 1) := by decide +kernel
theorem dX4_isBefore_73 : decode cX4_isBefore 73 = .ok (.getfield 16, 3) := by decide +kernel
theorem dX4_isBefore_76 : decode cX4_isBefore 76 = .ok (.iload_n 1, 1) := by decide +kernel
theorem dX4_isBefore_77 : decode cX4_isBefore 77 = .ok (.iaload, 1) := by decide +kernel
theorem dX4_isBefore_78 : decode cX4_isBefore 78 = .ok (.aload_n 0, 1) := by decide +kernel
theorem dX4_isBefore_79 : decode cX4_isBefore 79 = .ok (.getfield 16, 3) := by decide +kernel
theorem dX4_isBefore_82 : decode cX4_isBefore 82 = .ok (.iload_n 2, 1) := by decide +kernel
theorem dX4_isBefore_83 : decode cX4_isBefore 83 = .ok (.iaload, 1) := by decide +kernel
theorem dX4_isBefore_84 : decode cX4_isBefore 84 = .ok (.if_icmp .eq 26, 3) := by decide +kernel
theorem dX4_isBefore_87 : decode cX4_isBefore 87 = .ok (.aload_n 0, 1) := by decide +kernel
theorem dX4_isBefore_88 : decode cX4_isBefore 88 = .ok (.getfield 16, 3) := by decide +kernel
theorem dX4_isBefore_91 : decode cX4_isBefore 91 = .ok (.iload_n 1, 1) := by decide +kernel
theorem dX4_isBefore_92 : decode cX4_isBefore 92 = .ok (.iaload, 1) := by decide +kernel
theorem dX4_isBefore_93 : decode cX4_isBefore 93 = .ok (.aload_n 0, 1) := by decide +kernel
theorem dX4_isBefore_94 : decode cX4_isBefore 94 = .ok (.getfield 16, 3) := by decide +kernel
theorem dX4_isBefore_97 : decode cX4_isBefore 97 = .ok (.iload_n 2, 1) := by decide +kernel
theorem dX4_isBefore_98 : decode cX4_isBefore 98 = .ok (.iaload, 1) := by decide +kernel
theorem dX4_isBefore_99 : decode cX4_isBefore 99 = .ok (.if_icmp .ge 7, 3) := by decide +kernel
theorem dX4_isBefore_102 : decode cX4_isBefore 102 = .ok (.iconst 1, 1) := by decide +kernel
theorem dX4_isBefore_103 : decode cX4_isBefore 103 = .ok (.goto 17, 3) := by decide +kernel
theorem dX4_isBefore_106 : decode cX4_isBefore 106 = .ok (.iconst 0, 1) := by decide +kernel
theorem dX4_isBefore_107 : decode cX4_isBefore 107 = .ok (.goto 13, 3) := by decide +kernel
theorem dX4_isBefore_110 : decode cX4_isBefore 110 = .ok (.iload_n 1, 1) := by decide +kernel
theorem dX4_isBefore_111 : decode cX4_isBefore 111 = .ok (.iload_n 2, 1) := by decide +kernel
theorem dX4_isBefore_112 : decode cX4_isBefore 112 = .ok (.if_icmp .ge 7, 3) := by decide +kernel
theorem dX4_isBefore_115 : decode cX4_isBefore 115 = .ok (.iconst 1, 1) := by decide +kernel
theorem dX4_isBefore_116 : decode cX4_isBefore 116 = .ok (.goto 4, 3) := by decide +kernel
theorem dX4_isBefore_119 : decode cX4_isBefore 119 = .ok (.iconst 0, 1) := by decide +kernel
theorem dX4_isBefore_120 : decode cX4_isBefore 120 = .ok (.ireturn, 1) := by decide +kernel
theorem dX4_make_0 : decode cX4_make 0 = .ok (.aload_n 0, 1) := by decide +kernel
theorem dX4_make_1 : decode cX4_make 1 = .ok (.iload_n 1, 1) := by decide +kernel
theorem dX4_make_2 : decode cX4_make 2 = .ok (.iconst 1, 1) := by decide +kernel
theorem dX4_make_3 : decode cX4_make 3 = .ok (.if_icmp .lt 9, 3) := by decide +kernel
theorem dX4_make_6 : decode cX4_make 6 = .ok (.iload_n 1, 1) := by decide +kernel
theorem dX4_make_7 : decode cX4_make 7 = .ok (.bipush 8, 2) := by decide +kernel
theorem dX4_make_9 : decode cX4_make 9 = .ok (.if_icmp .le 7, 3) := by decide +kernel
theorem dX4_make_12 : decode cX4_make 12 = .ok (.iconst 1, 1) := by decide +kernel
theorem dX4_make_13 : decode cX4_make 13 = .ok (.goto 4, 3) := by decide +kernel
theorem dX4_make_16 : decode cX4_make 16 = .ok (.iconst 0, 1) := by decide +kernel
theorem dX4_make_17 : decode cX4_make 17 = .ok (.putfield 57, 3) := by decide +kernel
theorem dX4_make_20 : decode cX4_make 20 = .ok (.aload_n 0, 1) := by decide +kernel
theorem dX4_make_21 : decode cX4_make 21 = .ok (.getfield 57, 3) := by decide +kernel
theorem dX4_make_24 : decode cX4_make 24 = .ok (.ifCond .le 5, 3) := by decide +kernel
theorem dX4_make_27 : decode cX4_make 27 = .ok (.iconst 0, 1) := by decide +kernel
theorem dX4_make_28 : decode cX4_make 28 = .ok (.ireturn, 1) := by decide +kernel
theorem dX4_make_29 : decode cX4_make 29 = .ok (.iconst 0, 1) := by decide +kernel
theorem dX4_make_30 : decode cX4_make 30 = .ok (.istore_n 2, 1) := by decide +kernel
theorem dX4_make_31 : decode cX4_make 31 = .ok (.iload_n 2, 1) := by decide +kernel
theorem dX4_make_32 : decode cX4_make 32 = .ok (.aload_n 0, 1) := by decide +kernel
theorem dX4_make_33 : decode cX4_make 33 = .ok (.getfield 60, 3) := by decide +kernel
theorem dX4_make_36 : decode cX4_make 36 = .ok (.if_icmp .ge 54, 3) := by decide +kernel
theorem dX4_make_39 : decode cX4_make 39 = .ok (.iconst 0, 1) := by decide +kernel
theorem dX4_make_40 : decode cX4_make 40 = .ok (.istore_n 3, 1) := by decide +kernel
theorem dX4_make_41 : decode cX4_make 41 = .ok (.iconst 0, 1) := by decide +kernel
theorem dX4_make_42 : decode cX4_make 42 = .ok (.istore 4, 2) := by decide +kernel
theorem dX4_make_44 : decode cX4_make 44 = .ok (.iload 4, 2) := by decide +kernel
theorem dX4_make_46 : decode cX4_make 46 = .ok (.aload_n 0, 1) := by decide +kernel
theorem dX4_make_47 : decode cX4_make 47 = .ok (.getfield 60, 3) := by decide +kernel
theorem dX4_make_50 : decode cX4_make 50 = .ok (.if_icmp .ge 27, 3) := by decide +kernel
theorem dX4_make_53 : decode cX4_make 53 = .ok (.aload_n 0, 1) := by decide +kernel
theorem dX4_make_54 : decode cX4_make 54 = .ok (.iload 4, 2) := by decide +kernel
theorem dX4_make_56 : decode cX4_make 56 = .ok (.iload_n 2, 1) := by decide +kernel
theorem dX4_make_57 : decode cX4_make 57 = .ok (.invokevirtual 73, 3) := by decide +kernel
theorem dX4_make_60 : decode cX4_make 60 = .ok (.ifCond .eq 9, 3) := by decide +kernel
theorem dX4_make_63 : decode cX4_make 63 = .ok (.iload_n 3, 1) := by decide +kernel
theorem dX4_make_64 : decode cX4_make 64 = .ok (.iconst 1, 1) := by decide +kernel
theorem dX4_make_65 : decode cX4_make 65 = .ok (.iadd, 1) := by decide +kernel
theorem dX4_make_66 : decode cX4_make 66 = .ok (.goto 4, 3) := by decide +kernel
theorem dX4_make_69 : decode cX4_make 69 = .ok (.iload_n 3, 1) := by decide +kernel
theorem dX4_make_70 : decode cX4_make 70 = .ok (.istore_n 3, 1) := by decide +kernel
theorem dX4_make_71 : decode cX4_make 71 = .ok (.iinc 4 1, 3) := by decide +kernel
theorem dX4_make_74 : decode cX4_make 74 = .ok (.goto (-30), 3) := by decide +kernel
theorem dX4_make_77 : decode cX4_make 77 = .ok (.aload_n 0, 1) := by decide +kernel
theorem dX4_make_78 : decode cX4_make 78 = .ok (.getfield 26, 3) := by decide +kernel
theorem dX4_make_81 : decode cX4_make 81 = .ok (.iload_n 3, 1) := by decide +kernel
theorem dX4_make_82 : decode cX4_make 82 = .ok (.iload_n 2, 1) := by decide +kernel
theorem dX4_make_83 : decode cX4_make 83 = .ok (.iastore, 1) := by decide +kernel
theorem dX4_make_84 : decode cX4_make 84 = .ok (.iinc 2 1, 3) := by decide +kernel
theorem dX4_make_87 : decode cX4_make 87 = .ok (.goto (-56), 3) := by decide +kernel
theorem dX4_make_90 : decode cX4_make 90 = .ok (.aload_n 0, 1) := by decide +kernel
theorem dX4_make_91 : decode cX4_make 91 = .ok (.aload_n 0, 1) := by decide +kernel
theorem dX4_make_92 : decode cX4_make 92 = .ok (.getfield 60, 3) := by decide +kernel
theorem dX4_make_95 : decode cX4_make 95 = .ok (.putfield 77, 3) := by decide +kernel
theorem dX4_make_98 : decode cX4_make 98 = .ok (.aload_n 0, 1) := by decide +kernel
theorem dX4_make_99 : decode cX4_make 99 = .ok (.iload_n 1, 1) := by decide +kernel
theorem dX4_make_100 : decode cX4_make 100 = .ok (.putfield 63, 3) := by decide +kernel
theorem dX4_make_103 : decode cX4_make 103 = .ok (.aload_n 0, 1) := by decide +kernel
theorem dX4_make_104 : decode cX4_make 104 = .ok (.getfield 29, 3) := by decide +kernel
theorem dX4_make_107 : decode cX4_make 107 = .ok (.iconst 0, 1) := by decide +kernel
theorem dX4_make_108 : decode cX4_make 108 = .ok (.iconst 0, 1) := by decide +kernel
theorem dX4_make_109 : decode cX4_make 109 = .ok (.iastore, 1) := by decide +kernel
theorem dX4_make_110 : decode cX4_make 110 = .ok (.iconst 0, 1) := by decide +kernel
theorem dX4_make_111 : decode cX4_make 111 = .ok (.istore_n 2, 1) := by decide +kernel
theorem dX4_make_112 : decode cX4_make 112 = .ok (.iload_n 2, 1) := by decide +kernel
theorem dX4_make_113 : decode cX4_make 113 = .ok (.iload_n 1, 1) := by decide +kernel
theorem dX4_make_114 : decode cX4_make 114 = .ok (.if_icmp .ge 46, 3) := by decide +kernel
theorem dX4_make_117 : decode cX4_make 117 = .ok (.aload_n 0, 1) := by decide +kernel
theorem dX4_make_118 : decode cX4_make 118 = .ok (.getfield 29, 3) := by decide +kernel
theorem dX4_make_121 : decode cX4_make 121 = .ok (.iload_n 2, 1) := by decide +kernel
theorem dX4_make_122 : decode cX4_make 122 = .ok (.iconst 1, 1) := by decide +kernel
theorem dX4_make_123 : decode cX4_make 123 = .ok (.iadd, 1) := by decide +kernel
theorem dX4_make_124 : decode cX4_make 124 = .ok (.aload_n 0, 1) := by decide +kernel
theorem dX4_make_125 : decode cX4_make 125 = .ok (.getfield 29, 3) := by decide +kernel
theorem dX4_make_128 : decode cX4_make 128 = .ok (.iload_n 2, 1) := by decide +kernel
theorem dX4_make_129 : decode cX4_make 129 = .ok (.iaload, 1) := by decide +kernel
theorem dX4_make_130 : decode cX4_make 130 = .ok (.aload_n 0, 1) := by decide +kernel
theorem dX4_make_131 : decode cX4_make 131 = .ok (.getfield 60, 3) := by decide +kernel
theorem dX4_make_134 : decode cX4_make 134 = .ok (.iload_n 1, 1) := by decide +kernel
theorem dX4_make_135 : decode cX4_make 135 = .ok (.idiv, 1) := by decide +kernel
theorem dX4_make_136 : decode cX4_make 136 = .ok (.iadd, 1) := by decide +kernel
theorem dX4_make_137 : decode cX4_make 137 = .ok (.iload_n 2, 1) := by decide +kernel
theorem dX4_make_138 : decode cX4_make 138 = .ok (.aload_n 0, 1) := by decide +kernel
theorem dX4_make_139 : decode cX4_make 139 = .ok (.getfield 60, 3) := by decide +kernel
theorem dX4_make_142 : decode cX4_make 142 = .ok (.iload_n 1, 1) := by decide +kernel
theorem dX4_make_143 : decode cX4_make 143 = .ok (.irem, 1) := by decide +kernel
theorem dX4_make_144 : decode cX4_make 144 = .ok (.if_icmp .ge 7, 3) := by decide +kernel
theorem dX4_make_147 : decode cX4_make 147 = .ok (.iconst 1, 1) := by decide +kernel
theorem dX4_make_148 : decode cX4_make 148 = .ok (.goto 4, 3) := by decide +kernel
theorem dX4_make_151 : decode cX4_make 151 = .ok (.iconst 0, 1) := by decide +kernel
theorem dX4_make_152 : decode cX4_make 152 = .ok (.iadd, 1) := by decide +kernel
theorem dX4_make_153 : decode cX4_make 153 = .ok (.iastore, 1) := by decide +kernel
theorem dX4_make_154 : decode cX4_make 154 = .ok (.iinc 2 1, 3) := by decide +kernel
theorem dX4_make_157 : decode cX4_make 157 = .ok (.goto (-45), 3) := by decide +kernel
theorem dX4_make_160 : decode cX4_make 160 = .ok (.aload_n 0, 1) := by decide +kernel
theorem dX4_make_161 : decode cX4_make 161 = .ok (.getfield 29, 3) := by decide +kernel
theorem dX4_make_164 : decode cX4_make 164 = .ok (.iconst 1, 1) := by decide +kernel
theorem dX4_make_165 : decode cX4_make 165 = .ok (.iaload, 1) := by decide +kernel
theorem dX4_make_166 : decode cX4_make 166 = .ok (.ireturn, 1) := by decide +kernel
set_option maxHeartbeats 4000000 in
set_option maxRecDepth 100000 in
theorem c_ScanRowsModel_isLatch (l : Launch) (dC : Nat → ClassId) (dI : Nat → Nat → Nat) (q : Nat → Nat) (cI cZ : ClassId) (sz : Nat) (y : MS) (v : Int32) : Met l yX4_isLatch (.code yX4_isLatch cX4_isLatch 2 (some .boolean) :: ALLG) ({ frames := 0, cells := 0, slots := 0, locals := 0 }) (va_Pc [.ref (q 0), .int v] (cP (dC, dI) vwCl [(cI, .int), (cZ, .boolean)] (wM q cI cZ y) eT sz)) (va_Qi (fun (x : Int32) (_ : Unit) => x = nI (hcN v y.n)) (fun (_ : Unit) => cB (dC, dI) vwCl [(cI, .int), (cZ, .boolean)] (wM q cI cZ y) (va_A (wM q cI cZ y) sz)) (va_A (wM q cI cZ y) sz)) 0 0 (va_A (wM q cI cZ y) sz) := by
  refine xm_of (cc := cX4_isLatch) (maxL := 2) (ret := some .boolean) (by decide) rfl (Nat.le_of_ble_eq_true rfl) ?_
  intro p e s m below meth c A hAe hx hb hr hml hts0 hown hlk hin hsz H locs hP hK hD hA hS hE ls hl
  have hts : ∀ w ∈ ALLG, w.before _ s = true := fun w h => hts0 w (List.mem_cons_of_mem _ h)
  rw [← hAe]
  have hl : lv_has ls 2 [(0, .ref (q 0)), (1, .int v)] := hl
  refine lv_iload_n hx hb dX4_isLatch_0 rfl (lv_at hl 1 rfl) ?_
  refine lv_if_lt (tgt := 16) hx hb dX4_isLatch_1 (by decide) (fun c_1 => ?_) (fun c_1 => ?_)
  · refine lv_iconst (v := nI 0) hx hb dX4_isLatch_16 (by decide) ?_
    exact xr_z hx hb hr hlk (by decide) (u := ()) (by unfold hcN; first | rw [if_pos ⟨by assumption, Int32.not_le.mp (by assumption)⟩] | rw [if_neg (fun h => h.1 (by assumption))] | rw [if_neg (fun h => absurd (by assumption) (Int32.not_le.mpr h.2))]) hP hK hD hS dX4_isLatch_17
  · refine lv_iload_n hx hb dX4_isLatch_4 rfl (lv_at hl 1 rfl) ?_
    refine lv_aload_n hx hb dX4_isLatch_5 rfl (lv_at hl 0 rfl) ?_
    refine va_get (D := (dC, dI)) (ci := 4) (v := .int (nI (MS.n y))) (C := RX4) (T := TX4) (N := 23) hx hb hts inX4 hown hK hP 0 rfl rfl 7 (by decide) (hts _ tw_579) (fun _ h9 => h9) rfl dX4_isLatch_6 ?_
    refine lv_icmp_ge (tgt := 16) hx hb dX4_isLatch_9 (by decide) (fun c_2 => ?_) (fun c_2 => ?_)
    · refine lv_iconst (v := nI 0) hx hb dX4_isLatch_16 (by decide) ?_
      exact xr_z hx hb hr hlk (by decide) (u := ()) (by unfold hcN; first | rw [if_pos ⟨by assumption, Int32.not_le.mp (by assumption)⟩] | rw [if_neg (fun h => h.1 (by assumption))] | rw [if_neg (fun h => absurd (by assumption) (Int32.not_le.mpr h.2))]) hP hK hD hS dX4_isLatch_17
    · refine lv_iconst (v := nI 1) hx hb dX4_isLatch_12 (by decide) ?_
      refine lv_goto (tgt := 17) hx hb dX4_isLatch_13 (by decide) ?_
      exact xr_z hx hb hr hlk (by decide) (u := ()) (by unfold hcN; first | rw [if_pos ⟨by assumption, Int32.not_le.mp (by assumption)⟩] | rw [if_neg (fun h => h.1 (by assumption))] | rw [if_neg (fun h => absurd (by assumption) (Int32.not_le.mpr h.2))]) hP hK hD hS dX4_isLatch_17
set_option maxHeartbeats 4000000 in
set_option maxRecDepth 100000 in
theorem c_ScanRowsModel_isChain (l : Launch) (dC : Nat → ClassId) (dI : Nat → Nat → Nat) (q : Nat → Nat) (cI cZ : ClassId) (sz : Nat) (y : MS) (v : Int32) : Met l yX4_isChain (.code yX4_isChain cX4_isChain 2 (some .boolean) :: ALLG) ({ frames := 0, cells := 0, slots := 0, locals := 0 }) (va_Pc [.ref (q 0), .int v] (cP (dC, dI) vwCl [(cI, .int), (cZ, .boolean)] (wM q cI cZ y) eT sz)) (va_Qi (fun (x : Int32) (_ : Unit) => x = nI (hcN v y.c)) (fun (_ : Unit) => cB (dC, dI) vwCl [(cI, .int), (cZ, .boolean)] (wM q cI cZ y) (va_A (wM q cI cZ y) sz)) (va_A (wM q cI cZ y) sz)) 0 0 (va_A (wM q cI cZ y) sz) := by
  refine xm_of (cc := cX4_isChain) (maxL := 2) (ret := some .boolean) (by decide) rfl (Nat.le_of_ble_eq_true rfl) ?_
  intro p e s m below meth c A hAe hx hb hr hml hts0 hown hlk hin hsz H locs hP hK hD hA hS hE ls hl
  have hts : ∀ w ∈ ALLG, w.before _ s = true := fun w h => hts0 w (List.mem_cons_of_mem _ h)
  rw [← hAe]
  have hl : lv_has ls 2 [(0, .ref (q 0)), (1, .int v)] := hl
  refine lv_iload_n hx hb dX4_isChain_0 rfl (lv_at hl 1 rfl) ?_
  refine lv_if_lt (tgt := 16) hx hb dX4_isChain_1 (by decide) (fun c_1 => ?_) (fun c_1 => ?_)
  · refine lv_iconst (v := nI 0) hx hb dX4_isChain_16 (by decide) ?_
    exact xr_z hx hb hr hlk (by decide) (u := ()) (by unfold hcN; first | rw [if_pos ⟨by assumption, Int32.not_le.mp (by assumption)⟩] | rw [if_neg (fun h => h.1 (by assumption))] | rw [if_neg (fun h => absurd (by assumption) (Int32.not_le.mpr h.2))]) hP hK hD hS dX4_isChain_17
  · refine lv_iload_n hx hb dX4_isChain_4 rfl (lv_at hl 1 rfl) ?_
    refine lv_aload_n hx hb dX4_isChain_5 rfl (lv_at hl 0 rfl) ?_
    refine va_get (D := (dC, dI)) (ci := 4) (v := .int (nI (MS.c y))) (C := RX4) (T := TX4) (N := 23) hx hb hts inX4 hown hK hP 0 rfl rfl 11 (by decide) (hts _ tw_583) (fun _ h9 => h9) rfl dX4_isChain_6 ?_
    refine lv_icmp_ge (tgt := 16) hx hb dX4_isChain_9 (by decide) (fun c_2 => ?_) (fun c_2 => ?_)
    · refine lv_iconst (v := nI 0) hx hb dX4_isChain_16 (by decide) ?_
      exact xr_z hx hb hr hlk (by decide) (u := ()) (by unfold hcN; first | rw [if_pos ⟨by assumption, Int32.not_le.mp (by assumption)⟩] | rw [if_neg (fun h => h.1 (by assumption))] | rw [if_neg (fun h => absurd (by assumption) (Int32.not_le.mpr h.2))]) hP hK hD hS dX4_isChain_17
    · refine lv_iconst (v := nI 1) hx hb dX4_isChain_12 (by decide) ?_
      refine lv_goto (tgt := 17) hx hb dX4_isChain_13 (by decide) ?_
      exact xr_z hx hb hr hlk (by decide) (u := ()) (by unfold hcN; first | rw [if_pos ⟨by assumption, Int32.not_le.mp (by assumption)⟩] | rw [if_neg (fun h => h.1 (by assumption))] | rw [if_neg (fun h => absurd (by assumption) (Int32.not_le.mpr h.2))]) hP hK hD hS dX4_isChain_17
set_option maxHeartbeats 4000000 in
set_option maxRecDepth 100000 in
theorem c_ScanRowsModel_isCell (l : Launch) (dC : Nat → ClassId) (dI : Nat → Nat → Nat) (q : Nat → Nat) (cI cZ : ClassId) (sz : Nat) (y : MS) (v : Int32) : Met l yX4_isCell (.code yX4_isCell cX4_isCell 2 (some .boolean) :: ALLG) ({ frames := 0, cells := 0, slots := 0, locals := 0 }) (va_Pc [.ref (q 0), .int v] (cP (dC, dI) vwCl [(cI, .int), (cZ, .boolean)] (wM q cI cZ y) eT sz)) (va_Qi (fun (x : Int32) (_ : Unit) => x = nI (hcN v y.cn)) (fun (_ : Unit) => cB (dC, dI) vwCl [(cI, .int), (cZ, .boolean)] (wM q cI cZ y) (va_A (wM q cI cZ y) sz)) (va_A (wM q cI cZ y) sz)) 0 0 (va_A (wM q cI cZ y) sz) := by
  refine xm_of (cc := cX4_isCell) (maxL := 2) (ret := some .boolean) (by decide) rfl (Nat.le_of_ble_eq_true rfl) ?_
  intro p e s m below meth c A hAe hx hb hr hml hts0 hown hlk hin hsz H locs hP hK hD hA hS hE ls hl
  have hts : ∀ w ∈ ALLG, w.before _ s = true := fun w h => hts0 w (List.mem_cons_of_mem _ h)
  rw [← hAe]
  have hl : lv_has ls 2 [(0, .ref (q 0)), (1, .int v)] := hl
  refine lv_iload_n hx hb dX4_isCell_0 rfl (lv_at hl 1 rfl) ?_
  refine lv_if_lt (tgt := 16) hx hb dX4_isCell_1 (by decide) (fun c_1 => ?_) (fun c_1 => ?_)
  · refine lv_iconst (v := nI 0) hx hb dX4_isCell_16 (by decide) ?_
    exact xr_z hx hb hr hlk (by decide) (u := ()) (by unfold hcN; first | rw [if_pos ⟨by assumption, Int32.not_le.mp (by assumption)⟩] | rw [if_neg (fun h => h.1 (by assumption))] | rw [if_neg (fun h => absurd (by assumption) (Int32.not_le.mpr h.2))]) hP hK hD hS dX4_isCell_17
  · refine lv_iload_n hx hb dX4_isCell_4 rfl (lv_at hl 1 rfl) ?_
    refine lv_aload_n hx hb dX4_isCell_5 rfl (lv_at hl 0 rfl) ?_
    refine va_get (D := (dC, dI)) (ci := 4) (v := .int (nI (MS.cn y))) (C := RX4) (T := TX4) (N := 23) hx hb hts inX4 hown hK hP 0 rfl rfl 16 (by decide) (hts _ tw_588) (fun _ h9 => h9) rfl dX4_isCell_6 ?_
    refine lv_icmp_ge (tgt := 16) hx hb dX4_isCell_9 (by decide) (fun c_2 => ?_) (fun c_2 => ?_)
    · refine lv_iconst (v := nI 0) hx hb dX4_isCell_16 (by decide) ?_
      exact xr_z hx hb hr hlk (by decide) (u := ()) (by unfold hcN; first | rw [if_pos ⟨by assumption, Int32.not_le.mp (by assumption)⟩] | rw [if_neg (fun h => h.1 (by assumption))] | rw [if_neg (fun h => absurd (by assumption) (Int32.not_le.mpr h.2))]) hP hK hD hS dX4_isCell_17
    · refine lv_iconst (v := nI 1) hx hb dX4_isCell_12 (by decide) ?_
      refine lv_goto (tgt := 17) hx hb dX4_isCell_13 (by decide) ?_
      exact xr_z hx hb hr hlk (by decide) (u := ()) (by unfold hcN; first | rw [if_pos ⟨by assumption, Int32.not_le.mp (by assumption)⟩] | rw [if_neg (fun h => h.1 (by assumption))] | rw [if_neg (fun h => absurd (by assumption) (Int32.not_le.mpr h.2))]) hP hK hD hS dX4_isCell_17
set_option maxHeartbeats 4000000 in
set_option maxRecDepth 100000 in
theorem c_ScanRowsModel_thrown (l : Launch) (dC : Nat → ClassId) (dI : Nat → Nat → Nat) (q : Nat → Nat) (cI cZ : ClassId) (sz : Nat) (y : MS) : Met l yX4_thrown (.code yX4_thrown cX4_thrown 1 (some .int) :: ALLG) ({ frames := 0, cells := 0, slots := 0, locals := 0 }) (va_Pc [.ref (q 0)] (cP (dC, dI) vwCl [(cI, .int), (cZ, .boolean)] (wM q cI cZ y) eT sz)) (va_Qi (fun (x : Int32) (_ : Unit) => x = nI y.th) (fun (_ : Unit) => cB (dC, dI) vwCl [(cI, .int), (cZ, .boolean)] (wM q cI cZ y) (va_A (wM q cI cZ y) sz)) (va_A (wM q cI cZ y) sz)) 0 0 (va_A (wM q cI cZ y) sz) := by
  refine xm_of (cc := cX4_thrown) (maxL := 1) (ret := some .int) (by decide) rfl (Nat.le_of_ble_eq_true rfl) ?_
  intro p e s m below meth c A hAe hx hb hr hml hts0 hown hlk hin hsz H locs hP hK hD hA hS hE ls hl
  have hts : ∀ w ∈ ALLG, w.before _ s = true := fun w h => hts0 w (List.mem_cons_of_mem _ h)
  rw [← hAe]
  have hl : lv_has ls 1 [(0, .ref (q 0))] := hl
  refine lv_aload_n hx hb dX4_thrown_0 rfl (lv_at hl 0 rfl) ?_
  refine va_get (D := (dC, dI)) (ci := 4) (v := .int (nI (MS.th y))) (C := RX4) (T := TX4) (N := 23) hx hb hts inX4 hown hK hP 0 rfl rfl 0 (by decide) (hts _ tw_572) (fun _ h9 => h9) rfl dX4_thrown_1 ?_
  exact xr_i hx hb hr hlk (u := ()) rfl hP hK hD hS dX4_thrown_4
set_option maxHeartbeats 4000000 in
set_option maxRecDepth 100000 in
theorem c_ScanRowsModel_latch (l : Launch) (dC : Nat → ClassId) (dI : Nat → Nat → Nat) (q : Nat → Nat) (cI cZ : ClassId) (sz : Nat) (y : MS) (ck : Nat) (xx yy : Int) (h1 : y.n < 32) (h2 : ck < 4) (h3 : -1000 ≤ xx ∧ xx ≤ 1000) (h4 : -1000 ≤ yy ∧ yy ≤ 1000) : Met l yX4_latch (.code yX4_latch cX4_latch 7 (some .int) :: ALLG) ({ frames := 0, cells := 0, slots := 0, locals := 0 }) (va_Pc [.ref (q 0), .int (nI ck), .long (zL xx), .long (zL yy)] (cP (dC, dI) vwCl [(cI, .int), (cZ, .boolean)] (wM q cI cZ y) eT sz)) (va_Qi (fun (x : Int32) (u : MS) => x = nI y.n ∧ u = mLatch y ck xx yy) (fun (u : MS) => cB (dC, dI) vwCl [(cI, .int), (cZ, .boolean)] (wM q cI cZ u) (va_A (wM q cI cZ y) sz)) (va_A (wM q cI cZ y) sz)) 0 0 (va_A (wM q cI cZ y) sz) := by
  refine xm_of (cc := cX4_latch) (maxL := 7) (ret := some .int) (by decide) rfl (Nat.le_of_ble_eq_true rfl) ?_
  intro p e s m below meth c A hAe hx hb hr hml hts0 hown hlk hin hsz H locs hP hK hD hA hS hE ls hl
  have hts : ∀ w ∈ ALLG, w.before _ s = true := fun w h => hts0 w (List.mem_cons_of_mem _ h)
  rw [← hAe]
  have hl : lv_has ls 7 [(0, .ref (q 0)), (1, .int (nI ck)), (2, .long (zL xx)), (4, .long (zL yy))] := hl
  refine lv_iload_n hx hb dX4_latch_0 rfl (lv_at hl 1 rfl) ?_
  refine xn_zlt (tgt := 47) hx hb (by omega) dX4_latch_1 (by decide) ?_
  refine lv_iload_n hx hb dX4_latch_4 rfl (lv_at hl 1 rfl) ?_
  refine lv_iconst (v := nI 3) hx hb dX4_latch_5 (by decide) ?_
  refine xn_cgt (tgt := 47) hx hb (by omega) (by omega) dX4_latch_6 (by decide) (fun c_2 => ?_) (fun c_2 => ?_)
  · exact absurd (show False by omega) id
  · refine lv_lload_n hx hb dX4_latch_9 rfl (lv_at hl 2 rfl) ?_
    refine lv_ldc2 (v := (-1000 : Int64)) hx hb hown (hts _ tw_650) dX4_latch_10 ?_
    refine W.lcmp hx hb dX4_latch_13 ?_
    refine lv_if_lt (tgt := 47) hx hb dX4_latch_14 (by decide) (fun c_3 => ?_) (fun c_3 => ?_)
    · exact absurd ((lg_cmp_lt _ _).mp c_3) (zL_lo h3.1 h3.2)
    · refine lv_lload_n hx hb dX4_latch_17 rfl (lv_at hl 2 rfl) ?_
      refine lv_ldc2 (v := (1000 : Int64)) hx hb hown (hts _ tw_651) dX4_latch_18 ?_
      refine W.lcmp hx hb dX4_latch_21 ?_
      refine lv_if_gt (tgt := 47) hx hb dX4_latch_22 (by decide) (fun c_4 => ?_) (fun c_4 => ?_)
      · exact absurd ((lg_cmp_gt _ _).mp c_4) (zL_hi h3.1 h3.2)
      · refine lv_lload hx hb dX4_latch_25 (lv_at hl 3 rfl) ?_
        refine lv_ldc2 (v := (-1000 : Int64)) hx hb hown (hts _ tw_650) dX4_latch_27 ?_
        refine W.lcmp hx hb dX4_latch_30 ?_
        refine lv_if_lt (tgt := 47) hx hb dX4_latch_31 (by decide) (fun c_5 => ?_) (fun c_5 => ?_)
        · exact absurd ((lg_cmp_lt _ _).mp c_5) (zL_lo h4.1 h4.2)
        · refine lv_lload hx hb dX4_latch_34 (lv_at hl 3 rfl) ?_
          refine lv_ldc2 (v := (1000 : Int64)) hx hb hown (hts _ tw_651) dX4_latch_36 ?_
          refine W.lcmp hx hb dX4_latch_39 ?_
          refine lv_if_gt (tgt := 47) hx hb dX4_latch_40 (by decide) (fun c_6 => ?_) (fun c_6 => ?_)
          · exact absurd ((lg_cmp_gt _ _).mp c_6) (zL_hi h4.1 h4.2)
          · refine lv_iconst (v := nI 1) hx hb dX4_latch_43 (by decide) ?_
            refine lv_goto (tgt := 48) hx hb dX4_latch_44 (by decide) ?_
            refine lv_istore (lv' := [(6, .int (nI 1)), (0, .ref (q 0)), (1, .int (nI ck)), (2, .long (zL xx)), (4, .long (zL yy))]) hx hb dX4_latch_48 hl (by decide) rfl (fun ls hl => ?_)
            refine lv_aload_n hx hb dX4_latch_50 rfl (lv_at hl 1 rfl) ?_
            refine lv_aload_n hx hb dX4_latch_51 rfl (lv_at hl 1 rfl) ?_
            refine va_get (D := (dC, dI)) (ci := 4) (v := .int (nI (MS.n y))) (C := RX4) (T := TX4) (N := 23) hx hb hts inX4 hown hK hP 0 rfl rfl 7 (by decide) (hts _ tw_579) (fun _ h9 => h9) rfl dX4_latch_52 ?_
            refine lv_bipush (v := nI 32) hx hb dX4_latch_55 (by decide) ?_
            refine xn_cne (tgt := 64) hx hb (by omega) (by omega) dX4_latch_57 (by decide) (fun c_7 => ?_) (fun c_7 => ?_)
            · refine lv_iload hx hb dX4_latch_64 (lv_at hl 0 rfl) ?_
              refine xn_zne (tgt := 73) hx hb (by omega) dX4_latch_66 (by decide) (fun c_8 => ?_) (fun c_8 => ?_)
              · refine lv_iconst (v := nI 0) hx hb dX4_latch_73 (by decide) ?_
                refine va_put (D := (dC, dI)) (ci := 4) (v := .int (nI 0)) (ty := .int) (C := RX4) (T := TX4) (N := 23) hx hb hts inX4 tyX4 tyX4_ok nmX4 hown hK hP hD hS 0 rfl rfl 0 (by decide) (hts _ tw_572) (fun _ h9 => h9) rfl (by decide +kernel) rfl rfl (Nat.le_of_ble_eq_true rfl) dX4_latch_74 (fun H locs hP hD hS => ?_)
                have hP : va_P (dC, dI) vwCl (wM q cI cZ (MS.s_th y 0)) H := hP
                have hD : va_D A (wM q cI cZ (MS.s_th y 0)) := hD
                refine lv_aload_n hx hb dX4_latch_77 rfl (lv_at hl 1 rfl) ?_
                refine va_get (D := (dC, dI)) (ci := 4) (v := .int (nI 0)) (C := RX4) (T := TX4) (N := 23) hx hb hts inX4 hown hK hP 0 rfl rfl 0 (by decide) (hts _ tw_572) (fun _ h9 => h9) rfl dX4_latch_78 ?_
                refine xn_zle (tgt := 86) hx hb (by omega) dX4_latch_81 (by decide) (fun c_9 => ?_) (fun c_9 => ?_)
                · refine lv_aload_n hx hb dX4_latch_86 rfl (lv_at hl 1 rfl) ?_
                  refine va_get (D := (dC, dI)) (ci := 4) (v := .ref (q 1)) (C := RX4) (T := TX4) (N := 23) hx hb hts inX4 hown hK hP 0 rfl rfl 2 (by decide) (hts _ tw_574) (fun _ h9 => h9) rfl dX4_latch_87 ?_
                  refine lv_aload_n hx hb dX4_latch_90 rfl (lv_at hl 1 rfl) ?_
                  refine va_get (D := (dC, dI)) (ci := 4) (v := .int (nI (MS.n y))) (C := RX4) (T := TX4) (N := 23) hx hb hts inX4 hown hK hP 0 rfl rfl 7 (by decide) (hts _ tw_579) (fun _ h9 => h9) rfl dX4_latch_91 ?_
                  refine lv_iload_n hx hb dX4_latch_94 rfl (lv_at hl 2 rfl) ?_
                  refine xa_ist hx hb hK hP hD hS 1 0 rfl rfl (by omega) (by decide) (aN_up _ _ _) dX4_latch_95 (fun H locs hP hD hS => ?_)
                  have hP : va_P (dC, dI) vwCl (wM q cI cZ (MS.s_ck (MS.s_th y 0) (va_up (MS.ck y) (MS.n y) ck))) H := hP
                  have hD : va_D A (wM q cI cZ (MS.s_ck (MS.s_th y 0) (va_up (MS.ck y) (MS.n y) ck))) := hD
                  refine lv_aload_n hx hb dX4_latch_96 rfl (lv_at hl 1 rfl) ?_
                  refine va_get (D := (dC, dI)) (ci := 4) (v := .ref (q 2)) (C := RX4) (T := TX4) (N := 23) hx hb hts inX4 hown hK hP 0 rfl rfl 3 (by decide) (hts _ tw_575) (fun _ h9 => h9) rfl dX4_latch_97 ?_
                  refine lv_aload_n hx hb dX4_latch_100 rfl (lv_at hl 1 rfl) ?_
                  refine va_get (D := (dC, dI)) (ci := 4) (v := .int (nI (MS.n y))) (C := RX4) (T := TX4) (N := 23) hx hb hts inX4 hown hK hP 0 rfl rfl 7 (by decide) (hts _ tw_579) (fun _ h9 => h9) rfl dX4_latch_101 ?_
                  refine lv_lload_n hx hb dX4_latch_104 rfl (lv_at hl 3 rfl) ?_
                  refine lv_l2i hx hb dX4_latch_105 rfl ?_
                  refine xt_i (show ((zL xx).toInt32) = zI xx from zL_i xx) ?_
                  refine xa_ist hx hb hK hP hD hS 2 0 rfl rfl (by omega) (by decide) (aZ_up _ _ _) dX4_latch_106 (fun H locs hP hD hS => ?_)
                  have hP : va_P (dC, dI) vwCl (wM q cI cZ (MS.s_xx (MS.s_ck (MS.s_th y 0) (va_up (MS.ck y) (MS.n y) ck)) (va_up (MS.xx y) (MS.n y) xx))) H := hP
                  have hD : va_D A (wM q cI cZ (MS.s_xx (MS.s_ck (MS.s_th y 0) (va_up (MS.ck y) (MS.n y) ck)) (va_up (MS.xx y) (MS.n y) xx))) := hD
                  refine lv_aload_n hx hb dX4_latch_107 rfl (lv_at hl 1 rfl) ?_
                  refine va_get (D := (dC, dI)) (ci := 4) (v := .ref (q 3)) (C := RX4) (T := TX4) (N := 23) hx hb hts inX4 hown hK hP 0 rfl rfl 4 (by decide) (hts _ tw_576) (fun _ h9 => h9) rfl dX4_latch_108 ?_
                  refine lv_aload_n hx hb dX4_latch_111 rfl (lv_at hl 1 rfl) ?_
                  refine va_get (D := (dC, dI)) (ci := 4) (v := .int (nI (MS.n y))) (C := RX4) (T := TX4) (N := 23) hx hb hts inX4 hown hK hP 0 rfl rfl 7 (by decide) (hts _ tw_579) (fun _ h9 => h9) rfl dX4_latch_112 ?_
                  refine lv_lload hx hb dX4_latch_115 (lv_at hl 4 rfl) ?_
                  refine lv_l2i hx hb dX4_latch_117 rfl ?_
                  refine xt_i (show ((zL yy).toInt32) = zI yy from zL_i yy) ?_
                  refine xa_ist hx hb hK hP hD hS 3 0 rfl rfl (by omega) (by decide) (aZ_up _ _ _) dX4_latch_118 (fun H locs hP hD hS => ?_)
                  have hP : va_P (dC, dI) vwCl (wM q cI cZ (MS.s_yy (MS.s_xx (MS.s_ck (MS.s_th y 0) (va_up (MS.ck y) (MS.n y) ck)) (va_up (MS.xx y) (MS.n y) xx)) (va_up (MS.yy y) (MS.n y) yy))) H := hP
                  have hD : va_D A (wM q cI cZ (MS.s_yy (MS.s_xx (MS.s_ck (MS.s_th y 0) (va_up (MS.ck y) (MS.n y) ck)) (va_up (MS.xx y) (MS.n y) xx)) (va_up (MS.yy y) (MS.n y) yy))) := hD
                  refine lv_aload_n hx hb dX4_latch_119 rfl (lv_at hl 1 rfl) ?_
                  refine lv_dup hx hb dX4_latch_120 rfl ?_
                  refine va_get (D := (dC, dI)) (ci := 4) (v := .int (nI (MS.n y))) (C := RX4) (T := TX4) (N := 23) hx hb hts inX4 hown hK hP 0 rfl rfl 7 (by decide) (hts _ tw_579) (fun _ h9 => h9) rfl dX4_latch_121 ?_
                  refine lv_iconst (v := nI 1) hx hb dX4_latch_124 (by decide) ?_
                  refine xn_add hx hb dX4_latch_125 ?_
                  refine va_put (D := (dC, dI)) (ci := 4) (v := .int (nI ((MS.n y) + 1))) (ty := .int) (C := RX4) (T := TX4) (N := 23) hx hb hts inX4 tyX4 tyX4_ok nmX4 hown hK hP hD hS 0 rfl rfl 7 (by decide) (hts _ tw_579) (fun _ h9 => h9) rfl (by decide +kernel) rfl rfl (Nat.le_of_ble_eq_true rfl) dX4_latch_126 (fun H locs hP hD hS => ?_)
                  have hP : va_P (dC, dI) vwCl (wM q cI cZ (MS.s_n (MS.s_yy (MS.s_xx (MS.s_ck (MS.s_th y 0) (va_up (MS.ck y) (MS.n y) ck)) (va_up (MS.xx y) (MS.n y) xx)) (va_up (MS.yy y) (MS.n y) yy)) ((MS.n y) + 1))) H := hP
                  have hD : va_D A (wM q cI cZ (MS.s_n (MS.s_yy (MS.s_xx (MS.s_ck (MS.s_th y 0) (va_up (MS.ck y) (MS.n y) ck)) (va_up (MS.xx y) (MS.n y) xx)) (va_up (MS.yy y) (MS.n y) yy)) ((MS.n y) + 1))) := hD
                  refine lv_aload_n hx hb dX4_latch_129 rfl (lv_at hl 1 rfl) ?_
                  refine va_get (D := (dC, dI)) (ci := 4) (v := .int (nI ((MS.n y) + 1))) (C := RX4) (T := TX4) (N := 23) hx hb hts inX4 hown hK hP 0 rfl rfl 7 (by decide) (hts _ tw_579) (fun _ h9 => h9) rfl dX4_latch_130 ?_
                  refine lv_iconst (v := nI 1) hx hb dX4_latch_133 (by decide) ?_
                  refine xn_sub hx hb (by omega) dX4_latch_134 ?_
                  exact xr_i hx hb hr hlk (u := MS.s_n (MS.s_yy (MS.s_xx (MS.s_ck (MS.s_th y 0) (va_up (MS.ck y) (MS.n y) ck)) (va_up (MS.xx y) (MS.n y) xx)) (va_up (MS.yy y) (MS.n y) yy)) ((MS.n y) + 1)) (⟨by rw [Nat.add_sub_cancel], rfl⟩) hP hK hD hS dX4_latch_135
                · exact absurd (show False by omega) id
              · exact absurd (show False by omega) id
            · exact absurd (show False by omega) id
set_option maxHeartbeats 4000000 in
set_option maxRecDepth 100000 in
theorem c_M_latch1 (l : Launch) (dC : Nat → ClassId) (dI : Nat → Nat → Nat) (q : Nat → Nat) (cI cZ : ClassId) (sz : Nat) (y : MS) (ck : Int32) (xl yl : Int64) (h1 : y.n = 32) : Met l yX4_latch (.code yX4_latch cX4_latch 7 (some .int) :: ALLG) ({ frames := 0, cells := 0, slots := 0, locals := 0 }) (va_Pc [.ref (q 0), .int ck, .long xl, .long yl] (cP (dC, dI) vwCl [(cI, .int), (cZ, .boolean)] (wM q cI cZ y) eT sz)) (va_Qi (fun (x : Int32) (u : MS) => x = nI 0 ∧ u = y.s_th 1) (fun (u : MS) => cB (dC, dI) vwCl [(cI, .int), (cZ, .boolean)] (wM q cI cZ u) (va_A (wM q cI cZ y) sz)) (va_A (wM q cI cZ y) sz)) 0 0 (va_A (wM q cI cZ y) sz) := by
  refine xm_of (cc := cX4_latch) (maxL := 7) (ret := some .int) (by decide) rfl (Nat.le_of_ble_eq_true rfl) ?_
  intro p e s m below meth c A hAe hx hb hr hml hts0 hown hlk hin hsz H locs hP hK hD hA hS hE ls hl
  have hts : ∀ w ∈ ALLG, w.before _ s = true := fun w h => hts0 w (List.mem_cons_of_mem _ h)
  rw [← hAe]
  have hl : lv_has ls 7 [(0, .ref (q 0)), (1, .int ck), (2, .long xl), (4, .long yl)] := hl
  refine lv_iload_n hx hb dX4_latch_0 rfl (lv_at hl 1 rfl) ?_
  refine lv_if_lt (tgt := 47) hx hb dX4_latch_1 (by decide) (fun c_1 => ?_) (fun c_1 => ?_)
  · refine lv_iconst (v := nI 0) hx hb dX4_latch_47 (by decide) ?_
    refine lv_istore (lv' := [(6, .int (nI 0)), (0, .ref (q 0)), (1, .int ck), (2, .long xl), (4, .long yl)]) hx hb dX4_latch_48 hl (by decide) rfl (fun ls hl => ?_)
    refine lv_aload_n hx hb dX4_latch_50 rfl (lv_at hl 1 rfl) ?_
    refine lv_aload_n hx hb dX4_latch_51 rfl (lv_at hl 1 rfl) ?_
    refine va_get (D := (dC, dI)) (ci := 4) (v := .int (nI (MS.n y))) (C := RX4) (T := TX4) (N := 23) hx hb hts inX4 hown hK hP 0 rfl rfl 7 (by decide) (hts _ tw_579) (fun _ h9 => h9) rfl dX4_latch_52 ?_
    refine lv_bipush (v := nI 32) hx hb dX4_latch_55 (by decide) ?_
    refine xn_cne (tgt := 64) hx hb (by omega) (by omega) dX4_latch_57 (by decide) (fun c_2 => ?_) (fun c_2 => ?_)
    · exact absurd (show False by omega) id
    · refine lv_iconst (v := nI 1) hx hb dX4_latch_60 (by decide) ?_
      refine lv_goto (tgt := 74) hx hb dX4_latch_61 (by decide) ?_
      refine va_put (D := (dC, dI)) (ci := 4) (v := .int (nI 1)) (ty := .int) (C := RX4) (T := TX4) (N := 23) hx hb hts inX4 tyX4 tyX4_ok nmX4 hown hK hP hD hS 0 rfl rfl 0 (by decide) (hts _ tw_572) (fun _ h9 => h9) rfl (by decide +kernel) rfl rfl (Nat.le_of_ble_eq_true rfl) dX4_latch_74 (fun H locs hP hD hS => ?_)
      have hP : va_P (dC, dI) vwCl (wM q cI cZ (MS.s_th y 1)) H := hP
      have hD : va_D A (wM q cI cZ (MS.s_th y 1)) := hD
      refine lv_aload_n hx hb dX4_latch_77 rfl (lv_at hl 1 rfl) ?_
      refine va_get (D := (dC, dI)) (ci := 4) (v := .int (nI 1)) (C := RX4) (T := TX4) (N := 23) hx hb hts inX4 hown hK hP 0 rfl rfl 0 (by decide) (hts _ tw_572) (fun _ h9 => h9) rfl dX4_latch_78 ?_
      refine xn_zle (tgt := 86) hx hb (by omega) dX4_latch_81 (by decide) (fun c_3 => ?_) (fun c_3 => ?_)
      · exact absurd (show False by omega) id
      · refine lv_iconst (v := nI 0) hx hb dX4_latch_84 (by decide) ?_
        exact xr_i hx hb hr hlk (u := MS.s_th y 1) (⟨rfl, rfl⟩) hP hK hD hS dX4_latch_85
  · refine lv_iload_n hx hb dX4_latch_4 rfl (lv_at hl 1 rfl) ?_
    refine lv_iconst (v := nI 3) hx hb dX4_latch_5 (by decide) ?_
    refine lv_icmp_gt (tgt := 47) hx hb dX4_latch_6 (by decide) (fun c_4 => ?_) (fun c_4 => ?_)
    · refine lv_iconst (v := nI 0) hx hb dX4_latch_47 (by decide) ?_
      refine lv_istore (lv' := [(6, .int (nI 0)), (0, .ref (q 0)), (1, .int ck), (2, .long xl), (4, .long yl)]) hx hb dX4_latch_48 hl (by decide) rfl (fun ls hl => ?_)
      refine lv_aload_n hx hb dX4_latch_50 rfl (lv_at hl 1 rfl) ?_
      refine lv_aload_n hx hb dX4_latch_51 rfl (lv_at hl 1 rfl) ?_
      refine va_get (D := (dC, dI)) (ci := 4) (v := .int (nI (MS.n y))) (C := RX4) (T := TX4) (N := 23) hx hb hts inX4 hown hK hP 0 rfl rfl 7 (by decide) (hts _ tw_579) (fun _ h9 => h9) rfl dX4_latch_52 ?_
      refine lv_bipush (v := nI 32) hx hb dX4_latch_55 (by decide) ?_
      refine xn_cne (tgt := 64) hx hb (by omega) (by omega) dX4_latch_57 (by decide) (fun c_5 => ?_) (fun c_5 => ?_)
      · exact absurd (show False by omega) id
      · refine lv_iconst (v := nI 1) hx hb dX4_latch_60 (by decide) ?_
        refine lv_goto (tgt := 74) hx hb dX4_latch_61 (by decide) ?_
        refine va_put (D := (dC, dI)) (ci := 4) (v := .int (nI 1)) (ty := .int) (C := RX4) (T := TX4) (N := 23) hx hb hts inX4 tyX4 tyX4_ok nmX4 hown hK hP hD hS 0 rfl rfl 0 (by decide) (hts _ tw_572) (fun _ h9 => h9) rfl (by decide +kernel) rfl rfl (Nat.le_of_ble_eq_true rfl) dX4_latch_74 (fun H locs hP hD hS => ?_)
        have hP : va_P (dC, dI) vwCl (wM q cI cZ (MS.s_th y 1)) H := hP
        have hD : va_D A (wM q cI cZ (MS.s_th y 1)) := hD
        refine lv_aload_n hx hb dX4_latch_77 rfl (lv_at hl 1 rfl) ?_
        refine va_get (D := (dC, dI)) (ci := 4) (v := .int (nI 1)) (C := RX4) (T := TX4) (N := 23) hx hb hts inX4 hown hK hP 0 rfl rfl 0 (by decide) (hts _ tw_572) (fun _ h9 => h9) rfl dX4_latch_78 ?_
        refine xn_zle (tgt := 86) hx hb (by omega) dX4_latch_81 (by decide) (fun c_6 => ?_) (fun c_6 => ?_)
        · exact absurd (show False by omega) id
        · refine lv_iconst (v := nI 0) hx hb dX4_latch_84 (by decide) ?_
          exact xr_i hx hb hr hlk (u := MS.s_th y 1) (⟨rfl, rfl⟩) hP hK hD hS dX4_latch_85
    · refine lv_lload_n hx hb dX4_latch_9 rfl (lv_at hl 2 rfl) ?_
      refine lv_ldc2 (v := (-1000 : Int64)) hx hb hown (hts _ tw_650) dX4_latch_10 ?_
      refine W.lcmp hx hb dX4_latch_13 ?_
      refine lv_if_lt (tgt := 47) hx hb dX4_latch_14 (by decide) (fun c_7 => ?_) (fun c_7 => ?_)
      · refine lv_iconst (v := nI 0) hx hb dX4_latch_47 (by decide) ?_
        refine lv_istore (lv' := [(6, .int (nI 0)), (0, .ref (q 0)), (1, .int ck), (2, .long xl), (4, .long yl)]) hx hb dX4_latch_48 hl (by decide) rfl (fun ls hl => ?_)
        refine lv_aload_n hx hb dX4_latch_50 rfl (lv_at hl 1 rfl) ?_
        refine lv_aload_n hx hb dX4_latch_51 rfl (lv_at hl 1 rfl) ?_
        refine va_get (D := (dC, dI)) (ci := 4) (v := .int (nI (MS.n y))) (C := RX4) (T := TX4) (N := 23) hx hb hts inX4 hown hK hP 0 rfl rfl 7 (by decide) (hts _ tw_579) (fun _ h9 => h9) rfl dX4_latch_52 ?_
        refine lv_bipush (v := nI 32) hx hb dX4_latch_55 (by decide) ?_
        refine xn_cne (tgt := 64) hx hb (by omega) (by omega) dX4_latch_57 (by decide) (fun c_8 => ?_) (fun c_8 => ?_)
        · exact absurd (show False by omega) id
        · refine lv_iconst (v := nI 1) hx hb dX4_latch_60 (by decide) ?_
          refine lv_goto (tgt := 74) hx hb dX4_latch_61 (by decide) ?_
          refine va_put (D := (dC, dI)) (ci := 4) (v := .int (nI 1)) (ty := .int) (C := RX4) (T := TX4) (N := 23) hx hb hts inX4 tyX4 tyX4_ok nmX4 hown hK hP hD hS 0 rfl rfl 0 (by decide) (hts _ tw_572) (fun _ h9 => h9) rfl (by decide +kernel) rfl rfl (Nat.le_of_ble_eq_true rfl) dX4_latch_74 (fun H locs hP hD hS => ?_)
          have hP : va_P (dC, dI) vwCl (wM q cI cZ (MS.s_th y 1)) H := hP
          have hD : va_D A (wM q cI cZ (MS.s_th y 1)) := hD
          refine lv_aload_n hx hb dX4_latch_77 rfl (lv_at hl 1 rfl) ?_
          refine va_get (D := (dC, dI)) (ci := 4) (v := .int (nI 1)) (C := RX4) (T := TX4) (N := 23) hx hb hts inX4 hown hK hP 0 rfl rfl 0 (by decide) (hts _ tw_572) (fun _ h9 => h9) rfl dX4_latch_78 ?_
          refine xn_zle (tgt := 86) hx hb (by omega) dX4_latch_81 (by decide) (fun c_9 => ?_) (fun c_9 => ?_)
          · exact absurd (show False by omega) id
          · refine lv_iconst (v := nI 0) hx hb dX4_latch_84 (by decide) ?_
            exact xr_i hx hb hr hlk (u := MS.s_th y 1) (⟨rfl, rfl⟩) hP hK hD hS dX4_latch_85
      · refine lv_lload_n hx hb dX4_latch_17 rfl (lv_at hl 2 rfl) ?_
        refine lv_ldc2 (v := (1000 : Int64)) hx hb hown (hts _ tw_651) dX4_latch_18 ?_
        refine W.lcmp hx hb dX4_latch_21 ?_
        refine lv_if_gt (tgt := 47) hx hb dX4_latch_22 (by decide) (fun c_10 => ?_) (fun c_10 => ?_)
        · refine lv_iconst (v := nI 0) hx hb dX4_latch_47 (by decide) ?_
          refine lv_istore (lv' := [(6, .int (nI 0)), (0, .ref (q 0)), (1, .int ck), (2, .long xl), (4, .long yl)]) hx hb dX4_latch_48 hl (by decide) rfl (fun ls hl => ?_)
          refine lv_aload_n hx hb dX4_latch_50 rfl (lv_at hl 1 rfl) ?_
          refine lv_aload_n hx hb dX4_latch_51 rfl (lv_at hl 1 rfl) ?_
          refine va_get (D := (dC, dI)) (ci := 4) (v := .int (nI (MS.n y))) (C := RX4) (T := TX4) (N := 23) hx hb hts inX4 hown hK hP 0 rfl rfl 7 (by decide) (hts _ tw_579) (fun _ h9 => h9) rfl dX4_latch_52 ?_
          refine lv_bipush (v := nI 32) hx hb dX4_latch_55 (by decide) ?_
          refine xn_cne (tgt := 64) hx hb (by omega) (by omega) dX4_latch_57 (by decide) (fun c_11 => ?_) (fun c_11 => ?_)
          · exact absurd (show False by omega) id
          · refine lv_iconst (v := nI 1) hx hb dX4_latch_60 (by decide) ?_
            refine lv_goto (tgt := 74) hx hb dX4_latch_61 (by decide) ?_
            refine va_put (D := (dC, dI)) (ci := 4) (v := .int (nI 1)) (ty := .int) (C := RX4) (T := TX4) (N := 23) hx hb hts inX4 tyX4 tyX4_ok nmX4 hown hK hP hD hS 0 rfl rfl 0 (by decide) (hts _ tw_572) (fun _ h9 => h9) rfl (by decide +kernel) rfl rfl (Nat.le_of_ble_eq_true rfl) dX4_latch_74 (fun H locs hP hD hS => ?_)
            have hP : va_P (dC, dI) vwCl (wM q cI cZ (MS.s_th y 1)) H := hP
            have hD : va_D A (wM q cI cZ (MS.s_th y 1)) := hD
            refine lv_aload_n hx hb dX4_latch_77 rfl (lv_at hl 1 rfl) ?_
            refine va_get (D := (dC, dI)) (ci := 4) (v := .int (nI 1)) (C := RX4) (T := TX4) (N := 23) hx hb hts inX4 hown hK hP 0 rfl rfl 0 (by decide) (hts _ tw_572) (fun _ h9 => h9) rfl dX4_latch_78 ?_
            refine xn_zle (tgt := 86) hx hb (by omega) dX4_latch_81 (by decide) (fun c_12 => ?_) (fun c_12 => ?_)
            · exact absurd (show False by omega) id
            · refine lv_iconst (v := nI 0) hx hb dX4_latch_84 (by decide) ?_
              exact xr_i hx hb hr hlk (u := MS.s_th y 1) (⟨rfl, rfl⟩) hP hK hD hS dX4_latch_85
        · refine lv_lload hx hb dX4_latch_25 (lv_at hl 3 rfl) ?_
          refine lv_ldc2 (v := (-1000 : Int64)) hx hb hown (hts _ tw_650) dX4_latch_27 ?_
          refine W.lcmp hx hb dX4_latch_30 ?_
          refine lv_if_lt (tgt := 47) hx hb dX4_latch_31 (by decide) (fun c_13 => ?_) (fun c_13 => ?_)
          · refine lv_iconst (v := nI 0) hx hb dX4_latch_47 (by decide) ?_
            refine lv_istore (lv' := [(6, .int (nI 0)), (0, .ref (q 0)), (1, .int ck), (2, .long xl), (4, .long yl)]) hx hb dX4_latch_48 hl (by decide) rfl (fun ls hl => ?_)
            refine lv_aload_n hx hb dX4_latch_50 rfl (lv_at hl 1 rfl) ?_
            refine lv_aload_n hx hb dX4_latch_51 rfl (lv_at hl 1 rfl) ?_
            refine va_get (D := (dC, dI)) (ci := 4) (v := .int (nI (MS.n y))) (C := RX4) (T := TX4) (N := 23) hx hb hts inX4 hown hK hP 0 rfl rfl 7 (by decide) (hts _ tw_579) (fun _ h9 => h9) rfl dX4_latch_52 ?_
            refine lv_bipush (v := nI 32) hx hb dX4_latch_55 (by decide) ?_
            refine xn_cne (tgt := 64) hx hb (by omega) (by omega) dX4_latch_57 (by decide) (fun c_14 => ?_) (fun c_14 => ?_)
            · exact absurd (show False by omega) id
            · refine lv_iconst (v := nI 1) hx hb dX4_latch_60 (by decide) ?_
              refine lv_goto (tgt := 74) hx hb dX4_latch_61 (by decide) ?_
              refine va_put (D := (dC, dI)) (ci := 4) (v := .int (nI 1)) (ty := .int) (C := RX4) (T := TX4) (N := 23) hx hb hts inX4 tyX4 tyX4_ok nmX4 hown hK hP hD hS 0 rfl rfl 0 (by decide) (hts _ tw_572) (fun _ h9 => h9) rfl (by decide +kernel) rfl rfl (Nat.le_of_ble_eq_true rfl) dX4_latch_74 (fun H locs hP hD hS => ?_)
              have hP : va_P (dC, dI) vwCl (wM q cI cZ (MS.s_th y 1)) H := hP
              have hD : va_D A (wM q cI cZ (MS.s_th y 1)) := hD
              refine lv_aload_n hx hb dX4_latch_77 rfl (lv_at hl 1 rfl) ?_
              refine va_get (D := (dC, dI)) (ci := 4) (v := .int (nI 1)) (C := RX4) (T := TX4) (N := 23) hx hb hts inX4 hown hK hP 0 rfl rfl 0 (by decide) (hts _ tw_572) (fun _ h9 => h9) rfl dX4_latch_78 ?_
              refine xn_zle (tgt := 86) hx hb (by omega) dX4_latch_81 (by decide) (fun c_15 => ?_) (fun c_15 => ?_)
              · exact absurd (show False by omega) id
              · refine lv_iconst (v := nI 0) hx hb dX4_latch_84 (by decide) ?_
                exact xr_i hx hb hr hlk (u := MS.s_th y 1) (⟨rfl, rfl⟩) hP hK hD hS dX4_latch_85
          · refine lv_lload hx hb dX4_latch_34 (lv_at hl 3 rfl) ?_
            refine lv_ldc2 (v := (1000 : Int64)) hx hb hown (hts _ tw_651) dX4_latch_36 ?_
            refine W.lcmp hx hb dX4_latch_39 ?_
            refine lv_if_gt (tgt := 47) hx hb dX4_latch_40 (by decide) (fun c_16 => ?_) (fun c_16 => ?_)
            · refine lv_iconst (v := nI 0) hx hb dX4_latch_47 (by decide) ?_
              refine lv_istore (lv' := [(6, .int (nI 0)), (0, .ref (q 0)), (1, .int ck), (2, .long xl), (4, .long yl)]) hx hb dX4_latch_48 hl (by decide) rfl (fun ls hl => ?_)
              refine lv_aload_n hx hb dX4_latch_50 rfl (lv_at hl 1 rfl) ?_
              refine lv_aload_n hx hb dX4_latch_51 rfl (lv_at hl 1 rfl) ?_
              refine va_get (D := (dC, dI)) (ci := 4) (v := .int (nI (MS.n y))) (C := RX4) (T := TX4) (N := 23) hx hb hts inX4 hown hK hP 0 rfl rfl 7 (by decide) (hts _ tw_579) (fun _ h9 => h9) rfl dX4_latch_52 ?_
              refine lv_bipush (v := nI 32) hx hb dX4_latch_55 (by decide) ?_
              refine xn_cne (tgt := 64) hx hb (by omega) (by omega) dX4_latch_57 (by decide) (fun c_17 => ?_) (fun c_17 => ?_)
              · exact absurd (show False by omega) id
              · refine lv_iconst (v := nI 1) hx hb dX4_latch_60 (by decide) ?_
                refine lv_goto (tgt := 74) hx hb dX4_latch_61 (by decide) ?_
                refine va_put (D := (dC, dI)) (ci := 4) (v := .int (nI 1)) (ty := .int) (C := RX4) (T := TX4) (N := 23) hx hb hts inX4 tyX4 tyX4_ok nmX4 hown hK hP hD hS 0 rfl rfl 0 (by decide) (hts _ tw_572) (fun _ h9 => h9) rfl (by decide +kernel) rfl rfl (Nat.le_of_ble_eq_true rfl) dX4_latch_74 (fun H locs hP hD hS => ?_)
                have hP : va_P (dC, dI) vwCl (wM q cI cZ (MS.s_th y 1)) H := hP
                have hD : va_D A (wM q cI cZ (MS.s_th y 1)) := hD
                refine lv_aload_n hx hb dX4_latch_77 rfl (lv_at hl 1 rfl) ?_
                refine va_get (D := (dC, dI)) (ci := 4) (v := .int (nI 1)) (C := RX4) (T := TX4) (N := 23) hx hb hts inX4 hown hK hP 0 rfl rfl 0 (by decide) (hts _ tw_572) (fun _ h9 => h9) rfl dX4_latch_78 ?_
                refine xn_zle (tgt := 86) hx hb (by omega) dX4_latch_81 (by decide) (fun c_18 => ?_) (fun c_18 => ?_)
                · exact absurd (show False by omega) id
                · refine lv_iconst (v := nI 0) hx hb dX4_latch_84 (by decide) ?_
                  exact xr_i hx hb hr hlk (u := MS.s_th y 1) (⟨rfl, rfl⟩) hP hK hD hS dX4_latch_85
            · refine lv_iconst (v := nI 1) hx hb dX4_latch_43 (by decide) ?_
              refine lv_goto (tgt := 48) hx hb dX4_latch_44 (by decide) ?_
              refine lv_istore (lv' := [(6, .int (nI 1)), (0, .ref (q 0)), (1, .int ck), (2, .long xl), (4, .long yl)]) hx hb dX4_latch_48 hl (by decide) rfl (fun ls hl => ?_)
              refine lv_aload_n hx hb dX4_latch_50 rfl (lv_at hl 1 rfl) ?_
              refine lv_aload_n hx hb dX4_latch_51 rfl (lv_at hl 1 rfl) ?_
              refine va_get (D := (dC, dI)) (ci := 4) (v := .int (nI (MS.n y))) (C := RX4) (T := TX4) (N := 23) hx hb hts inX4 hown hK hP 0 rfl rfl 7 (by decide) (hts _ tw_579) (fun _ h9 => h9) rfl dX4_latch_52 ?_
              refine lv_bipush (v := nI 32) hx hb dX4_latch_55 (by decide) ?_
              refine xn_cne (tgt := 64) hx hb (by omega) (by omega) dX4_latch_57 (by decide) (fun c_19 => ?_) (fun c_19 => ?_)
              · exact absurd (show False by omega) id
              · refine lv_iconst (v := nI 1) hx hb dX4_latch_60 (by decide) ?_
                refine lv_goto (tgt := 74) hx hb dX4_latch_61 (by decide) ?_
                refine va_put (D := (dC, dI)) (ci := 4) (v := .int (nI 1)) (ty := .int) (C := RX4) (T := TX4) (N := 23) hx hb hts inX4 tyX4 tyX4_ok nmX4 hown hK hP hD hS 0 rfl rfl 0 (by decide) (hts _ tw_572) (fun _ h9 => h9) rfl (by decide +kernel) rfl rfl (Nat.le_of_ble_eq_true rfl) dX4_latch_74 (fun H locs hP hD hS => ?_)
                have hP : va_P (dC, dI) vwCl (wM q cI cZ (MS.s_th y 1)) H := hP
                have hD : va_D A (wM q cI cZ (MS.s_th y 1)) := hD
                refine lv_aload_n hx hb dX4_latch_77 rfl (lv_at hl 1 rfl) ?_
                refine va_get (D := (dC, dI)) (ci := 4) (v := .int (nI 1)) (C := RX4) (T := TX4) (N := 23) hx hb hts inX4 hown hK hP 0 rfl rfl 0 (by decide) (hts _ tw_572) (fun _ h9 => h9) rfl dX4_latch_78 ?_
                refine xn_zle (tgt := 86) hx hb (by omega) dX4_latch_81 (by decide) (fun c_20 => ?_) (fun c_20 => ?_)
                · exact absurd (show False by omega) id
                · refine lv_iconst (v := nI 0) hx hb dX4_latch_84 (by decide) ?_
                  exact xr_i hx hb hr hlk (u := MS.s_th y 1) (⟨rfl, rfl⟩) hP hK hD hS dX4_latch_85
set_option maxHeartbeats 4000000 in
set_option maxRecDepth 100000 in
theorem c_M_latch2 (l : Launch) (dC : Nat → ClassId) (dI : Nat → Nat → Nat) (q : Nat → Nat) (cI cZ : ClassId) (sz : Nat) (y : MS) (ck : Int32) (xl yl : Int64) (h1 : y.n < 32) (h2 : mBad ck xl yl) : Met l yX4_latch (.code yX4_latch cX4_latch 7 (some .int) :: ALLG) ({ frames := 0, cells := 0, slots := 0, locals := 0 }) (va_Pc [.ref (q 0), .int ck, .long xl, .long yl] (cP (dC, dI) vwCl [(cI, .int), (cZ, .boolean)] (wM q cI cZ y) eT sz)) (va_Qi (fun (x : Int32) (u : MS) => x = nI 0 ∧ u = y.s_th 2) (fun (u : MS) => cB (dC, dI) vwCl [(cI, .int), (cZ, .boolean)] (wM q cI cZ u) (va_A (wM q cI cZ y) sz)) (va_A (wM q cI cZ y) sz)) 0 0 (va_A (wM q cI cZ y) sz) := by
  refine xm_of (cc := cX4_latch) (maxL := 7) (ret := some .int) (by decide) rfl (Nat.le_of_ble_eq_true rfl) ?_
  intro p e s m below meth c A hAe hx hb hr hml hts0 hown hlk hin hsz H locs hP hK hD hA hS hE ls hl
  have hts : ∀ w ∈ ALLG, w.before _ s = true := fun w h => hts0 w (List.mem_cons_of_mem _ h)
  rw [← hAe]
  have hl : lv_has ls 7 [(0, .ref (q 0)), (1, .int ck), (2, .long xl), (4, .long yl)] := hl
  refine lv_iload_n hx hb dX4_latch_0 rfl (lv_at hl 1 rfl) ?_
  refine lv_if_lt (tgt := 47) hx hb dX4_latch_1 (by decide) (fun c_1 => ?_) (fun c_1 => ?_)
  · refine lv_iconst (v := nI 0) hx hb dX4_latch_47 (by decide) ?_
    refine lv_istore (lv' := [(6, .int (nI 0)), (0, .ref (q 0)), (1, .int ck), (2, .long xl), (4, .long yl)]) hx hb dX4_latch_48 hl (by decide) rfl (fun ls hl => ?_)
    refine lv_aload_n hx hb dX4_latch_50 rfl (lv_at hl 1 rfl) ?_
    refine lv_aload_n hx hb dX4_latch_51 rfl (lv_at hl 1 rfl) ?_
    refine va_get (D := (dC, dI)) (ci := 4) (v := .int (nI (MS.n y))) (C := RX4) (T := TX4) (N := 23) hx hb hts inX4 hown hK hP 0 rfl rfl 7 (by decide) (hts _ tw_579) (fun _ h9 => h9) rfl dX4_latch_52 ?_
    refine lv_bipush (v := nI 32) hx hb dX4_latch_55 (by decide) ?_
    refine xn_cne (tgt := 64) hx hb (by omega) (by omega) dX4_latch_57 (by decide) (fun c_2 => ?_) (fun c_2 => ?_)
    · refine lv_iload hx hb dX4_latch_64 (lv_at hl 0 rfl) ?_
      refine xn_zne (tgt := 73) hx hb (by omega) dX4_latch_66 (by decide) (fun c_3 => ?_) (fun c_3 => ?_)
      · exact absurd (show False by omega) id
      · refine lv_iconst (v := nI 2) hx hb dX4_latch_69 (by decide) ?_
        refine lv_goto (tgt := 74) hx hb dX4_latch_70 (by decide) ?_
        refine va_put (D := (dC, dI)) (ci := 4) (v := .int (nI 2)) (ty := .int) (C := RX4) (T := TX4) (N := 23) hx hb hts inX4 tyX4 tyX4_ok nmX4 hown hK hP hD hS 0 rfl rfl 0 (by decide) (hts _ tw_572) (fun _ h9 => h9) rfl (by decide +kernel) rfl rfl (Nat.le_of_ble_eq_true rfl) dX4_latch_74 (fun H locs hP hD hS => ?_)
        have hP : va_P (dC, dI) vwCl (wM q cI cZ (MS.s_th y 2)) H := hP
        have hD : va_D A (wM q cI cZ (MS.s_th y 2)) := hD
        refine lv_aload_n hx hb dX4_latch_77 rfl (lv_at hl 1 rfl) ?_
        refine va_get (D := (dC, dI)) (ci := 4) (v := .int (nI 2)) (C := RX4) (T := TX4) (N := 23) hx hb hts inX4 hown hK hP 0 rfl rfl 0 (by decide) (hts _ tw_572) (fun _ h9 => h9) rfl dX4_latch_78 ?_
        refine xn_zle (tgt := 86) hx hb (by omega) dX4_latch_81 (by decide) (fun c_4 => ?_) (fun c_4 => ?_)
        · exact absurd (show False by omega) id
        · refine lv_iconst (v := nI 0) hx hb dX4_latch_84 (by decide) ?_
          exact xr_i hx hb hr hlk (u := MS.s_th y 2) (⟨rfl, rfl⟩) hP hK hD hS dX4_latch_85
    · exact absurd (show False by omega) id
  · refine lv_iload_n hx hb dX4_latch_4 rfl (lv_at hl 1 rfl) ?_
    refine lv_iconst (v := nI 3) hx hb dX4_latch_5 (by decide) ?_
    refine lv_icmp_gt (tgt := 47) hx hb dX4_latch_6 (by decide) (fun c_5 => ?_) (fun c_5 => ?_)
    · refine lv_iconst (v := nI 0) hx hb dX4_latch_47 (by decide) ?_
      refine lv_istore (lv' := [(6, .int (nI 0)), (0, .ref (q 0)), (1, .int ck), (2, .long xl), (4, .long yl)]) hx hb dX4_latch_48 hl (by decide) rfl (fun ls hl => ?_)
      refine lv_aload_n hx hb dX4_latch_50 rfl (lv_at hl 1 rfl) ?_
      refine lv_aload_n hx hb dX4_latch_51 rfl (lv_at hl 1 rfl) ?_
      refine va_get (D := (dC, dI)) (ci := 4) (v := .int (nI (MS.n y))) (C := RX4) (T := TX4) (N := 23) hx hb hts inX4 hown hK hP 0 rfl rfl 7 (by decide) (hts _ tw_579) (fun _ h9 => h9) rfl dX4_latch_52 ?_
      refine lv_bipush (v := nI 32) hx hb dX4_latch_55 (by decide) ?_
      refine xn_cne (tgt := 64) hx hb (by omega) (by omega) dX4_latch_57 (by decide) (fun c_6 => ?_) (fun c_6 => ?_)
      · refine lv_iload hx hb dX4_latch_64 (lv_at hl 0 rfl) ?_
        refine xn_zne (tgt := 73) hx hb (by omega) dX4_latch_66 (by decide) (fun c_7 => ?_) (fun c_7 => ?_)
        · exact absurd (show False by omega) id
        · refine lv_iconst (v := nI 2) hx hb dX4_latch_69 (by decide) ?_
          refine lv_goto (tgt := 74) hx hb dX4_latch_70 (by decide) ?_
          refine va_put (D := (dC, dI)) (ci := 4) (v := .int (nI 2)) (ty := .int) (C := RX4) (T := TX4) (N := 23) hx hb hts inX4 tyX4 tyX4_ok nmX4 hown hK hP hD hS 0 rfl rfl 0 (by decide) (hts _ tw_572) (fun _ h9 => h9) rfl (by decide +kernel) rfl rfl (Nat.le_of_ble_eq_true rfl) dX4_latch_74 (fun H locs hP hD hS => ?_)
          have hP : va_P (dC, dI) vwCl (wM q cI cZ (MS.s_th y 2)) H := hP
          have hD : va_D A (wM q cI cZ (MS.s_th y 2)) := hD
          refine lv_aload_n hx hb dX4_latch_77 rfl (lv_at hl 1 rfl) ?_
          refine va_get (D := (dC, dI)) (ci := 4) (v := .int (nI 2)) (C := RX4) (T := TX4) (N := 23) hx hb hts inX4 hown hK hP 0 rfl rfl 0 (by decide) (hts _ tw_572) (fun _ h9 => h9) rfl dX4_latch_78 ?_
          refine xn_zle (tgt := 86) hx hb (by omega) dX4_latch_81 (by decide) (fun c_8 => ?_) (fun c_8 => ?_)
          · exact absurd (show False by omega) id
          · refine lv_iconst (v := nI 0) hx hb dX4_latch_84 (by decide) ?_
            exact xr_i hx hb hr hlk (u := MS.s_th y 2) (⟨rfl, rfl⟩) hP hK hD hS dX4_latch_85
      · exact absurd (show False by omega) id
    · refine lv_lload_n hx hb dX4_latch_9 rfl (lv_at hl 2 rfl) ?_
      refine lv_ldc2 (v := (-1000 : Int64)) hx hb hown (hts _ tw_650) dX4_latch_10 ?_
      refine W.lcmp hx hb dX4_latch_13 ?_
      refine lv_if_lt (tgt := 47) hx hb dX4_latch_14 (by decide) (fun c_9 => ?_) (fun c_9 => ?_)
      · refine lv_iconst (v := nI 0) hx hb dX4_latch_47 (by decide) ?_
        refine lv_istore (lv' := [(6, .int (nI 0)), (0, .ref (q 0)), (1, .int ck), (2, .long xl), (4, .long yl)]) hx hb dX4_latch_48 hl (by decide) rfl (fun ls hl => ?_)
        refine lv_aload_n hx hb dX4_latch_50 rfl (lv_at hl 1 rfl) ?_
        refine lv_aload_n hx hb dX4_latch_51 rfl (lv_at hl 1 rfl) ?_
        refine va_get (D := (dC, dI)) (ci := 4) (v := .int (nI (MS.n y))) (C := RX4) (T := TX4) (N := 23) hx hb hts inX4 hown hK hP 0 rfl rfl 7 (by decide) (hts _ tw_579) (fun _ h9 => h9) rfl dX4_latch_52 ?_
        refine lv_bipush (v := nI 32) hx hb dX4_latch_55 (by decide) ?_
        refine xn_cne (tgt := 64) hx hb (by omega) (by omega) dX4_latch_57 (by decide) (fun c_10 => ?_) (fun c_10 => ?_)
        · refine lv_iload hx hb dX4_latch_64 (lv_at hl 0 rfl) ?_
          refine xn_zne (tgt := 73) hx hb (by omega) dX4_latch_66 (by decide) (fun c_11 => ?_) (fun c_11 => ?_)
          · exact absurd (show False by omega) id
          · refine lv_iconst (v := nI 2) hx hb dX4_latch_69 (by decide) ?_
            refine lv_goto (tgt := 74) hx hb dX4_latch_70 (by decide) ?_
            refine va_put (D := (dC, dI)) (ci := 4) (v := .int (nI 2)) (ty := .int) (C := RX4) (T := TX4) (N := 23) hx hb hts inX4 tyX4 tyX4_ok nmX4 hown hK hP hD hS 0 rfl rfl 0 (by decide) (hts _ tw_572) (fun _ h9 => h9) rfl (by decide +kernel) rfl rfl (Nat.le_of_ble_eq_true rfl) dX4_latch_74 (fun H locs hP hD hS => ?_)
            have hP : va_P (dC, dI) vwCl (wM q cI cZ (MS.s_th y 2)) H := hP
            have hD : va_D A (wM q cI cZ (MS.s_th y 2)) := hD
            refine lv_aload_n hx hb dX4_latch_77 rfl (lv_at hl 1 rfl) ?_
            refine va_get (D := (dC, dI)) (ci := 4) (v := .int (nI 2)) (C := RX4) (T := TX4) (N := 23) hx hb hts inX4 hown hK hP 0 rfl rfl 0 (by decide) (hts _ tw_572) (fun _ h9 => h9) rfl dX4_latch_78 ?_
            refine xn_zle (tgt := 86) hx hb (by omega) dX4_latch_81 (by decide) (fun c_12 => ?_) (fun c_12 => ?_)
            · exact absurd (show False by omega) id
            · refine lv_iconst (v := nI 0) hx hb dX4_latch_84 (by decide) ?_
              exact xr_i hx hb hr hlk (u := MS.s_th y 2) (⟨rfl, rfl⟩) hP hK hD hS dX4_latch_85
        · exact absurd (show False by omega) id
      · refine lv_lload_n hx hb dX4_latch_17 rfl (lv_at hl 2 rfl) ?_
        refine lv_ldc2 (v := (1000 : Int64)) hx hb hown (hts _ tw_651) dX4_latch_18 ?_
        refine W.lcmp hx hb dX4_latch_21 ?_
        refine lv_if_gt (tgt := 47) hx hb dX4_latch_22 (by decide) (fun c_13 => ?_) (fun c_13 => ?_)
        · refine lv_iconst (v := nI 0) hx hb dX4_latch_47 (by decide) ?_
          refine lv_istore (lv' := [(6, .int (nI 0)), (0, .ref (q 0)), (1, .int ck), (2, .long xl), (4, .long yl)]) hx hb dX4_latch_48 hl (by decide) rfl (fun ls hl => ?_)
          refine lv_aload_n hx hb dX4_latch_50 rfl (lv_at hl 1 rfl) ?_
          refine lv_aload_n hx hb dX4_latch_51 rfl (lv_at hl 1 rfl) ?_
          refine va_get (D := (dC, dI)) (ci := 4) (v := .int (nI (MS.n y))) (C := RX4) (T := TX4) (N := 23) hx hb hts inX4 hown hK hP 0 rfl rfl 7 (by decide) (hts _ tw_579) (fun _ h9 => h9) rfl dX4_latch_52 ?_
          refine lv_bipush (v := nI 32) hx hb dX4_latch_55 (by decide) ?_
          refine xn_cne (tgt := 64) hx hb (by omega) (by omega) dX4_latch_57 (by decide) (fun c_14 => ?_) (fun c_14 => ?_)
          · refine lv_iload hx hb dX4_latch_64 (lv_at hl 0 rfl) ?_
            refine xn_zne (tgt := 73) hx hb (by omega) dX4_latch_66 (by decide) (fun c_15 => ?_) (fun c_15 => ?_)
            · exact absurd (show False by omega) id
            · refine lv_iconst (v := nI 2) hx hb dX4_latch_69 (by decide) ?_
              refine lv_goto (tgt := 74) hx hb dX4_latch_70 (by decide) ?_
              refine va_put (D := (dC, dI)) (ci := 4) (v := .int (nI 2)) (ty := .int) (C := RX4) (T := TX4) (N := 23) hx hb hts inX4 tyX4 tyX4_ok nmX4 hown hK hP hD hS 0 rfl rfl 0 (by decide) (hts _ tw_572) (fun _ h9 => h9) rfl (by decide +kernel) rfl rfl (Nat.le_of_ble_eq_true rfl) dX4_latch_74 (fun H locs hP hD hS => ?_)
              have hP : va_P (dC, dI) vwCl (wM q cI cZ (MS.s_th y 2)) H := hP
              have hD : va_D A (wM q cI cZ (MS.s_th y 2)) := hD
              refine lv_aload_n hx hb dX4_latch_77 rfl (lv_at hl 1 rfl) ?_
              refine va_get (D := (dC, dI)) (ci := 4) (v := .int (nI 2)) (C := RX4) (T := TX4) (N := 23) hx hb hts inX4 hown hK hP 0 rfl rfl 0 (by decide) (hts _ tw_572) (fun _ h9 => h9) rfl dX4_latch_78 ?_
              refine xn_zle (tgt := 86) hx hb (by omega) dX4_latch_81 (by decide) (fun c_16 => ?_) (fun c_16 => ?_)
              · exact absurd (show False by omega) id
              · refine lv_iconst (v := nI 0) hx hb dX4_latch_84 (by decide) ?_
                exact xr_i hx hb hr hlk (u := MS.s_th y 2) (⟨rfl, rfl⟩) hP hK hD hS dX4_latch_85
          · exact absurd (show False by omega) id
        · refine lv_lload hx hb dX4_latch_25 (lv_at hl 3 rfl) ?_
          refine lv_ldc2 (v := (-1000 : Int64)) hx hb hown (hts _ tw_650) dX4_latch_27 ?_
          refine W.lcmp hx hb dX4_latch_30 ?_
          refine lv_if_lt (tgt := 47) hx hb dX4_latch_31 (by decide) (fun c_17 => ?_) (fun c_17 => ?_)
          · refine lv_iconst (v := nI 0) hx hb dX4_latch_47 (by decide) ?_
            refine lv_istore (lv' := [(6, .int (nI 0)), (0, .ref (q 0)), (1, .int ck), (2, .long xl), (4, .long yl)]) hx hb dX4_latch_48 hl (by decide) rfl (fun ls hl => ?_)
            refine lv_aload_n hx hb dX4_latch_50 rfl (lv_at hl 1 rfl) ?_
            refine lv_aload_n hx hb dX4_latch_51 rfl (lv_at hl 1 rfl) ?_
            refine va_get (D := (dC, dI)) (ci := 4) (v := .int (nI (MS.n y))) (C := RX4) (T := TX4) (N := 23) hx hb hts inX4 hown hK hP 0 rfl rfl 7 (by decide) (hts _ tw_579) (fun _ h9 => h9) rfl dX4_latch_52 ?_
            refine lv_bipush (v := nI 32) hx hb dX4_latch_55 (by decide) ?_
            refine xn_cne (tgt := 64) hx hb (by omega) (by omega) dX4_latch_57 (by decide) (fun c_18 => ?_) (fun c_18 => ?_)
            · refine lv_iload hx hb dX4_latch_64 (lv_at hl 0 rfl) ?_
              refine xn_zne (tgt := 73) hx hb (by omega) dX4_latch_66 (by decide) (fun c_19 => ?_) (fun c_19 => ?_)
              · exact absurd (show False by omega) id
              · refine lv_iconst (v := nI 2) hx hb dX4_latch_69 (by decide) ?_
                refine lv_goto (tgt := 74) hx hb dX4_latch_70 (by decide) ?_
                refine va_put (D := (dC, dI)) (ci := 4) (v := .int (nI 2)) (ty := .int) (C := RX4) (T := TX4) (N := 23) hx hb hts inX4 tyX4 tyX4_ok nmX4 hown hK hP hD hS 0 rfl rfl 0 (by decide) (hts _ tw_572) (fun _ h9 => h9) rfl (by decide +kernel) rfl rfl (Nat.le_of_ble_eq_true rfl) dX4_latch_74 (fun H locs hP hD hS => ?_)
                have hP : va_P (dC, dI) vwCl (wM q cI cZ (MS.s_th y 2)) H := hP
                have hD : va_D A (wM q cI cZ (MS.s_th y 2)) := hD
                refine lv_aload_n hx hb dX4_latch_77 rfl (lv_at hl 1 rfl) ?_
                refine va_get (D := (dC, dI)) (ci := 4) (v := .int (nI 2)) (C := RX4) (T := TX4) (N := 23) hx hb hts inX4 hown hK hP 0 rfl rfl 0 (by decide) (hts _ tw_572) (fun _ h9 => h9) rfl dX4_latch_78 ?_
                refine xn_zle (tgt := 86) hx hb (by omega) dX4_latch_81 (by decide) (fun c_20 => ?_) (fun c_20 => ?_)
                · exact absurd (show False by omega) id
                · refine lv_iconst (v := nI 0) hx hb dX4_latch_84 (by decide) ?_
                  exact xr_i hx hb hr hlk (u := MS.s_th y 2) (⟨rfl, rfl⟩) hP hK hD hS dX4_latch_85
            · exact absurd (show False by omega) id
          · refine lv_lload hx hb dX4_latch_34 (lv_at hl 3 rfl) ?_
            refine lv_ldc2 (v := (1000 : Int64)) hx hb hown (hts _ tw_651) dX4_latch_36 ?_
            refine W.lcmp hx hb dX4_latch_39 ?_
            refine lv_if_gt (tgt := 47) hx hb dX4_latch_40 (by decide) (fun c_21 => ?_) (fun c_21 => ?_)
            · refine lv_iconst (v := nI 0) hx hb dX4_latch_47 (by decide) ?_
              refine lv_istore (lv' := [(6, .int (nI 0)), (0, .ref (q 0)), (1, .int ck), (2, .long xl), (4, .long yl)]) hx hb dX4_latch_48 hl (by decide) rfl (fun ls hl => ?_)
              refine lv_aload_n hx hb dX4_latch_50 rfl (lv_at hl 1 rfl) ?_
              refine lv_aload_n hx hb dX4_latch_51 rfl (lv_at hl 1 rfl) ?_
              refine va_get (D := (dC, dI)) (ci := 4) (v := .int (nI (MS.n y))) (C := RX4) (T := TX4) (N := 23) hx hb hts inX4 hown hK hP 0 rfl rfl 7 (by decide) (hts _ tw_579) (fun _ h9 => h9) rfl dX4_latch_52 ?_
              refine lv_bipush (v := nI 32) hx hb dX4_latch_55 (by decide) ?_
              refine xn_cne (tgt := 64) hx hb (by omega) (by omega) dX4_latch_57 (by decide) (fun c_22 => ?_) (fun c_22 => ?_)
              · refine lv_iload hx hb dX4_latch_64 (lv_at hl 0 rfl) ?_
                refine xn_zne (tgt := 73) hx hb (by omega) dX4_latch_66 (by decide) (fun c_23 => ?_) (fun c_23 => ?_)
                · exact absurd (show False by omega) id
                · refine lv_iconst (v := nI 2) hx hb dX4_latch_69 (by decide) ?_
                  refine lv_goto (tgt := 74) hx hb dX4_latch_70 (by decide) ?_
                  refine va_put (D := (dC, dI)) (ci := 4) (v := .int (nI 2)) (ty := .int) (C := RX4) (T := TX4) (N := 23) hx hb hts inX4 tyX4 tyX4_ok nmX4 hown hK hP hD hS 0 rfl rfl 0 (by decide) (hts _ tw_572) (fun _ h9 => h9) rfl (by decide +kernel) rfl rfl (Nat.le_of_ble_eq_true rfl) dX4_latch_74 (fun H locs hP hD hS => ?_)
                  have hP : va_P (dC, dI) vwCl (wM q cI cZ (MS.s_th y 2)) H := hP
                  have hD : va_D A (wM q cI cZ (MS.s_th y 2)) := hD
                  refine lv_aload_n hx hb dX4_latch_77 rfl (lv_at hl 1 rfl) ?_
                  refine va_get (D := (dC, dI)) (ci := 4) (v := .int (nI 2)) (C := RX4) (T := TX4) (N := 23) hx hb hts inX4 hown hK hP 0 rfl rfl 0 (by decide) (hts _ tw_572) (fun _ h9 => h9) rfl dX4_latch_78 ?_
                  refine xn_zle (tgt := 86) hx hb (by omega) dX4_latch_81 (by decide) (fun c_24 => ?_) (fun c_24 => ?_)
                  · exact absurd (show False by omega) id
                  · refine lv_iconst (v := nI 0) hx hb dX4_latch_84 (by decide) ?_
                    exact xr_i hx hb hr hlk (u := MS.s_th y 2) (⟨rfl, rfl⟩) hP hK hD hS dX4_latch_85
              · exact absurd (show False by omega) id
            · exact absurd ⟨c_1, c_5, fun z => c_9 ((lg_cmp_lt _ _).mpr z), fun z => c_13 ((lg_cmp_gt _ _).mpr z), fun z => c_17 ((lg_cmp_lt _ _).mpr z), fun z => c_21 ((lg_cmp_gt _ _).mpr z)⟩ h2
set_option maxHeartbeats 4000000 in
set_option maxRecDepth 100000 in
theorem c_ScanRowsModel_isBefore (l : Launch) (dC : Nat → ClassId) (dI : Nat → Nat → Nat) (q : Nat → Nat) (cI cZ : ClassId) (sz : Nat) (y : MS) (i j : Nat) (hM : MB y) (h1 : i < 32) (h2 : j < 32) : Met l yX4_isBefore (.code yX4_isBefore cX4_isBefore 3 (some .boolean) :: ALLG) ({ frames := 0, cells := 0, slots := 0, locals := 0 }) (va_Pc [.ref (q 0), .int (nI i), .int (nI j)] (cP (dC, dI) vwCl [(cI, .int), (cZ, .boolean)] (wM q cI cZ y) eT sz)) (va_Qi (fun (x : Int32) (_ : Unit) => x = nI (ibN (toR y) i j)) (fun (_ : Unit) => cB (dC, dI) vwCl [(cI, .int), (cZ, .boolean)] (wM q cI cZ y) (va_A (wM q cI cZ y) sz)) (va_A (wM q cI cZ y) sz)) 0 0 (va_A (wM q cI cZ y) sz) := by
  refine xm_of (cc := cX4_isBefore) (maxL := 3) (ret := some .boolean) (by decide) rfl (Nat.le_of_ble_eq_true rfl) ?_
  intro p e s m below meth c A hAe hx hb hr hml hts0 hown hlk hin hsz H locs hP hK hD hA hS hE ls hl
  have hts : ∀ w ∈ ALLG, w.before _ s = true := fun w h => hts0 w (List.mem_cons_of_mem _ h)
  rw [← hAe]
  have hM0 := hM
  have b_n : y.n ≤ 32 := hM.1.1
  have b_c : y.c ≤ 8 := hM.1.2.1
  have b_p : y.p ≤ y.n := hM.1.2.2.1
  have b_vb : ∀ z, y.vb z < 2 := hM.1.2.2.2.1
  have b_ck : ∀ z, y.ck z < 4 := hM.1.2.2.2.2.1
  have b_xx : ∀ z, -1000 ≤ y.xx z ∧ y.xx z ≤ 1000 := hM.1.2.2.2.2.2.1
  have b_yy : ∀ z, -1000 ≤ y.yy z ∧ y.yy z ≤ 1000 := hM.1.2.2.2.2.2.2.1
  have b_fl : ∀ z, y.fl z < 2 := hM.1.2.2.2.2.2.2.2.1
  have b_rw : ∀ z, y.rw z < 32 := hM.1.2.2.2.2.2.2.2.2.2.1
  have b_st : ∀ z, y.st z ≤ 32 := hM.1.2.2.2.2.2.2.2.2.2.2.2
  have g1 := b_ck i
  have g2 := b_ck j
  have g3 := b_xx i
  have g4 := b_xx j
  have g5 := b_yy i
  have g6 := b_yy j
  have hl : lv_has ls 3 [(0, .ref (q 0)), (1, .int (nI i)), (2, .int (nI j))] := hl
  refine lv_aload_n hx hb dX4_isBefore_0 rfl (lv_at hl 0 rfl) ?_
  refine va_get (D := (dC, dI)) (ci := 4) (v := .ref (q 1)) (C := RX4) (T := TX4) (N := 23) hx hb hts inX4 hown hK hP 0 rfl rfl 2 (by decide) (hts _ tw_574) (fun _ h9 => h9) rfl dX4_isBefore_1 ?_
  refine lv_iload_n hx hb dX4_isBefore_4 rfl (lv_at hl 1 rfl) ?_
  refine xa_ild hx hb hK hP 1 0 rfl rfl (v := nI ((MS.ck y) i)) (by omega) (by decide) rfl dX4_isBefore_5 ?_
  refine lv_aload_n hx hb dX4_isBefore_6 rfl (lv_at hl 0 rfl) ?_
  refine va_get (D := (dC, dI)) (ci := 4) (v := .ref (q 1)) (C := RX4) (T := TX4) (N := 23) hx hb hts inX4 hown hK hP 0 rfl rfl 2 (by decide) (hts _ tw_574) (fun _ h9 => h9) rfl dX4_isBefore_7 ?_
  refine lv_iload_n hx hb dX4_isBefore_10 rfl (lv_at hl 2 rfl) ?_
  refine xa_ild hx hb hK hP 1 0 rfl rfl (v := nI ((MS.ck y) j)) (by omega) (by decide) rfl dX4_isBefore_11 ?_
  refine xn_ceq (tgt := 36) hx hb (by omega) (by omega) dX4_isBefore_12 (by decide) (fun c_1 => ?_) (fun c_1 => ?_)
  · refine lv_aload_n hx hb dX4_isBefore_36 rfl (lv_at hl 0 rfl) ?_
    refine va_get (D := (dC, dI)) (ci := 4) (v := .ref (q 2)) (C := RX4) (T := TX4) (N := 23) hx hb hts inX4 hown hK hP 0 rfl rfl 3 (by decide) (hts _ tw_575) (fun _ h9 => h9) rfl dX4_isBefore_37 ?_
    refine lv_iload_n hx hb dX4_isBefore_40 rfl (lv_at hl 1 rfl) ?_
    refine xa_ild hx hb hK hP 2 0 rfl rfl (v := zI ((MS.xx y) i)) (by omega) (by decide) rfl dX4_isBefore_41 ?_
    refine lv_aload_n hx hb dX4_isBefore_42 rfl (lv_at hl 0 rfl) ?_
    refine va_get (D := (dC, dI)) (ci := 4) (v := .ref (q 2)) (C := RX4) (T := TX4) (N := 23) hx hb hts inX4 hown hK hP 0 rfl rfl 3 (by decide) (hts _ tw_575) (fun _ h9 => h9) rfl dX4_isBefore_43 ?_
    refine lv_iload_n hx hb dX4_isBefore_46 rfl (lv_at hl 2 rfl) ?_
    refine xa_ild hx hb hK hP 2 0 rfl rfl (v := zI ((MS.xx y) j)) (by omega) (by decide) rfl dX4_isBefore_47 ?_
    refine xz_ceq (tgt := 72) hx hb (by omega) (by omega) (by omega) (by omega) dX4_isBefore_48 (by decide) (fun c_2 => ?_) (fun c_2 => ?_)
    · refine lv_aload_n hx hb dX4_isBefore_72 rfl (lv_at hl 0 rfl) ?_
      refine va_get (D := (dC, dI)) (ci := 4) (v := .ref (q 3)) (C := RX4) (T := TX4) (N := 23) hx hb hts inX4 hown hK hP 0 rfl rfl 4 (by decide) (hts _ tw_576) (fun _ h9 => h9) rfl dX4_isBefore_73 ?_
      refine lv_iload_n hx hb dX4_isBefore_76 rfl (lv_at hl 1 rfl) ?_
      refine xa_ild hx hb hK hP 3 0 rfl rfl (v := zI ((MS.yy y) i)) (by omega) (by decide) rfl dX4_isBefore_77 ?_
      refine lv_aload_n hx hb dX4_isBefore_78 rfl (lv_at hl 0 rfl) ?_
      refine va_get (D := (dC, dI)) (ci := 4) (v := .ref (q 3)) (C := RX4) (T := TX4) (N := 23) hx hb hts inX4 hown hK hP 0 rfl rfl 4 (by decide) (hts _ tw_576) (fun _ h9 => h9) rfl dX4_isBefore_79 ?_
      refine lv_iload_n hx hb dX4_isBefore_82 rfl (lv_at hl 2 rfl) ?_
      refine xa_ild hx hb hK hP 3 0 rfl rfl (v := zI ((MS.yy y) j)) (by omega) (by decide) rfl dX4_isBefore_83 ?_
      refine xz_ceq (tgt := 110) hx hb (by omega) (by omega) (by omega) (by omega) dX4_isBefore_84 (by decide) (fun c_3 => ?_) (fun c_3 => ?_)
      · refine lv_iload_n hx hb dX4_isBefore_110 rfl (lv_at hl 1 rfl) ?_
        refine lv_iload_n hx hb dX4_isBefore_111 rfl (lv_at hl 2 rfl) ?_
        refine xn_cge (tgt := 119) hx hb (by omega) (by omega) dX4_isBefore_112 (by decide) (fun c_4 => ?_) (fun c_4 => ?_)
        · refine lv_iconst (v := nI 0) hx hb dX4_isBefore_119 (by decide) ?_
          exact xr_z hx hb hr hlk (by decide) (u := ()) (by unfold ibN; rw [if_pos (by assumption), if_pos (by assumption), if_pos (by assumption), if_neg (by omega)]) hP hK hD hS dX4_isBefore_120
        · refine lv_iconst (v := nI 1) hx hb dX4_isBefore_115 (by decide) ?_
          refine lv_goto (tgt := 120) hx hb dX4_isBefore_116 (by decide) ?_
          exact xr_z hx hb hr hlk (by decide) (u := ()) (by unfold ibN; rw [if_pos (by assumption), if_pos (by assumption), if_pos (by assumption), if_pos (by omega)]) hP hK hD hS dX4_isBefore_120
      · refine lv_aload_n hx hb dX4_isBefore_87 rfl (lv_at hl 0 rfl) ?_
        refine va_get (D := (dC, dI)) (ci := 4) (v := .ref (q 3)) (C := RX4) (T := TX4) (N := 23) hx hb hts inX4 hown hK hP 0 rfl rfl 4 (by decide) (hts _ tw_576) (fun _ h9 => h9) rfl dX4_isBefore_88 ?_
        refine lv_iload_n hx hb dX4_isBefore_91 rfl (lv_at hl 1 rfl) ?_
        refine xa_ild hx hb hK hP 3 0 rfl rfl (v := zI ((MS.yy y) i)) (by omega) (by decide) rfl dX4_isBefore_92 ?_
        refine lv_aload_n hx hb dX4_isBefore_93 rfl (lv_at hl 0 rfl) ?_
        refine va_get (D := (dC, dI)) (ci := 4) (v := .ref (q 3)) (C := RX4) (T := TX4) (N := 23) hx hb hts inX4 hown hK hP 0 rfl rfl 4 (by decide) (hts _ tw_576) (fun _ h9 => h9) rfl dX4_isBefore_94 ?_
        refine lv_iload_n hx hb dX4_isBefore_97 rfl (lv_at hl 2 rfl) ?_
        refine xa_ild hx hb hK hP 3 0 rfl rfl (v := zI ((MS.yy y) j)) (by omega) (by decide) rfl dX4_isBefore_98 ?_
        refine xz_cge (tgt := 106) hx hb (by omega) (by omega) (by omega) (by omega) dX4_isBefore_99 (by decide) (fun c_5 => ?_) (fun c_5 => ?_)
        · refine lv_iconst (v := nI 0) hx hb dX4_isBefore_106 (by decide) ?_
          refine lv_goto (tgt := 120) hx hb dX4_isBefore_107 (by decide) ?_
          exact xr_z hx hb hr hlk (by decide) (u := ()) (by unfold ibN; rw [if_pos (by assumption), if_pos (by assumption), if_neg (by assumption), if_neg (show ¬ y.yy i < y.yy j by omega)]) hP hK hD hS dX4_isBefore_120
        · refine lv_iconst (v := nI 1) hx hb dX4_isBefore_102 (by decide) ?_
          refine lv_goto (tgt := 120) hx hb dX4_isBefore_103 (by decide) ?_
          exact xr_z hx hb hr hlk (by decide) (u := ()) (by unfold ibN; rw [if_pos (by assumption), if_pos (by assumption), if_neg (by assumption), if_pos (show y.yy i < y.yy j by omega)]) hP hK hD hS dX4_isBefore_120
    · refine lv_aload_n hx hb dX4_isBefore_51 rfl (lv_at hl 0 rfl) ?_
      refine va_get (D := (dC, dI)) (ci := 4) (v := .ref (q 2)) (C := RX4) (T := TX4) (N := 23) hx hb hts inX4 hown hK hP 0 rfl rfl 3 (by decide) (hts _ tw_575) (fun _ h9 => h9) rfl dX4_isBefore_52 ?_
      refine lv_iload_n hx hb dX4_isBefore_55 rfl (lv_at hl 1 rfl) ?_
      refine xa_ild hx hb hK hP 2 0 rfl rfl (v := zI ((MS.xx y) i)) (by omega) (by decide) rfl dX4_isBefore_56 ?_
      refine lv_aload_n hx hb dX4_isBefore_57 rfl (lv_at hl 0 rfl) ?_
      refine va_get (D := (dC, dI)) (ci := 4) (v := .ref (q 2)) (C := RX4) (T := TX4) (N := 23) hx hb hts inX4 hown hK hP 0 rfl rfl 3 (by decide) (hts _ tw_575) (fun _ h9 => h9) rfl dX4_isBefore_58 ?_
      refine lv_iload_n hx hb dX4_isBefore_61 rfl (lv_at hl 2 rfl) ?_
      refine xa_ild hx hb hK hP 2 0 rfl rfl (v := zI ((MS.xx y) j)) (by omega) (by decide) rfl dX4_isBefore_62 ?_
      refine xz_cge (tgt := 70) hx hb (by omega) (by omega) (by omega) (by omega) dX4_isBefore_63 (by decide) (fun c_6 => ?_) (fun c_6 => ?_)
      · refine lv_iconst (v := nI 0) hx hb dX4_isBefore_70 (by decide) ?_
        exact xr_z hx hb hr hlk (by decide) (u := ()) (by unfold ibN; rw [if_pos (by assumption), if_neg (by assumption), if_neg (show ¬ y.xx i < y.xx j by omega)]) hP hK hD hS dX4_isBefore_71
      · refine lv_iconst (v := nI 1) hx hb dX4_isBefore_66 (by decide) ?_
        refine lv_goto (tgt := 71) hx hb dX4_isBefore_67 (by decide) ?_
        exact xr_z hx hb hr hlk (by decide) (u := ()) (by unfold ibN; rw [if_pos (by assumption), if_neg (by assumption), if_pos (show y.xx i < y.xx j by omega)]) hP hK hD hS dX4_isBefore_71
  · refine lv_aload_n hx hb dX4_isBefore_15 rfl (lv_at hl 0 rfl) ?_
    refine va_get (D := (dC, dI)) (ci := 4) (v := .ref (q 1)) (C := RX4) (T := TX4) (N := 23) hx hb hts inX4 hown hK hP 0 rfl rfl 2 (by decide) (hts _ tw_574) (fun _ h9 => h9) rfl dX4_isBefore_16 ?_
    refine lv_iload_n hx hb dX4_isBefore_19 rfl (lv_at hl 1 rfl) ?_
    refine xa_ild hx hb hK hP 1 0 rfl rfl (v := nI ((MS.ck y) i)) (by omega) (by decide) rfl dX4_isBefore_20 ?_
    refine lv_aload_n hx hb dX4_isBefore_21 rfl (lv_at hl 0 rfl) ?_
    refine va_get (D := (dC, dI)) (ci := 4) (v := .ref (q 1)) (C := RX4) (T := TX4) (N := 23) hx hb hts inX4 hown hK hP 0 rfl rfl 2 (by decide) (hts _ tw_574) (fun _ h9 => h9) rfl dX4_isBefore_22 ?_
    refine lv_iload_n hx hb dX4_isBefore_25 rfl (lv_at hl 2 rfl) ?_
    refine xa_ild hx hb hK hP 1 0 rfl rfl (v := nI ((MS.ck y) j)) (by omega) (by decide) rfl dX4_isBefore_26 ?_
    refine xn_cge (tgt := 34) hx hb (by omega) (by omega) dX4_isBefore_27 (by decide) (fun c_7 => ?_) (fun c_7 => ?_)
    · refine lv_iconst (v := nI 0) hx hb dX4_isBefore_34 (by decide) ?_
      exact xr_z hx hb hr hlk (by decide) (u := ()) (by unfold ibN; rw [if_neg (by assumption), if_neg (show ¬ y.ck i < y.ck j by omega)]) hP hK hD hS dX4_isBefore_35
    · refine lv_iconst (v := nI 1) hx hb dX4_isBefore_30 (by decide) ?_
      refine lv_goto (tgt := 35) hx hb dX4_isBefore_31 (by decide) ?_
      exact xr_z hx hb hr hlk (by decide) (u := ()) (by unfold ibN; rw [if_neg (by assumption), if_pos (show y.ck i < y.ck j by omega)]) hP hK hD hS dX4_isBefore_35
set_option maxHeartbeats 4000000 in
set_option maxRecDepth 100000 in
theorem c_ScanRowsModel_make (l : Launch) (dC : Nat → ClassId) (dI : Nat → Nat → Nat) (q : Nat → Nat) (cI cZ : ClassId) (sz : Nat) (y : MS) (c0 : Nat) (hM : MB y) (h1 : 0 < c0) (h2 : c0 ≤ 8) : Met l yX4_make (.code yX4_make cX4_make 5 (some .int) :: ALLG) ({ frames := 1, cells := 0, slots := 0, locals := 22 }) (va_Pc [.ref (q 0), .int (nI c0)] (cP (dC, dI) vwCl [(cI, .int), (cZ, .boolean)] (wM q cI cZ y) eT sz)) (va_Qi (fun (x : Int32) (u : MS) => x = nI (bg y.n c0 1) ∧ u = mMake y c0) (fun (u : MS) => cB (dC, dI) vwCl [(cI, .int), (cZ, .boolean)] (wM q cI cZ u) (va_A (wM q cI cZ y) sz)) (va_A (wM q cI cZ y) sz)) 0 0 (va_A (wM q cI cZ y) sz) := by
  refine xm_of (cc := cX4_make) (maxL := 5) (ret := some .int) (by decide) rfl (Nat.le_of_ble_eq_true rfl) ?_
  intro p e s m below meth c A hAe hx hb hr hml hts0 hown hlk hin hsz H locs hP hK hD hA hS hE ls hl
  have hts : ∀ w ∈ ALLG, w.before _ s = true := fun w h => hts0 w (List.mem_cons_of_mem _ h)
  rw [← hAe]
  have hM0 := hM
  have b_n : y.n ≤ 32 := hM.1.1
  have b_c : y.c ≤ 8 := hM.1.2.1
  have b_p : y.p ≤ y.n := hM.1.2.2.1
  have b_vb : ∀ z, y.vb z < 2 := hM.1.2.2.2.1
  have b_ck : ∀ z, y.ck z < 4 := hM.1.2.2.2.2.1
  have b_xx : ∀ z, -1000 ≤ y.xx z ∧ y.xx z ≤ 1000 := hM.1.2.2.2.2.2.1
  have b_yy : ∀ z, -1000 ≤ y.yy z ∧ y.yy z ≤ 1000 := hM.1.2.2.2.2.2.2.1
  have b_fl : ∀ z, y.fl z < 2 := hM.1.2.2.2.2.2.2.2.1
  have b_rw : ∀ z, y.rw z < 32 := hM.1.2.2.2.2.2.2.2.2.2.1
  have b_st : ∀ z, y.st z ≤ 32 := hM.1.2.2.2.2.2.2.2.2.2.2.2
  have g6 := Nat.div_le_self y.n c0
  have g7 := Nat.mod_lt y.n h1
  have hl : lv_has ls 5 [(0, .ref (q 0)), (1, .int (nI c0))] := hl
  refine lv_aload_n hx hb dX4_make_0 rfl (lv_at hl 0 rfl) ?_
  refine lv_iload_n hx hb dX4_make_1 rfl (lv_at hl 1 rfl) ?_
  refine lv_iconst (v := nI 1) hx hb dX4_make_2 (by decide) ?_
  refine xn_clt (tgt := 12) hx hb (by omega) (by omega) dX4_make_3 (by decide) (fun c_1 => ?_) (fun c_1 => ?_)
  · exact absurd (show False by omega) id
  · refine lv_iload_n hx hb dX4_make_6 rfl (lv_at hl 1 rfl) ?_
    refine lv_bipush (v := nI 8) hx hb dX4_make_7 (by decide) ?_
    refine xn_cle (tgt := 16) hx hb (by omega) (by omega) dX4_make_9 (by decide) (fun c_2 => ?_) (fun c_2 => ?_)
    · refine lv_iconst (v := nI 0) hx hb dX4_make_16 (by decide) ?_
      refine va_put (D := (dC, dI)) (ci := 4) (v := .int (nI 0)) (ty := .int) (C := RX4) (T := TX4) (N := 23) hx hb hts inX4 tyX4 tyX4_ok nmX4 hown hK hP hD hS 0 rfl rfl 0 (by decide) (hts _ tw_572) (fun _ h9 => h9) rfl (by decide +kernel) rfl rfl (Nat.le_of_ble_eq_true rfl) dX4_make_17 (fun H locs hP hD hS => ?_)
      have hP : va_P (dC, dI) vwCl (wM q cI cZ (MS.s_th y 0)) H := hP
      have hD : va_D A (wM q cI cZ (MS.s_th y 0)) := hD
      refine lv_aload_n hx hb dX4_make_20 rfl (lv_at hl 0 rfl) ?_
      refine va_get (D := (dC, dI)) (ci := 4) (v := .int (nI 0)) (C := RX4) (T := TX4) (N := 23) hx hb hts inX4 hown hK hP 0 rfl rfl 0 (by decide) (hts _ tw_572) (fun _ h9 => h9) rfl dX4_make_21 ?_
      refine xn_zle (tgt := 29) hx hb (by omega) dX4_make_24 (by decide) (fun c_3 => ?_) (fun c_3 => ?_)
      · refine lv_iconst (v := nI 0) hx hb dX4_make_29 (by decide) ?_
        refine lv_istore_n (lv' := [(2, .int (nI 0)), (0, .ref (q 0)), (1, .int (nI c0))]) hx hb dX4_make_30 rfl hl (by decide) rfl (fun ls hl => ?_)
        have L31 : ∀ (fuel : Nat) (i : Nat) (g : Nat → Nat), (i ≤ y.n) → (g = mkR (toR y) i) → (∀ z, g z < 32) → y.n - i < fuel → ∀ (H : Heap) (locs : List Loc), va_P (dC, dI) vwCl (wM q cI cZ (MS.s_rw (MS.s_th y 0) g)) H → va_D A (wM q cI cZ (MS.s_rw (MS.s_th y 0) g)) → va_S A s.heap H locs → ∀ ls : Array Slot, lv_has ls 5 [(0, .ref (q 0)), (1, .int (nI c0)), (2, .int (nI i))] → W p l e ({ frames := 1, cells := 0, slots := 0, locals := 22 } : Room) s m ([.ref (q 0), .int (nI c0)] : List Value).toArray below meth c H locs 0 0 (MQ below (va_Qi (fun (x : Int32) (u : MS) => x = nI (bg y.n c0 1) ∧ u = mMake y c0) (fun (u : MS) => cB (dC, dI) vwCl [(cI, .int), (cZ, .boolean)] (wM q cI cZ u) (A)) (A)) ([.ref (q 0), .int (nI c0)] : List Value).toArray s 0 0 A) (F0 m 31 ls []) := by
          intro fuel
          induction fuel with
          | zero => intro i g i1 e1 b_g hm H locs hP hD hS ls hl; exact absurd hm (Nat.not_lt_zero _)
          | succ fuel ih31 =>
            intro i g i1 e1 b_g hm H locs hP hD hS ls hl
            refine lv_iload_n hx hb dX4_make_31 rfl (lv_at hl 2 rfl) ?_
            refine lv_aload_n hx hb dX4_make_32 rfl (lv_at hl 0 rfl) ?_
            refine va_get (D := (dC, dI)) (ci := 4) (v := .int (nI (MS.n y))) (C := RX4) (T := TX4) (N := 23) hx hb hts inX4 hown hK hP 0 rfl rfl 7 (by decide) (hts _ tw_579) (fun _ h9 => h9) rfl dX4_make_33 ?_
            refine xn_cge (tgt := 90) hx hb (by omega) (by omega) dX4_make_36 (by decide) (fun c_4 => ?_) (fun c_4 => ?_)
            · have e4 : g = mkR (toR y) y.n := by rw [e1, show i = y.n by omega]
              subst e4
              refine lv_aload_n hx hb dX4_make_90 rfl (lv_at hl 0 rfl) ?_
              refine lv_aload_n hx hb dX4_make_91 rfl (lv_at hl 0 rfl) ?_
              refine va_get (D := (dC, dI)) (ci := 4) (v := .int (nI (MS.n y))) (C := RX4) (T := TX4) (N := 23) hx hb hts inX4 hown hK hP 0 rfl rfl 7 (by decide) (hts _ tw_579) (fun _ h9 => h9) rfl dX4_make_92 ?_
              refine va_put (D := (dC, dI)) (ci := 4) (v := .int (nI (MS.n y))) (ty := .int) (C := RX4) (T := TX4) (N := 23) hx hb hts inX4 tyX4 tyX4_ok nmX4 hown hK hP hD hS 0 rfl rfl 9 (by decide) (hts _ tw_581) (fun _ h9 => h9) rfl (by decide +kernel) rfl rfl (Nat.le_of_ble_eq_true rfl) dX4_make_95 (fun H locs hP hD hS => ?_)
              have hP : va_P (dC, dI) vwCl (wM q cI cZ (MS.s_p (MS.s_rw (MS.s_th y 0) (mkR (toR y) y.n)) (MS.n y))) H := hP
              have hD : va_D A (wM q cI cZ (MS.s_p (MS.s_rw (MS.s_th y 0) (mkR (toR y) y.n)) (MS.n y))) := hD
              refine lv_aload_n hx hb dX4_make_98 rfl (lv_at hl 0 rfl) ?_
              refine lv_iload_n hx hb dX4_make_99 rfl (lv_at hl 1 rfl) ?_
              refine va_put (D := (dC, dI)) (ci := 4) (v := .int (nI c0)) (ty := .int) (C := RX4) (T := TX4) (N := 23) hx hb hts inX4 tyX4 tyX4_ok nmX4 hown hK hP hD hS 0 rfl rfl 11 (by decide) (hts _ tw_583) (fun _ h9 => h9) rfl (by decide +kernel) rfl rfl (Nat.le_of_ble_eq_true rfl) dX4_make_100 (fun H locs hP hD hS => ?_)
              have hP : va_P (dC, dI) vwCl (wM q cI cZ (MS.s_c (MS.s_p (MS.s_rw (MS.s_th y 0) (mkR (toR y) y.n)) (MS.n y)) c0)) H := hP
              have hD : va_D A (wM q cI cZ (MS.s_c (MS.s_p (MS.s_rw (MS.s_th y 0) (mkR (toR y) y.n)) (MS.n y)) c0)) := hD
              refine lv_aload_n hx hb dX4_make_103 rfl (lv_at hl 0 rfl) ?_
              refine va_get (D := (dC, dI)) (ci := 4) (v := .ref (q 7)) (C := RX4) (T := TX4) (N := 23) hx hb hts inX4 hown hK hP 0 rfl rfl 10 (by decide) (hts _ tw_582) (fun _ h9 => h9) rfl dX4_make_104 ?_
              refine lv_iconst (v := nI 0) hx hb dX4_make_107 (by decide) ?_
              refine lv_iconst (v := nI 0) hx hb dX4_make_108 (by decide) ?_
              refine xa_ist hx hb hK hP hD hS 7 0 rfl rfl (by omega) (by decide) (aN_up _ _ _) dX4_make_109 (fun H locs hP hD hS => ?_)
              have hP : va_P (dC, dI) vwCl (wM q cI cZ (MS.s_st (MS.s_c (MS.s_p (MS.s_rw (MS.s_th y 0) (mkR (toR y) y.n)) (MS.n y)) c0) (va_up (MS.st y) 0 0))) H := hP
              have hD : va_D A (wM q cI cZ (MS.s_st (MS.s_c (MS.s_p (MS.s_rw (MS.s_th y 0) (mkR (toR y) y.n)) (MS.n y)) c0) (va_up (MS.st y) 0 0))) := hD
              refine lv_iconst (v := nI 0) hx hb dX4_make_110 (by decide) ?_
              refine lv_istore_n (lv' := [(2, .int (nI 0)), (0, .ref (q 0)), (1, .int (nI c0))]) hx hb dX4_make_111 rfl hl (by decide) rfl (fun ls hl => ?_)
              have e8 : va_up y.st 0 0 = cpN (bg y.n c0) y.st (0 + 1) := by rw [← cpN_s, cpN_0]; rfl
              have hP : va_P (dC, dI) vwCl (wM q cI cZ (MS.s_st (MS.s_c (MS.s_p (MS.s_rw (MS.s_th y 0) (mkR (toR y) y.n)) y.n) c0) (cpN (bg y.n c0) y.st (0 + 1)))) H := by rw [← e8]; exact hP
              have hD : va_D A (wM q cI cZ (MS.s_st (MS.s_c (MS.s_p (MS.s_rw (MS.s_th y 0) (mkR (toR y) y.n)) y.n) c0) (cpN (bg y.n c0) y.st (0 + 1)))) := by rw [← e8]; exact hD
              have L112 : ∀ (fuel : Nat) (i : Nat), (i ≤ c0) → c0 - i < fuel → ∀ (H : Heap) (locs : List Loc), va_P (dC, dI) vwCl (wM q cI cZ (MS.s_st (MS.s_c (MS.s_p (MS.s_rw (MS.s_th y 0) (mkR (toR y) y.n)) y.n) c0) (cpN (bg y.n c0) y.st (i + 1)))) H → va_D A (wM q cI cZ (MS.s_st (MS.s_c (MS.s_p (MS.s_rw (MS.s_th y 0) (mkR (toR y) y.n)) y.n) c0) (cpN (bg y.n c0) y.st (i + 1)))) → va_S A s.heap H locs → ∀ ls : Array Slot, lv_has ls 5 [(0, .ref (q 0)), (1, .int (nI c0)), (2, .int (nI i))] → W p l e ({ frames := 1, cells := 0, slots := 0, locals := 22 } : Room) s m ([.ref (q 0), .int (nI c0)] : List Value).toArray below meth c H locs 0 0 (MQ below (va_Qi (fun (x : Int32) (u : MS) => x = nI (bg y.n c0 1) ∧ u = mMake y c0) (fun (u : MS) => cB (dC, dI) vwCl [(cI, .int), (cZ, .boolean)] (wM q cI cZ u) (A)) (A)) ([.ref (q 0), .int (nI c0)] : List Value).toArray s 0 0 A) (F0 m 112 ls []) := by
                intro fuel
                induction fuel with
                | zero => intro i i1 hm H locs hP hD hS ls hl; exact absurd hm (Nat.not_lt_zero _)
                | succ fuel ih112 =>
                  intro i i1 hm H locs hP hD hS ls hl
                  refine lv_iload_n hx hb dX4_make_112 rfl (lv_at hl 2 rfl) ?_
                  refine lv_iload_n hx hb dX4_make_113 rfl (lv_at hl 1 rfl) ?_
                  refine xn_cge (tgt := 160) hx hb (by omega) (by omega) dX4_make_114 (by decide) (fun c_5 => ?_) (fun c_5 => ?_)
                  · refine lv_aload_n hx hb dX4_make_160 rfl (lv_at hl 0 rfl) ?_
                    refine va_get (D := (dC, dI)) (ci := 4) (v := .ref (q 7)) (C := RX4) (T := TX4) (N := 23) hx hb hts inX4 hown hK hP 0 rfl rfl 10 (by decide) (hts _ tw_582) (fun _ h9 => h9) rfl dX4_make_161 ?_
                    refine lv_iconst (v := nI 1) hx hb dX4_make_164 (by decide) ?_
                    refine xa_ild hx hb hK hP 7 0 rfl rfl (v := nI ((cpN (bg y.n c0) y.st (i + 1)) 1)) (by omega) (by decide) rfl dX4_make_165 ?_
                    refine xt_i (show nI ((cpN (bg y.n c0) y.st (i + 1)) 1) = nI (bg y.n c0 1) from congrArg nI (by unfold cpN; rw [if_pos (by omega)])) ?_
                    exact xr_i hx hb hr hlk (u := MS.s_st (MS.s_c (MS.s_p (MS.s_rw (MS.s_th y 0) (mkR (toR y) y.n)) y.n) c0) (cpN (bg y.n c0) y.st (i + 1))) (⟨rfl, by rw [show i = c0 by omega]; rfl⟩) hP hK hD hS dX4_make_166
                  · refine lv_aload_n hx hb dX4_make_117 rfl (lv_at hl 0 rfl) ?_
                    refine va_get (D := (dC, dI)) (ci := 4) (v := .ref (q 7)) (C := RX4) (T := TX4) (N := 23) hx hb hts inX4 hown hK hP 0 rfl rfl 10 (by decide) (hts _ tw_582) (fun _ h9 => h9) rfl dX4_make_118 ?_
                    refine lv_iload_n hx hb dX4_make_121 rfl (lv_at hl 2 rfl) ?_
                    refine lv_iconst (v := nI 1) hx hb dX4_make_122 (by decide) ?_
                    refine xn_add hx hb dX4_make_123 ?_
                    refine lv_aload_n hx hb dX4_make_124 rfl (lv_at hl 0 rfl) ?_
                    refine va_get (D := (dC, dI)) (ci := 4) (v := .ref (q 7)) (C := RX4) (T := TX4) (N := 23) hx hb hts inX4 hown hK hP 0 rfl rfl 10 (by decide) (hts _ tw_582) (fun _ h9 => h9) rfl dX4_make_125 ?_
                    refine lv_iload_n hx hb dX4_make_128 rfl (lv_at hl 2 rfl) ?_
                    refine xa_ild hx hb hK hP 7 0 rfl rfl (v := nI ((cpN (bg y.n c0) y.st (i + 1)) i)) (by omega) (by decide) rfl dX4_make_129 ?_
                    refine xt_i (show nI ((cpN (bg y.n c0) y.st (i + 1)) i) = nI (bg y.n c0 i) from congrArg nI (by unfold cpN; rw [if_pos (by omega)])) ?_
                    refine lv_aload_n hx hb dX4_make_130 rfl (lv_at hl 0 rfl) ?_
                    refine va_get (D := (dC, dI)) (ci := 4) (v := .int (nI (MS.n y))) (C := RX4) (T := TX4) (N := 23) hx hb hts inX4 hown hK hP 0 rfl rfl 7 (by decide) (hts _ tw_579) (fun _ h9 => h9) rfl dX4_make_131 ?_
                    refine lv_iload_n hx hb dX4_make_134 rfl (lv_at hl 1 rfl) ?_
                    refine xn_div hx hb (by omega) (by omega) (by omega) dX4_make_135 ?_
                    refine xn_add hx hb dX4_make_136 ?_
                    refine lv_iload_n hx hb dX4_make_137 rfl (lv_at hl 2 rfl) ?_
                    refine lv_aload_n hx hb dX4_make_138 rfl (lv_at hl 0 rfl) ?_
                    refine va_get (D := (dC, dI)) (ci := 4) (v := .int (nI (MS.n y))) (C := RX4) (T := TX4) (N := 23) hx hb hts inX4 hown hK hP 0 rfl rfl 7 (by decide) (hts _ tw_579) (fun _ h9 => h9) rfl dX4_make_139 ?_
                    refine lv_iload_n hx hb dX4_make_142 rfl (lv_at hl 1 rfl) ?_
                    refine xn_rem hx hb (by omega) (by omega) (by omega) dX4_make_143 ?_
                    refine xn_cge (tgt := 151) hx hb (by omega) (by omega) dX4_make_144 (by decide) (fun c_6 => ?_) (fun c_6 => ?_)
                    · refine lv_iconst (v := nI 0) hx hb dX4_make_151 (by decide) ?_
                      refine xn_add hx hb dX4_make_152 ?_
                      refine xt_i (show nI (((bg y.n c0 i) + ((MS.n y) / c0)) + 0) = nI (bg y.n c0 (i + 1)) from congrArg nI (bg_s0 (by omega))) ?_
                      refine xa_ist hx hb hK hP hD hS 7 0 rfl rfl (by omega) (by decide) (aN_up _ _ _) dX4_make_153 (fun H locs hP hD hS => ?_)
                      have hP : va_P (dC, dI) vwCl (wM q cI cZ (MS.s_st (MS.s_st (MS.s_c (MS.s_p (MS.s_rw (MS.s_th y 0) (mkR (toR y) y.n)) y.n) c0) (cpN (bg y.n c0) y.st (i + 1))) (va_up (cpN (bg y.n c0) y.st (i + 1)) (i + 1) (bg y.n c0 (i + 1))))) H := hP
                      have hD : va_D A (wM q cI cZ (MS.s_st (MS.s_st (MS.s_c (MS.s_p (MS.s_rw (MS.s_th y 0) (mkR (toR y) y.n)) y.n) c0) (cpN (bg y.n c0) y.st (i + 1))) (va_up (cpN (bg y.n c0) y.st (i + 1)) (i + 1) (bg y.n c0 (i + 1))))) := hD
                      rw [cpN_s] at hP hD
                      refine lv_iinc (v := nI (i + 1)) (lv' := [(2, .int (nI (i + 1))), (0, .ref (q 0)), (1, .int (nI c0))]) hx hb dX4_make_154 hl (k := 2) rfl (nI_1 _) (by decide) rfl (fun ls hl => ?_)
                      refine lv_goto (tgt := 112) hx hb dX4_make_157 (by decide) ?_
                      exact ih112 (i + 1) (by omega) (by omega) H locs hP hD hS ls (lv_sub hl [1, 2, 0] rfl)
                    · refine lv_iconst (v := nI 1) hx hb dX4_make_147 (by decide) ?_
                      refine lv_goto (tgt := 152) hx hb dX4_make_148 (by decide) ?_
                      refine xn_add hx hb dX4_make_152 ?_
                      refine xt_i (show nI (((bg y.n c0 i) + ((MS.n y) / c0)) + 1) = nI (bg y.n c0 (i + 1)) from congrArg nI (bg_s1 (by omega))) ?_
                      refine xa_ist hx hb hK hP hD hS 7 0 rfl rfl (by omega) (by decide) (aN_up _ _ _) dX4_make_153 (fun H locs hP hD hS => ?_)
                      have hP : va_P (dC, dI) vwCl (wM q cI cZ (MS.s_st (MS.s_st (MS.s_c (MS.s_p (MS.s_rw (MS.s_th y 0) (mkR (toR y) y.n)) y.n) c0) (cpN (bg y.n c0) y.st (i + 1))) (va_up (cpN (bg y.n c0) y.st (i + 1)) (i + 1) (bg y.n c0 (i + 1))))) H := hP
                      have hD : va_D A (wM q cI cZ (MS.s_st (MS.s_st (MS.s_c (MS.s_p (MS.s_rw (MS.s_th y 0) (mkR (toR y) y.n)) y.n) c0) (cpN (bg y.n c0) y.st (i + 1))) (va_up (cpN (bg y.n c0) y.st (i + 1)) (i + 1) (bg y.n c0 (i + 1))))) := hD
                      rw [cpN_s] at hP hD
                      refine lv_iinc (v := nI (i + 1)) (lv' := [(2, .int (nI (i + 1))), (0, .ref (q 0)), (1, .int (nI c0))]) hx hb dX4_make_154 hl (k := 2) rfl (nI_1 _) (by decide) rfl (fun ls hl => ?_)
                      refine lv_goto (tgt := 112) hx hb dX4_make_157 (by decide) ?_
                      exact ih112 (i + 1) (by omega) (by omega) H locs hP hD hS ls (lv_sub hl [1, 2, 0] rfl)
              exact L112 ((c0 - 0) + 1) 0 (by omega) (Nat.lt_succ_self _) H locs hP hD hS ls (lv_sub hl [1, 2, 0] rfl)
            · refine lv_iconst (v := nI 0) hx hb dX4_make_39 (by decide) ?_
              refine lv_istore_n (lv' := [(3, .int (nI 0)), (0, .ref (q 0)), (1, .int (nI c0)), (2, .int (nI i))]) hx hb dX4_make_40 rfl hl (by decide) rfl (fun ls hl => ?_)
              refine lv_iconst (v := nI 0) hx hb dX4_make_41 (by decide) ?_
              refine lv_istore (lv' := [(4, .int (nI 0)), (3, .int (nI 0)), (0, .ref (q 0)), (1, .int (nI c0)), (2, .int (nI i))]) hx hb dX4_make_42 hl (by decide) rfl (fun ls hl => ?_)
              have L44 : ∀ (fuel : Nat) (j : Nat) (bf : Nat), (j ≤ y.n) → (bf = rk (toR y) i j) → y.n - j < fuel → ∀ (H : Heap) (locs : List Loc), va_P (dC, dI) vwCl (wM q cI cZ (MS.s_rw (MS.s_th y 0) g)) H → va_D A (wM q cI cZ (MS.s_rw (MS.s_th y 0) g)) → va_S A s.heap H locs → ∀ ls : Array Slot, lv_has ls 5 [(0, .ref (q 0)), (1, .int (nI c0)), (2, .int (nI i)), (3, .int (nI bf)), (4, .int (nI j))] → W p l e ({ frames := 1, cells := 0, slots := 0, locals := 22 } : Room) s m ([.ref (q 0), .int (nI c0)] : List Value).toArray below meth c H locs 0 0 (MQ below (va_Qi (fun (x : Int32) (u : MS) => x = nI (bg y.n c0 1) ∧ u = mMake y c0) (fun (u : MS) => cB (dC, dI) vwCl [(cI, .int), (cZ, .boolean)] (wM q cI cZ u) (A)) (A)) ([.ref (q 0), .int (nI c0)] : List Value).toArray s 0 0 A) (F0 m 44 ls []) := by
                intro fuel
                induction fuel with
                | zero => intro j bf j1 e2 hm H locs hP hD hS ls hl; exact absurd hm (Nat.not_lt_zero _)
                | succ fuel ih44 =>
                  intro j bf j1 e2 hm H locs hP hD hS ls hl
                  refine lv_iload hx hb dX4_make_44 (lv_at hl 4 rfl) ?_
                  refine lv_aload_n hx hb dX4_make_46 rfl (lv_at hl 0 rfl) ?_
                  refine va_get (D := (dC, dI)) (ci := 4) (v := .int (nI (MS.n y))) (C := RX4) (T := TX4) (N := 23) hx hb hts inX4 hown hK hP 0 rfl rfl 7 (by decide) (hts _ tw_579) (fun _ h9 => h9) rfl dX4_make_47 ?_
                  refine xn_cge (tgt := 77) hx hb (by omega) (by omega) dX4_make_50 (by decide) (fun c_7 => ?_) (fun c_7 => ?_)
                  · have g9 := rk_lt (toR y) (show i < y.n by omega)
                    have e7 : bf = rk (toR y) i y.n := by rw [e2, show j = y.n by omega]
                    refine lv_aload_n hx hb dX4_make_77 rfl (lv_at hl 0 rfl) ?_
                    refine va_get (D := (dC, dI)) (ci := 4) (v := .ref (q 6)) (C := RX4) (T := TX4) (N := 23) hx hb hts inX4 hown hK hP 0 rfl rfl 8 (by decide) (hts _ tw_580) (fun _ h9 => h9) rfl dX4_make_78 ?_
                    refine lv_iload_n hx hb dX4_make_81 rfl (lv_at hl 3 rfl) ?_
                    refine lv_iload_n hx hb dX4_make_82 rfl (lv_at hl 2 rfl) ?_
                    refine xa_ist hx hb hK hP hD hS 6 0 rfl rfl (by omega) (by decide) (aN_up _ _ _) dX4_make_83 (fun H locs hP hD hS => ?_)
                    have hP : va_P (dC, dI) vwCl (wM q cI cZ (MS.s_rw (MS.s_rw (MS.s_th y 0) g) (va_up g bf i))) H := hP
                    have hD : va_D A (wM q cI cZ (MS.s_rw (MS.s_rw (MS.s_th y 0) g) (va_up g bf i))) := hD
                    refine lv_iinc (v := nI (i + 1)) (lv' := [(2, .int (nI (i + 1))), (0, .ref (q 0)), (1, .int (nI c0)), (3, .int (nI bf)), (4, .int (nI j))]) hx hb dX4_make_84 hl (k := 2) rfl (nI_1 _) (by decide) rfl (fun ls hl => ?_)
                    refine lv_goto (tgt := 31) hx hb dX4_make_87 (by decide) ?_
                    exact ih31 (i + 1) (va_up g bf i) (by omega) (by rw [e1, e7]; rfl) (up_lt b_g (by omega) _) (by omega) H locs hP hD hS ls (lv_sub hl [1, 2, 0] rfl)
                  · have g1 := ibN_le (toR y) j i
                    refine lv_aload_n hx hb dX4_make_53 rfl (lv_at hl 0 rfl) ?_
                    refine lv_iload hx hb dX4_make_54 (lv_at hl 4 rfl) ?_
                    refine lv_iload_n hx hb dX4_make_56 rfl (lv_at hl 2 rfl) ?_
                    refine xc_Vi (As := [.int (nI j), .int (nI i)]) (wr := []) ⟨hx, hb, hml, hown, hts⟩ (c_ScanRowsModel_isBefore l dC dI q cI cZ H.size (MS.s_rw (MS.s_th y 0) g) j i ⟨RB_rw hM0.1 b_g, hM0.2⟩ (by omega) (by omega)) (cwV 2 hts (gV tw_656 tw_658 sw_25 tw_5 tw_659) rfl rfl rfl (by decide +kernel) ⟨Nat.le_of_ble_eq_true rfl, Nat.le_of_ble_eq_true rfl⟩) rfl hl.1 rfl (Nat.le_of_ble_eq_true rfl) dX4_make_57 ⟨Nat.zero_le _, Nat.zero_le _⟩ hP hD hK hS hA [0, 1, 2, 3, 4, 5, 6, 7, 8, 9, 10, 11, 12, 13] [] rfl rfl (by decide) (by decide) (by decide) [0, 1] rfl (q0 := 0) rfl rfl rfl eT_M (trivial) (fun r_8 u_9 H locs w_10 hP hD hS => ?_)
                    obtain rfl := w_10
                    have hP : va_P (dC, dI) vwCl (wM q cI cZ (MS.s_rw (MS.s_th y 0) g)) H := hP
                    have hD : va_D A (wM q cI cZ (MS.s_rw (MS.s_th y 0) g)) := hD
                    refine xt_i (show nI (ibN (toR (MS.s_rw (MS.s_th y 0) g)) j i) = nI (ibN (toR y) j i) from rfl) ?_
                    refine xn_zeq (tgt := 69) hx hb (by omega) dX4_make_60 (by decide) (fun c_11 => ?_) (fun c_11 => ?_)
                    · refine lv_iload_n hx hb dX4_make_69 rfl (lv_at hl 3 rfl) ?_
                      refine lv_istore_n (lv' := [(3, .int (nI bf)), (0, .ref (q 0)), (1, .int (nI c0)), (2, .int (nI i)), (4, .int (nI j))]) hx hb dX4_make_70 rfl hl (by decide) rfl (fun ls hl => ?_)
                      refine lv_iinc (v := nI (j + 1)) (lv' := [(4, .int (nI (j + 1))), (3, .int (nI bf)), (0, .ref (q 0)), (1, .int (nI c0)), (2, .int (nI i))]) hx hb dX4_make_71 hl (k := 4) rfl (nI_1 _) (by decide) rfl (fun ls hl => ?_)
                      refine lv_goto (tgt := 44) hx hb dX4_make_74 (by decide) ?_
                      exact ih44 (j + 1) bf (by omega) (by show _ = rk (toR y) i j + ibN (toR y) j i; omega) (by omega) H locs hP hD hS ls (lv_sub hl [2, 3, 4, 1, 0] rfl)
                    · refine lv_iload_n hx hb dX4_make_63 rfl (lv_at hl 3 rfl) ?_
                      refine lv_iconst (v := nI 1) hx hb dX4_make_64 (by decide) ?_
                      refine xn_add hx hb dX4_make_65 ?_
                      refine lv_goto (tgt := 70) hx hb dX4_make_66 (by decide) ?_
                      refine lv_istore_n (lv' := [(3, .int (nI (bf + 1))), (0, .ref (q 0)), (1, .int (nI c0)), (2, .int (nI i)), (4, .int (nI j))]) hx hb dX4_make_70 rfl hl (by decide) rfl (fun ls hl => ?_)
                      refine lv_iinc (v := nI (j + 1)) (lv' := [(4, .int (nI (j + 1))), (3, .int (nI (bf + 1))), (0, .ref (q 0)), (1, .int (nI c0)), (2, .int (nI i))]) hx hb dX4_make_71 hl (k := 4) rfl (nI_1 _) (by decide) rfl (fun ls hl => ?_)
                      refine lv_goto (tgt := 44) hx hb dX4_make_74 (by decide) ?_
                      exact ih44 (j + 1) (bf + 1) (by omega) (by show _ = rk (toR y) i j + ibN (toR y) j i; omega) (by omega) H locs hP hD hS ls (lv_sub hl [2, 3, 4, 1, 0] rfl)
              exact L44 ((y.n - 0) + 1) 0 0 (Nat.zero_le _) rfl (Nat.lt_succ_self _) H locs hP hD hS ls (lv_sub hl [2, 3, 4, 1, 0] rfl)
        exact L31 ((y.n - 0) + 1) 0 (MS.rw y) (Nat.zero_le _) rfl b_rw (Nat.lt_succ_self _) H locs hP hD hS ls (lv_sub hl [1, 2, 0] rfl)
      · exact absurd (show False by omega) id
    · exact absurd (show False by omega) id
set_option maxHeartbeats 4000000 in
set_option maxRecDepth 100000 in
theorem c_M_make1 (l : Launch) (dC : Nat → ClassId) (dI : Nat → Nat → Nat) (q : Nat → Nat) (cI cZ : ClassId) (sz : Nat) (y : MS) (v : Int32) (h1 : v < nI 1 ∨ ¬ v ≤ nI 8) : Met l yX4_make (.code yX4_make cX4_make 5 (some .int) :: ALLG) ({ frames := 0, cells := 0, slots := 0, locals := 0 }) (va_Pc [.ref (q 0), .int v] (cP (dC, dI) vwCl [(cI, .int), (cZ, .boolean)] (wM q cI cZ y) eT sz)) (va_Qi (fun (x : Int32) (u : MS) => x = nI 0 ∧ u = y.s_th 1) (fun (u : MS) => cB (dC, dI) vwCl [(cI, .int), (cZ, .boolean)] (wM q cI cZ u) (va_A (wM q cI cZ y) sz)) (va_A (wM q cI cZ y) sz)) 0 0 (va_A (wM q cI cZ y) sz) := by
  refine xm_of (cc := cX4_make) (maxL := 5) (ret := some .int) (by decide) rfl (Nat.le_of_ble_eq_true rfl) ?_
  intro p e s m below meth c A hAe hx hb hr hml hts0 hown hlk hin hsz H locs hP hK hD hA hS hE ls hl
  have hts : ∀ w ∈ ALLG, w.before _ s = true := fun w h => hts0 w (List.mem_cons_of_mem _ h)
  rw [← hAe]
  have hl : lv_has ls 5 [(0, .ref (q 0)), (1, .int v)] := hl
  refine lv_aload_n hx hb dX4_make_0 rfl (lv_at hl 0 rfl) ?_
  refine lv_iload_n hx hb dX4_make_1 rfl (lv_at hl 1 rfl) ?_
  refine lv_iconst (v := nI 1) hx hb dX4_make_2 (by decide) ?_
  refine lv_icmp_lt (tgt := 12) hx hb dX4_make_3 (by decide) (fun c_1 => ?_) (fun c_1 => ?_)
  · refine lv_iconst (v := nI 1) hx hb dX4_make_12 (by decide) ?_
    refine lv_goto (tgt := 17) hx hb dX4_make_13 (by decide) ?_
    refine va_put (D := (dC, dI)) (ci := 4) (v := .int (nI 1)) (ty := .int) (C := RX4) (T := TX4) (N := 23) hx hb hts inX4 tyX4 tyX4_ok nmX4 hown hK hP hD hS 0 rfl rfl 0 (by decide) (hts _ tw_572) (fun _ h9 => h9) rfl (by decide +kernel) rfl rfl (Nat.le_of_ble_eq_true rfl) dX4_make_17 (fun H locs hP hD hS => ?_)
    have hP : va_P (dC, dI) vwCl (wM q cI cZ (MS.s_th y 1)) H := hP
    have hD : va_D A (wM q cI cZ (MS.s_th y 1)) := hD
    refine lv_aload_n hx hb dX4_make_20 rfl (lv_at hl 0 rfl) ?_
    refine va_get (D := (dC, dI)) (ci := 4) (v := .int (nI 1)) (C := RX4) (T := TX4) (N := 23) hx hb hts inX4 hown hK hP 0 rfl rfl 0 (by decide) (hts _ tw_572) (fun _ h9 => h9) rfl dX4_make_21 ?_
    refine xn_zle (tgt := 29) hx hb (by omega) dX4_make_24 (by decide) (fun c_2 => ?_) (fun c_2 => ?_)
    · exact absurd (show False by omega) id
    · refine lv_iconst (v := nI 0) hx hb dX4_make_27 (by decide) ?_
      exact xr_i hx hb hr hlk (u := MS.s_th y 1) (⟨rfl, rfl⟩) hP hK hD hS dX4_make_28
  · refine lv_iload_n hx hb dX4_make_6 rfl (lv_at hl 1 rfl) ?_
    refine lv_bipush (v := nI 8) hx hb dX4_make_7 (by decide) ?_
    refine lv_icmp_le (tgt := 16) hx hb dX4_make_9 (by decide) (fun c_3 => ?_) (fun c_3 => ?_)
    · exact absurd h1 (fun z => z.elim c_1 (fun z => z c_3))
    · refine lv_iconst (v := nI 1) hx hb dX4_make_12 (by decide) ?_
      refine lv_goto (tgt := 17) hx hb dX4_make_13 (by decide) ?_
      refine va_put (D := (dC, dI)) (ci := 4) (v := .int (nI 1)) (ty := .int) (C := RX4) (T := TX4) (N := 23) hx hb hts inX4 tyX4 tyX4_ok nmX4 hown hK hP hD hS 0 rfl rfl 0 (by decide) (hts _ tw_572) (fun _ h9 => h9) rfl (by decide +kernel) rfl rfl (Nat.le_of_ble_eq_true rfl) dX4_make_17 (fun H locs hP hD hS => ?_)
      have hP : va_P (dC, dI) vwCl (wM q cI cZ (MS.s_th y 1)) H := hP
      have hD : va_D A (wM q cI cZ (MS.s_th y 1)) := hD
      refine lv_aload_n hx hb dX4_make_20 rfl (lv_at hl 0 rfl) ?_
      refine va_get (D := (dC, dI)) (ci := 4) (v := .int (nI 1)) (C := RX4) (T := TX4) (N := 23) hx hb hts inX4 hown hK hP 0 rfl rfl 0 (by decide) (hts _ tw_572) (fun _ h9 => h9) rfl dX4_make_21 ?_
      refine xn_zle (tgt := 29) hx hb (by omega) dX4_make_24 (by decide) (fun c_4 => ?_) (fun c_4 => ?_)
      · exact absurd (show False by omega) id
      · refine lv_iconst (v := nI 0) hx hb dX4_make_27 (by decide) ?_
        exact xr_i hx hb hr hlk (u := MS.s_th y 1) (⟨rfl, rfl⟩) hP hK hD hS dX4_make_28
