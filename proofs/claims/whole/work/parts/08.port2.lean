/-! bounds stay -/
theorem mtF_le (goal : Nat) {g : Nat → Nat} (h : ∀ j, g j ≤ 16) : ∀ j, mtF goal g j ≤ 16 := mtO_le (cpN_le (tk0_le goal) h 16) 16
theorem smode_lt (a : AS) : smode a < 2 := by unfold smode; split <;> omega
theorem YB_mt {r : RS} {k : CS} {a : AS} (goal : Nat) (h : YB (r, k, a)) : YB (r, k, a.s_tk (mtF goal a.tk)) := ⟨h.1, h.2.1, h.2.2.1, h.2.2.2.1, h.2.2.2.2.1, h.2.2.2.2.2.1, mtF_le goal h.2.2.2.2.2.2⟩
theorem cpN_lt {f g : Nat → Nat} {m : Nat} (hf : ∀ j, f j < m) (hg : ∀ j, g j < m) (n : Nat) : ∀ j, cpN f g n j < m := by
  intro j; unfold cpN; split
  · exact hf j
  · exact hg j
theorem srV_lt {g : Nat → Nat} {m b : Nat} (hg : ∀ j, g j < m) (hb : b < m) (n : Nat) : ∀ j, srV g b n j < m := by
  intro j; unfold srV; split
  · split
    · exact hb
    · exact hg _
  · exact hg j
theorem shL_lt {r : RS} {f b : Nat} (hv : ∀ j, r.vb j < 2) (hb : b < 2) (n : Nat) : (shL r f b n).1 < 2 ∧ ∀ j, (shL r f b n).2 j < 2 := by
  induction n with
  | zero => exact ⟨hb, hv⟩
  | succ n ih => exact ⟨ih.2 _, up_lt ih.2 ih.1 _⟩
theorem shV_lt {r : RS} {f t b : Nat} (hv : ∀ j, r.vb j < 2) (hb : b < 2) : ∀ j, shV r f t b j < 2 := by
  intro j; unfold shV; split
  · exact (shL_lt hv hb _).2 j
  · exact hv j
theorem shO_lt {r : RS} {f t b : Nat} (hv : ∀ j, r.vb j < 2) (hb : b < 2) : shO r f t b < 2 := by
  unfold shO; split
  · exact (shL_lt hv hb _).1
  · decide
theorem RB_vb {r : RS} {v : Nat → Nat} (h : RB r) (hv : ∀ j, v j < 2) : RB (r.s_vb v) := ⟨h.1, h.2.1, h.2.2.1, hv, h.2.2.2.2⟩
theorem capD_YB {r : RS} {k : CS} {a : AS} (h : YB (r, k, a)) : YB (capD r k a) := by
  obtain ⟨hr, ⟨k1, k2, k3, k4, k5⟩, a1, a2, a3, a4, a5⟩ : RB r ∧ CB k ∧ AB a := h
  unfold capD
  split
  · exact ⟨hr, ⟨k1, k2, k3, k4, cpN_lt k2 k5 _⟩, a1, a2, a3, a4, a5⟩
  · split
    · exact ⟨hr, ⟨k1, k2, k3, k4, k5⟩, a1, a2, a3, a4, a5⟩
    · split
      · exact ⟨hr, ⟨k1, k2, k3, k4, k5⟩, a1, a2, a3, a4, a5⟩
      · exact ⟨hr, ⟨k1, k2, k3, k4, k5⟩, a1, a2, a3, by show (0 : Nat) < 2; decide, a5⟩
theorem shfD_YB {r : RS} {k : CS} {a : AS} {b : Nat} (hb : b < 2) (h : YB (r, k, a)) : YB (shfD r k a b).2 ∧ (shfD r k a b).1 < 2 := by
  obtain ⟨hr, ⟨k1, k2, k3, k4, k5⟩, a1, a2, a3, a4, a5⟩ : RB r ∧ CB k ∧ AB a := h
  unfold shfD
  split
  · refine ⟨⟨hr, ⟨k1, k2, k3, k4, srV_lt k5 hb _⟩, a1, a2, a3, a4, a5⟩, ?_⟩
    show srO k.ir b k.n < 2
    unfold srO; split
    · exact hb
    · exact k5 _
  · split
    · exact ⟨⟨hr, ⟨k1, k2, k3, k4, k5⟩, a1, a2, a3, a4, a5⟩, nbit_lt _⟩
    · split
      · exact ⟨⟨RB_vb hr (shV_lt hr.2.2.2.1 hb), ⟨k1, k2, k3, k4, k5⟩, a1, a2, a3, a4, a5⟩, shO_lt hr.2.2.2.1 hb⟩
      · exact ⟨⟨hr, ⟨k1, k2, k3, k4, k5⟩, a1, a2, a3, hb, a5⟩, a4⟩
theorem updD_YB {r : RS} {k : CS} {a : AS} (h : YB (r, k, a)) : YB (updD r k a) := by
  obtain ⟨hr, ⟨k1, k2, k3, k4, k5⟩, a1, a2, a3, a4, a5⟩ : RB r ∧ CB k ∧ AB a := h
  unfold updD
  split
  · exact ⟨hr, ⟨k1, k2, k3, cpN_lt k5 k4 _, k5⟩, a1, a2, a3, a4, a5⟩
  · exact ⟨hr, ⟨k1, k2, k3, k4, k5⟩, a1, a2, a3, a4, a5⟩
theorem actF_YB {r : RS} {k : CS} {a : AS} {b : Nat} (hb : b < 2) (h : YB (r, k, a)) : YB (actF r k a b).2 := by
  have h0 := h
  obtain ⟨hr, hk, a1, a2, a3, a4, a5⟩ : RB r ∧ CB k ∧ AB a := h
  unfold actF
  split
  · exact capD_YB h0
  · split
    · exact (shfD_YB hb h0).1
    · split
      · exact updD_YB h0
      · split
        · exact ⟨hr, hk, a1, a2, by show (1 : Nat) < 16; decide, a4, a5⟩
        · split
          · exact ⟨hr, hk, a1, a2, by show a.cr / 2 + b * 8 < 16; omega, a4, a5⟩
          · split
            · exact ⟨hr, hk, a1, a3, a3, a4, a5⟩
            · exact ⟨hr, hk, a1, a2, a3, a4, a5⟩
theorem stepF_YB {r : RS} {k : CS} {a : AS} {m b : Nat} (hb : b < 2) (h : YB (r, k, a)) : YB (stepF r k a m b).2 := by
  obtain ⟨hr, hk, a1, a2, a3, a4, a5⟩ := actF_YB hb h
  refine ⟨hr, hk, ?_⟩
  show AB (stepA (actF r k a b).2.2.2 m)
  unfold stepA
  split
  · exact ⟨NX_lt _, by show (2 : Nat) < 16; decide, a3, a4, a5⟩
  · exact ⟨NX_lt _, a2, a3, a4, a5⟩
theorem goIt_YB {y : RS × CS × AS} (h : YB y) (i : Nat) : YB (goIt y i) := by
  induction i with
  | zero => exact h
  | succ i ih => exact stepF_YB (by decide) ih
theorem sw_23 : Cond.selects "ScanRows$Access" (⟨"ScanRows$Access", "measureTicks", "(I)V"⟩ : MethodName) (⟨"ScanRows$Access", "measureTicks", "(I)V"⟩ : MethodName) ∈ ALLG := al_s (i := 23) (by decide +kernel) (by decide +kernel)
theorem sw_24 : Cond.selects "ScanRows$Access" (⟨"ScanRows$Access", "shortestMode", "()I"⟩ : MethodName) (⟨"ScanRows$Access", "shortestMode", "()I"⟩ : MethodName) ∈ ALLG := al_s (i := 24) (by decide +kernel) (by decide +kernel)
theorem tw_111 : (Cond.fieldLink "ScanRows$Access" (29 : Nat) "ScanRows$Access" "ticksFrom" "[I") ∈ ALLG := al_t (i := 111) (by decide +kernel) (by decide +kernel)
theorem tw_466 : (Cond.instanceMethod ({ cls := "ScanRows$Access", name := "step", desc := "(II)I" } : Jvm.MethodName)) ∈ ALLG := al_t (i := 466) (by decide +kernel) (by decide +kernel)
theorem tw_467 : (Cond.selects "ScanRows$Access" ({ cls := "ScanRows$Access", name := "step", desc := "(II)I" } : Jvm.MethodName) ({ cls := "ScanRows$Access", name := "step", desc := "(II)I" } : Jvm.MethodName)) ∈ ALLG := al_t (i := 467) (by decide +kernel) (by decide +kernel)
theorem tw_468 : (Cond.code ({ cls := "ScanRows$Access", name := "step", desc := "(II)I" } : Jvm.MethodName) prog_2_method_2_code (4 : Nat) (Option.some FieldType.int)) ∈ ALLG := al_t (i := 468) (by decide +kernel) (by decide +kernel)
theorem tw_531 : (Cond.methodLink "ScanRows$Access" (93 : Nat) ({ cls := "ScanRows$Access", name := "measureTicks", desc := "(I)V" } : Jvm.MethodName)) ∈ ALLG := al_t (i := 531) (by decide +kernel) (by decide +kernel)
theorem tw_533 : (Cond.instanceMethod ({ cls := "ScanRows$Access", name := "measureTicks", desc := "(I)V" } : Jvm.MethodName)) ∈ ALLG := al_t (i := 533) (by decide +kernel) (by decide +kernel)
theorem tw_534 : (Cond.code ({ cls := "ScanRows$Access", name := "measureTicks", desc := "(I)V" } : Jvm.MethodName) prog_2_method_14_code (5 : Nat) (Option.none : Option Jvm.ClassFile.FieldType)) ∈ ALLG := al_t (i := 534) (by decide +kernel) (by decide +kernel)
theorem tw_535 : (Cond.methodLink "ScanRows$Access" (104 : Nat) ({ cls := "java/lang/Math", name := "min", desc := "(II)I" } : Jvm.MethodName)) ∈ ALLG := al_t (i := 535) (by decide +kernel) (by decide +kernel)
theorem tw_536 : (Cond.static ({ cls := "java/lang/Math", name := "min", desc := "(II)I" } : Jvm.MethodName)) ∈ ALLG := al_t (i := 536) (by decide +kernel) (by decide +kernel)
theorem tw_537 : (Cond.code ({ cls := "java/lang/Math", name := "min", desc := "(II)I" } : Jvm.MethodName) prog_10_method_69_code (2 : Nat) (Option.some FieldType.int)) ∈ ALLG := al_t (i := 537) (by decide +kernel) (by decide +kernel)
theorem tw_538 : (Cond.methodLink "ScanRows$Access" (97 : Nat) ({ cls := "ScanRows$Access", name := "shortestMode", desc := "()I" } : Jvm.MethodName)) ∈ ALLG := al_t (i := 538) (by decide +kernel) (by decide +kernel)
theorem tw_540 : (Cond.instanceMethod ({ cls := "ScanRows$Access", name := "shortestMode", desc := "()I" } : Jvm.MethodName)) ∈ ALLG := al_t (i := 540) (by decide +kernel) (by decide +kernel)
theorem tw_541 : (Cond.code ({ cls := "ScanRows$Access", name := "shortestMode", desc := "()I" } : Jvm.MethodName) prog_2_method_13_code (1 : Nat) (Option.some FieldType.int)) ∈ ALLG := al_t (i := 541) (by decide +kernel) (by decide +kernel)
theorem tw_542 : (Cond.methodLink "ScanRows$Access" (100 : Nat) ({ cls := "ScanRows$Access", name := "step", desc := "(II)I" } : Jvm.MethodName)) ∈ ALLG := al_t (i := 542) (by decide +kernel) (by decide +kernel)
theorem dX0_shortestMode_0 : decode cX0_shortestMode 0 = .ok (.aload_n 0, 1) := by decide +kernel
theorem dX0_shortestMode_1 : decode cX0_shortestMode 1 = .ok (.getfield 29, 3) := by decide +kernel
theorem dX0_shortestMode_4 : decode cX0_shortestMode 4 = .ok (.getstatic 37, 3) := by decide +kernel
theorem dX0_shortestMode_7 : decode cX0_shortestMode 7 = .ok (.iconst 2, 1) := by decide +kernel
theorem dX0_shortestMode_8 : decode cX0_shortestMode 8 = .ok (.aload_n 0, 1) := by decide +kernel
theorem dX0_shortestMode_9 : decode cX0_shortestMode 9 = .ok (.getfield 23, 3) := by decide +kernel
theorem dX0_shortestMode_12 : decode cX0_shortestMode 12 = .ok (.imul, 1) := by decide +kernel
theorem dX0_shortestMode_13 : decode cX0_shortestMode 13 = .ok (.iaload, 1) := by decide +kernel
theorem dX0_shortestMode_14 : decode cX0_shortestMode 14 = .ok (.iaload, 1) := by decide +kernel
theorem dX0_shortestMode_15 : decode cX0_shortestMode 15 = .ok (.aload_n 0, 1) := by decide +kernel
theorem dX0_shortestMode_16 : decode cX0_shortestMode 16 = .ok (.getfield 29, 3) := by decide +kernel
theorem dX0_shortestMode_19 : decode cX0_shortestMode 19 = .ok (.aload_n 0, 1) := by decide +kernel
theorem dX0_shortestMode_20 : decode cX0_shortestMode 20 = .ok (.getfield 23, 3) := by decide +kernel
theorem dX0_shortestMode_23 : decode cX0_shortestMode 23 = .ok (.iaload, 1) := by decide +kernel
theorem dX0_shortestMode_24 : decode cX0_shortestMode 24 = .ok (.if_icmp .ge 7, 3) := by decide +kernel
theorem dX0_shortestMode_27 : decode cX0_shortestMode 27 = .ok (.iconst 0, 1) := by decide +kernel
theorem dX0_shortestMode_28 : decode cX0_shortestMode 28 = .ok (.goto 4, 3) := by decide +kernel
theorem dX0_shortestMode_31 : decode cX0_shortestMode 31 = .ok (.iconst 1, 1) := by decide +kernel
theorem dX0_shortestMode_32 : decode cX0_shortestMode 32 = .ok (.ireturn, 1) := by decide +kernel
theorem dX0_measureTicks_0 : decode cX0_measureTicks 0 = .ok (.iconst 0, 1) := by decide +kernel
theorem dX0_measureTicks_1 : decode cX0_measureTicks 1 = .ok (.istore_n 2, 1) := by decide +kernel
theorem dX0_measureTicks_2 : decode cX0_measureTicks 2 = .ok (.iload_n 2, 1) := by decide +kernel
theorem dX0_measureTicks_3 : decode cX0_measureTicks 3 = .ok (.bipush 16, 2) := by decide +kernel
theorem dX0_measureTicks_5 : decode cX0_measureTicks 5 = .ok (.if_icmp .ge 26, 3) := by decide +kernel
theorem dX0_measureTicks_8 : decode cX0_measureTicks 8 = .ok (.aload_n 0, 1) := by decide +kernel
theorem dX0_measureTicks_9 : decode cX0_measureTicks 9 = .ok (.getfield 29, 3) := by decide +kernel
theorem dX0_measureTicks_12 : decode cX0_measureTicks 12 = .ok (.iload_n 2, 1) := by decide +kernel
theorem dX0_measureTicks_13 : decode cX0_measureTicks 13 = .ok (.iload_n 2, 1) := by decide +kernel
theorem dX0_measureTicks_14 : decode cX0_measureTicks 14 = .ok (.iload_n 1, 1) := by decide +kernel
theorem dX0_measureTicks_15 : decode cX0_measureTicks 15 = .ok (.if_icmp .ne 7, 3) := by decide +kernel
theorem dX0_measureTicks_18 : decode cX0_measureTicks 18 = .ok (.iconst 0, 1) := by decide +kernel
theorem dX0_measureTicks_19 : decode cX0_measureTicks 19 = .ok (.goto 5, 3) := by decide +kernel
theorem dX0_measureTicks_22 : decode cX0_measureTicks 22 = .ok (.bipush 16, 2) := by decide +kernel
theorem dX0_measureTicks_24 : decode cX0_measureTicks 24 = .ok (.iastore, 1) := by decide +kernel
theorem dX0_measureTicks_25 : decode cX0_measureTicks 25 = .ok (.iinc 2 1, 3) := by decide +kernel
theorem dX0_measureTicks_28 : decode cX0_measureTicks 28 = .ok (.goto (-26), 3) := by decide +kernel
theorem dX0_measureTicks_31 : decode cX0_measureTicks 31 = .ok (.iconst 0, 1) := by decide +kernel
theorem dX0_measureTicks_32 : decode cX0_measureTicks 32 = .ok (.istore_n 2, 1) := by decide +kernel
theorem dX0_measureTicks_33 : decode cX0_measureTicks 33 = .ok (.iload_n 2, 1) := by decide +kernel
theorem dX0_measureTicks_34 : decode cX0_measureTicks 34 = .ok (.bipush 16, 2) := by decide +kernel
theorem dX0_measureTicks_36 : decode cX0_measureTicks 36 = .ok (.if_icmp .ge 73, 3) := by decide +kernel
theorem dX0_measureTicks_39 : decode cX0_measureTicks 39 = .ok (.iconst 0, 1) := by decide +kernel
theorem dX0_measureTicks_40 : decode cX0_measureTicks 40 = .ok (.istore_n 3, 1) := by decide +kernel
theorem dX0_measureTicks_41 : decode cX0_measureTicks 41 = .ok (.iload_n 3, 1) := by decide +kernel
theorem dX0_measureTicks_42 : decode cX0_measureTicks 42 = .ok (.bipush 16, 2) := by decide +kernel
theorem dX0_measureTicks_44 : decode cX0_measureTicks 44 = .ok (.if_icmp .ge 59, 3) := by decide +kernel
theorem dX0_measureTicks_47 : decode cX0_measureTicks 47 = .ok (.aload_n 0, 1) := by decide +kernel
theorem dX0_measureTicks_48 : decode cX0_measureTicks 48 = .ok (.getfield 29, 3) := by decide +kernel
theorem dX0_measureTicks_51 : decode cX0_measureTicks 51 = .ok (.getstatic 37, 3) := by decide +kernel
theorem dX0_measureTicks_54 : decode cX0_measureTicks 54 = .ok (.iconst 2, 1) := by decide +kernel
theorem dX0_measureTicks_55 : decode cX0_measureTicks 55 = .ok (.iload_n 3, 1) := by decide +kernel
theorem dX0_measureTicks_56 : decode cX0_measureTicks 56 = .ok (.imul, 1) := by decide +kernel
theorem dX0_measureTicks_57 : decode cX0_measureTicks 57 = .ok (.iaload, 1) := by decide +kernel
theorem dX0_measureTicks_58 : decode cX0_measureTicks 58 = .ok (.iaload, 1) := by decide +kernel
theorem dX0_measureTicks_59 : decode cX0_measureTicks 59 = .ok (.aload_n 0, 1) := by decide +kernel
theorem dX0_measureTicks_60 : decode cX0_measureTicks 60 = .ok (.getfield 29, 3) := by decide +kernel
theorem dX0_measureTicks_63 : decode cX0_measureTicks 63 = .ok (.getstatic 37, 3) := by decide +kernel
theorem dX0_measureTicks_66 : decode cX0_measureTicks 66 = .ok (.iconst 2, 1) := by decide +kernel
theorem dX0_measureTicks_67 : decode cX0_measureTicks 67 = .ok (.iload_n 3, 1) := by decide +kernel
theorem dX0_measureTicks_68 : decode cX0_measureTicks 68 = .ok (.imul, 1) := by decide +kernel
theorem dX0_measureTicks_69 : decode cX0_measureTicks 69 = .ok (.iconst 1, 1) := by decide +kernel
theorem dX0_measureTicks_70 : decode cX0_measureTicks 70 = .ok (.iadd, 1) := by decide +kernel
theorem dX0_measureTicks_71 : decode cX0_measureTicks 71 = .ok (.iaload, 1) := by decide +kernel
theorem dX0_measureTicks_72 : decode cX0_measureTicks 72 = .ok (.iaload, 1) := by decide +kernel
theorem dX0_measureTicks_73 : decode cX0_measureTicks 73 = .ok (.invokestatic 104, 3) := by decide +kernel
theorem dX0_measureTicks_76 : decode cX0_measureTicks 76 = .ok (.istore 4, 2) := by decide +kernel
theorem dX0_measureTicks_78 : decode cX0_measureTicks 78 = .ok (.aload_n 0, 1) := by decide +kernel
theorem dX0_measureTicks_79 : decode cX0_measureTicks 79 = .ok (.getfield 29, 3) := by decide +kernel
theorem dX0_measureTicks_82 : decode cX0_measureTicks 82 = .ok (.iload_n 3, 1) := by decide +kernel
theorem dX0_measureTicks_83 : decode cX0_measureTicks 83 = .ok (.aload_n 0, 1) := by decide +kernel
theorem dX0_measureTicks_84 : decode cX0_measureTicks 84 = .ok (.getfield 29, 3) := by decide +kernel
theorem dX0_measureTicks_87 : decode cX0_measureTicks 87 = .ok (.iload_n 3, 1) := by decide +kernel
theorem dX0_measureTicks_88 : decode cX0_measureTicks 88 = .ok (.iaload, 1) := by decide +kernel
theorem dX0_measureTicks_89 : decode cX0_measureTicks 89 = .ok (.iload 4, 2) := by decide +kernel
theorem dX0_measureTicks_91 : decode cX0_measureTicks 91 = .ok (.iconst 1, 1) := by decide +kernel
theorem dX0_measureTicks_92 : decode cX0_measureTicks 92 = .ok (.iadd, 1) := by decide +kernel
theorem dX0_measureTicks_93 : decode cX0_measureTicks 93 = .ok (.invokestatic 104, 3) := by decide +kernel
theorem dX0_measureTicks_96 : decode cX0_measureTicks 96 = .ok (.iastore, 1) := by decide +kernel
theorem dX0_measureTicks_97 : decode cX0_measureTicks 97 = .ok (.iinc 3 1, 3) := by decide +kernel
theorem dX0_measureTicks_100 : decode cX0_measureTicks 100 = .ok (.goto (-59), 3) := by decide +kernel
theorem dX0_measureTicks_103 : decode cX0_measureTicks 103 = .ok (.iinc 2 1, 3) := by decide +kernel
theorem dX0_measureTicks_106 : decode cX0_measureTicks 106 = .ok (.goto (-73), 3) := by decide +kernel
theorem dX0_measureTicks_109 : decode cX0_measureTicks 109 = .ok (.return_, 1) := by decide +kernel
theorem dX0_stepUntil_0 : decode cX0_stepUntil 0 = .ok (.aload_n 0, 1) := by decide +kernel
theorem dX0_stepUntil_1 : decode cX0_stepUntil 1 = .ok (.iload_n 1, 1) := by decide +kernel
theorem dX0_stepUntil_2 : decode cX0_stepUntil 2 = .ok (.invokevirtual 93, 3) := by decide +kernel
theorem dX0_stepUntil_5 : decode cX0_stepUntil 5 = .ok (.aload_n 0, 1) := by decide +kernel
theorem dX0_stepUntil_6 : decode cX0_stepUntil 6 = .ok (.getfield 29, 3) := by decide +kernel
theorem dX0_stepUntil_9 : decode cX0_stepUntil 9 = .ok (.aload_n 0, 1) := by decide +kernel
theorem dX0_stepUntil_10 : decode cX0_stepUntil 10 = .ok (.getfield 23, 3) := by decide +kernel
theorem dX0_stepUntil_13 : decode cX0_stepUntil 13 = .ok (.iaload, 1) := by decide +kernel
theorem dX0_stepUntil_14 : decode cX0_stepUntil 14 = .ok (.istore_n 2, 1) := by decide +kernel
theorem dX0_stepUntil_15 : decode cX0_stepUntil 15 = .ok (.iconst 0, 1) := by decide +kernel
theorem dX0_stepUntil_16 : decode cX0_stepUntil 16 = .ok (.istore_n 3, 1) := by decide +kernel
theorem dX0_stepUntil_17 : decode cX0_stepUntil 17 = .ok (.iload_n 3, 1) := by decide +kernel
theorem dX0_stepUntil_18 : decode cX0_stepUntil 18 = .ok (.iload_n 2, 1) := by decide +kernel
theorem dX0_stepUntil_19 : decode cX0_stepUntil 19 = .ok (.if_icmp .ge 19, 3) := by decide +kernel
theorem dX0_stepUntil_22 : decode cX0_stepUntil 22 = .ok (.aload_n 0, 1) := by decide +kernel
theorem dX0_stepUntil_23 : decode cX0_stepUntil 23 = .ok (.aload_n 0, 1) := by decide +kernel
theorem dX0_stepUntil_24 : decode cX0_stepUntil 24 = .ok (.invokevirtual 97, 3) := by decide +kernel
theorem dX0_stepUntil_27 : decode cX0_stepUntil 27 = .ok (.iconst 0, 1) := by decide +kernel
theorem dX0_stepUntil_28 : decode cX0_stepUntil 28 = .ok (.invokevirtual 100, 3) := by decide +kernel
theorem dX0_stepUntil_31 : decode cX0_stepUntil 31 = .ok (.pop, 1) := by decide +kernel
theorem dX0_stepUntil_32 : decode cX0_stepUntil 32 = .ok (.iinc 3 1, 3) := by decide +kernel
theorem dX0_stepUntil_35 : decode cX0_stepUntil 35 = .ok (.goto (-18), 3) := by decide +kernel
theorem dX0_stepUntil_38 : decode cX0_stepUntil 38 = .ok (.iload_n 2, 1) := by decide +kernel
theorem dX0_stepUntil_39 : decode cX0_stepUntil 39 = .ok (.ireturn, 1) := by decide +kernel
set_option maxHeartbeats 4000000 in
set_option maxRecDepth 100000 in
theorem c_Access_shortestMode (l : Launch) (dC : Nat → ClassId) (dI : Nat → Nat → Nat) (q : Nat → Nat) (cI cZ : ClassId) (sz : Nat) (r : RS) (k : CS) (a : AS) (tN : Nat) (hA0 : AB a) : Met l yX0_shortestMode (.code yX0_shortestMode cX0_shortestMode 1 (some .int) :: ALLG) ({ frames := 0, cells := 0, slots := 0, locals := 0 }) (va_Pc [.ref (q 15)] (cP (dC, dI) vwCl [(cI, .int), (cZ, .boolean)] (wY q cI cZ r k a) (eN tN (va_A (wY q cI cZ r k a) sz)) sz)) (va_Qi (fun (x : Int32) (_ : Unit) => x = nI (smode a)) (fun (_ : Unit) => cB (dC, dI) vwCl [(cI, .int), (cZ, .boolean)] (wY q cI cZ r k a) (va_A (wY q cI cZ r k a) sz)) (va_A (wY q cI cZ r k a) sz)) 0 0 (va_A (wY q cI cZ r k a) sz) := by
  refine xm_of (cc := cX0_shortestMode) (maxL := 1) (ret := some .int) (by decide) rfl (Nat.le_of_ble_eq_true rfl) ?_
  intro p e s m below meth c A hAe hx hb hr hml hts0 hown hlk hin hsz H locs hP hK hD hA hS hE ls hl
  have hts : ∀ w ∈ ALLG, w.before _ s = true := fun w h => hts0 w (List.mem_cons_of_mem _ h)
  rw [← hAe]
  rw [← hAe] at hE
  obtain ⟨a_st, a_co, a_cr, a_by, a_tk⟩ := hA0
  have g1 := NX_lt (2 * a.st)
  have g2 := a_tk (NX (2 * a.st))
  have g3 := a_tk a.st
  have hl : lv_has ls 1 [(0, .ref (q 15))] := hl
  refine lv_aload_n hx hb dX0_shortestMode_0 rfl (lv_at hl 0 rfl) ?_
  refine va_get (D := (dC, dI)) (ci := 0) (v := .ref (q 16)) (C := RX0) (T := TX0) (N := 9) hx hb hts inX0 hown hK hP 15 rfl rfl 8 (by decide) (hts _ tw_111) (fun _ h9 => h9) rfl dX0_shortestMode_1 ?_
  refine va_gets hx hb hE.1 hS hown (hts _ tw_517) (fun _ h9 => h9) dX0_shortestMode_4 ?_
  refine lv_iconst (v := nI 2) hx hb dX0_shortestMode_7 (by decide) ?_
  refine lv_aload_n hx hb dX0_shortestMode_8 rfl (lv_at hl 0 rfl) ?_
  refine va_get (D := (dC, dI)) (ci := 0) (v := .int (nI (AS.st a))) (C := RX0) (T := TX0) (N := 9) hx hb hts inX0 hown hK hP 15 rfl rfl 0 (by decide) (hts _ tw_101) (fun _ h9 => h9) rfl dX0_shortestMode_9 ?_
  refine xn_mul hx hb dX0_shortestMode_12 ?_
  refine va_ti hx hb hE.2 hS (vp_in_nI (show (2 * (AS.st a)) < 32 by omega) (by decide)) (v := .int (nI (NX (2 * (AS.st a))))) (by show Value.int (nI (NX (nI (2 * (AS.st a))).toNatClampNeg)) = _; rw [nI_clamp (by omega)]) dX0_shortestMode_13 ?_
  refine xa_ild hx hb hK hP 16 0 rfl rfl (v := nI ((AS.tk a) (NX (2 * (AS.st a))))) (by omega) (by decide) rfl dX0_shortestMode_14 ?_
  refine lv_aload_n hx hb dX0_shortestMode_15 rfl (lv_at hl 0 rfl) ?_
  refine va_get (D := (dC, dI)) (ci := 0) (v := .ref (q 16)) (C := RX0) (T := TX0) (N := 9) hx hb hts inX0 hown hK hP 15 rfl rfl 8 (by decide) (hts _ tw_111) (fun _ h9 => h9) rfl dX0_shortestMode_16 ?_
  refine lv_aload_n hx hb dX0_shortestMode_19 rfl (lv_at hl 0 rfl) ?_
  refine va_get (D := (dC, dI)) (ci := 0) (v := .int (nI (AS.st a))) (C := RX0) (T := TX0) (N := 9) hx hb hts inX0 hown hK hP 15 rfl rfl 0 (by decide) (hts _ tw_101) (fun _ h9 => h9) rfl dX0_shortestMode_20 ?_
  refine xa_ild hx hb hK hP 16 0 rfl rfl (v := nI ((AS.tk a) (AS.st a))) (by omega) (by decide) rfl dX0_shortestMode_23 ?_
  refine xn_cge (tgt := 31) hx hb (by omega) (by omega) dX0_shortestMode_24 (by decide) (fun c_1 => ?_) (fun c_1 => ?_)
  · refine lv_iconst (v := nI 1) hx hb dX0_shortestMode_31 (by decide) ?_
    exact xr_i hx hb hr hlk (u := ()) (by unfold smode; rw [if_neg (by omega)]) hP hK hD hS dX0_shortestMode_32
  · refine lv_iconst (v := nI 0) hx hb dX0_shortestMode_27 (by decide) ?_
    refine lv_goto (tgt := 32) hx hb dX0_shortestMode_28 (by decide) ?_
    exact xr_i hx hb hr hlk (u := ()) (by unfold smode; rw [if_pos (by assumption)]) hP hK hD hS dX0_shortestMode_32
set_option maxHeartbeats 4000000 in
set_option maxRecDepth 100000 in
theorem c_Access_measureTicks (l : Launch) (dC : Nat → ClassId) (dI : Nat → Nat → Nat) (q : Nat → Nat) (cI cZ : ClassId) (sz : Nat) (r : RS) (k : CS) (a : AS) (tN goal : Nat) (hA0 : AB a) (hg : goal < 16) : Met l yX0_measureTicks (.code yX0_measureTicks cX0_measureTicks 5 none :: ALLG) ({ frames := 1, cells := 0, slots := 0, locals := 24 }) (va_Pc [.ref (q 15), .int (nI goal)] (cP (dC, dI) vwCl [(cI, .int), (cZ, .boolean)] (wY q cI cZ r k a) (eN tN (va_A (wY q cI cZ r k a) sz)) sz)) (va_Qv (fun (u : RS × CS × AS) => u = (r, k, a.s_tk (mtF goal a.tk))) (fun (u : RS × CS × AS) => cB (dC, dI) vwCl [(cI, .int), (cZ, .boolean)] (wY q cI cZ u.1 u.2.1 u.2.2) (va_A (wY q cI cZ r k a) sz)) (va_A (wY q cI cZ r k a) sz)) 0 0 (va_A (wY q cI cZ r k a) sz) := by
  refine xm_of (cc := cX0_measureTicks) (maxL := 5) (ret := none) (by decide) rfl (Nat.le_of_ble_eq_true rfl) ?_
  intro p e s m below meth c A hAe hx hb hr hml hts0 hown hlk hin hsz H locs hP hK hD hA hS hE ls hl
  have hts : ∀ w ∈ ALLG, w.before _ s = true := fun w h => hts0 w (List.mem_cons_of_mem _ h)
  rw [← hAe]
  rw [← hAe] at hE
  obtain ⟨a_st, a_co, a_cr, a_by, a_tk⟩ := hA0
  have hl : lv_has ls 5 [(0, .ref (q 15)), (1, .int (nI goal))] := hl
  refine lv_iconst (v := nI 0) hx hb dX0_measureTicks_0 (by decide) ?_
  refine lv_istore_n (lv' := [(2, .int (nI 0)), (0, .ref (q 15)), (1, .int (nI goal))]) hx hb dX0_measureTicks_1 rfl hl (by decide) rfl (fun ls hl => ?_)
  have L2 : ∀ (fuel : Nat) (i : Nat) (g : Nat → Nat), (i ≤ 16) → (g = cpN (tk0 goal) a.tk i) → 16 - i < fuel → ∀ (H : Heap) (locs : List Loc), va_P (dC, dI) vwCl (wY q cI cZ r k (AS.s_tk a g)) H → va_D A (wY q cI cZ r k (AS.s_tk a g)) → va_S A s.heap H locs → ∀ ls : Array Slot, lv_has ls 5 [(0, .ref (q 15)), (1, .int (nI goal)), (2, .int (nI i))] → W p l e ({ frames := 1, cells := 0, slots := 0, locals := 24 } : Room) s m ([.ref (q 15), .int (nI goal)] : List Value).toArray below meth c H locs 0 0 (MQ below (va_Qv (fun (u : RS × CS × AS) => u = (r, k, a.s_tk (mtF goal a.tk))) (fun (u : RS × CS × AS) => cB (dC, dI) vwCl [(cI, .int), (cZ, .boolean)] (wY q cI cZ u.1 u.2.1 u.2.2) (A)) (A)) ([.ref (q 15), .int (nI goal)] : List Value).toArray s 0 0 A) (F0 m 2 ls []) := by
    intro fuel
    induction fuel with
    | zero => intro i g i1 e1 hm H locs hP hD hS ls hl; exact absurd hm (Nat.not_lt_zero _)
    | succ fuel ih2 =>
      intro i g i1 e1 hm H locs hP hD hS ls hl
      refine lv_iload_n hx hb dX0_measureTicks_2 rfl (lv_at hl 2 rfl) ?_
      refine lv_bipush (v := nI 16) hx hb dX0_measureTicks_3 (by decide) ?_
      refine xn_cge (tgt := 31) hx hb (by omega) (by omega) dX0_measureTicks_5 (by decide) (fun c_1 => ?_) (fun c_1 => ?_)
      · refine lv_iconst (v := nI 0) hx hb dX0_measureTicks_31 (by decide) ?_
        refine lv_istore_n (lv' := [(2, .int (nI 0)), (0, .ref (q 15)), (1, .int (nI goal))]) hx hb dX0_measureTicks_32 rfl hl (by decide) rfl (fun ls hl => ?_)
        have L33 : ∀ (fuel : Nat) (i : Nat) (g : Nat → Nat), (i ≤ 16) → (g = mtO (cpN (tk0 goal) a.tk 16) i) → 16 - i < fuel → ∀ (H : Heap) (locs : List Loc), va_P (dC, dI) vwCl (wY q cI cZ r k (AS.s_tk a g)) H → va_D A (wY q cI cZ r k (AS.s_tk a g)) → va_S A s.heap H locs → ∀ ls : Array Slot, lv_has ls 5 [(0, .ref (q 15)), (2, .int (nI i))] → W p l e ({ frames := 1, cells := 0, slots := 0, locals := 24 } : Room) s m ([.ref (q 15), .int (nI goal)] : List Value).toArray below meth c H locs 0 0 (MQ below (va_Qv (fun (u : RS × CS × AS) => u = (r, k, a.s_tk (mtF goal a.tk))) (fun (u : RS × CS × AS) => cB (dC, dI) vwCl [(cI, .int), (cZ, .boolean)] (wY q cI cZ u.1 u.2.1 u.2.2) (A)) (A)) ([.ref (q 15), .int (nI goal)] : List Value).toArray s 0 0 A) (F0 m 33 ls []) := by
          intro fuel
          induction fuel with
          | zero => intro i g i1 e1 hm H locs hP hD hS ls hl; exact absurd hm (Nat.not_lt_zero _)
          | succ fuel ih33 =>
            intro i g i1 e1 hm H locs hP hD hS ls hl
            refine lv_iload_n hx hb dX0_measureTicks_33 rfl (lv_at hl 1 rfl) ?_
            refine lv_bipush (v := nI 16) hx hb dX0_measureTicks_34 (by decide) ?_
            refine xn_cge (tgt := 109) hx hb (by omega) (by omega) dX0_measureTicks_36 (by decide) (fun c_2 => ?_) (fun c_2 => ?_)
            · exact xr_v hx hb hr hlk (u := (r, k, AS.s_tk a g)) (by rw [e1, show i = 16 by omega]; rfl) hP hK hD hS dX0_measureTicks_109
            · refine lv_iconst (v := nI 0) hx hb dX0_measureTicks_39 (by decide) ?_
              refine lv_istore_n (lv' := [(3, .int (nI 0)), (0, .ref (q 15)), (2, .int (nI i))]) hx hb dX0_measureTicks_40 rfl hl (by decide) rfl (fun ls hl => ?_)
              have L41 : ∀ (fuel : Nat) (j : Nat) (g : Nat → Nat), (j ≤ 16) → (g = mtI (mtO (cpN (tk0 goal) a.tk 16) i) j) → 16 - j < fuel → ∀ (H : Heap) (locs : List Loc), va_P (dC, dI) vwCl (wY q cI cZ r k (AS.s_tk a g)) H → va_D A (wY q cI cZ r k (AS.s_tk a g)) → va_S A s.heap H locs → ∀ ls : Array Slot, lv_has ls 5 [(0, .ref (q 15)), (2, .int (nI i)), (3, .int (nI j))] → W p l e ({ frames := 1, cells := 0, slots := 0, locals := 24 } : Room) s m ([.ref (q 15), .int (nI goal)] : List Value).toArray below meth c H locs 0 0 (MQ below (va_Qv (fun (u : RS × CS × AS) => u = (r, k, a.s_tk (mtF goal a.tk))) (fun (u : RS × CS × AS) => cB (dC, dI) vwCl [(cI, .int), (cZ, .boolean)] (wY q cI cZ u.1 u.2.1 u.2.2) (A)) (A)) ([.ref (q 15), .int (nI goal)] : List Value).toArray s 0 0 A) (F0 m 41 ls []) := by
                intro fuel
                induction fuel with
                | zero => intro j g j1 e2 hm H locs hP hD hS ls hl; exact absurd hm (Nat.not_lt_zero _)
                | succ fuel ih41 =>
                  intro j g j1 e2 hm H locs hP hD hS ls hl
                  refine lv_iload_n hx hb dX0_measureTicks_41 rfl (lv_at hl 2 rfl) ?_
                  refine lv_bipush (v := nI 16) hx hb dX0_measureTicks_42 (by decide) ?_
                  refine xn_cge (tgt := 103) hx hb (by omega) (by omega) dX0_measureTicks_44 (by decide) (fun c_3 => ?_) (fun c_3 => ?_)
                  · refine lv_iinc (v := nI (i + 1)) (lv' := [(2, .int (nI (i + 1))), (0, .ref (q 15)), (3, .int (nI j))]) hx hb dX0_measureTicks_103 hl (k := 1) rfl (nI_1 _) (by decide) rfl (fun ls hl => ?_)
                    refine lv_goto (tgt := 33) hx hb dX0_measureTicks_106 (by decide) ?_
                    exact ih33 (i + 1) g (by omega) (by rw [e2, show j = 16 by omega]; rfl) (by omega) H locs hP hD hS ls (lv_sub hl [1, 0] rfl)
                  · have g1 := NX_lt (2 * j)
                    have g2 := NX_lt (2 * j + 1)
                    have b_g : ∀ z, g z ≤ 16 := fun z => by rw [e2]; exact mtI_le (mtO_le (cpN_le (tk0_le goal) a_tk 16) i) j z
                    have g3 := b_g (NX (2 * j))
                    have g4 := b_g (NX (2 * j + 1))
                    have g5 := b_g j
                    refine lv_aload_n hx hb dX0_measureTicks_47 rfl (lv_at hl 0 rfl) ?_
                    refine va_get (D := (dC, dI)) (ci := 0) (v := .ref (q 16)) (C := RX0) (T := TX0) (N := 9) hx hb hts inX0 hown hK hP 15 rfl rfl 8 (by decide) (hts _ tw_111) (fun _ h9 => h9) rfl dX0_measureTicks_48 ?_
                    refine va_gets hx hb hE.1 hS hown (hts _ tw_517) (fun _ h9 => h9) dX0_measureTicks_51 ?_
                    refine lv_iconst (v := nI 2) hx hb dX0_measureTicks_54 (by decide) ?_
                    refine lv_iload_n hx hb dX0_measureTicks_55 rfl (lv_at hl 2 rfl) ?_
                    refine xn_mul hx hb dX0_measureTicks_56 ?_
                    refine va_ti hx hb hE.2 hS (vp_in_nI (show (2 * j) < 32 by omega) (by decide)) (v := .int (nI (NX (2 * j)))) (by show Value.int (nI (NX (nI (2 * j)).toNatClampNeg)) = _; rw [nI_clamp (by omega)]) dX0_measureTicks_57 ?_
                    refine xa_ild hx hb hK hP 16 0 rfl rfl (v := nI (g (NX (2 * j)))) (by omega) (by decide) rfl dX0_measureTicks_58 ?_
                    refine lv_aload_n hx hb dX0_measureTicks_59 rfl (lv_at hl 0 rfl) ?_
                    refine va_get (D := (dC, dI)) (ci := 0) (v := .ref (q 16)) (C := RX0) (T := TX0) (N := 9) hx hb hts inX0 hown hK hP 15 rfl rfl 8 (by decide) (hts _ tw_111) (fun _ h9 => h9) rfl dX0_measureTicks_60 ?_
                    refine va_gets hx hb hE.1 hS hown (hts _ tw_517) (fun _ h9 => h9) dX0_measureTicks_63 ?_
                    refine lv_iconst (v := nI 2) hx hb dX0_measureTicks_66 (by decide) ?_
                    refine lv_iload_n hx hb dX0_measureTicks_67 rfl (lv_at hl 2 rfl) ?_
                    refine xn_mul hx hb dX0_measureTicks_68 ?_
                    refine lv_iconst (v := nI 1) hx hb dX0_measureTicks_69 (by decide) ?_
                    refine xn_add hx hb dX0_measureTicks_70 ?_
                    refine va_ti hx hb hE.2 hS (vp_in_nI (show ((2 * j) + 1) < 32 by omega) (by decide)) (v := .int (nI (NX ((2 * j) + 1)))) (by show Value.int (nI (NX (nI ((2 * j) + 1)).toNatClampNeg)) = _; rw [nI_clamp (by omega)]) dX0_measureTicks_71 ?_
                    refine xa_ild hx hb hK hP 16 0 rfl rfl (v := nI (g (NX ((2 * j) + 1)))) (by omega) (by decide) rfl dX0_measureTicks_72 ?_
                    refine va_mmin hx hb (hml.trans hl.1.symm) hown (hts _ tw_535) (hts _ tw_536) (hts _ tw_12) (hts _ tw_537) (Nat.le_of_ble_eq_true rfl) (Nat.le_of_ble_eq_true rfl) (Nat.zero_le _) (Nat.zero_le _) dX0_measureTicks_73 ?_
                    refine xt_i (min_nI (x := g (NX (2 * j))) (y := g (NX ((2 * j) + 1))) (by omega) (by omega)) ?_
                    refine lv_istore (lv' := [(4, .int (nI (min (g (NX (2 * j))) (g (NX ((2 * j) + 1)))))), (0, .ref (q 15)), (2, .int (nI i)), (3, .int (nI j))]) hx hb dX0_measureTicks_76 hl (by decide) rfl (fun ls hl => ?_)
                    refine lv_aload_n hx hb dX0_measureTicks_78 rfl (lv_at hl 1 rfl) ?_
                    refine va_get (D := (dC, dI)) (ci := 0) (v := .ref (q 16)) (C := RX0) (T := TX0) (N := 9) hx hb hts inX0 hown hK hP 15 rfl rfl 8 (by decide) (hts _ tw_111) (fun _ h9 => h9) rfl dX0_measureTicks_79 ?_
                    refine lv_iload_n hx hb dX0_measureTicks_82 rfl (lv_at hl 3 rfl) ?_
                    refine lv_aload_n hx hb dX0_measureTicks_83 rfl (lv_at hl 1 rfl) ?_
                    refine va_get (D := (dC, dI)) (ci := 0) (v := .ref (q 16)) (C := RX0) (T := TX0) (N := 9) hx hb hts inX0 hown hK hP 15 rfl rfl 8 (by decide) (hts _ tw_111) (fun _ h9 => h9) rfl dX0_measureTicks_84 ?_
                    refine lv_iload_n hx hb dX0_measureTicks_87 rfl (lv_at hl 3 rfl) ?_
                    refine xa_ild hx hb hK hP 16 0 rfl rfl (v := nI (g j)) (by omega) (by decide) rfl dX0_measureTicks_88 ?_
                    refine lv_iload hx hb dX0_measureTicks_89 (lv_at hl 0 rfl) ?_
                    refine lv_iconst (v := nI 1) hx hb dX0_measureTicks_91 (by decide) ?_
                    refine xn_add hx hb dX0_measureTicks_92 ?_
                    refine va_mmin hx hb (hml.trans hl.1.symm) hown (hts _ tw_535) (hts _ tw_536) (hts _ tw_12) (hts _ tw_537) (Nat.le_of_ble_eq_true rfl) (Nat.le_of_ble_eq_true rfl) (Nat.zero_le _) (Nat.zero_le _) dX0_measureTicks_93 ?_
                    refine xt_i (min_nI (x := g j) (y := (min (g (NX (2 * j))) (g (NX ((2 * j) + 1)))) + 1) (by omega) (by omega)) ?_
                    refine xa_ist hx hb hK hP hD hS 16 0 rfl rfl (by omega) (by decide) (aN_up _ _ _) dX0_measureTicks_96 (fun H locs hP hD hS => ?_)
                    have hP : va_P (dC, dI) vwCl (wY q cI cZ r k (AS.s_tk (AS.s_tk a g) (va_up g j (min (g j) ((min (g (NX (2 * j))) (g (NX ((2 * j) + 1)))) + 1))))) H := hP
                    have hD : va_D A (wY q cI cZ r k (AS.s_tk (AS.s_tk a g) (va_up g j (min (g j) ((min (g (NX (2 * j))) (g (NX ((2 * j) + 1)))) + 1))))) := hD
                    refine lv_iinc (v := nI (j + 1)) (lv' := [(3, .int (nI (j + 1))), (4, .int (nI (min (g (NX (2 * j))) (g (NX ((2 * j) + 1)))))), (0, .ref (q 15)), (2, .int (nI i))]) hx hb dX0_measureTicks_97 hl (k := 3) rfl (nI_1 _) (by decide) rfl (fun ls hl => ?_)
                    refine lv_goto (tgt := 41) hx hb dX0_measureTicks_100 (by decide) ?_
                    exact ih41 (j + 1) (va_up g j (min (g j) ((min (g (NX (2 * j))) (g (NX ((2 * j) + 1)))) + 1))) (by omega) (by rw [show mtI (mtO (cpN (tk0 goal) a.tk 16) i) (j + 1) = mtS (mtI (mtO (cpN (tk0 goal) a.tk 16) i) j) j from rfl, ← e2]; rfl) (by omega) H locs hP hD hS ls (lv_sub hl [2, 3, 0] rfl)
              exact L41 ((16 - 0) + 1) 0 g (Nat.zero_le _) e1 (Nat.lt_succ_self _) H locs hP hD hS ls (lv_sub hl [1, 2, 0] rfl)
        exact L33 ((16 - 0) + 1) 0 g (Nat.zero_le _) (by rw [e1, show i = 16 by omega]; rfl) (Nat.lt_succ_self _) H locs hP hD hS ls (lv_sub hl [1, 0] rfl)
      · refine lv_aload_n hx hb dX0_measureTicks_8 rfl (lv_at hl 0 rfl) ?_
        refine va_get (D := (dC, dI)) (ci := 0) (v := .ref (q 16)) (C := RX0) (T := TX0) (N := 9) hx hb hts inX0 hown hK hP 15 rfl rfl 8 (by decide) (hts _ tw_111) (fun _ h9 => h9) rfl dX0_measureTicks_9 ?_
        refine lv_iload_n hx hb dX0_measureTicks_12 rfl (lv_at hl 2 rfl) ?_
        refine lv_iload_n hx hb dX0_measureTicks_13 rfl (lv_at hl 2 rfl) ?_
        refine lv_iload_n hx hb dX0_measureTicks_14 rfl (lv_at hl 1 rfl) ?_
        refine xn_cne (tgt := 22) hx hb (by omega) (by omega) dX0_measureTicks_15 (by decide) (fun c_4 => ?_) (fun c_4 => ?_)
        · refine lv_bipush (v := nI 16) hx hb dX0_measureTicks_22 (by decide) ?_
          refine xa_ist hx hb hK hP hD hS 16 0 rfl rfl (by omega) (by decide) (aN_up _ _ _) dX0_measureTicks_24 (fun H locs hP hD hS => ?_)
          have hP : va_P (dC, dI) vwCl (wY q cI cZ r k (AS.s_tk (AS.s_tk a g) (va_up g i 16))) H := hP
          have hD : va_D A (wY q cI cZ r k (AS.s_tk (AS.s_tk a g) (va_up g i 16))) := hD
          refine lv_iinc (v := nI (i + 1)) (lv' := [(2, .int (nI (i + 1))), (0, .ref (q 15)), (1, .int (nI goal))]) hx hb dX0_measureTicks_25 hl (k := 2) rfl (nI_1 _) (by decide) rfl (fun ls hl => ?_)
          refine lv_goto (tgt := 2) hx hb dX0_measureTicks_28 (by decide) ?_
          exact ih2 (i + 1) (va_up g i 16) (by omega) (by rw [e1, ← cpN_s]; unfold tk0; rw [if_neg (by assumption)]) (by omega) H locs hP hD hS ls (lv_sub hl [1, 2, 0] rfl)
        · refine lv_iconst (v := nI 0) hx hb dX0_measureTicks_18 (by decide) ?_
          refine lv_goto (tgt := 24) hx hb dX0_measureTicks_19 (by decide) ?_
          refine xa_ist hx hb hK hP hD hS 16 0 rfl rfl (by omega) (by decide) (aN_up _ _ _) dX0_measureTicks_24 (fun H locs hP hD hS => ?_)
          have hP : va_P (dC, dI) vwCl (wY q cI cZ r k (AS.s_tk (AS.s_tk a g) (va_up g i 0))) H := hP
          have hD : va_D A (wY q cI cZ r k (AS.s_tk (AS.s_tk a g) (va_up g i 0))) := hD
          refine lv_iinc (v := nI (i + 1)) (lv' := [(2, .int (nI (i + 1))), (0, .ref (q 15)), (1, .int (nI goal))]) hx hb dX0_measureTicks_25 hl (k := 2) rfl (nI_1 _) (by decide) rfl (fun ls hl => ?_)
          refine lv_goto (tgt := 2) hx hb dX0_measureTicks_28 (by decide) ?_
          exact ih2 (i + 1) (va_up g i 0) (by omega) (by rw [e1, ← cpN_s]; unfold tk0; rw [if_pos (by assumption)]) (by omega) H locs hP hD hS ls (lv_sub hl [1, 2, 0] rfl)
  exact L2 ((16 - 0) + 1) 0 (AS.tk a) (Nat.zero_le _) ((cpN_0 _ _).symm) (Nat.lt_succ_self _) H locs hP hD hS ls (lv_sub hl [1, 2, 0] rfl)
set_option maxHeartbeats 4000000 in
set_option maxRecDepth 100000 in
theorem c_Access_stepUntil (l : Launch) (dC : Nat → ClassId) (dI : Nat → Nat → Nat) (q : Nat → Nat) (cI cZ : ClassId) (sz : Nat) (r : RS) (k : CS) (a : AS) (tN goal : Nat) (hY : YB (r, k, a)) (hg : goal < 16) : Met l yX0_stepUntil (.code yX0_stepUntil cX0_stepUntil 4 (some .int) :: ALLG) ({ frames := 5, cells := 0, slots := 0, locals := 113 }) (va_Pc [.ref (q 15), .int (nI goal)] (cP (dC, dI) vwCl [(cI, .int), (cZ, .boolean)] (wY q cI cZ r k a) (eN tN (va_A (wY q cI cZ r k a) sz)) sz)) (va_Qi (fun (x : Int32) (u : RS × CS × AS) => x = nI (mtF goal a.tk a.st) ∧ u = goIt (r, k, a.s_tk (mtF goal a.tk)) (mtF goal a.tk a.st)) (fun (u : RS × CS × AS) => cB (dC, dI) vwCl [(cI, .int), (cZ, .boolean)] (wY q cI cZ u.1 u.2.1 u.2.2) (va_A (wY q cI cZ r k a) sz)) (va_A (wY q cI cZ r k a) sz)) 0 0 (va_A (wY q cI cZ r k a) sz) := by
  refine xm_of (cc := cX0_stepUntil) (maxL := 4) (ret := some .int) (by decide) rfl (Nat.le_of_ble_eq_true rfl) ?_
  intro p e s m below meth c A hAe hx hb hr hml hts0 hown hlk hin hsz H locs hP hK hD hA hS hE ls hl
  have hts : ∀ w ∈ ALLG, w.before _ s = true := fun w h => hts0 w (List.mem_cons_of_mem _ h)
  rw [← hAe]
  rw [← hAe] at hE
  have hA0 : AB a := hY.2.2
  obtain ⟨a_st, a_co, a_cr, a_by, a_tk⟩ := id hA0
  have g1 := mtF_le goal a_tk a.st
  have hY1 := YB_mt goal hY
  have hl : lv_has ls 4 [(0, .ref (q 15)), (1, .int (nI goal))] := hl
  refine lv_aload_n hx hb dX0_stepUntil_0 rfl (lv_at hl 0 rfl) ?_
  refine lv_iload_n hx hb dX0_stepUntil_1 rfl (lv_at hl 1 rfl) ?_
  refine xc_Vv (As := [.int (nI goal)]) (wr := []) ⟨hx, hb, hml, hown, hts⟩ (c_Access_measureTicks l dC dI q cI cZ H.size r k a tN goal hA0 hg) (cwV 1 hts (gV tw_531 tw_533 sw_23 tw_4 tw_534) rfl rfl rfl (by decide +kernel) ⟨Nat.le_of_ble_eq_true rfl, Nat.le_of_ble_eq_true rfl⟩) rfl hl.1 rfl (Nat.le_of_ble_eq_true rfl) dX0_stepUntil_2 ⟨Nat.zero_le _, Nat.zero_le _⟩ hP hD hK hS hA [0, 1, 2, 3, 4, 5, 6, 7, 8, 9, 10, 11, 12, 13, 14, 15, 16] [] rfl rfl (by decide) (by decide) (by decide) [0, 1] rfl (q0 := 15) rfl rfl rfl (eN_M _ _) (eN_kn hE hS (va_free (wc := wY q cI cZ r k a) hD hS hA [0, 1, 2, 3, 4, 5, 6, 7, 8, 9, 10, 11, 12, 13, 14, 15, 16] rfl)) (fun u_2 H locs w_3 hP hD hS => ?_)
  obtain rfl := w_3
  have hP : va_P (dC, dI) vwCl (wY q cI cZ r k (AS.s_tk a (mtF goal a.tk))) H := hP
  have hD : va_D A (wY q cI cZ r k (AS.s_tk a (mtF goal a.tk))) := hD
  refine lv_aload_n hx hb dX0_stepUntil_5 rfl (lv_at hl 0 rfl) ?_
  refine va_get (D := (dC, dI)) (ci := 0) (v := .ref (q 16)) (C := RX0) (T := TX0) (N := 9) hx hb hts inX0 hown hK hP 15 rfl rfl 8 (by decide) (hts _ tw_111) (fun _ h9 => h9) rfl dX0_stepUntil_6 ?_
  refine lv_aload_n hx hb dX0_stepUntil_9 rfl (lv_at hl 0 rfl) ?_
  refine va_get (D := (dC, dI)) (ci := 0) (v := .int (nI (AS.st a))) (C := RX0) (T := TX0) (N := 9) hx hb hts inX0 hown hK hP 15 rfl rfl 0 (by decide) (hts _ tw_101) (fun _ h9 => h9) rfl dX0_stepUntil_10 ?_
  refine xa_ild hx hb hK hP 16 0 rfl rfl (v := nI ((mtF goal a.tk) (AS.st a))) (by omega) (by decide) rfl dX0_stepUntil_13 ?_
  refine lv_istore_n (lv' := [(2, .int (nI ((mtF goal a.tk) (AS.st a)))), (0, .ref (q 15)), (1, .int (nI goal))]) hx hb dX0_stepUntil_14 rfl hl (by decide) rfl (fun ls hl => ?_)
  refine lv_iconst (v := nI 0) hx hb dX0_stepUntil_15 (by decide) ?_
  refine lv_istore_n (lv' := [(3, .int (nI 0)), (2, .int (nI ((mtF goal a.tk) (AS.st a)))), (0, .ref (q 15)), (1, .int (nI goal))]) hx hb dX0_stepUntil_16 rfl hl (by decide) rfl (fun ls hl => ?_)
  have L17 : ∀ (fuel : Nat) (i : Nat), (i ≤ mtF goal a.tk a.st) → mtF goal a.tk a.st - i < fuel → ∀ (H : Heap) (locs : List Loc), va_P (dC, dI) vwCl (wY q cI cZ ((goIt (r, k, a.s_tk (mtF goal a.tk)) i).1) ((goIt (r, k, a.s_tk (mtF goal a.tk)) i).2.1) ((goIt (r, k, a.s_tk (mtF goal a.tk)) i).2.2)) H → va_D A (wY q cI cZ ((goIt (r, k, a.s_tk (mtF goal a.tk)) i).1) ((goIt (r, k, a.s_tk (mtF goal a.tk)) i).2.1) ((goIt (r, k, a.s_tk (mtF goal a.tk)) i).2.2)) → va_S A s.heap H locs → ∀ ls : Array Slot, lv_has ls 4 [(0, .ref (q 15)), (2, .int (nI (mtF goal a.tk a.st))), (3, .int (nI i))] → W p l e ({ frames := 5, cells := 0, slots := 0, locals := 113 } : Room) s m ([.ref (q 15), .int (nI goal)] : List Value).toArray below meth c H locs 0 0 (MQ below (va_Qi (fun (x : Int32) (u : RS × CS × AS) => x = nI (mtF goal a.tk a.st) ∧ u = goIt (r, k, a.s_tk (mtF goal a.tk)) (mtF goal a.tk a.st)) (fun (u : RS × CS × AS) => cB (dC, dI) vwCl [(cI, .int), (cZ, .boolean)] (wY q cI cZ u.1 u.2.1 u.2.2) (A)) (A)) ([.ref (q 15), .int (nI goal)] : List Value).toArray s 0 0 A) (F0 m 17 ls []) := by
    intro fuel
    induction fuel with
    | zero => intro i i1 hm H locs hP hD hS ls hl; exact absurd hm (Nat.not_lt_zero _)
    | succ fuel ih17 =>
      intro i i1 hm H locs hP hD hS ls hl
      have hyi := goIt_YB hY1 i
      refine lv_iload_n hx hb dX0_stepUntil_17 rfl (lv_at hl 2 rfl) ?_
      refine lv_iload_n hx hb dX0_stepUntil_18 rfl (lv_at hl 1 rfl) ?_
      refine xn_cge (tgt := 38) hx hb (by omega) (by omega) dX0_stepUntil_19 (by decide) (fun c_4 => ?_) (fun c_4 => ?_)
      · refine lv_iload_n hx hb dX0_stepUntil_38 rfl (lv_at hl 1 rfl) ?_
        exact xr_i hx hb hr hlk (u := ((goIt (r, k, a.s_tk (mtF goal a.tk)) i).1, (goIt (r, k, a.s_tk (mtF goal a.tk)) i).2.1, (goIt (r, k, a.s_tk (mtF goal a.tk)) i).2.2)) (⟨rfl, by rw [show mtF goal a.tk a.st = i by omega]⟩) hP hK hD hS dX0_stepUntil_39
      · refine lv_aload_n hx hb dX0_stepUntil_22 rfl (lv_at hl 0 rfl) ?_
        refine lv_aload_n hx hb dX0_stepUntil_23 rfl (lv_at hl 0 rfl) ?_
        refine xc_Vi (As := []) (wr := []) ⟨hx, hb, hml, hown, hts⟩ (c_Access_shortestMode l dC dI q cI cZ H.size ((goIt (r, k, a.s_tk (mtF goal a.tk)) i).1) ((goIt (r, k, a.s_tk (mtF goal a.tk)) i).2.1) ((goIt (r, k, a.s_tk (mtF goal a.tk)) i).2.2) tN hyi.2.2) (cwV 0 hts (gV tw_538 tw_540 sw_24 tw_4 tw_541) rfl rfl rfl (by decide +kernel) ⟨Nat.le_of_ble_eq_true rfl, Nat.le_of_ble_eq_true rfl⟩) rfl hl.1 rfl (Nat.le_of_ble_eq_true rfl) dX0_stepUntil_24 ⟨Nat.zero_le _, Nat.zero_le _⟩ hP hD hK hS hA [0, 1, 2, 3, 4, 5, 6, 7, 8, 9, 10, 11, 12, 13, 14, 15, 16] [] rfl rfl (by decide) (by decide) (by decide) [0, 1] rfl (q0 := 15) rfl rfl rfl (eN_M _ _) (eN_kn hE hS (va_free (wc := wY q cI cZ ((goIt (r, k, a.s_tk (mtF goal a.tk)) i).1) ((goIt (r, k, a.s_tk (mtF goal a.tk)) i).2.1) ((goIt (r, k, a.s_tk (mtF goal a.tk)) i).2.2)) hD hS hA [0, 1, 2, 3, 4, 5, 6, 7, 8, 9, 10, 11, 12, 13, 14, 15, 16] rfl)) (fun r_5 u_6 H locs w_7 hP hD hS => ?_)
        obtain rfl := w_7
        have hP : va_P (dC, dI) vwCl (wY q cI cZ ((goIt (r, k, a.s_tk (mtF goal a.tk)) i).1) ((goIt (r, k, a.s_tk (mtF goal a.tk)) i).2.1) ((goIt (r, k, a.s_tk (mtF goal a.tk)) i).2.2)) H := hP
        have hD : va_D A (wY q cI cZ ((goIt (r, k, a.s_tk (mtF goal a.tk)) i).1) ((goIt (r, k, a.s_tk (mtF goal a.tk)) i).2.1) ((goIt (r, k, a.s_tk (mtF goal a.tk)) i).2.2)) := hD
        refine lv_iconst (v := nI 0) hx hb dX0_stepUntil_27 (by decide) ?_
        refine xc_Vi (As := [.int (nI (smode ((goIt (r, k, a.s_tk (mtF goal a.tk)) i).2.2))), .int (nI 0)]) (wr := []) ⟨hx, hb, hml, hown, hts⟩ (c_Access_step l dC dI q cI cZ H.size ((goIt (r, k, a.s_tk (mtF goal a.tk)) i).1) ((goIt (r, k, a.s_tk (mtF goal a.tk)) i).2.1) ((goIt (r, k, a.s_tk (mtF goal a.tk)) i).2.2) tN (smode ((goIt (r, k, a.s_tk (mtF goal a.tk)) i).2.2)) 0 hyi (smode_lt _) (by decide)) (cwV 2 hts (gV tw_542 tw_466 tw_467 tw_4 tw_468) rfl rfl rfl (by decide +kernel) ⟨Nat.le_of_ble_eq_true rfl, Nat.le_of_ble_eq_true rfl⟩) rfl hl.1 rfl (Nat.le_of_ble_eq_true rfl) dX0_stepUntil_28 ⟨Nat.zero_le _, Nat.zero_le _⟩ hP hD hK hS hA [0, 1, 2, 3, 4, 5, 6, 7, 8, 9, 10, 11, 12, 13, 14, 15, 16] [] rfl rfl (by decide) (by decide) (by decide) [0, 1] rfl (q0 := 15) rfl rfl rfl (eN_M _ _) (eN_kn hE hS (va_free (wc := wY q cI cZ ((goIt (r, k, a.s_tk (mtF goal a.tk)) i).1) ((goIt (r, k, a.s_tk (mtF goal a.tk)) i).2.1) ((goIt (r, k, a.s_tk (mtF goal a.tk)) i).2.2)) hD hS hA [0, 1, 2, 3, 4, 5, 6, 7, 8, 9, 10, 11, 12, 13, 14, 15, 16] rfl)) (fun r_8 u_9 H locs w_10 hP hD hS => ?_)
        obtain ⟨rfl, rfl⟩ := w_10
        have hP : va_P (dC, dI) vwCl (wY q cI cZ (((stepF ((goIt (r, k, a.s_tk (mtF goal a.tk)) i).1) ((goIt (r, k, a.s_tk (mtF goal a.tk)) i).2.1) ((goIt (r, k, a.s_tk (mtF goal a.tk)) i).2.2) (smode ((goIt (r, k, a.s_tk (mtF goal a.tk)) i).2.2)) 0).2).1) (((stepF ((goIt (r, k, a.s_tk (mtF goal a.tk)) i).1) ((goIt (r, k, a.s_tk (mtF goal a.tk)) i).2.1) ((goIt (r, k, a.s_tk (mtF goal a.tk)) i).2.2) (smode ((goIt (r, k, a.s_tk (mtF goal a.tk)) i).2.2)) 0).2).2.1) (((stepF ((goIt (r, k, a.s_tk (mtF goal a.tk)) i).1) ((goIt (r, k, a.s_tk (mtF goal a.tk)) i).2.1) ((goIt (r, k, a.s_tk (mtF goal a.tk)) i).2.2) (smode ((goIt (r, k, a.s_tk (mtF goal a.tk)) i).2.2)) 0).2).2.2)) H := hP
        have hD : va_D A (wY q cI cZ (((stepF ((goIt (r, k, a.s_tk (mtF goal a.tk)) i).1) ((goIt (r, k, a.s_tk (mtF goal a.tk)) i).2.1) ((goIt (r, k, a.s_tk (mtF goal a.tk)) i).2.2) (smode ((goIt (r, k, a.s_tk (mtF goal a.tk)) i).2.2)) 0).2).1) (((stepF ((goIt (r, k, a.s_tk (mtF goal a.tk)) i).1) ((goIt (r, k, a.s_tk (mtF goal a.tk)) i).2.1) ((goIt (r, k, a.s_tk (mtF goal a.tk)) i).2.2) (smode ((goIt (r, k, a.s_tk (mtF goal a.tk)) i).2.2)) 0).2).2.1) (((stepF ((goIt (r, k, a.s_tk (mtF goal a.tk)) i).1) ((goIt (r, k, a.s_tk (mtF goal a.tk)) i).2.1) ((goIt (r, k, a.s_tk (mtF goal a.tk)) i).2.2) (smode ((goIt (r, k, a.s_tk (mtF goal a.tk)) i).2.2)) 0).2).2.2)) := hD
        refine lv_pop hx hb dX0_stepUntil_31 rfl ?_
        refine lv_iinc (v := nI (i + 1)) (lv' := [(3, .int (nI (i + 1))), (0, .ref (q 15)), (2, .int (nI (mtF goal a.tk a.st)))]) hx hb dX0_stepUntil_32 hl (k := 2) rfl (nI_1 _) (by decide) rfl (fun ls hl => ?_)
        refine lv_goto (tgt := 17) hx hb dX0_stepUntil_35 (by decide) ?_
        exact ih17 (i + 1) (by omega) (by omega) H locs hP hD hS ls (lv_sub hl [1, 2, 0] rfl)
  exact L17 ((mtF goal a.tk a.st - 0) + 1) 0 (by omega) (Nat.lt_succ_self _) H locs hP hD hS ls (lv_sub hl [2, 1, 0] rfl)
