/-! THE CLAIM OUT OF ONE WALK OF THE LAW'S BODY. Your part is whole_start (and what it stands on); all else here is the same for every law, but numbers. -/
def R_law : String := "ScanRowsLaw"
def lw_P (b : Addr) (xs : List Int32) (args : Array Value) (s : State) : Prop := args = #[.ref b] ∧ s.IntsAt b xs ∧ xs.length ≤ 3073 ∧ (Jvm.Cond.and given_1 narrow_1).before args s = true
def lw_Q (_ : Array Value) (s : State) (o : Outcome) (t : State) : Prop := o = .returned (some (.int 1)) ∧ Framed s o t [] 1072 9025
def lw_Z (below : List Frame) (a : Array Value) (s : State) : State → Prop := fun t => ∃ o, t.status = .running ∧ Ended t below o ∧ lw_Q a s o t
/-- the law's own end, with 1 on the stack, nothing written that was there before, its room as the claim has it -/
theorem lw_ret {p : Program} {l : Launch} {e : Env} {s : State} {m : MethodId} {below : List Frame} {meth : Method} {c : Code} {b : Nat} (hx : p.tables.exec = Jvm.exec) (hb : c.code = code) (hr : meth.sig.returnType = ret) (hlocks : meth.locks = false) {pc : Nat} {H : Heap} {ls : Array Slot} (hdg : decode code pc = .ok (.ireturn, 1)) : W p l e room_1 s m #[Value.ref b] below meth c H [] 1072 9025 (lw_Z below #[Value.ref b] s) (F0 m pc ls [.int 1]) := by
  intro T hT X
  obtain ⟨fs, hret, hrun, hended, hW, hframe⟩ := X.leave (v := some (.int 1)) (hlocks := hlocks) (fun h => by rw [hr] at h; cases h)
  have hmeth' : T.vm.method? m = some meth := X.method'
  refine ⟨T.setFrames fs, ?_, .returned (some (.int 1)), hrun, hended, rfl, ⟨_, rfl⟩, hW, hframe⟩
  jvm_step X.here [X.here.top, hx, hb, hdg, hmeth', hr, ret, narrow_b1]
  (try refine ⟨rfl, ?_⟩); (try refine ⟨rfl, ?_⟩)
  first | (intro acts; rw [hret _ acts rfl rfl rfl]) | rw [hret _ _ rfl rfl rfl]
  exact Steps.refl _
/-- what holds at the law's entry: the machine, the code, the tables' words (any of lw_tbl by 'hts w (by decide +kernel)'), the script of L ints xs at the cell b, what the Statement gives of the start (any of its parts by flat_of_before) -/
def lw_At (p : Program) (s : State) (m : MethodId) (meth : Method) (c : Code) (b L : Nat) (xs : Nat → Int32) : Prop :=
  p.tables.exec = Jvm.exec ∧ c.code = code ∧ meth.sig.returnType = ret ∧ c.maxLocals = 7 ∧ s.vm.findClass R_law = some m.cls ∧ (∀ w ∈ lw_tbl, w.before #[Value.ref b] s = true) ∧ va_X b L xs s s.heap ∧ b < s.heap.size ∧ meth.locks = false ∧ (Jvm.Cond.and given_1 narrow_1).before #[Value.ref b] s = true
/-! the law: what its script says, by cases -/
theorem lg_self (x : Int64) : lg_cmp x x = nI 0 := by unfold lg_cmp; rw [if_neg (by rw [gt_iff_lt]; exact Int64.lt_irrefl), if_pos rfl]; rfl
theorem lg_eq {x z : Int64} (h : x = z) : lg_cmp x z = nI 0 := by rw [h]; exact lg_self z
theorem nn_of {v : Int32} {n : Nat} (hn : n < 2 ^ 31) (h : ¬ v < nI n) : ¬ v < 0 := fun z => h ((i32k hn v).1.mpr (by rw [Int32.lt_iff_toInt_lt] at z; have z' : v.toInt < 0 := z; omega))
theorem rg {lo hi : Nat} (hl : lo < 2 ^ 31) (hh : hi < 2 ^ 31) (v : Int32) : (v < nI lo ∨ ¬ v ≤ nI hi) ∨ ∃ n, lo ≤ n ∧ n ≤ hi ∧ v = nI n := by
  by_cases h1 : v < nI lo
  · exact Or.inl (Or.inl h1)
  · by_cases h2 : v ≤ nI hi
    · obtain ⟨n, hn, rfl⟩ := nI_of (nn_of hl h1)
      refine Or.inr ⟨n, ?_, (nI_leI hn hh).mp h2, rfl⟩
      exact Nat.not_lt.mp fun z => h1 ((nI_ltI hn hl).mpr z)
    · exact Or.inl (Or.inr h2)
theorem hc_cs (v : Int32) {c : Nat} (hc : c ≤ 32) : hcN v c = 0 ∨ ∃ i, i < c ∧ v = nI i := by
  unfold hcN
  split
  · rename_i h
    obtain ⟨n, hn, rfl⟩ := nI_of h.1
    exact Or.inr ⟨n, (nI_ltI hn (by omega)).mp h.2, rfl⟩
  · exact Or.inl rfl
theorem at_cs (v kv : Int32) {c : Nat} (hc : c ≤ 8) : (hcN v c = 0 ∨ kv < 0) ∨ ∃ ch kk, ch < c ∧ kk < 2 ^ 31 ∧ v = nI ch ∧ kv = nI kk := by
  rcases hc_cs v (c := c) (by omega) with h | ⟨ch, h1, h2⟩
  · exact Or.inl (Or.inl h)
  · by_cases q : kv < 0
    · exact Or.inl (Or.inr q)
    · obtain ⟨kk, h3, h4⟩ := nI_of q
      exact Or.inr ⟨ch, kk, h1, h3, h2, h4⟩
theorem im_cs (v : Int32) : v < 0 ∨ ∃ n, n < 2 ^ 31 ∧ v = nI n := by
  by_cases q : v < 0
  · exact Or.inl q
  · exact Or.inr (nI_of q)
theorem ru_cs (kv wv : Int32) : (kv < 0 ∨ wv < 0 ∨ ¬ wv ≤ nI 1) ∨ ∃ k0 w0, k0 < 2 ^ 31 ∧ w0 < 2 ∧ kv = nI k0 ∧ wv = nI w0 := by
  by_cases q : kv < 0
  · exact Or.inl (Or.inl q)
  · obtain ⟨k0, h1, h2⟩ := nI_of q
    rcases rg (lo := 0) (hi := 1) (by decide) (by decide) wv with (h | h) | ⟨w0, h3, h4, h5⟩
    · exact Or.inl (Or.inr (Or.inl h))
    · exact Or.inl (Or.inr (Or.inr h))
    · exact Or.inr ⟨k0, w0, h1, by omega, h2, h5⟩
theorem ti_cs (mv bv : Int32) : mBadT mv bv ∨ ∃ m0 b0, m0 < 2 ∧ b0 < 2 ∧ mv = nI m0 ∧ bv = nI b0 := by
  unfold mBadT
  rcases rg (lo := 0) (hi := 1) (by decide) (by decide) mv with (h | h) | ⟨m0, h3, h4, h5⟩
  · exact Or.inl (Or.inl h)
  · exact Or.inl (Or.inr (Or.inl (Int32.not_le.mp h)))
  · rcases rg (lo := 0) (hi := 1) (by decide) (by decide) bv with (h | h) | ⟨b0, g3, g4, g5⟩
    · exact Or.inl (Or.inr (Or.inr (Or.inl h)))
    · exact Or.inl (Or.inr (Or.inr (Or.inr h)))
    · exact Or.inr ⟨m0, b0, by omega, by omega, h5, g5⟩
theorem po_cs (v : Int32) {n : Nat} (hn : n ≤ 20) : n = 20 ∨ (n < 20 ∧ (¬ v = 0 ∧ ¬ v = nI 1)) ∨ (n < 20 ∧ ∃ kd, kd < 2 ∧ v = nI kd) := by
  by_cases e : n = 20
  · exact Or.inl e
  · by_cases q1 : v = 0
    · exact Or.inr (Or.inr ⟨by omega, 0, by decide, q1⟩)
    · by_cases q2 : v = nI 1
      · exact Or.inr (Or.inr ⟨by omega, 1, by decide, q2⟩)
      · exact Or.inr (Or.inl ⟨by omega, q1, q2⟩)
theorem l64 (x : Int64) (h1 : ¬ x < (-1000)) (h2 : ¬ (1000 : Int64) < x) : ∃ z : Int, (-1000 ≤ z ∧ z ≤ 1000) ∧ x = zL z := by
  rw [Int64.lt_iff_toInt_lt] at h1 h2
  have e1 : (-1000 : Int64).toInt = -1000 := by decide
  have e2 : (1000 : Int64).toInt = 1000 := by decide
  rw [e1] at h1
  rw [e2] at h2
  exact ⟨x.toInt, ⟨by omega, by omega⟩, (Int64.ofInt_toInt x).symm⟩
theorem la_cs (ck : Int32) (xl yl : Int64) {n : Nat} (hn : n ≤ 32) : n = 32 ∨ (n < 32 ∧ mBad ck xl yl) ∨ (n < 32 ∧ ∃ (c0 : Nat) (xx yy : Int), c0 < 4 ∧ (-1000 ≤ xx ∧ xx ≤ 1000) ∧ (-1000 ≤ yy ∧ yy ≤ 1000) ∧ ck = nI c0 ∧ xl = zL xx ∧ yl = zL yy) := by
  by_cases e : n = 32
  · exact Or.inl e
  · by_cases q : mBad ck xl yl
    · exact Or.inr (Or.inl ⟨by omega, q⟩)
    · unfold mBad at q
      obtain ⟨q1, q2, q3, q4, q5, q6⟩ := Decidable.not_not.mp q
      obtain ⟨xx, hx, ex⟩ := l64 xl q3 q4
      obtain ⟨yy, hy, ey⟩ := l64 yl q5 q6
      obtain ⟨c0, hc, rfl⟩ := nI_of q1
      refine Or.inr (Or.inr ⟨by omega, c0, xx, yy, ?_, hx, hy, rfl, ex, ey⟩)
      exact Nat.lt_succ_iff.mpr (Nat.not_lt.mp fun z => q2 ((nI_ltI (by decide) hc).mpr z))
abbrev wZ (qx qm : Nat → Nat) (cI cZ cJ : ClassId) (ao : Nat) (r : RS) (k : CS) (a : AS) (y : MS) (o : OS) : va_W := wX qx cI cZ r k a ++ (wM qm cI cZ y ++ wO cJ ao o)
theorem lk_cs (v kv : Int32) {c : Nat} (hc : c ≤ 8) (len : Nat → Nat) : (hcN v c = 0 ∨ kv < 0) ∨ (∃ ch kk, ch < c ∧ kk < 2 ^ 31 ∧ v = nI ch ∧ kv = nI kk ∧ len ch ≤ kk) ∨ (∃ ch kk, ch < c ∧ kk < 2 ^ 31 ∧ v = nI ch ∧ kv = nI kk ∧ kk < len ch) := by
  rcases at_cs v kv hc with h | ⟨ch, kk, h1, h2, h3, h4⟩
  · exact Or.inl h
  · by_cases q : kk < len ch
    · exact Or.inr (Or.inr ⟨ch, kk, h1, h2, h3, h4, q⟩)
    · exact Or.inr (Or.inl ⟨ch, kk, h1, h2, h3, h4, by omega⟩)
theorem dL_law_0 : decode code 0 = .ok (.new 8, 3) := by decide +kernel
theorem dL_law_3 : decode code 3 = .ok (.dup, 1) := by decide +kernel
theorem dL_law_4 : decode code 4 = .ok (.aload_n 0, 1) := by decide +kernel
theorem dL_law_5 : decode code 5 = .ok (.iconst 0, 1) := by decide +kernel
theorem dL_law_6 : decode code 6 = .ok (.invokestatic 66, 3) := by decide +kernel
theorem dL_law_9 : decode code 9 = .ok (.invokespecial 72, 3) := by decide +kernel
theorem dL_law_12 : decode code 12 = .ok (.astore_n 1, 1) := by decide +kernel
theorem dL_law_13 : decode code 13 = .ok (.new 75, 3) := by decide +kernel
theorem dL_law_16 : decode code 16 = .ok (.dup, 1) := by decide +kernel
theorem dL_law_17 : decode code 17 = .ok (.aload_n 0, 1) := by decide +kernel
theorem dL_law_18 : decode code 18 = .ok (.iconst 0, 1) := by decide +kernel
theorem dL_law_19 : decode code 19 = .ok (.invokestatic 66, 3) := by decide +kernel
theorem dL_law_22 : decode code 22 = .ok (.invokespecial 77, 3) := by decide +kernel
theorem dL_law_25 : decode code 25 = .ok (.astore_n 2, 1) := by decide +kernel
theorem dL_law_26 : decode code 26 = .ok (.iconst 1, 1) := by decide +kernel
theorem dL_law_27 : decode code 27 = .ok (.newarray .long, 2) := by decide +kernel
theorem dL_law_29 : decode code 29 = .ok (.astore_n 3, 1) := by decide +kernel
theorem dL_law_30 : decode code 30 = .ok (.iconst 1, 1) := by decide +kernel
theorem dL_law_31 : decode code 31 = .ok (.istore 4, 2) := by decide +kernel
theorem dL_law_33 : decode code 33 = .ok (.iload 4, 2) := by decide +kernel
theorem dL_law_35 : decode code 35 = .ok (.aload_n 0, 1) := by decide +kernel
theorem dL_law_36 : decode code 36 = .ok (.arraylength, 1) := by decide +kernel
theorem dL_law_37 : decode code 37 = .ok (.bipush 6, 2) := by decide +kernel
theorem dL_law_39 : decode code 39 = .ok (.isub, 1) := by decide +kernel
theorem dL_law_40 : decode code 40 = .ok (.if_icmp .gt 1156, 3) := by decide +kernel
theorem dL_law_43 : decode code 43 = .ok (.aload_n 0, 1) := by decide +kernel
theorem dL_law_44 : decode code 44 = .ok (.iload 4, 2) := by decide +kernel
theorem dL_law_46 : decode code 46 = .ok (.iaload, 1) := by decide +kernel
theorem dL_law_47 : decode code 47 = .ok (.bipush 31, 2) := by decide +kernel
theorem dL_law_49 : decode code 49 = .ok (.iand, 1) := by decide +kernel
theorem dL_law_50 : decode code 50 = .ok (.tableswitch 1140 0 17 #[86, 230, 286, 354, 429, 443, 499, 567, 658, 706, 762, 787, 843, 891, 959, 972, 1028, 1084], 86) := by decide +kernel
theorem dL_law_136 : decode code 136 = .ok (.aload_n 1, 1) := by decide +kernel
theorem dL_law_137 : decode code 137 = .ok (.aload_n 0, 1) := by decide +kernel
theorem dL_law_138 : decode code 138 = .ok (.iload 4, 2) := by decide +kernel
theorem dL_law_140 : decode code 140 = .ok (.iconst 1, 1) := by decide +kernel
theorem dL_law_141 : decode code 141 = .ok (.iadd, 1) := by decide +kernel
theorem dL_law_142 : decode code 142 = .ok (.iaload, 1) := by decide +kernel
theorem dL_law_143 : decode code 143 = .ok (.aload_n 0, 1) := by decide +kernel
theorem dL_law_144 : decode code 144 = .ok (.iload 4, 2) := by decide +kernel
theorem dL_law_146 : decode code 146 = .ok (.iconst 2, 1) := by decide +kernel
theorem dL_law_147 : decode code 147 = .ok (.iadd, 1) := by decide +kernel
theorem dL_law_148 : decode code 148 = .ok (.iaload, 1) := by decide +kernel
theorem dL_law_149 : decode code 149 = .ok (.i2l, 1) := by decide +kernel
theorem dL_law_150 : decode code 150 = .ok (.bipush 32, 2) := by decide +kernel
theorem dL_law_152 : decode code 152 = .ok (.lshl, 1) := by decide +kernel
theorem dL_law_153 : decode code 153 = .ok (.aload_n 0, 1) := by decide +kernel
theorem dL_law_154 : decode code 154 = .ok (.iload 4, 2) := by decide +kernel
theorem dL_law_156 : decode code 156 = .ok (.iconst 3, 1) := by decide +kernel
theorem dL_law_157 : decode code 157 = .ok (.iadd, 1) := by decide +kernel
theorem dL_law_158 : decode code 158 = .ok (.iaload, 1) := by decide +kernel
theorem dL_law_159 : decode code 159 = .ok (.i2l, 1) := by decide +kernel
theorem dL_law_160 : decode code 160 = .ok (.ldc2_w 78, 3) := by decide +kernel
theorem dL_law_163 : decode code 163 = .ok (.land, 1) := by decide +kernel
theorem dL_law_164 : decode code 164 = .ok (.lor, 1) := by decide +kernel
theorem dL_law_165 : decode code 165 = .ok (.aload_n 0, 1) := by decide +kernel
theorem dL_law_166 : decode code 166 = .ok (.iload 4, 2) := by decide +kernel
theorem dL_law_168 : decode code 168 = .ok (.iconst 4, 1) := by decide +kernel
theorem dL_law_169 : decode code 169 = .ok (.iadd, 1) := by decide +kernel
theorem dL_law_170 : decode code 170 = .ok (.iaload, 1) := by decide +kernel
theorem dL_law_171 : decode code 171 = .ok (.i2l, 1) := by decide +kernel
theorem dL_law_172 : decode code 172 = .ok (.bipush 32, 2) := by decide +kernel
theorem dL_law_174 : decode code 174 = .ok (.lshl, 1) := by decide +kernel
theorem dL_law_175 : decode code 175 = .ok (.aload_n 0, 1) := by decide +kernel
theorem dL_law_176 : decode code 176 = .ok (.iload 4, 2) := by decide +kernel
theorem dL_law_178 : decode code 178 = .ok (.iconst 5, 1) := by decide +kernel
theorem dL_law_179 : decode code 179 = .ok (.iadd, 1) := by decide +kernel
theorem dL_law_180 : decode code 180 = .ok (.iaload, 1) := by decide +kernel
theorem dL_law_181 : decode code 181 = .ok (.i2l, 1) := by decide +kernel
theorem dL_law_182 : decode code 182 = .ok (.ldc2_w 78, 3) := by decide +kernel
theorem dL_law_185 : decode code 185 = .ok (.land, 1) := by decide +kernel
theorem dL_law_186 : decode code 186 = .ok (.lor, 1) := by decide +kernel
theorem dL_law_187 : decode code 187 = .ok (.aload_n 3, 1) := by decide +kernel
theorem dL_law_188 : decode code 188 = .ok (.invokestatic 80, 3) := by decide +kernel
theorem dL_law_191 : decode code 191 = .ok (.istore 5, 2) := by decide +kernel
theorem dL_law_193 : decode code 193 = .ok (.aload_n 2, 1) := by decide +kernel
theorem dL_law_194 : decode code 194 = .ok (.aload_n 0, 1) := by decide +kernel
theorem dL_law_195 : decode code 195 = .ok (.iload 4, 2) := by decide +kernel
theorem dL_law_197 : decode code 197 = .ok (.iconst 1, 1) := by decide +kernel
theorem dL_law_198 : decode code 198 = .ok (.iadd, 1) := by decide +kernel
theorem dL_law_199 : decode code 199 = .ok (.iaload, 1) := by decide +kernel
theorem dL_law_200 : decode code 200 = .ok (.aload_n 0, 1) := by decide +kernel
theorem dL_law_201 : decode code 201 = .ok (.iload 4, 2) := by decide +kernel
theorem dL_law_203 : decode code 203 = .ok (.iconst 2, 1) := by decide +kernel
theorem dL_law_204 : decode code 204 = .ok (.iadd, 1) := by decide +kernel
theorem dL_law_205 : decode code 205 = .ok (.iaload, 1) := by decide +kernel
theorem dL_law_206 : decode code 206 = .ok (.i2l, 1) := by decide +kernel
theorem dL_law_207 : decode code 207 = .ok (.bipush 32, 2) := by decide +kernel
theorem dL_law_209 : decode code 209 = .ok (.lshl, 1) := by decide +kernel
theorem dL_law_210 : decode code 210 = .ok (.aload_n 0, 1) := by decide +kernel
theorem dL_law_211 : decode code 211 = .ok (.iload 4, 2) := by decide +kernel
theorem dL_law_213 : decode code 213 = .ok (.iconst 3, 1) := by decide +kernel
theorem dL_law_214 : decode code 214 = .ok (.iadd, 1) := by decide +kernel
theorem dL_law_215 : decode code 215 = .ok (.iaload, 1) := by decide +kernel
theorem dL_law_216 : decode code 216 = .ok (.i2l, 1) := by decide +kernel
theorem dL_law_217 : decode code 217 = .ok (.ldc2_w 78, 3) := by decide +kernel
theorem dL_law_220 : decode code 220 = .ok (.land, 1) := by decide +kernel
theorem dL_law_221 : decode code 221 = .ok (.lor, 1) := by decide +kernel
theorem dL_law_222 : decode code 222 = .ok (.aload_n 0, 1) := by decide +kernel
theorem dL_law_223 : decode code 223 = .ok (.iload 4, 2) := by decide +kernel
theorem dL_law_225 : decode code 225 = .ok (.iconst 4, 1) := by decide +kernel
theorem dL_law_226 : decode code 226 = .ok (.iadd, 1) := by decide +kernel
theorem dL_law_227 : decode code 227 = .ok (.iaload, 1) := by decide +kernel
theorem dL_law_228 : decode code 228 = .ok (.i2l, 1) := by decide +kernel
theorem dL_law_229 : decode code 229 = .ok (.bipush 32, 2) := by decide +kernel
theorem dL_law_231 : decode code 231 = .ok (.lshl, 1) := by decide +kernel
theorem dL_law_232 : decode code 232 = .ok (.aload_n 0, 1) := by decide +kernel
theorem dL_law_233 : decode code 233 = .ok (.iload 4, 2) := by decide +kernel
theorem dL_law_235 : decode code 235 = .ok (.iconst 5, 1) := by decide +kernel
theorem dL_law_236 : decode code 236 = .ok (.iadd, 1) := by decide +kernel
theorem dL_law_237 : decode code 237 = .ok (.iaload, 1) := by decide +kernel
theorem dL_law_238 : decode code 238 = .ok (.i2l, 1) := by decide +kernel
theorem dL_law_239 : decode code 239 = .ok (.ldc2_w 78, 3) := by decide +kernel
theorem dL_law_242 : decode code 242 = .ok (.land, 1) := by decide +kernel
theorem dL_law_243 : decode code 243 = .ok (.lor, 1) := by decide +kernel
theorem dL_law_244 : decode code 244 = .ok (.invokevirtual 83, 3) := by decide +kernel
theorem dL_law_247 : decode code 247 = .ok (.istore 6, 2) := by decide +kernel
theorem dL_law_249 : decode code 249 = .ok (.aload_n 2, 1) := by decide +kernel
theorem dL_law_250 : decode code 250 = .ok (.invokevirtual 84, 3) := by decide +kernel
theorem dL_law_253 : decode code 253 = .ok (.iload 5, 2) := by decide +kernel
theorem dL_law_255 : decode code 255 = .ok (.if_icmp .eq 5, 3) := by decide +kernel
theorem dL_law_258 : decode code 258 = .ok (.iconst 0, 1) := by decide +kernel
theorem dL_law_259 : decode code 259 = .ok (.ireturn, 1) := by decide +kernel
theorem dL_law_260 : decode code 260 = .ok (.iload 5, 2) := by decide +kernel
theorem dL_law_262 : decode code 262 = .ok (.ifCond .ne 15, 3) := by decide +kernel
theorem dL_law_265 : decode code 265 = .ok (.aload_n 3, 1) := by decide +kernel
theorem dL_law_266 : decode code 266 = .ok (.iconst 0, 1) := by decide +kernel
theorem dL_law_267 : decode code 267 = .ok (.laload, 1) := by decide +kernel
theorem dL_law_268 : decode code 268 = .ok (.iload 6, 2) := by decide +kernel
theorem dL_law_270 : decode code 270 = .ok (.i2l, 1) := by decide +kernel
theorem dL_law_271 : decode code 271 = .ok (.lcmp, 1) := by decide +kernel
theorem dL_law_272 : decode code 272 = .ok (.ifCond .eq 5, 3) := by decide +kernel
theorem dL_law_275 : decode code 275 = .ok (.iconst 0, 1) := by decide +kernel
theorem dL_law_276 : decode code 276 = .ok (.ireturn, 1) := by decide +kernel
theorem dL_law_277 : decode code 277 = .ok (.goto 913, 3) := by decide +kernel
theorem dL_law_280 : decode code 280 = .ok (.aload_n 1, 1) := by decide +kernel
theorem dL_law_281 : decode code 281 = .ok (.aload_n 0, 1) := by decide +kernel
theorem dL_law_282 : decode code 282 = .ok (.iload 4, 2) := by decide +kernel
theorem dL_law_284 : decode code 284 = .ok (.iconst 1, 1) := by decide +kernel
theorem dL_law_285 : decode code 285 = .ok (.iadd, 1) := by decide +kernel
theorem dL_law_286 : decode code 286 = .ok (.iaload, 1) := by decide +kernel
theorem dL_law_287 : decode code 287 = .ok (.aload_n 3, 1) := by decide +kernel
theorem dL_law_288 : decode code 288 = .ok (.invokestatic 88, 3) := by decide +kernel
theorem dL_law_291 : decode code 291 = .ok (.istore 5, 2) := by decide +kernel
theorem dL_law_293 : decode code 293 = .ok (.aload_n 2, 1) := by decide +kernel
theorem dL_law_294 : decode code 294 = .ok (.aload_n 0, 1) := by decide +kernel
theorem dL_law_295 : decode code 295 = .ok (.iload 4, 2) := by decide +kernel
theorem dL_law_297 : decode code 297 = .ok (.iconst 1, 1) := by decide +kernel
theorem dL_law_298 : decode code 298 = .ok (.iadd, 1) := by decide +kernel
theorem dL_law_299 : decode code 299 = .ok (.iaload, 1) := by decide +kernel
theorem dL_law_300 : decode code 300 = .ok (.invokevirtual 91, 3) := by decide +kernel
theorem dL_law_303 : decode code 303 = .ok (.istore 6, 2) := by decide +kernel
theorem dL_law_305 : decode code 305 = .ok (.aload_n 2, 1) := by decide +kernel
theorem dL_law_306 : decode code 306 = .ok (.invokevirtual 84, 3) := by decide +kernel
theorem dL_law_309 : decode code 309 = .ok (.iload 5, 2) := by decide +kernel
theorem dL_law_311 : decode code 311 = .ok (.if_icmp .eq 5, 3) := by decide +kernel
theorem dL_law_314 : decode code 314 = .ok (.iconst 0, 1) := by decide +kernel
theorem dL_law_315 : decode code 315 = .ok (.ireturn, 1) := by decide +kernel
theorem dL_law_316 : decode code 316 = .ok (.iload 5, 2) := by decide +kernel
theorem dL_law_318 : decode code 318 = .ok (.ifCond .ne 15, 3) := by decide +kernel
theorem dL_law_321 : decode code 321 = .ok (.aload_n 3, 1) := by decide +kernel
theorem dL_law_322 : decode code 322 = .ok (.iconst 0, 1) := by decide +kernel
theorem dL_law_323 : decode code 323 = .ok (.laload, 1) := by decide +kernel
theorem dL_law_324 : decode code 324 = .ok (.iload 6, 2) := by decide +kernel
theorem dL_law_326 : decode code 326 = .ok (.i2l, 1) := by decide +kernel
theorem dL_law_327 : decode code 327 = .ok (.lcmp, 1) := by decide +kernel
theorem dL_law_328 : decode code 328 = .ok (.ifCond .eq 5, 3) := by decide +kernel
theorem dL_law_331 : decode code 331 = .ok (.iconst 0, 1) := by decide +kernel
theorem dL_law_332 : decode code 332 = .ok (.ireturn, 1) := by decide +kernel
theorem dL_law_333 : decode code 333 = .ok (.goto 857, 3) := by decide +kernel
theorem dL_law_336 : decode code 336 = .ok (.aload_n 1, 1) := by decide +kernel
theorem dL_law_337 : decode code 337 = .ok (.aload_n 0, 1) := by decide +kernel
theorem dL_law_338 : decode code 338 = .ok (.iload 4, 2) := by decide +kernel
theorem dL_law_340 : decode code 340 = .ok (.iconst 1, 1) := by decide +kernel
theorem dL_law_341 : decode code 341 = .ok (.iadd, 1) := by decide +kernel
theorem dL_law_342 : decode code 342 = .ok (.iaload, 1) := by decide +kernel
theorem dL_law_343 : decode code 343 = .ok (.aload_n 0, 1) := by decide +kernel
theorem dL_law_344 : decode code 344 = .ok (.iload 4, 2) := by decide +kernel
theorem dL_law_346 : decode code 346 = .ok (.iconst 2, 1) := by decide +kernel
theorem dL_law_347 : decode code 347 = .ok (.iadd, 1) := by decide +kernel
theorem dL_law_348 : decode code 348 = .ok (.iaload, 1) := by decide +kernel
theorem dL_law_349 : decode code 349 = .ok (.aload_n 3, 1) := by decide +kernel
theorem dL_law_350 : decode code 350 = .ok (.invokestatic 92, 3) := by decide +kernel
theorem dL_law_353 : decode code 353 = .ok (.istore 5, 2) := by decide +kernel
theorem dL_law_355 : decode code 355 = .ok (.aload_n 2, 1) := by decide +kernel
theorem dL_law_356 : decode code 356 = .ok (.aload_n 0, 1) := by decide +kernel
theorem dL_law_357 : decode code 357 = .ok (.iload 4, 2) := by decide +kernel
theorem dL_law_359 : decode code 359 = .ok (.iconst 1, 1) := by decide +kernel
theorem dL_law_360 : decode code 360 = .ok (.iadd, 1) := by decide +kernel
theorem dL_law_361 : decode code 361 = .ok (.iaload, 1) := by decide +kernel
theorem dL_law_362 : decode code 362 = .ok (.aload_n 0, 1) := by decide +kernel
theorem dL_law_363 : decode code 363 = .ok (.iload 4, 2) := by decide +kernel
theorem dL_law_365 : decode code 365 = .ok (.iconst 2, 1) := by decide +kernel
theorem dL_law_366 : decode code 366 = .ok (.iadd, 1) := by decide +kernel
theorem dL_law_367 : decode code 367 = .ok (.iaload, 1) := by decide +kernel
theorem dL_law_368 : decode code 368 = .ok (.invokevirtual 95, 3) := by decide +kernel
theorem dL_law_371 : decode code 371 = .ok (.istore 6, 2) := by decide +kernel
theorem dL_law_373 : decode code 373 = .ok (.aload_n 2, 1) := by decide +kernel
theorem dL_law_374 : decode code 374 = .ok (.invokevirtual 84, 3) := by decide +kernel
theorem dL_law_377 : decode code 377 = .ok (.iload 5, 2) := by decide +kernel
theorem dL_law_379 : decode code 379 = .ok (.if_icmp .eq 5, 3) := by decide +kernel
theorem dL_law_382 : decode code 382 = .ok (.iconst 0, 1) := by decide +kernel
theorem dL_law_383 : decode code 383 = .ok (.ireturn, 1) := by decide +kernel
theorem dL_law_384 : decode code 384 = .ok (.iload 5, 2) := by decide +kernel
theorem dL_law_386 : decode code 386 = .ok (.ifCond .ne 15, 3) := by decide +kernel
theorem dL_law_389 : decode code 389 = .ok (.aload_n 3, 1) := by decide +kernel
theorem dL_law_390 : decode code 390 = .ok (.iconst 0, 1) := by decide +kernel
theorem dL_law_391 : decode code 391 = .ok (.laload, 1) := by decide +kernel
theorem dL_law_392 : decode code 392 = .ok (.iload 6, 2) := by decide +kernel
theorem dL_law_394 : decode code 394 = .ok (.i2l, 1) := by decide +kernel
theorem dL_law_395 : decode code 395 = .ok (.lcmp, 1) := by decide +kernel
theorem dL_law_396 : decode code 396 = .ok (.ifCond .eq 5, 3) := by decide +kernel
theorem dL_law_399 : decode code 399 = .ok (.iconst 0, 1) := by decide +kernel
theorem dL_law_400 : decode code 400 = .ok (.ireturn, 1) := by decide +kernel
theorem dL_law_401 : decode code 401 = .ok (.goto 789, 3) := by decide +kernel
theorem dL_law_404 : decode code 404 = .ok (.aload_n 1, 1) := by decide +kernel
theorem dL_law_405 : decode code 405 = .ok (.aload_n 0, 1) := by decide +kernel
theorem dL_law_406 : decode code 406 = .ok (.iload 4, 2) := by decide +kernel
theorem dL_law_408 : decode code 408 = .ok (.iconst 1, 1) := by decide +kernel
theorem dL_law_409 : decode code 409 = .ok (.iadd, 1) := by decide +kernel
theorem dL_law_410 : decode code 410 = .ok (.iaload, 1) := by decide +kernel
theorem dL_law_411 : decode code 411 = .ok (.aload_n 0, 1) := by decide +kernel
theorem dL_law_412 : decode code 412 = .ok (.iload 4, 2) := by decide +kernel
theorem dL_law_414 : decode code 414 = .ok (.iconst 2, 1) := by decide +kernel
theorem dL_law_415 : decode code 415 = .ok (.iadd, 1) := by decide +kernel
theorem dL_law_416 : decode code 416 = .ok (.iaload, 1) := by decide +kernel
theorem dL_law_417 : decode code 417 = .ok (.aload_n 3, 1) := by decide +kernel
theorem dL_law_418 : decode code 418 = .ok (.invokestatic 96, 3) := by decide +kernel
theorem dL_law_421 : decode code 421 = .ok (.istore 5, 2) := by decide +kernel
theorem dL_law_423 : decode code 423 = .ok (.aload_n 2, 1) := by decide +kernel
theorem dL_law_424 : decode code 424 = .ok (.aload_n 0, 1) := by decide +kernel
theorem dL_law_425 : decode code 425 = .ok (.iload 4, 2) := by decide +kernel
theorem dL_law_427 : decode code 427 = .ok (.iconst 1, 1) := by decide +kernel
theorem dL_law_428 : decode code 428 = .ok (.iadd, 1) := by decide +kernel
theorem dL_law_429 : decode code 429 = .ok (.iaload, 1) := by decide +kernel
theorem dL_law_430 : decode code 430 = .ok (.aload_n 0, 1) := by decide +kernel
theorem dL_law_431 : decode code 431 = .ok (.iload 4, 2) := by decide +kernel
theorem dL_law_433 : decode code 433 = .ok (.iconst 2, 1) := by decide +kernel
theorem dL_law_434 : decode code 434 = .ok (.iadd, 1) := by decide +kernel
theorem dL_law_435 : decode code 435 = .ok (.iaload, 1) := by decide +kernel
theorem dL_law_436 : decode code 436 = .ok (.invokevirtual 98, 3) := by decide +kernel
theorem dL_law_439 : decode code 439 = .ok (.istore 6, 2) := by decide +kernel
theorem dL_law_441 : decode code 441 = .ok (.aload_n 2, 1) := by decide +kernel
theorem dL_law_442 : decode code 442 = .ok (.invokevirtual 84, 3) := by decide +kernel
theorem dL_law_445 : decode code 445 = .ok (.iload 5, 2) := by decide +kernel
theorem dL_law_447 : decode code 447 = .ok (.if_icmp .eq 5, 3) := by decide +kernel
theorem dL_law_450 : decode code 450 = .ok (.iconst 0, 1) := by decide +kernel
theorem dL_law_451 : decode code 451 = .ok (.ireturn, 1) := by decide +kernel
theorem dL_law_452 : decode code 452 = .ok (.iload 5, 2) := by decide +kernel
theorem dL_law_454 : decode code 454 = .ok (.ifCond .ne 22, 3) := by decide +kernel
theorem dL_law_457 : decode code 457 = .ok (.aload_n 3, 1) := by decide +kernel
theorem dL_law_458 : decode code 458 = .ok (.iconst 0, 1) := by decide +kernel
theorem dL_law_459 : decode code 459 = .ok (.laload, 1) := by decide +kernel
theorem dL_law_460 : decode code 460 = .ok (.iload 6, 2) := by decide +kernel
theorem dL_law_462 : decode code 462 = .ok (.ifCond .eq 7, 3) := by decide +kernel
theorem dL_law_465 : decode code 465 = .ok (.lconst 1, 1) := by decide +kernel
theorem dL_law_466 : decode code 466 = .ok (.goto 4, 3) := by decide +kernel
theorem dL_law_469 : decode code 469 = .ok (.lconst 0, 1) := by decide +kernel
theorem dL_law_470 : decode code 470 = .ok (.lcmp, 1) := by decide +kernel
theorem dL_law_471 : decode code 471 = .ok (.ifCond .eq 5, 3) := by decide +kernel
theorem dL_law_474 : decode code 474 = .ok (.iconst 0, 1) := by decide +kernel
theorem dL_law_475 : decode code 475 = .ok (.ireturn, 1) := by decide +kernel
theorem dL_law_476 : decode code 476 = .ok (.goto 714, 3) := by decide +kernel
theorem dL_law_479 : decode code 479 = .ok (.aload_n 1, 1) := by decide +kernel
theorem dL_law_480 : decode code 480 = .ok (.invokevirtual 99, 3) := by decide +kernel
theorem dL_law_483 : decode code 483 = .ok (.aload_n 2, 1) := by decide +kernel
theorem dL_law_484 : decode code 484 = .ok (.invokevirtual 103, 3) := by decide +kernel
theorem dL_law_487 : decode code 487 = .ok (.lcmp, 1) := by decide +kernel
theorem dL_law_488 : decode code 488 = .ok (.ifCond .eq 702, 3) := by decide +kernel
theorem dL_law_491 : decode code 491 = .ok (.iconst 0, 1) := by decide +kernel
theorem dL_law_492 : decode code 492 = .ok (.ireturn, 1) := by decide +kernel
theorem dL_law_493 : decode code 493 = .ok (.aload_n 1, 1) := by decide +kernel
theorem dL_law_494 : decode code 494 = .ok (.aload_n 0, 1) := by decide +kernel
theorem dL_law_495 : decode code 495 = .ok (.iload 4, 2) := by decide +kernel
theorem dL_law_497 : decode code 497 = .ok (.iconst 1, 1) := by decide +kernel
theorem dL_law_498 : decode code 498 = .ok (.iadd, 1) := by decide +kernel
theorem dL_law_499 : decode code 499 = .ok (.iaload, 1) := by decide +kernel
theorem dL_law_500 : decode code 500 = .ok (.aload_n 3, 1) := by decide +kernel
theorem dL_law_501 : decode code 501 = .ok (.invokestatic 104, 3) := by decide +kernel
theorem dL_law_504 : decode code 504 = .ok (.istore 5, 2) := by decide +kernel
theorem dL_law_506 : decode code 506 = .ok (.aload_n 2, 1) := by decide +kernel
theorem dL_law_507 : decode code 507 = .ok (.aload_n 0, 1) := by decide +kernel
theorem dL_law_508 : decode code 508 = .ok (.iload 4, 2) := by decide +kernel
theorem dL_law_510 : decode code 510 = .ok (.iconst 1, 1) := by decide +kernel
theorem dL_law_511 : decode code 511 = .ok (.iadd, 1) := by decide +kernel
theorem dL_law_512 : decode code 512 = .ok (.iaload, 1) := by decide +kernel
theorem dL_law_513 : decode code 513 = .ok (.invokevirtual 106, 3) := by decide +kernel
theorem dL_law_516 : decode code 516 = .ok (.istore 6, 2) := by decide +kernel
theorem dL_law_518 : decode code 518 = .ok (.aload_n 2, 1) := by decide +kernel
theorem dL_law_519 : decode code 519 = .ok (.invokevirtual 84, 3) := by decide +kernel
theorem dL_law_522 : decode code 522 = .ok (.iload 5, 2) := by decide +kernel
theorem dL_law_524 : decode code 524 = .ok (.if_icmp .eq 5, 3) := by decide +kernel
theorem dL_law_527 : decode code 527 = .ok (.iconst 0, 1) := by decide +kernel
theorem dL_law_528 : decode code 528 = .ok (.ireturn, 1) := by decide +kernel
theorem dL_law_529 : decode code 529 = .ok (.iload 5, 2) := by decide +kernel
theorem dL_law_531 : decode code 531 = .ok (.ifCond .ne 15, 3) := by decide +kernel
theorem dL_law_534 : decode code 534 = .ok (.aload_n 3, 1) := by decide +kernel
theorem dL_law_535 : decode code 535 = .ok (.iconst 0, 1) := by decide +kernel
theorem dL_law_536 : decode code 536 = .ok (.laload, 1) := by decide +kernel
theorem dL_law_537 : decode code 537 = .ok (.iload 6, 2) := by decide +kernel
theorem dL_law_539 : decode code 539 = .ok (.i2l, 1) := by decide +kernel
theorem dL_law_540 : decode code 540 = .ok (.lcmp, 1) := by decide +kernel
theorem dL_law_541 : decode code 541 = .ok (.ifCond .eq 5, 3) := by decide +kernel
theorem dL_law_544 : decode code 544 = .ok (.iconst 0, 1) := by decide +kernel
theorem dL_law_545 : decode code 545 = .ok (.ireturn, 1) := by decide +kernel
theorem dL_law_546 : decode code 546 = .ok (.goto 644, 3) := by decide +kernel
theorem dL_law_549 : decode code 549 = .ok (.aload_n 1, 1) := by decide +kernel
theorem dL_law_550 : decode code 550 = .ok (.aload_n 0, 1) := by decide +kernel
theorem dL_law_551 : decode code 551 = .ok (.iload 4, 2) := by decide +kernel
theorem dL_law_553 : decode code 553 = .ok (.iconst 1, 1) := by decide +kernel
theorem dL_law_554 : decode code 554 = .ok (.iadd, 1) := by decide +kernel
theorem dL_law_555 : decode code 555 = .ok (.iaload, 1) := by decide +kernel
theorem dL_law_556 : decode code 556 = .ok (.aload_n 0, 1) := by decide +kernel
theorem dL_law_557 : decode code 557 = .ok (.iload 4, 2) := by decide +kernel
theorem dL_law_559 : decode code 559 = .ok (.iconst 2, 1) := by decide +kernel
theorem dL_law_560 : decode code 560 = .ok (.iadd, 1) := by decide +kernel
theorem dL_law_561 : decode code 561 = .ok (.iaload, 1) := by decide +kernel
theorem dL_law_562 : decode code 562 = .ok (.aload_n 3, 1) := by decide +kernel
theorem dL_law_563 : decode code 563 = .ok (.invokestatic 107, 3) := by decide +kernel
theorem dL_law_566 : decode code 566 = .ok (.istore 5, 2) := by decide +kernel
theorem dL_law_568 : decode code 568 = .ok (.aload_n 2, 1) := by decide +kernel
theorem dL_law_569 : decode code 569 = .ok (.aload_n 0, 1) := by decide +kernel
theorem dL_law_570 : decode code 570 = .ok (.iload 4, 2) := by decide +kernel
theorem dL_law_572 : decode code 572 = .ok (.iconst 1, 1) := by decide +kernel
theorem dL_law_573 : decode code 573 = .ok (.iadd, 1) := by decide +kernel
theorem dL_law_574 : decode code 574 = .ok (.iaload, 1) := by decide +kernel
theorem dL_law_575 : decode code 575 = .ok (.aload_n 0, 1) := by decide +kernel
theorem dL_law_576 : decode code 576 = .ok (.iload 4, 2) := by decide +kernel
theorem dL_law_578 : decode code 578 = .ok (.iconst 2, 1) := by decide +kernel
theorem dL_law_579 : decode code 579 = .ok (.iadd, 1) := by decide +kernel
theorem dL_law_580 : decode code 580 = .ok (.iaload, 1) := by decide +kernel
theorem dL_law_581 : decode code 581 = .ok (.invokevirtual 109, 3) := by decide +kernel
theorem dL_law_584 : decode code 584 = .ok (.istore 6, 2) := by decide +kernel
theorem dL_law_586 : decode code 586 = .ok (.aload_n 2, 1) := by decide +kernel
theorem dL_law_587 : decode code 587 = .ok (.invokevirtual 84, 3) := by decide +kernel
theorem dL_law_590 : decode code 590 = .ok (.iload 5, 2) := by decide +kernel
theorem dL_law_592 : decode code 592 = .ok (.if_icmp .eq 5, 3) := by decide +kernel
theorem dL_law_595 : decode code 595 = .ok (.iconst 0, 1) := by decide +kernel
theorem dL_law_596 : decode code 596 = .ok (.ireturn, 1) := by decide +kernel
theorem dL_law_597 : decode code 597 = .ok (.iload 5, 2) := by decide +kernel
theorem dL_law_599 : decode code 599 = .ok (.ifCond .ne 15, 3) := by decide +kernel
theorem dL_law_602 : decode code 602 = .ok (.aload_n 3, 1) := by decide +kernel
theorem dL_law_603 : decode code 603 = .ok (.iconst 0, 1) := by decide +kernel
theorem dL_law_604 : decode code 604 = .ok (.laload, 1) := by decide +kernel
theorem dL_law_605 : decode code 605 = .ok (.iload 6, 2) := by decide +kernel
theorem dL_law_607 : decode code 607 = .ok (.i2l, 1) := by decide +kernel
theorem dL_law_608 : decode code 608 = .ok (.lcmp, 1) := by decide +kernel
theorem dL_law_609 : decode code 609 = .ok (.ifCond .eq 5, 3) := by decide +kernel
theorem dL_law_612 : decode code 612 = .ok (.iconst 0, 1) := by decide +kernel
theorem dL_law_613 : decode code 613 = .ok (.ireturn, 1) := by decide +kernel
theorem dL_law_614 : decode code 614 = .ok (.goto 576, 3) := by decide +kernel
theorem dL_law_617 : decode code 617 = .ok (.aload_n 1, 1) := by decide +kernel
theorem dL_law_618 : decode code 618 = .ok (.aload_n 0, 1) := by decide +kernel
theorem dL_law_619 : decode code 619 = .ok (.iload 4, 2) := by decide +kernel
theorem dL_law_621 : decode code 621 = .ok (.iconst 1, 1) := by decide +kernel
theorem dL_law_622 : decode code 622 = .ok (.iadd, 1) := by decide +kernel
theorem dL_law_623 : decode code 623 = .ok (.iaload, 1) := by decide +kernel
theorem dL_law_624 : decode code 624 = .ok (.aload_n 0, 1) := by decide +kernel
theorem dL_law_625 : decode code 625 = .ok (.iload 4, 2) := by decide +kernel
theorem dL_law_627 : decode code 627 = .ok (.iconst 2, 1) := by decide +kernel
theorem dL_law_628 : decode code 628 = .ok (.iadd, 1) := by decide +kernel
theorem dL_law_629 : decode code 629 = .ok (.iaload, 1) := by decide +kernel
theorem dL_law_630 : decode code 630 = .ok (.ifCond .eq 7, 3) := by decide +kernel
theorem dL_law_633 : decode code 633 = .ok (.iconst 1, 1) := by decide +kernel
theorem dL_law_634 : decode code 634 = .ok (.goto 4, 3) := by decide +kernel
theorem dL_law_637 : decode code 637 = .ok (.iconst 0, 1) := by decide +kernel
theorem dL_law_638 : decode code 638 = .ok (.aload_n 3, 1) := by decide +kernel
theorem dL_law_639 : decode code 639 = .ok (.invokestatic 110, 3) := by decide +kernel
theorem dL_law_642 : decode code 642 = .ok (.istore 5, 2) := by decide +kernel
theorem dL_law_644 : decode code 644 = .ok (.aload_n 2, 1) := by decide +kernel
theorem dL_law_645 : decode code 645 = .ok (.aload_n 0, 1) := by decide +kernel
theorem dL_law_646 : decode code 646 = .ok (.iload 4, 2) := by decide +kernel
theorem dL_law_648 : decode code 648 = .ok (.iconst 1, 1) := by decide +kernel
theorem dL_law_649 : decode code 649 = .ok (.iadd, 1) := by decide +kernel
theorem dL_law_650 : decode code 650 = .ok (.iaload, 1) := by decide +kernel
theorem dL_law_651 : decode code 651 = .ok (.aload_n 0, 1) := by decide +kernel
theorem dL_law_652 : decode code 652 = .ok (.iload 4, 2) := by decide +kernel
theorem dL_law_654 : decode code 654 = .ok (.iconst 2, 1) := by decide +kernel
theorem dL_law_655 : decode code 655 = .ok (.iadd, 1) := by decide +kernel
theorem dL_law_656 : decode code 656 = .ok (.iaload, 1) := by decide +kernel
theorem dL_law_657 : decode code 657 = .ok (.ifCond .eq 7, 3) := by decide +kernel
theorem dL_law_660 : decode code 660 = .ok (.iconst 1, 1) := by decide +kernel
theorem dL_law_661 : decode code 661 = .ok (.goto 4, 3) := by decide +kernel
theorem dL_law_664 : decode code 664 = .ok (.iconst 0, 1) := by decide +kernel
theorem dL_law_665 : decode code 665 = .ok (.invokevirtual 113, 3) := by decide +kernel
theorem dL_law_668 : decode code 668 = .ok (.istore 6, 2) := by decide +kernel
theorem dL_law_670 : decode code 670 = .ok (.aload_n 2, 1) := by decide +kernel
theorem dL_law_671 : decode code 671 = .ok (.invokevirtual 84, 3) := by decide +kernel
theorem dL_law_674 : decode code 674 = .ok (.iload 5, 2) := by decide +kernel
theorem dL_law_676 : decode code 676 = .ok (.if_icmp .eq 5, 3) := by decide +kernel
theorem dL_law_679 : decode code 679 = .ok (.iconst 0, 1) := by decide +kernel
theorem dL_law_680 : decode code 680 = .ok (.ireturn, 1) := by decide +kernel
theorem dL_law_681 : decode code 681 = .ok (.iload 5, 2) := by decide +kernel
theorem dL_law_683 : decode code 683 = .ok (.ifCond .ne 22, 3) := by decide +kernel
theorem dL_law_686 : decode code 686 = .ok (.aload_n 3, 1) := by decide +kernel
theorem dL_law_687 : decode code 687 = .ok (.iconst 0, 1) := by decide +kernel
theorem dL_law_688 : decode code 688 = .ok (.laload, 1) := by decide +kernel
theorem dL_law_689 : decode code 689 = .ok (.iload 6, 2) := by decide +kernel
theorem dL_law_691 : decode code 691 = .ok (.ifCond .eq 7, 3) := by decide +kernel
theorem dL_law_694 : decode code 694 = .ok (.lconst 1, 1) := by decide +kernel
theorem dL_law_695 : decode code 695 = .ok (.goto 4, 3) := by decide +kernel
theorem dL_law_698 : decode code 698 = .ok (.lconst 0, 1) := by decide +kernel
theorem dL_law_699 : decode code 699 = .ok (.lcmp, 1) := by decide +kernel
theorem dL_law_700 : decode code 700 = .ok (.ifCond .eq 5, 3) := by decide +kernel
theorem dL_law_703 : decode code 703 = .ok (.iconst 0, 1) := by decide +kernel
theorem dL_law_704 : decode code 704 = .ok (.ireturn, 1) := by decide +kernel
theorem dL_law_705 : decode code 705 = .ok (.goto 485, 3) := by decide +kernel
theorem dL_law_708 : decode code 708 = .ok (.aload_n 1, 1) := by decide +kernel
theorem dL_law_709 : decode code 709 = .ok (.aload_n 0, 1) := by decide +kernel
theorem dL_law_710 : decode code 710 = .ok (.iload 4, 2) := by decide +kernel
theorem dL_law_712 : decode code 712 = .ok (.iconst 1, 1) := by decide +kernel
theorem dL_law_713 : decode code 713 = .ok (.iadd, 1) := by decide +kernel
theorem dL_law_714 : decode code 714 = .ok (.iaload, 1) := by decide +kernel
theorem dL_law_715 : decode code 715 = .ok (.aload_n 0, 1) := by decide +kernel
theorem dL_law_716 : decode code 716 = .ok (.iload 4, 2) := by decide +kernel
theorem dL_law_718 : decode code 718 = .ok (.iconst 2, 1) := by decide +kernel
theorem dL_law_719 : decode code 719 = .ok (.iadd, 1) := by decide +kernel
theorem dL_law_720 : decode code 720 = .ok (.iaload, 1) := by decide +kernel
theorem dL_law_721 : decode code 721 = .ok (.invokestatic 114, 3) := by decide +kernel
theorem dL_law_724 : decode code 724 = .ok (.istore 5, 2) := by decide +kernel
theorem dL_law_726 : decode code 726 = .ok (.aload_n 2, 1) := by decide +kernel
theorem dL_law_727 : decode code 727 = .ok (.aload_n 0, 1) := by decide +kernel
theorem dL_law_728 : decode code 728 = .ok (.iload 4, 2) := by decide +kernel
theorem dL_law_730 : decode code 730 = .ok (.iconst 1, 1) := by decide +kernel
theorem dL_law_731 : decode code 731 = .ok (.iadd, 1) := by decide +kernel
theorem dL_law_732 : decode code 732 = .ok (.iaload, 1) := by decide +kernel
theorem dL_law_733 : decode code 733 = .ok (.aload_n 0, 1) := by decide +kernel
theorem dL_law_734 : decode code 734 = .ok (.iload 4, 2) := by decide +kernel
theorem dL_law_736 : decode code 736 = .ok (.iconst 2, 1) := by decide +kernel
theorem dL_law_737 : decode code 737 = .ok (.iadd, 1) := by decide +kernel
theorem dL_law_738 : decode code 738 = .ok (.iaload, 1) := by decide +kernel
theorem dL_law_739 : decode code 739 = .ok (.invokevirtual 117, 3) := by decide +kernel
theorem dL_law_742 : decode code 742 = .ok (.aload_n 2, 1) := by decide +kernel
theorem dL_law_743 : decode code 743 = .ok (.invokevirtual 84, 3) := by decide +kernel
theorem dL_law_746 : decode code 746 = .ok (.iload 5, 2) := by decide +kernel
theorem dL_law_748 : decode code 748 = .ok (.if_icmp .eq 5, 3) := by decide +kernel
theorem dL_law_751 : decode code 751 = .ok (.iconst 0, 1) := by decide +kernel
theorem dL_law_752 : decode code 752 = .ok (.ireturn, 1) := by decide +kernel
theorem dL_law_753 : decode code 753 = .ok (.goto 437, 3) := by decide +kernel
theorem dL_law_756 : decode code 756 = .ok (.aload_n 1, 1) := by decide +kernel
theorem dL_law_757 : decode code 757 = .ok (.aload_n 0, 1) := by decide +kernel
theorem dL_law_758 : decode code 758 = .ok (.iload 4, 2) := by decide +kernel
theorem dL_law_760 : decode code 760 = .ok (.iconst 1, 1) := by decide +kernel
theorem dL_law_761 : decode code 761 = .ok (.iadd, 1) := by decide +kernel
theorem dL_law_762 : decode code 762 = .ok (.iaload, 1) := by decide +kernel
theorem dL_law_763 : decode code 763 = .ok (.aload_n 3, 1) := by decide +kernel
theorem dL_law_764 : decode code 764 = .ok (.invokestatic 118, 3) := by decide +kernel
theorem dL_law_767 : decode code 767 = .ok (.istore 5, 2) := by decide +kernel
theorem dL_law_769 : decode code 769 = .ok (.aload_n 2, 1) := by decide +kernel
theorem dL_law_770 : decode code 770 = .ok (.aload_n 0, 1) := by decide +kernel
theorem dL_law_771 : decode code 771 = .ok (.iload 4, 2) := by decide +kernel
theorem dL_law_773 : decode code 773 = .ok (.iconst 1, 1) := by decide +kernel
theorem dL_law_774 : decode code 774 = .ok (.iadd, 1) := by decide +kernel
theorem dL_law_775 : decode code 775 = .ok (.iaload, 1) := by decide +kernel
theorem dL_law_776 : decode code 776 = .ok (.invokevirtual 120, 3) := by decide +kernel
theorem dL_law_779 : decode code 779 = .ok (.istore 6, 2) := by decide +kernel
theorem dL_law_781 : decode code 781 = .ok (.aload_n 2, 1) := by decide +kernel
theorem dL_law_782 : decode code 782 = .ok (.invokevirtual 84, 3) := by decide +kernel
theorem dL_law_785 : decode code 785 = .ok (.iload 5, 2) := by decide +kernel
theorem dL_law_787 : decode code 787 = .ok (.if_icmp .eq 5, 3) := by decide +kernel
theorem dL_law_790 : decode code 790 = .ok (.iconst 0, 1) := by decide +kernel
theorem dL_law_791 : decode code 791 = .ok (.ireturn, 1) := by decide +kernel
theorem dL_law_792 : decode code 792 = .ok (.iload 5, 2) := by decide +kernel
theorem dL_law_794 : decode code 794 = .ok (.ifCond .ne 15, 3) := by decide +kernel
theorem dL_law_797 : decode code 797 = .ok (.aload_n 3, 1) := by decide +kernel
theorem dL_law_798 : decode code 798 = .ok (.iconst 0, 1) := by decide +kernel
theorem dL_law_799 : decode code 799 = .ok (.laload, 1) := by decide +kernel
theorem dL_law_800 : decode code 800 = .ok (.iload 6, 2) := by decide +kernel
theorem dL_law_802 : decode code 802 = .ok (.i2l, 1) := by decide +kernel
theorem dL_law_803 : decode code 803 = .ok (.lcmp, 1) := by decide +kernel
theorem dL_law_804 : decode code 804 = .ok (.ifCond .eq 5, 3) := by decide +kernel
theorem dL_law_807 : decode code 807 = .ok (.iconst 0, 1) := by decide +kernel
theorem dL_law_808 : decode code 808 = .ok (.ireturn, 1) := by decide +kernel
theorem dL_law_809 : decode code 809 = .ok (.goto 381, 3) := by decide +kernel
theorem dL_law_812 : decode code 812 = .ok (.aload_n 1, 1) := by decide +kernel
theorem dL_law_813 : decode code 813 = .ok (.aload_n 0, 1) := by decide +kernel
theorem dL_law_814 : decode code 814 = .ok (.iload 4, 2) := by decide +kernel
theorem dL_law_816 : decode code 816 = .ok (.iconst 1, 1) := by decide +kernel
theorem dL_law_817 : decode code 817 = .ok (.iadd, 1) := by decide +kernel
theorem dL_law_818 : decode code 818 = .ok (.iaload, 1) := by decide +kernel
theorem dL_law_819 : decode code 819 = .ok (.invokevirtual 121, 3) := by decide +kernel
theorem dL_law_822 : decode code 822 = .ok (.aload_n 2, 1) := by decide +kernel
theorem dL_law_823 : decode code 823 = .ok (.aload_n 0, 1) := by decide +kernel
theorem dL_law_824 : decode code 824 = .ok (.iload 4, 2) := by decide +kernel
theorem dL_law_826 : decode code 826 = .ok (.iconst 1, 1) := by decide +kernel
theorem dL_law_827 : decode code 827 = .ok (.iadd, 1) := by decide +kernel
theorem dL_law_828 : decode code 828 = .ok (.iaload, 1) := by decide +kernel
theorem dL_law_829 : decode code 829 = .ok (.invokevirtual 124, 3) := by decide +kernel
theorem dL_law_832 : decode code 832 = .ok (.if_icmp .eq 358, 3) := by decide +kernel
theorem dL_law_835 : decode code 835 = .ok (.iconst 0, 1) := by decide +kernel
theorem dL_law_836 : decode code 836 = .ok (.ireturn, 1) := by decide +kernel
theorem dL_law_837 : decode code 837 = .ok (.aload_n 1, 1) := by decide +kernel
theorem dL_law_838 : decode code 838 = .ok (.aload_n 0, 1) := by decide +kernel
theorem dL_law_839 : decode code 839 = .ok (.iload 4, 2) := by decide +kernel
theorem dL_law_841 : decode code 841 = .ok (.iconst 1, 1) := by decide +kernel
theorem dL_law_842 : decode code 842 = .ok (.iadd, 1) := by decide +kernel
theorem dL_law_843 : decode code 843 = .ok (.iaload, 1) := by decide +kernel
theorem dL_law_844 : decode code 844 = .ok (.aload_n 3, 1) := by decide +kernel
theorem dL_law_845 : decode code 845 = .ok (.invokestatic 125, 3) := by decide +kernel
theorem dL_law_848 : decode code 848 = .ok (.istore 5, 2) := by decide +kernel
theorem dL_law_850 : decode code 850 = .ok (.aload_n 2, 1) := by decide +kernel
theorem dL_law_851 : decode code 851 = .ok (.aload_n 0, 1) := by decide +kernel
theorem dL_law_852 : decode code 852 = .ok (.iload 4, 2) := by decide +kernel
theorem dL_law_854 : decode code 854 = .ok (.iconst 1, 1) := by decide +kernel
theorem dL_law_855 : decode code 855 = .ok (.iadd, 1) := by decide +kernel
theorem dL_law_856 : decode code 856 = .ok (.iaload, 1) := by decide +kernel
theorem dL_law_857 : decode code 857 = .ok (.invokevirtual 127, 3) := by decide +kernel
theorem dL_law_860 : decode code 860 = .ok (.istore 6, 2) := by decide +kernel
theorem dL_law_862 : decode code 862 = .ok (.aload_n 2, 1) := by decide +kernel
theorem dL_law_863 : decode code 863 = .ok (.invokevirtual 84, 3) := by decide +kernel
theorem dL_law_866 : decode code 866 = .ok (.iload 5, 2) := by decide +kernel
theorem dL_law_868 : decode code 868 = .ok (.if_icmp .eq 5, 3) := by decide +kernel
theorem dL_law_871 : decode code 871 = .ok (.iconst 0, 1) := by decide +kernel
theorem dL_law_872 : decode code 872 = .ok (.ireturn, 1) := by decide +kernel
theorem dL_law_873 : decode code 873 = .ok (.iload 5, 2) := by decide +kernel
theorem dL_law_875 : decode code 875 = .ok (.ifCond .ne 15, 3) := by decide +kernel
theorem dL_law_878 : decode code 878 = .ok (.aload_n 3, 1) := by decide +kernel
theorem dL_law_879 : decode code 879 = .ok (.iconst 0, 1) := by decide +kernel
theorem dL_law_880 : decode code 880 = .ok (.laload, 1) := by decide +kernel
theorem dL_law_881 : decode code 881 = .ok (.iload 6, 2) := by decide +kernel
theorem dL_law_883 : decode code 883 = .ok (.i2l, 1) := by decide +kernel
theorem dL_law_884 : decode code 884 = .ok (.lcmp, 1) := by decide +kernel
theorem dL_law_885 : decode code 885 = .ok (.ifCond .eq 5, 3) := by decide +kernel
theorem dL_law_888 : decode code 888 = .ok (.iconst 0, 1) := by decide +kernel
theorem dL_law_889 : decode code 889 = .ok (.ireturn, 1) := by decide +kernel
theorem dL_law_890 : decode code 890 = .ok (.goto 300, 3) := by decide +kernel
theorem dL_law_893 : decode code 893 = .ok (.aload_n 1, 1) := by decide +kernel
theorem dL_law_894 : decode code 894 = .ok (.aload_n 0, 1) := by decide +kernel
theorem dL_law_895 : decode code 895 = .ok (.iload 4, 2) := by decide +kernel
theorem dL_law_897 : decode code 897 = .ok (.iconst 1, 1) := by decide +kernel
theorem dL_law_898 : decode code 898 = .ok (.iadd, 1) := by decide +kernel
theorem dL_law_899 : decode code 899 = .ok (.iaload, 1) := by decide +kernel
theorem dL_law_900 : decode code 900 = .ok (.aload_n 0, 1) := by decide +kernel
theorem dL_law_901 : decode code 901 = .ok (.iload 4, 2) := by decide +kernel
theorem dL_law_903 : decode code 903 = .ok (.iconst 2, 1) := by decide +kernel
theorem dL_law_904 : decode code 904 = .ok (.iadd, 1) := by decide +kernel
theorem dL_law_905 : decode code 905 = .ok (.iaload, 1) := by decide +kernel
theorem dL_law_906 : decode code 906 = .ok (.invokestatic 128, 3) := by decide +kernel
theorem dL_law_909 : decode code 909 = .ok (.istore 5, 2) := by decide +kernel
theorem dL_law_911 : decode code 911 = .ok (.aload_n 2, 1) := by decide +kernel
theorem dL_law_912 : decode code 912 = .ok (.aload_n 0, 1) := by decide +kernel
theorem dL_law_913 : decode code 913 = .ok (.iload 4, 2) := by decide +kernel
theorem dL_law_915 : decode code 915 = .ok (.iconst 1, 1) := by decide +kernel
theorem dL_law_916 : decode code 916 = .ok (.iadd, 1) := by decide +kernel
theorem dL_law_917 : decode code 917 = .ok (.iaload, 1) := by decide +kernel
theorem dL_law_918 : decode code 918 = .ok (.aload_n 0, 1) := by decide +kernel
theorem dL_law_919 : decode code 919 = .ok (.iload 4, 2) := by decide +kernel
theorem dL_law_921 : decode code 921 = .ok (.iconst 2, 1) := by decide +kernel
theorem dL_law_922 : decode code 922 = .ok (.iadd, 1) := by decide +kernel
theorem dL_law_923 : decode code 923 = .ok (.iaload, 1) := by decide +kernel
theorem dL_law_924 : decode code 924 = .ok (.invokevirtual 130, 3) := by decide +kernel
theorem dL_law_927 : decode code 927 = .ok (.aload_n 2, 1) := by decide +kernel
theorem dL_law_928 : decode code 928 = .ok (.invokevirtual 84, 3) := by decide +kernel
theorem dL_law_931 : decode code 931 = .ok (.iload 5, 2) := by decide +kernel
theorem dL_law_933 : decode code 933 = .ok (.if_icmp .eq 5, 3) := by decide +kernel
theorem dL_law_936 : decode code 936 = .ok (.iconst 0, 1) := by decide +kernel
theorem dL_law_937 : decode code 937 = .ok (.ireturn, 1) := by decide +kernel
theorem dL_law_938 : decode code 938 = .ok (.goto 252, 3) := by decide +kernel
theorem dL_law_941 : decode code 941 = .ok (.aload_n 1, 1) := by decide +kernel
theorem dL_law_942 : decode code 942 = .ok (.aload_n 0, 1) := by decide +kernel
theorem dL_law_943 : decode code 943 = .ok (.iload 4, 2) := by decide +kernel
theorem dL_law_945 : decode code 945 = .ok (.iconst 1, 1) := by decide +kernel
theorem dL_law_946 : decode code 946 = .ok (.iadd, 1) := by decide +kernel
theorem dL_law_947 : decode code 947 = .ok (.iaload, 1) := by decide +kernel
theorem dL_law_948 : decode code 948 = .ok (.aload_n 0, 1) := by decide +kernel
theorem dL_law_949 : decode code 949 = .ok (.iload 4, 2) := by decide +kernel
theorem dL_law_951 : decode code 951 = .ok (.iconst 2, 1) := by decide +kernel
theorem dL_law_952 : decode code 952 = .ok (.iadd, 1) := by decide +kernel
theorem dL_law_953 : decode code 953 = .ok (.iaload, 1) := by decide +kernel
theorem dL_law_954 : decode code 954 = .ok (.aload_n 3, 1) := by decide +kernel
theorem dL_law_955 : decode code 955 = .ok (.invokestatic 131, 3) := by decide +kernel
theorem dL_law_958 : decode code 958 = .ok (.istore 5, 2) := by decide +kernel
theorem dL_law_960 : decode code 960 = .ok (.aload_n 2, 1) := by decide +kernel
theorem dL_law_961 : decode code 961 = .ok (.aload_n 0, 1) := by decide +kernel
theorem dL_law_962 : decode code 962 = .ok (.iload 4, 2) := by decide +kernel
theorem dL_law_964 : decode code 964 = .ok (.iconst 1, 1) := by decide +kernel
theorem dL_law_965 : decode code 965 = .ok (.iadd, 1) := by decide +kernel
theorem dL_law_966 : decode code 966 = .ok (.iaload, 1) := by decide +kernel
theorem dL_law_967 : decode code 967 = .ok (.aload_n 0, 1) := by decide +kernel
theorem dL_law_968 : decode code 968 = .ok (.iload 4, 2) := by decide +kernel
theorem dL_law_970 : decode code 970 = .ok (.iconst 2, 1) := by decide +kernel
theorem dL_law_971 : decode code 971 = .ok (.iadd, 1) := by decide +kernel
theorem dL_law_972 : decode code 972 = .ok (.iaload, 1) := by decide +kernel
theorem dL_law_973 : decode code 973 = .ok (.invokevirtual 133, 3) := by decide +kernel
theorem dL_law_976 : decode code 976 = .ok (.istore 6, 2) := by decide +kernel
theorem dL_law_978 : decode code 978 = .ok (.aload_n 2, 1) := by decide +kernel
theorem dL_law_979 : decode code 979 = .ok (.invokevirtual 84, 3) := by decide +kernel
theorem dL_law_982 : decode code 982 = .ok (.iload 5, 2) := by decide +kernel
theorem dL_law_984 : decode code 984 = .ok (.if_icmp .eq 5, 3) := by decide +kernel
theorem dL_law_987 : decode code 987 = .ok (.iconst 0, 1) := by decide +kernel
theorem dL_law_988 : decode code 988 = .ok (.ireturn, 1) := by decide +kernel
theorem dL_law_989 : decode code 989 = .ok (.iload 5, 2) := by decide +kernel
theorem dL_law_991 : decode code 991 = .ok (.ifCond .ne 15, 3) := by decide +kernel
theorem dL_law_994 : decode code 994 = .ok (.aload_n 3, 1) := by decide +kernel
theorem dL_law_995 : decode code 995 = .ok (.iconst 0, 1) := by decide +kernel
theorem dL_law_996 : decode code 996 = .ok (.laload, 1) := by decide +kernel
theorem dL_law_997 : decode code 997 = .ok (.iload 6, 2) := by decide +kernel
theorem dL_law_999 : decode code 999 = .ok (.i2l, 1) := by decide +kernel
theorem dL_law_1000 : decode code 1000 = .ok (.lcmp, 1) := by decide +kernel
theorem dL_law_1001 : decode code 1001 = .ok (.ifCond .eq 5, 3) := by decide +kernel
theorem dL_law_1004 : decode code 1004 = .ok (.iconst 0, 1) := by decide +kernel
theorem dL_law_1005 : decode code 1005 = .ok (.ireturn, 1) := by decide +kernel
theorem dL_law_1006 : decode code 1006 = .ok (.goto 184, 3) := by decide +kernel
theorem dL_law_1009 : decode code 1009 = .ok (.aload_n 1, 1) := by decide +kernel
theorem dL_law_1010 : decode code 1010 = .ok (.invokevirtual 134, 3) := by decide +kernel
theorem dL_law_1013 : decode code 1013 = .ok (.aload_n 2, 1) := by decide +kernel
theorem dL_law_1014 : decode code 1014 = .ok (.invokevirtual 137, 3) := by decide +kernel
theorem dL_law_1017 : decode code 1017 = .ok (.if_icmp .eq 173, 3) := by decide +kernel
theorem dL_law_1020 : decode code 1020 = .ok (.iconst 0, 1) := by decide +kernel
theorem dL_law_1021 : decode code 1021 = .ok (.ireturn, 1) := by decide +kernel
theorem dL_law_1022 : decode code 1022 = .ok (.aload_n 1, 1) := by decide +kernel
theorem dL_law_1023 : decode code 1023 = .ok (.aload_n 0, 1) := by decide +kernel
theorem dL_law_1024 : decode code 1024 = .ok (.iload 4, 2) := by decide +kernel
theorem dL_law_1026 : decode code 1026 = .ok (.iconst 1, 1) := by decide +kernel
theorem dL_law_1027 : decode code 1027 = .ok (.iadd, 1) := by decide +kernel
theorem dL_law_1028 : decode code 1028 = .ok (.iaload, 1) := by decide +kernel
theorem dL_law_1029 : decode code 1029 = .ok (.aload_n 3, 1) := by decide +kernel
theorem dL_law_1030 : decode code 1030 = .ok (.invokestatic 138, 3) := by decide +kernel
theorem dL_law_1033 : decode code 1033 = .ok (.istore 5, 2) := by decide +kernel
theorem dL_law_1035 : decode code 1035 = .ok (.aload_n 2, 1) := by decide +kernel
theorem dL_law_1036 : decode code 1036 = .ok (.aload_n 0, 1) := by decide +kernel
theorem dL_law_1037 : decode code 1037 = .ok (.iload 4, 2) := by decide +kernel
theorem dL_law_1039 : decode code 1039 = .ok (.iconst 1, 1) := by decide +kernel
theorem dL_law_1040 : decode code 1040 = .ok (.iadd, 1) := by decide +kernel
theorem dL_law_1041 : decode code 1041 = .ok (.iaload, 1) := by decide +kernel
theorem dL_law_1042 : decode code 1042 = .ok (.invokevirtual 140, 3) := by decide +kernel
theorem dL_law_1045 : decode code 1045 = .ok (.istore 6, 2) := by decide +kernel
theorem dL_law_1047 : decode code 1047 = .ok (.aload_n 2, 1) := by decide +kernel
theorem dL_law_1048 : decode code 1048 = .ok (.invokevirtual 84, 3) := by decide +kernel
theorem dL_law_1051 : decode code 1051 = .ok (.iload 5, 2) := by decide +kernel
theorem dL_law_1053 : decode code 1053 = .ok (.if_icmp .eq 5, 3) := by decide +kernel
theorem dL_law_1056 : decode code 1056 = .ok (.iconst 0, 1) := by decide +kernel
theorem dL_law_1057 : decode code 1057 = .ok (.ireturn, 1) := by decide +kernel
theorem dL_law_1058 : decode code 1058 = .ok (.iload 5, 2) := by decide +kernel
theorem dL_law_1060 : decode code 1060 = .ok (.ifCond .ne 15, 3) := by decide +kernel
theorem dL_law_1063 : decode code 1063 = .ok (.aload_n 3, 1) := by decide +kernel
theorem dL_law_1064 : decode code 1064 = .ok (.iconst 0, 1) := by decide +kernel
theorem dL_law_1065 : decode code 1065 = .ok (.laload, 1) := by decide +kernel
theorem dL_law_1066 : decode code 1066 = .ok (.iload 6, 2) := by decide +kernel
theorem dL_law_1068 : decode code 1068 = .ok (.i2l, 1) := by decide +kernel
theorem dL_law_1069 : decode code 1069 = .ok (.lcmp, 1) := by decide +kernel
theorem dL_law_1070 : decode code 1070 = .ok (.ifCond .eq 5, 3) := by decide +kernel
theorem dL_law_1073 : decode code 1073 = .ok (.iconst 0, 1) := by decide +kernel
theorem dL_law_1074 : decode code 1074 = .ok (.ireturn, 1) := by decide +kernel
theorem dL_law_1075 : decode code 1075 = .ok (.goto 115, 3) := by decide +kernel
theorem dL_law_1078 : decode code 1078 = .ok (.aload_n 1, 1) := by decide +kernel
theorem dL_law_1079 : decode code 1079 = .ok (.aload_n 0, 1) := by decide +kernel
theorem dL_law_1080 : decode code 1080 = .ok (.iload 4, 2) := by decide +kernel
theorem dL_law_1082 : decode code 1082 = .ok (.iconst 1, 1) := by decide +kernel
theorem dL_law_1083 : decode code 1083 = .ok (.iadd, 1) := by decide +kernel
theorem dL_law_1084 : decode code 1084 = .ok (.iaload, 1) := by decide +kernel
theorem dL_law_1085 : decode code 1085 = .ok (.aload_n 3, 1) := by decide +kernel
theorem dL_law_1086 : decode code 1086 = .ok (.invokestatic 141, 3) := by decide +kernel
theorem dL_law_1089 : decode code 1089 = .ok (.istore 5, 2) := by decide +kernel
theorem dL_law_1091 : decode code 1091 = .ok (.aload_n 2, 1) := by decide +kernel
theorem dL_law_1092 : decode code 1092 = .ok (.aload_n 0, 1) := by decide +kernel
theorem dL_law_1093 : decode code 1093 = .ok (.iload 4, 2) := by decide +kernel
theorem dL_law_1095 : decode code 1095 = .ok (.iconst 1, 1) := by decide +kernel
theorem dL_law_1096 : decode code 1096 = .ok (.iadd, 1) := by decide +kernel
theorem dL_law_1097 : decode code 1097 = .ok (.iaload, 1) := by decide +kernel
theorem dL_law_1098 : decode code 1098 = .ok (.invokevirtual 143, 3) := by decide +kernel
theorem dL_law_1101 : decode code 1101 = .ok (.istore 6, 2) := by decide +kernel
theorem dL_law_1103 : decode code 1103 = .ok (.aload_n 2, 1) := by decide +kernel
theorem dL_law_1104 : decode code 1104 = .ok (.invokevirtual 84, 3) := by decide +kernel
theorem dL_law_1107 : decode code 1107 = .ok (.iload 5, 2) := by decide +kernel
theorem dL_law_1109 : decode code 1109 = .ok (.if_icmp .eq 5, 3) := by decide +kernel
theorem dL_law_1112 : decode code 1112 = .ok (.iconst 0, 1) := by decide +kernel
theorem dL_law_1113 : decode code 1113 = .ok (.ireturn, 1) := by decide +kernel
theorem dL_law_1114 : decode code 1114 = .ok (.iload 5, 2) := by decide +kernel
theorem dL_law_1116 : decode code 1116 = .ok (.ifCond .ne 15, 3) := by decide +kernel
theorem dL_law_1119 : decode code 1119 = .ok (.aload_n 3, 1) := by decide +kernel
theorem dL_law_1120 : decode code 1120 = .ok (.iconst 0, 1) := by decide +kernel
theorem dL_law_1121 : decode code 1121 = .ok (.laload, 1) := by decide +kernel
theorem dL_law_1122 : decode code 1122 = .ok (.iload 6, 2) := by decide +kernel
theorem dL_law_1124 : decode code 1124 = .ok (.i2l, 1) := by decide +kernel
theorem dL_law_1125 : decode code 1125 = .ok (.lcmp, 1) := by decide +kernel
theorem dL_law_1126 : decode code 1126 = .ok (.ifCond .eq 5, 3) := by decide +kernel
theorem dL_law_1129 : decode code 1129 = .ok (.iconst 0, 1) := by decide +kernel
theorem dL_law_1130 : decode code 1130 = .ok (.ireturn, 1) := by decide +kernel
theorem dL_law_1131 : decode code 1131 = .ok (.goto 59, 3) := by decide +kernel
theorem dL_law_1134 : decode code 1134 = .ok (.aload_n 1, 1) := by decide +kernel
theorem dL_law_1135 : decode code 1135 = .ok (.aload_n 0, 1) := by decide +kernel
theorem dL_law_1136 : decode code 1136 = .ok (.iload 4, 2) := by decide +kernel
theorem dL_law_1138 : decode code 1138 = .ok (.iconst 1, 1) := by decide +kernel
theorem dL_law_1139 : decode code 1139 = .ok (.iadd, 1) := by decide +kernel
theorem dL_law_1140 : decode code 1140 = .ok (.iaload, 1) := by decide +kernel
theorem dL_law_1141 : decode code 1141 = .ok (.aload_n 3, 1) := by decide +kernel
theorem dL_law_1142 : decode code 1142 = .ok (.invokestatic 144, 3) := by decide +kernel
theorem dL_law_1145 : decode code 1145 = .ok (.istore 5, 2) := by decide +kernel
theorem dL_law_1147 : decode code 1147 = .ok (.aload_n 2, 1) := by decide +kernel
theorem dL_law_1148 : decode code 1148 = .ok (.aload_n 0, 1) := by decide +kernel
theorem dL_law_1149 : decode code 1149 = .ok (.iload 4, 2) := by decide +kernel
theorem dL_law_1151 : decode code 1151 = .ok (.iconst 1, 1) := by decide +kernel
theorem dL_law_1152 : decode code 1152 = .ok (.iadd, 1) := by decide +kernel
theorem dL_law_1153 : decode code 1153 = .ok (.iaload, 1) := by decide +kernel
theorem dL_law_1154 : decode code 1154 = .ok (.invokevirtual 146, 3) := by decide +kernel
theorem dL_law_1157 : decode code 1157 = .ok (.istore 6, 2) := by decide +kernel
theorem dL_law_1159 : decode code 1159 = .ok (.aload_n 2, 1) := by decide +kernel
theorem dL_law_1160 : decode code 1160 = .ok (.invokevirtual 84, 3) := by decide +kernel
theorem dL_law_1163 : decode code 1163 = .ok (.iload 5, 2) := by decide +kernel
theorem dL_law_1165 : decode code 1165 = .ok (.if_icmp .eq 5, 3) := by decide +kernel
theorem dL_law_1168 : decode code 1168 = .ok (.iconst 0, 1) := by decide +kernel
theorem dL_law_1169 : decode code 1169 = .ok (.ireturn, 1) := by decide +kernel
theorem dL_law_1170 : decode code 1170 = .ok (.iload 5, 2) := by decide +kernel
theorem dL_law_1172 : decode code 1172 = .ok (.ifCond .ne 15, 3) := by decide +kernel
theorem dL_law_1175 : decode code 1175 = .ok (.aload_n 3, 1) := by decide +kernel
theorem dL_law_1176 : decode code 1176 = .ok (.iconst 0, 1) := by decide +kernel
theorem dL_law_1177 : decode code 1177 = .ok (.laload, 1) := by decide +kernel
theorem dL_law_1178 : decode code 1178 = .ok (.iload 6, 2) := by decide +kernel
theorem dL_law_1180 : decode code 1180 = .ok (.i2l, 1) := by decide +kernel
theorem dL_law_1181 : decode code 1181 = .ok (.lcmp, 1) := by decide +kernel
theorem dL_law_1182 : decode code 1182 = .ok (.ifCond .eq 5, 3) := by decide +kernel
theorem dL_law_1185 : decode code 1185 = .ok (.iconst 0, 1) := by decide +kernel
theorem dL_law_1186 : decode code 1186 = .ok (.ireturn, 1) := by decide +kernel
theorem dL_law_1187 : decode code 1187 = .ok (.goto 3, 3) := by decide +kernel
theorem dL_law_1190 : decode code 1190 = .ok (.iinc 4 6, 3) := by decide +kernel
theorem dL_law_1193 : decode code 1193 = .ok (.goto (-1160), 3) := by decide +kernel
theorem dL_law_1196 : decode code 1196 = .ok (.iconst 1, 1) := by decide +kernel
theorem dL_law_1197 : decode code 1197 = .ok (.ireturn, 1) := by decide +kernel
