/-! The law: what stays fixed in its loop. -/
theorem lx_gLV {cw : Cond} {own C : String} {idx : Nat} {y : MethodName} (h1 : Cond.methodLink own idx y ∈ wd) (h2 : Cond.instanceMethod y ∈ wd) (h3 : Cond.selects C y y ∈ wd) (h4 : Cond.initialized C ∈ wd) (h5 : cw ∈ wd) : GoodIn lw_tbl (wsV own idx C y (cw :: wd)) := by
  intro w hw
  have h : w ∈ wd := by
    rcases List.mem_append.mp hw with h | h
    · simp only [List.mem_cons, List.not_mem_nil, or_false] at h
      rcases h with rfl | rfl | rfl | rfl
      · exact h1
      · exact h2
      · exact h3
      · exact h4
    · rcases List.mem_cons.mp h with rfl | h
      · exact h5
      · exact h
  exact ⟨wd_tbl w h, wd_ok h⟩
theorem lx_gLI {cw : Cond} (h5 : cw ∈ wd) : GoodIn lw_tbl (cw :: wd) := by
  intro w hw
  have h : w ∈ wd := by
    rcases List.mem_cons.mp hw with rfl | h
    · exact h5
    · exact h
  exact ⟨wd_tbl w h, wd_ok h⟩
theorem lx_gLS {cw : Cond} {own : String} {idx : Nat} {y : MethodName} (h1 : Cond.methodLink own idx y ∈ wd) (h2 : Cond.static y ∈ wd) (h4 : Cond.initialized y.cls ∈ wd) (h5 : cw ∈ lw_tbl) (h6 : goodWord cw = true) : GoodIn lw_tbl (va_wsS own idx y (cw :: wx)) := by
  intro w hw
  have h : w ∈ wx := by
    rcases List.mem_append.mp hw with h | h
    · simp only [List.mem_cons, List.not_mem_nil, or_false] at h
      rcases h with rfl | rfl | rfl
      · exact wx_wd _ h1
      · exact wx_wd _ h2
      · exact wx_wd _ h4
    · rcases List.mem_cons.mp h with rfl | h
      · exact wx_of h5 h6
      · exact h
  exact ⟨(List.mem_filter.mp h).1, wx_ok h⟩
/-- an array class, by its word -/
theorem lx_arrI {args : Array Value} {s : State} (h : (Cond.arrayClass .int).before args s = true) : ∃ cA : ClassId, ArrOfT s cA .int ∧ va_RA s cA .int := by
  obtain ⟨cA, kA, comp, h1, h2, h3⟩ := Cond.arrayClass_spec h
  exact ⟨cA, fun n z => ⟨fun k h => (by cases h), kA, h2, comp, h3⟩, h1⟩
theorem lx_arrZ {args : Array Value} {s : State} (h : (Cond.arrayClass .boolean).before args s = true) : ∃ cA : ClassId, ArrOfT s cA .boolean ∧ va_RA s cA .boolean := by
  obtain ⟨cA, kA, comp, h1, h2, h3⟩ := Cond.arrayClass_spec h
  exact ⟨cA, fun n z => ⟨fun k h => (by cases h), kA, h2, comp, h3⟩, h1⟩
abbrev lw_A (s : State) : Nat → Prop := fun q => s.heap.size ≤ q
abbrev lw_W (cA cZ cL : ClassId) (am ad : Nat → Nat) (ao : Nat) (M : ZMS) (S : ZNS) (g : Nat → Int64) : va_W := mr_W cA cZ am S ++ lh_W cA cL ad ao (M, g)
abbrev lw_ls (b : Nat) (am ad : Nat → Nat) (ao i : Nat) : List (Nat × Value) := [(0, .ref b), (1, .ref (ad 0)), (2, .ref (am 0)), (3, .ref ao), (4, .int (nI (3 * i)))]
/-- what stays fixed -/
def lw_F (p : Program) (l : Launch) (s : State) (m : MethodId) (meth : Method) (c : Code) (b L : Nat) (xs : Nat → Int32) (dC : Nat → ClassId) (dI : Nat → Nat → Nat) (cA cZ cL : ClassId) (sa : Nat → Nat) (tp : Nat) : Prop :=
  (p.tables.exec = Jvm.exec ∧ c.code = code ∧ meth.sig.returnType = ret ∧ c.maxLocals = 7 ∧ s.vm.findClass R_Law = some m.cls ∧ meth.locks = false) ∧ (∀ w ∈ lw_tbl, w.before #[Value.ref b] s = true) ∧ (va_X b L xs s s.heap ∧ b < s.heap.size ∧ L ≤ 1536) ∧ va_K (dC, dI) classes [(cA, .int), (cZ, .boolean), (cL, .long)] s ∧ l.stackTraces = false ∧ lx_E sa (lw_A s) s ∧ tm_E tp (lw_A s) s
/-- what the law does behind a call -/
def lw_nx (p : Program) (l : Launch) (e : Env) (s : State) (m : MethodId) (below : List Frame) (meth : Method) (c : Code) (b : Nat) (dC : Nat → ClassId) (dI : Nat → Nat → Nat) (cA cZ cL : ClassId) (am : Nat → Nat) (ao i : Nat) : Prop :=
  ∀ (ad : Nat → Nat) (M : ZMS) (S : ZNS) (g : Nat → Int64) (ls : Array Slot) (H : Heap) (locs : List Loc), lv_has ls 7 (lw_ls b am ad ao i) → va_P (dC, dI) classes (lw_W cA cZ cL am ad ao M S g) H → va_D (lw_A s) (lw_W cA cZ cL am ad ao M S g) → va_S (lw_A s) s.heap H locs → k_z (5001 * (i + 1)) M S →
    W p l e room_1 s m #[Value.ref b] below meth c H locs (43 + (i + 1)) (10088 + 6 * (i + 1)) (lw_Z below #[Value.ref b] s) (F0 m 438 ls [])
theorem lo_at {g : Nat → Int64} {h : Int32 × Int32 × ZMS} (h0 : h.1 = 0) : lo_set g h 0 = h.2.1.toInt64 := by
  unfold lo_set
  rw [if_pos h0]
  exact if_pos rfl
theorem lw_i1 {i L : Nat} (h : 3 * i + 3 ≤ L) (hL : L ≤ 1536) : vp_in (nI (3 * i)) L ∧ vp_in (nI (3 * i) + 1) L ∧ vp_in (nI (3 * i) + 2) L := by
  rw [show (1 : Int32) = nI 1 from rfl, show (2 : Int32) = nI 2 from rfl, nI_add, nI_add]
  exact ⟨vp_in_nI (by omega) (by omega), vp_in_nI (by omega) (by omega), vp_in_nI (by omega) (by omega)⟩
/-- the loop goes on while three ints are left -/
theorem lw_cond {i L : Nat} (hL : L ≤ 1536) (hi : 3 * i ≤ L) : (Int32.ofNat L - 3 < nI (3 * i) ↔ ¬ 3 * i + 3 ≤ L) := by
  have hnL : Int32.ofNat L = nI L := rfl
  rw [hnL]
  rcases Nat.lt_or_ge L 3 with h | h
  · have h9 : L = 0 ∨ L = 1 ∨ L = 2 := by omega
    have h8 : i = 0 := by omega
    subst h8
    rcases h9 with rfl | rfl | rfl <;> decide
  · obtain ⟨k, rfl⟩ : ∃ k, L = k + 3 := ⟨L - 3, by omega⟩
    have e1 : nI (k + 3) - 3 = nI k := by
      rw [show (3 : Int32) = nI 3 from rfl, ← nI_add, Int32.add_sub_cancel]
    rw [e1]
    constructor
    · intro q w
      exact absurd q (nI_nlt (by omega) (by omega))
    · intro q
      exact nI_lt (by omega) (by omega)
theorem d_law_0 : decode code 0 = .ok (.new 8, 3) := by decide +kernel
theorem d_law_3 : decode code 3 = .ok (.dup, 1) := by decide +kernel
theorem d_law_4 : decode code 4 = .ok (.invokespecial 33, 3) := by decide +kernel
theorem d_law_7 : decode code 7 = .ok (.astore_n 1, 1) := by decide +kernel
theorem d_law_8 : decode code 8 = .ok (.new 34, 3) := by decide +kernel
theorem d_law_11 : decode code 11 = .ok (.dup, 1) := by decide +kernel
theorem d_law_12 : decode code 12 = .ok (.invokespecial 36, 3) := by decide +kernel
theorem d_law_15 : decode code 15 = .ok (.astore_n 2, 1) := by decide +kernel
theorem d_law_16 : decode code 16 = .ok (.iconst 1, 1) := by decide +kernel
theorem d_law_17 : decode code 17 = .ok (.newarray .long, 2) := by decide +kernel
theorem d_law_19 : decode code 19 = .ok (.astore_n 3, 1) := by decide +kernel
theorem d_law_20 : decode code 20 = .ok (.iconst 0, 1) := by decide +kernel
theorem d_law_21 : decode code 21 = .ok (.istore 4, 2) := by decide +kernel
theorem d_law_23 : decode code 23 = .ok (.iload 4, 2) := by decide +kernel
theorem d_law_25 : decode code 25 = .ok (.aload_n 0, 1) := by decide +kernel
theorem d_law_26 : decode code 26 = .ok (.arraylength, 1) := by decide +kernel
theorem d_law_27 : decode code 27 = .ok (.iconst 3, 1) := by decide +kernel
theorem d_law_28 : decode code 28 = .ok (.isub, 1) := by decide +kernel
theorem d_law_29 : decode code 29 = .ok (.if_icmp .gt 415, 3) := by decide +kernel
theorem d_law_32 : decode code 32 = .ok (.aload_n 0, 1) := by decide +kernel
theorem d_law_33 : decode code 33 = .ok (.iload 4, 2) := by decide +kernel
theorem d_law_35 : decode code 35 = .ok (.iaload, 1) := by decide +kernel
theorem d_law_36 : decode code 36 = .ok (.bipush 7, 2) := by decide +kernel
theorem d_law_38 : decode code 38 = .ok (.iand, 1) := by decide +kernel
theorem d_law_39 : decode code 39 = .ok (.tableswitch 399 0 7 #[45, 113, 126, 150, 206, 262, 318, 374], 45) := by decide +kernel
theorem d_law_84 : decode code 84 = .ok (.aload_n 1, 1) := by decide +kernel
theorem d_law_85 : decode code 85 = .ok (.aload_n 0, 1) := by decide +kernel
theorem d_law_86 : decode code 86 = .ok (.iload 4, 2) := by decide +kernel
theorem d_law_88 : decode code 88 = .ok (.iconst 1, 1) := by decide +kernel
theorem d_law_89 : decode code 89 = .ok (.iadd, 1) := by decide +kernel
theorem d_law_90 : decode code 90 = .ok (.iaload, 1) := by decide +kernel
theorem d_law_91 : decode code 91 = .ok (.aload_n 0, 1) := by decide +kernel
theorem d_law_92 : decode code 92 = .ok (.iload 4, 2) := by decide +kernel
theorem d_law_94 : decode code 94 = .ok (.iconst 2, 1) := by decide +kernel
theorem d_law_95 : decode code 95 = .ok (.iadd, 1) := by decide +kernel
theorem d_law_96 : decode code 96 = .ok (.iaload, 1) := by decide +kernel
theorem d_law_97 : decode code 97 = .ok (.aload_n 3, 1) := by decide +kernel
theorem d_law_98 : decode code 98 = .ok (.invokestatic 37, 3) := by decide +kernel
theorem d_law_101 : decode code 101 = .ok (.istore 5, 2) := by decide +kernel
theorem d_law_103 : decode code 103 = .ok (.aload_n 2, 1) := by decide +kernel
theorem d_law_104 : decode code 104 = .ok (.aload_n 0, 1) := by decide +kernel
theorem d_law_105 : decode code 105 = .ok (.iload 4, 2) := by decide +kernel
theorem d_law_107 : decode code 107 = .ok (.iconst 1, 1) := by decide +kernel
theorem d_law_108 : decode code 108 = .ok (.iadd, 1) := by decide +kernel
theorem d_law_109 : decode code 109 = .ok (.iaload, 1) := by decide +kernel
theorem d_law_110 : decode code 110 = .ok (.aload_n 0, 1) := by decide +kernel
theorem d_law_111 : decode code 111 = .ok (.iload 4, 2) := by decide +kernel
theorem d_law_113 : decode code 113 = .ok (.iconst 2, 1) := by decide +kernel
theorem d_law_114 : decode code 114 = .ok (.iadd, 1) := by decide +kernel
theorem d_law_115 : decode code 115 = .ok (.iaload, 1) := by decide +kernel
theorem d_law_116 : decode code 116 = .ok (.invokevirtual 42, 3) := by decide +kernel
theorem d_law_119 : decode code 119 = .ok (.istore 6, 2) := by decide +kernel
theorem d_law_121 : decode code 121 = .ok (.aload_n 2, 1) := by decide +kernel
theorem d_law_122 : decode code 122 = .ok (.invokevirtual 43, 3) := by decide +kernel
theorem d_law_125 : decode code 125 = .ok (.iload 5, 2) := by decide +kernel
theorem d_law_127 : decode code 127 = .ok (.if_icmp .eq 5, 3) := by decide +kernel
theorem d_law_130 : decode code 130 = .ok (.iconst 0, 1) := by decide +kernel
theorem d_law_131 : decode code 131 = .ok (.ireturn, 1) := by decide +kernel
theorem d_law_132 : decode code 132 = .ok (.iload 5, 2) := by decide +kernel
theorem d_law_134 : decode code 134 = .ok (.ifCond .ne 15, 3) := by decide +kernel
theorem d_law_137 : decode code 137 = .ok (.aload_n 3, 1) := by decide +kernel
theorem d_law_138 : decode code 138 = .ok (.iconst 0, 1) := by decide +kernel
theorem d_law_139 : decode code 139 = .ok (.laload, 1) := by decide +kernel
theorem d_law_140 : decode code 140 = .ok (.iload 6, 2) := by decide +kernel
theorem d_law_142 : decode code 142 = .ok (.i2l, 1) := by decide +kernel
theorem d_law_143 : decode code 143 = .ok (.lcmp, 1) := by decide +kernel
theorem d_law_144 : decode code 144 = .ok (.ifCond .eq 5, 3) := by decide +kernel
theorem d_law_147 : decode code 147 = .ok (.iconst 0, 1) := by decide +kernel
theorem d_law_148 : decode code 148 = .ok (.ireturn, 1) := by decide +kernel
theorem d_law_149 : decode code 149 = .ok (.goto 289, 3) := by decide +kernel
theorem d_law_152 : decode code 152 = .ok (.aload_n 1, 1) := by decide +kernel
theorem d_law_153 : decode code 153 = .ok (.invokevirtual 47, 3) := by decide +kernel
theorem d_law_156 : decode code 156 = .ok (.aload_n 2, 1) := by decide +kernel
theorem d_law_157 : decode code 157 = .ok (.invokevirtual 50, 3) := by decide +kernel
theorem d_law_160 : decode code 160 = .ok (.if_icmp .eq 278, 3) := by decide +kernel
theorem d_law_163 : decode code 163 = .ok (.iconst 0, 1) := by decide +kernel
theorem d_law_164 : decode code 164 = .ok (.ireturn, 1) := by decide +kernel
theorem d_law_165 : decode code 165 = .ok (.aload_n 1, 1) := by decide +kernel
theorem d_law_166 : decode code 166 = .ok (.invokestatic 51, 3) := by decide +kernel
theorem d_law_169 : decode code 169 = .ok (.istore 5, 2) := by decide +kernel
theorem d_law_171 : decode code 171 = .ok (.aload_n 2, 1) := by decide +kernel
theorem d_law_172 : decode code 172 = .ok (.invokevirtual 54, 3) := by decide +kernel
theorem d_law_175 : decode code 175 = .ok (.aload_n 2, 1) := by decide +kernel
theorem d_law_176 : decode code 176 = .ok (.invokevirtual 43, 3) := by decide +kernel
theorem d_law_179 : decode code 179 = .ok (.iload 5, 2) := by decide +kernel
theorem d_law_181 : decode code 181 = .ok (.if_icmp .eq 5, 3) := by decide +kernel
theorem d_law_184 : decode code 184 = .ok (.iconst 0, 1) := by decide +kernel
theorem d_law_185 : decode code 185 = .ok (.ireturn, 1) := by decide +kernel
theorem d_law_186 : decode code 186 = .ok (.goto 252, 3) := by decide +kernel
theorem d_law_189 : decode code 189 = .ok (.aload_n 1, 1) := by decide +kernel
theorem d_law_190 : decode code 190 = .ok (.aload_n 0, 1) := by decide +kernel
theorem d_law_191 : decode code 191 = .ok (.iload 4, 2) := by decide +kernel
theorem d_law_193 : decode code 193 = .ok (.iconst 1, 1) := by decide +kernel
theorem d_law_194 : decode code 194 = .ok (.iadd, 1) := by decide +kernel
theorem d_law_195 : decode code 195 = .ok (.iaload, 1) := by decide +kernel
theorem d_law_196 : decode code 196 = .ok (.aload_n 3, 1) := by decide +kernel
theorem d_law_197 : decode code 197 = .ok (.invokestatic 55, 3) := by decide +kernel
theorem d_law_200 : decode code 200 = .ok (.istore 5, 2) := by decide +kernel
theorem d_law_202 : decode code 202 = .ok (.aload_n 2, 1) := by decide +kernel
theorem d_law_203 : decode code 203 = .ok (.aload_n 0, 1) := by decide +kernel
theorem d_law_204 : decode code 204 = .ok (.iload 4, 2) := by decide +kernel
theorem d_law_206 : decode code 206 = .ok (.iconst 1, 1) := by decide +kernel
theorem d_law_207 : decode code 207 = .ok (.iadd, 1) := by decide +kernel
theorem d_law_208 : decode code 208 = .ok (.iaload, 1) := by decide +kernel
theorem d_law_209 : decode code 209 = .ok (.invokevirtual 58, 3) := by decide +kernel
theorem d_law_212 : decode code 212 = .ok (.istore 6, 2) := by decide +kernel
theorem d_law_214 : decode code 214 = .ok (.aload_n 2, 1) := by decide +kernel
theorem d_law_215 : decode code 215 = .ok (.invokevirtual 43, 3) := by decide +kernel
theorem d_law_218 : decode code 218 = .ok (.iload 5, 2) := by decide +kernel
theorem d_law_220 : decode code 220 = .ok (.if_icmp .eq 5, 3) := by decide +kernel
theorem d_law_223 : decode code 223 = .ok (.iconst 0, 1) := by decide +kernel
theorem d_law_224 : decode code 224 = .ok (.ireturn, 1) := by decide +kernel
theorem d_law_225 : decode code 225 = .ok (.iload 5, 2) := by decide +kernel
theorem d_law_227 : decode code 227 = .ok (.ifCond .ne 15, 3) := by decide +kernel
theorem d_law_230 : decode code 230 = .ok (.aload_n 3, 1) := by decide +kernel
theorem d_law_231 : decode code 231 = .ok (.iconst 0, 1) := by decide +kernel
theorem d_law_232 : decode code 232 = .ok (.laload, 1) := by decide +kernel
theorem d_law_233 : decode code 233 = .ok (.iload 6, 2) := by decide +kernel
theorem d_law_235 : decode code 235 = .ok (.i2l, 1) := by decide +kernel
theorem d_law_236 : decode code 236 = .ok (.lcmp, 1) := by decide +kernel
theorem d_law_237 : decode code 237 = .ok (.ifCond .eq 5, 3) := by decide +kernel
theorem d_law_240 : decode code 240 = .ok (.iconst 0, 1) := by decide +kernel
theorem d_law_241 : decode code 241 = .ok (.ireturn, 1) := by decide +kernel
theorem d_law_242 : decode code 242 = .ok (.goto 196, 3) := by decide +kernel
theorem d_law_245 : decode code 245 = .ok (.aload_n 1, 1) := by decide +kernel
theorem d_law_246 : decode code 246 = .ok (.aload_n 0, 1) := by decide +kernel
theorem d_law_247 : decode code 247 = .ok (.iload 4, 2) := by decide +kernel
theorem d_law_249 : decode code 249 = .ok (.iconst 1, 1) := by decide +kernel
theorem d_law_250 : decode code 250 = .ok (.iadd, 1) := by decide +kernel
theorem d_law_251 : decode code 251 = .ok (.iaload, 1) := by decide +kernel
theorem d_law_252 : decode code 252 = .ok (.aload_n 3, 1) := by decide +kernel
theorem d_law_253 : decode code 253 = .ok (.invokestatic 59, 3) := by decide +kernel
theorem d_law_256 : decode code 256 = .ok (.istore 5, 2) := by decide +kernel
theorem d_law_258 : decode code 258 = .ok (.aload_n 2, 1) := by decide +kernel
theorem d_law_259 : decode code 259 = .ok (.aload_n 0, 1) := by decide +kernel
theorem d_law_260 : decode code 260 = .ok (.iload 4, 2) := by decide +kernel
theorem d_law_262 : decode code 262 = .ok (.iconst 1, 1) := by decide +kernel
theorem d_law_263 : decode code 263 = .ok (.iadd, 1) := by decide +kernel
theorem d_law_264 : decode code 264 = .ok (.iaload, 1) := by decide +kernel
theorem d_law_265 : decode code 265 = .ok (.invokevirtual 61, 3) := by decide +kernel
theorem d_law_268 : decode code 268 = .ok (.istore 6, 2) := by decide +kernel
theorem d_law_270 : decode code 270 = .ok (.aload_n 2, 1) := by decide +kernel
theorem d_law_271 : decode code 271 = .ok (.invokevirtual 43, 3) := by decide +kernel
theorem d_law_274 : decode code 274 = .ok (.iload 5, 2) := by decide +kernel
theorem d_law_276 : decode code 276 = .ok (.if_icmp .eq 5, 3) := by decide +kernel
theorem d_law_279 : decode code 279 = .ok (.iconst 0, 1) := by decide +kernel
theorem d_law_280 : decode code 280 = .ok (.ireturn, 1) := by decide +kernel
theorem d_law_281 : decode code 281 = .ok (.iload 5, 2) := by decide +kernel
theorem d_law_283 : decode code 283 = .ok (.ifCond .ne 15, 3) := by decide +kernel
theorem d_law_286 : decode code 286 = .ok (.aload_n 3, 1) := by decide +kernel
theorem d_law_287 : decode code 287 = .ok (.iconst 0, 1) := by decide +kernel
theorem d_law_288 : decode code 288 = .ok (.laload, 1) := by decide +kernel
theorem d_law_289 : decode code 289 = .ok (.iload 6, 2) := by decide +kernel
theorem d_law_291 : decode code 291 = .ok (.i2l, 1) := by decide +kernel
theorem d_law_292 : decode code 292 = .ok (.lcmp, 1) := by decide +kernel
theorem d_law_293 : decode code 293 = .ok (.ifCond .eq 5, 3) := by decide +kernel
theorem d_law_296 : decode code 296 = .ok (.iconst 0, 1) := by decide +kernel
theorem d_law_297 : decode code 297 = .ok (.ireturn, 1) := by decide +kernel
theorem d_law_298 : decode code 298 = .ok (.goto 140, 3) := by decide +kernel
theorem d_law_301 : decode code 301 = .ok (.aload_n 1, 1) := by decide +kernel
theorem d_law_302 : decode code 302 = .ok (.aload_n 0, 1) := by decide +kernel
theorem d_law_303 : decode code 303 = .ok (.iload 4, 2) := by decide +kernel
theorem d_law_305 : decode code 305 = .ok (.iconst 1, 1) := by decide +kernel
theorem d_law_306 : decode code 306 = .ok (.iadd, 1) := by decide +kernel
theorem d_law_307 : decode code 307 = .ok (.iaload, 1) := by decide +kernel
theorem d_law_308 : decode code 308 = .ok (.aload_n 3, 1) := by decide +kernel
theorem d_law_309 : decode code 309 = .ok (.invokestatic 62, 3) := by decide +kernel
theorem d_law_312 : decode code 312 = .ok (.istore 5, 2) := by decide +kernel
theorem d_law_314 : decode code 314 = .ok (.aload_n 2, 1) := by decide +kernel
theorem d_law_315 : decode code 315 = .ok (.aload_n 0, 1) := by decide +kernel
theorem d_law_316 : decode code 316 = .ok (.iload 4, 2) := by decide +kernel
theorem d_law_318 : decode code 318 = .ok (.iconst 1, 1) := by decide +kernel
theorem d_law_319 : decode code 319 = .ok (.iadd, 1) := by decide +kernel
theorem d_law_320 : decode code 320 = .ok (.iaload, 1) := by decide +kernel
theorem d_law_321 : decode code 321 = .ok (.invokevirtual 64, 3) := by decide +kernel
theorem d_law_324 : decode code 324 = .ok (.istore 6, 2) := by decide +kernel
theorem d_law_326 : decode code 326 = .ok (.aload_n 2, 1) := by decide +kernel
theorem d_law_327 : decode code 327 = .ok (.invokevirtual 43, 3) := by decide +kernel
theorem d_law_330 : decode code 330 = .ok (.iload 5, 2) := by decide +kernel
theorem d_law_332 : decode code 332 = .ok (.if_icmp .eq 5, 3) := by decide +kernel
theorem d_law_335 : decode code 335 = .ok (.iconst 0, 1) := by decide +kernel
theorem d_law_336 : decode code 336 = .ok (.ireturn, 1) := by decide +kernel
theorem d_law_337 : decode code 337 = .ok (.iload 5, 2) := by decide +kernel
theorem d_law_339 : decode code 339 = .ok (.ifCond .ne 15, 3) := by decide +kernel
theorem d_law_342 : decode code 342 = .ok (.aload_n 3, 1) := by decide +kernel
theorem d_law_343 : decode code 343 = .ok (.iconst 0, 1) := by decide +kernel
theorem d_law_344 : decode code 344 = .ok (.laload, 1) := by decide +kernel
theorem d_law_345 : decode code 345 = .ok (.iload 6, 2) := by decide +kernel
theorem d_law_347 : decode code 347 = .ok (.i2l, 1) := by decide +kernel
theorem d_law_348 : decode code 348 = .ok (.lcmp, 1) := by decide +kernel
theorem d_law_349 : decode code 349 = .ok (.ifCond .eq 5, 3) := by decide +kernel
theorem d_law_352 : decode code 352 = .ok (.iconst 0, 1) := by decide +kernel
theorem d_law_353 : decode code 353 = .ok (.ireturn, 1) := by decide +kernel
theorem d_law_354 : decode code 354 = .ok (.goto 84, 3) := by decide +kernel
theorem d_law_357 : decode code 357 = .ok (.aload_n 1, 1) := by decide +kernel
theorem d_law_358 : decode code 358 = .ok (.aload_n 0, 1) := by decide +kernel
theorem d_law_359 : decode code 359 = .ok (.iload 4, 2) := by decide +kernel
theorem d_law_361 : decode code 361 = .ok (.iconst 1, 1) := by decide +kernel
theorem d_law_362 : decode code 362 = .ok (.iadd, 1) := by decide +kernel
theorem d_law_363 : decode code 363 = .ok (.iaload, 1) := by decide +kernel
theorem d_law_364 : decode code 364 = .ok (.aload_n 3, 1) := by decide +kernel
theorem d_law_365 : decode code 365 = .ok (.invokestatic 65, 3) := by decide +kernel
theorem d_law_368 : decode code 368 = .ok (.istore 5, 2) := by decide +kernel
theorem d_law_370 : decode code 370 = .ok (.aload_n 2, 1) := by decide +kernel
theorem d_law_371 : decode code 371 = .ok (.aload_n 0, 1) := by decide +kernel
theorem d_law_372 : decode code 372 = .ok (.iload 4, 2) := by decide +kernel
theorem d_law_374 : decode code 374 = .ok (.iconst 1, 1) := by decide +kernel
theorem d_law_375 : decode code 375 = .ok (.iadd, 1) := by decide +kernel
theorem d_law_376 : decode code 376 = .ok (.iaload, 1) := by decide +kernel
theorem d_law_377 : decode code 377 = .ok (.invokevirtual 67, 3) := by decide +kernel
theorem d_law_380 : decode code 380 = .ok (.istore 6, 2) := by decide +kernel
theorem d_law_382 : decode code 382 = .ok (.aload_n 2, 1) := by decide +kernel
theorem d_law_383 : decode code 383 = .ok (.invokevirtual 43, 3) := by decide +kernel
theorem d_law_386 : decode code 386 = .ok (.iload 5, 2) := by decide +kernel
theorem d_law_388 : decode code 388 = .ok (.if_icmp .eq 5, 3) := by decide +kernel
theorem d_law_391 : decode code 391 = .ok (.iconst 0, 1) := by decide +kernel
theorem d_law_392 : decode code 392 = .ok (.ireturn, 1) := by decide +kernel
theorem d_law_393 : decode code 393 = .ok (.iload 5, 2) := by decide +kernel
theorem d_law_395 : decode code 395 = .ok (.ifCond .ne 15, 3) := by decide +kernel
theorem d_law_398 : decode code 398 = .ok (.aload_n 3, 1) := by decide +kernel
theorem d_law_399 : decode code 399 = .ok (.iconst 0, 1) := by decide +kernel
theorem d_law_400 : decode code 400 = .ok (.laload, 1) := by decide +kernel
theorem d_law_401 : decode code 401 = .ok (.iload 6, 2) := by decide +kernel
theorem d_law_403 : decode code 403 = .ok (.i2l, 1) := by decide +kernel
theorem d_law_404 : decode code 404 = .ok (.lcmp, 1) := by decide +kernel
theorem d_law_405 : decode code 405 = .ok (.ifCond .eq 5, 3) := by decide +kernel
theorem d_law_408 : decode code 408 = .ok (.iconst 0, 1) := by decide +kernel
theorem d_law_409 : decode code 409 = .ok (.ireturn, 1) := by decide +kernel
theorem d_law_410 : decode code 410 = .ok (.goto 28, 3) := by decide +kernel
theorem d_law_413 : decode code 413 = .ok (.aload_n 1, 1) := by decide +kernel
theorem d_law_414 : decode code 414 = .ok (.aload_n 0, 1) := by decide +kernel
theorem d_law_415 : decode code 415 = .ok (.iload 4, 2) := by decide +kernel
theorem d_law_417 : decode code 417 = .ok (.iconst 1, 1) := by decide +kernel
theorem d_law_418 : decode code 418 = .ok (.iadd, 1) := by decide +kernel
theorem d_law_419 : decode code 419 = .ok (.iaload, 1) := by decide +kernel
theorem d_law_420 : decode code 420 = .ok (.invokevirtual 68, 3) := by decide +kernel
theorem d_law_423 : decode code 423 = .ok (.aload_n 2, 1) := by decide +kernel
theorem d_law_424 : decode code 424 = .ok (.aload_n 0, 1) := by decide +kernel
theorem d_law_425 : decode code 425 = .ok (.iload 4, 2) := by decide +kernel
theorem d_law_427 : decode code 427 = .ok (.iconst 1, 1) := by decide +kernel
theorem d_law_428 : decode code 428 = .ok (.iadd, 1) := by decide +kernel
theorem d_law_429 : decode code 429 = .ok (.iaload, 1) := by decide +kernel
theorem d_law_430 : decode code 430 = .ok (.invokevirtual 71, 3) := by decide +kernel
theorem d_law_433 : decode code 433 = .ok (.if_icmp .eq 5, 3) := by decide +kernel
theorem d_law_436 : decode code 436 = .ok (.iconst 0, 1) := by decide +kernel
theorem d_law_437 : decode code 437 = .ok (.ireturn, 1) := by decide +kernel
theorem d_law_438 : decode code 438 = .ok (.iinc 4 3, 3) := by decide +kernel
theorem d_law_441 : decode code 441 = .ok (.goto (-418), 3) := by decide +kernel
theorem d_law_444 : decode code 444 = .ok (.iconst 1, 1) := by decide +kernel
theorem d_law_445 : decode code 445 = .ok (.ireturn, 1) := by decide +kernel
set_option maxHeartbeats 4000000 in
set_option maxRecDepth 100000 in
theorem lw_case_put {p : Program} {l : Launch} {e : Env} {s : State} {m : MethodId} {below : List Frame} {meth : Method} {c : Code} {b L : Nat} {xs : Nat → Int32} {dC : Nat → ClassId} {dI : Nat → Nat → Nat} {cA cZ cL : ClassId} {sa : Nat → Nat} {tp : Nat} {am ad : Nat → Nat} {ao i : Nat} {M : ZMS} {S : ZNS} {g : Nat → Int64} {ls : Array Slot} {H : Heap} {locs : List Loc} (F : lw_F p l s m meth c b L xs dC dI cA cZ cL sa tp) (hi : 3 * i + 3 ≤ L) (hl : lv_has ls 7 (lw_ls b am ad ao i)) (hP : va_P (dC, dI) classes (lw_W cA cZ cL am ad ao M S g) H) (hD : va_D (lw_A s) (lw_W cA cZ cL am ad ao M S g)) (hS : va_S (lw_A s) s.heap H locs) (hz : k_z (5001 * i) M S) (hnx : lw_nx p l e s m below meth c b dC dI cA cZ cL am ao i) : W p l e room_1 s m #[Value.ref b] below meth c H locs (43 + i) (10088 + 6 * i) (lw_Z below #[Value.ref b] s) (F0 m 84 ls []) := by
  obtain ⟨⟨hx, hb, hr, hml, hown, hlocks⟩, hts, ⟨hX, hbl, hL⟩, hK, hl0, hE, hT⟩ := F
  obtain ⟨i0, i1, i2⟩ := lw_i1 hi hL
  have hA : ∀ q, s.heap.size ≤ q → lw_A s q := fun q h => h
  have hbA : ¬ lw_A s b := fun q => absurd hbl (Nat.not_lt.mpr q)
  have hK1 : va_K (dC, dI) classes [(cA, .int)] s := hK.sub [0] rfl
  have hK2 : va_K (dC, dI) classes [(cA, .int), (cL, .long)] s := hK.sub [0, 2] rfl
  have hK3 : va_K (dC, dI) classes [(cA, .int), (cZ, .boolean)] s := hK.sub [0, 1] rfl
  refine lv_aload_n hx hb d_law_84 rfl (lv_at hl 1 rfl) ?_
  refine lv_aload_n hx hb d_law_85 rfl (lv_at hl 0 rfl) ?_
  refine lv_iload hx hb d_law_86 (lv_at hl 4 rfl) ?_
  refine lv_iconst (v := 1) hx hb d_law_88 (by decide) ?_
  refine lv_iadd hx hb d_law_89 ?_
  refine va_sld hx hb hX hbl hbA hS i1 d_law_90 ?_
  refine lv_aload_n hx hb d_law_91 rfl (lv_at hl 0 rfl) ?_
  refine lv_iload hx hb d_law_92 (lv_at hl 4 rfl) ?_
  refine lv_iconst (v := 2) hx hb d_law_94 (by decide) ?_
  refine lv_iadd hx hb d_law_95 ?_
  refine va_sld hx hb hX hbl hbA hS i2 d_law_96 ?_
  refine lv_aload_n hx hb d_law_97 rfl (lv_at hl 3 rfl) ?_
  have hal := al_put (s := xs (nI (3 * i) + 1).toNatClampNeg) (x := xs (nI (3 * i) + 2).toNatClampNeg) hz
  refine lx_si (As := [.ref (ad 0), .int (xs (nI (3 * i) + 1).toNatClampNeg), .int (xs (nI (3 * i) + 2).toNatClampNeg), .ref ao]) (rest := []) (wr := mr_W cA cZ am S) ⟨hx, hb, hml, hown, hts⟩ hK2 hP hD hS hA [16, 17, 18, 19, 20, 21, 22, 23, 24, 25, 26, 27, 28, 29, 30, 31, 32, 33, 34, 35, 36, 37, 38, 39, 40, 41, 42] [0, 1, 2, 3, 4, 5, 6, 7, 8, 9, 10, 11, 12, 13, 14, 15] rfl rfl (by decide) (by decide) (by decide) (h_Law_put l hl0 dC dI cA cL sa ad ao _ M g S (5001 * i) (xs (nI (3 * i) + 1).toNatClampNeg) (xs (nI (3 * i) + 2).toNatClampNeg) hz (by omega)) (vx_cwSW 4 hts (lx_gLS m_6_3 m_6_4 m_0_0 cw_Law_put_in (by decide +kernel)) rfl rfl rfl (by decide +kernel) ⟨Nat.le_of_ble_eq_true rfl, Nat.le_of_ble_eq_true rfl⟩) lx_E_bl (lx_E_use hE hS (va_free (wc := lh_W cA cL ad ao (M, g)) hD hS hA [16, 17, 18, 19, 20, 21, 22, 23, 24, 25, 26, 27, 28, 29, 30, 31, 32, 33, 34, 35, 36, 37, 38, 39, 40, 41, 42] rfl)) hl.1 rfl rfl (Nat.le_of_ble_eq_true rfl) d_law_98 ⟨by show 43 + i + 1 ≤ 1076; omega, by show 10088 + 6 * i + 6 ≤ 18334; omega⟩ (fun r5 u5 H locs w5 hP hD hS => ?_)
  obtain ⟨e5, f5⟩ := w5
  refine lv_istore (lv' := [(5, .int r5), (0, .ref b), (1, .ref (ad 0)), (2, .ref (am 0)), (3, .ref ao), (4, .int (nI (3 * i)))]) hx hb d_law_101 hl (by decide) rfl (fun ls hl => ?_)
  refine lv_aload_n hx hb d_law_103 rfl (lv_at hl 3 rfl) ?_
  refine lv_aload_n hx hb d_law_104 rfl (lv_at hl 1 rfl) ?_
  refine lv_iload hx hb d_law_105 (lv_at hl 5 rfl) ?_
  refine lv_iconst (v := 1) hx hb d_law_107 (by decide) ?_
  refine lv_iadd hx hb d_law_108 ?_
  refine va_sld hx hb hX hbl hbA hS i1 d_law_109 ?_
  refine lv_aload_n hx hb d_law_110 rfl (lv_at hl 1 rfl) ?_
  refine lv_iload hx hb d_law_111 (lv_at hl 5 rfl) ?_
  refine lv_iconst (v := 2) hx hb d_law_113 (by decide) ?_
  refine lv_iadd hx hb d_law_114 ?_
  refine va_sld hx hb hX hbl hbA hS i2 d_law_115 ?_
  refine lm_vi (b := am 0) (As := [.int (xs (nI (3 * i) + 1).toNatClampNeg), .int (xs (nI (3 * i) + 2).toNatClampNeg)]) (rest := []) (wr := lh_W cA cL ad ao u5) ⟨hx, hb, hml, hown, hts⟩ hK3 hP hD hS hA [0, 1, 2, 3, 4, 5, 6, 7, 8, 9, 10, 11, 12, 13, 14, 15] [16, 17, 18, 19, 20, 21, 22, 23, 24, 25, 26, 27, 28, 29, 30, 31, 32, 33, 34, 35, 36, 37, 38, 39, 40, 41, 42] rfl rfl (by decide) (by decide) (by decide) (c_Model_put l dC dI cA cZ am _ S (xs (nI (3 * i) + 1).toNatClampNeg) (xs (nI (3 * i) + 2).toNatClampNeg) (k_z_X hz).2.2) (cwV 2 hts (lx_gLV m_15_4 m_15_5 m_15_6 m_0_5 m_15_7) rfl rfl rfl (by decide +kernel) ⟨Nat.le_of_ble_eq_true rfl, Nat.le_of_ble_eq_true rfl⟩) (va_recv (q0 := 0) hK hP rfl rfl) lm_bl_no (fun _ _ _ => trivial) hl.1 rfl rfl (Nat.le_of_ble_eq_true rfl) d_law_116 ⟨by show 43 + i + 1 + 0 ≤ 1076; omega, by show 10088 + 6 * i + 6 + 0 ≤ 18334; omega⟩ (fun r6 u6 H locs w6 hP hD hS => ?_)
  obtain ⟨e6, f6⟩ := w6
  have hP : va_P (dC, dI) classes (lw_W cA cZ cL am ad ao u5.1 u6 u5.2) H := hP.sub [27, 28, 29, 30, 31, 32, 33, 34, 35, 36, 37, 38, 39, 40, 41, 42, 0, 1, 2, 3, 4, 5, 6, 7, 8, 9, 10, 11, 12, 13, 14, 15, 16, 17, 18, 19, 20, 21, 22, 23, 24, 25, 26] rfl
  have hD : va_D (lw_A s) (lw_W cA cZ cL am ad ao u5.1 u6 u5.2) := hD.sub [27, 28, 29, 30, 31, 32, 33, 34, 35, 36, 37, 38, 39, 40, 41, 42, 0, 1, 2, 3, 4, 5, 6, 7, 8, 9, 10, 11, 12, 13, 14, 15, 16, 17, 18, 19, 20, 21, 22, 23, 24, 25, 26] (by decide) rfl
  refine lv_istore (lv' := [(6, .int r6), (5, .int r5), (0, .ref b), (1, .ref (ad 0)), (2, .ref (am 0)), (3, .ref ao), (4, .int (nI (3 * i)))]) hx hb d_law_119 hl (by decide) rfl (fun ls hl => ?_)
  refine lv_aload_n hx hb d_law_121 rfl (lv_at hl 4 rfl) ?_
  refine lm_vi (b := am 0) (As := []) (rest := []) (wr := lh_W cA cL ad ao u5) ⟨hx, hb, hml, hown, hts⟩ hK3 hP hD hS hA [0, 1, 2, 3, 4, 5, 6, 7, 8, 9, 10, 11, 12, 13, 14, 15] [16, 17, 18, 19, 20, 21, 22, 23, 24, 25, 26, 27, 28, 29, 30, 31, 32, 33, 34, 35, 36, 37, 38, 39, 40, 41, 42] rfl rfl (by decide) (by decide) (by decide) (c_Model_thrown l dC dI cA cZ am _ u6  ) (cwV 0 hts (lx_gLV m_15_0 m_15_1 m_15_2 m_0_5 m_15_3) rfl rfl rfl (by decide +kernel) ⟨Nat.le_of_ble_eq_true rfl, Nat.le_of_ble_eq_true rfl⟩) (va_recv (q0 := 0) hK hP rfl rfl) lm_bl_no (fun _ _ _ => trivial) hl.1 rfl rfl (Nat.le_of_ble_eq_true rfl) d_law_122 ⟨by show 43 + i + 1 + 0 ≤ 1076; omega, by show 10088 + 6 * i + 6 + 0 ≤ 18334; omega⟩ (fun r7 u7 H locs w7 hP hD hS => ?_)
  obtain ⟨e7, f7⟩ := w7
  rw [f7] at hP hD
  have hP : va_P (dC, dI) classes (lw_W cA cZ cL am ad ao u5.1 u6 u5.2) H := hP.sub [27, 28, 29, 30, 31, 32, 33, 34, 35, 36, 37, 38, 39, 40, 41, 42, 0, 1, 2, 3, 4, 5, 6, 7, 8, 9, 10, 11, 12, 13, 14, 15, 16, 17, 18, 19, 20, 21, 22, 23, 24, 25, 26] rfl
  have hD : va_D (lw_A s) (lw_W cA cZ cL am ad ao u5.1 u6 u5.2) := hD.sub [27, 28, 29, 30, 31, 32, 33, 34, 35, 36, 37, 38, 39, 40, 41, 42, 0, 1, 2, 3, 4, 5, 6, 7, 8, 9, 10, 11, 12, 13, 14, 15, 16, 17, 18, 19, 20, 21, 22, 23, 24, 25, 26] (by decide) rfl
  refine lv_iload hx hb d_law_125 (lv_at hl 1 rfl) ?_
  refine lv_icmp_eq hx hb d_law_127 rfl (fun h9 => ?_) (fun h9 => absurd (by rw [e7, f6, e5]; exact hal.1) h9)
  have hkz : k_z (5001 * (i + 1)) u5.1 u6 := by rw [f5, f6, show 5001 * (i + 1) = 5001 * i + 5001 by omega]; exact hal.2.2
  refine lv_iload hx hb d_law_132 (lv_at hl 1 rfl) ?_
  refine lv_if_ne hx hb d_law_134 rfl (fun h8 => ?_) (fun h8 => ?_)
  · refine lv_goto hx hb d_law_149 rfl ?_
    refine W.widen (k := 43 + (i + 1)) (n := 10088 + 6 * (i + 1)) (by omega) (by omega) ?_
    exact hnx ad u5.1 u6 u5.2 _ _ _ (lv_sub hl [2, 3, 4, 5, 6] rfl) hP hD hS (by exact hkz)
  · refine lv_aload_n hx hb d_law_137 rfl (lv_at hl 5 rfl) ?_
    refine lv_iconst (v := 0) hx hb d_law_138 (by decide) ?_
    refine va_lald (cA := cL) (n := 1) (f := u5.2) hx hb hK hP 16 2 rfl rfl (vp_in_nI (n := 0) (by decide) (by decide)) d_law_139 ?_
    refine lv_iload hx hb d_law_140 (lv_at hl 0 rfl) ?_
    refine lv_i2l hx hb d_law_142 rfl ?_
    have h0 : (hl_put M (xs (nI (3 * i) + 1).toNatClampNeg) (xs (nI (3 * i) + 2).toNatClampNeg)).1 = 0 := e5.symm.trans h8
    have hxy : u5.2 (0 : Int32).toNatClampNeg = r6.toInt64 := by rw [f5, e6, ← hal.2.1 h0]; exact lo_at h0
    refine lx_lcmp hx hb hxy d_law_143 ?_
    refine lv_if_eq hx hb d_law_144 rfl (fun h7 => ?_) (fun h7 => absurd rfl h7)
    refine lv_goto hx hb d_law_149 rfl ?_
    refine W.widen (k := 43 + (i + 1)) (n := 10088 + 6 * (i + 1)) (by omega) (by omega) ?_
    exact hnx ad u5.1 u6 u5.2 _ _ _ (lv_sub hl [2, 3, 4, 5, 6] rfl) hP hD hS (by exact hkz)
set_option maxHeartbeats 4000000 in
set_option maxRecDepth 100000 in
theorem lw_case_load {p : Program} {l : Launch} {e : Env} {s : State} {m : MethodId} {below : List Frame} {meth : Method} {c : Code} {b L : Nat} {xs : Nat → Int32} {dC : Nat → ClassId} {dI : Nat → Nat → Nat} {cA cZ cL : ClassId} {sa : Nat → Nat} {tp : Nat} {am ad : Nat → Nat} {ao i : Nat} {M : ZMS} {S : ZNS} {g : Nat → Int64} {ls : Array Slot} {H : Heap} {locs : List Loc} (F : lw_F p l s m meth c b L xs dC dI cA cZ cL sa tp) (hi : 3 * i + 3 ≤ L) (hl : lv_has ls 7 (lw_ls b am ad ao i)) (hP : va_P (dC, dI) classes (lw_W cA cZ cL am ad ao M S g) H) (hD : va_D (lw_A s) (lw_W cA cZ cL am ad ao M S g)) (hS : va_S (lw_A s) s.heap H locs) (hz : k_z (5001 * i) M S) (hnx : lw_nx p l e s m below meth c b dC dI cA cZ cL am ao i) : W p l e room_1 s m #[Value.ref b] below meth c H locs (43 + i) (10088 + 6 * i) (lw_Z below #[Value.ref b] s) (F0 m 152 ls []) := by
  obtain ⟨⟨hx, hb, hr, hml, hown, hlocks⟩, hts, ⟨hX, hbl, hL⟩, hK, hl0, hE, hT⟩ := F
  obtain ⟨i0, i1, i2⟩ := lw_i1 hi hL
  have hA : ∀ q, s.heap.size ≤ q → lw_A s q := fun q h => h
  have hbA : ¬ lw_A s b := fun q => absurd hbl (Nat.not_lt.mpr q)
  have hK1 : va_K (dC, dI) classes [(cA, .int)] s := hK.sub [0] rfl
  have hK2 : va_K (dC, dI) classes [(cA, .int), (cL, .long)] s := hK.sub [0, 2] rfl
  have hK3 : va_K (dC, dI) classes [(cA, .int), (cZ, .boolean)] s := hK.sub [0, 1] rfl
  have hal := z_load hz
  refine lv_aload_n hx hb d_law_152 rfl (lv_at hl 1 rfl) ?_
  refine lm_vi (b := ad 0) (As := []) (rest := []) (wr := mr_W cA cZ am S ++ lo_W cL ao g) ⟨hx, hb, hml, hown, hts⟩ hK1 hP hD hS hA [17, 18, 19, 20, 21, 22, 23, 24, 25, 26, 27, 28, 29, 30, 31, 32, 33, 34, 35, 36, 37, 38, 39, 40, 41, 42] [0, 1, 2, 3, 4, 5, 6, 7, 8, 9, 10, 11, 12, 13, 14, 15, 16] rfl rfl (by decide) (by decide) (by decide) (c_LazyMachine_load l dC dI cA tp ad _ M (k_z_X hz).1 (k_z_X hz).2.1) (cwV 0 hts (lx_gLV m_2_20 m_2_21 m_2_22 m_0_1 m_2_23) rfl rfl rfl (by decide +kernel) ⟨Nat.le_of_ble_eq_true rfl, Nat.le_of_ble_eq_true rfl⟩) (va_recv (q0 := 17) hK hP rfl rfl) tm_E_bl (tm_E_use hT hS (va_free (wc := lz_W cA ad M) hD hS hA [17, 18, 19, 20, 21, 22, 23, 24, 25, 26, 27, 28, 29, 30, 31, 32, 33, 34, 35, 36, 37, 38, 39, 40, 41, 42] rfl)) hl.1 rfl rfl (Nat.le_of_ble_eq_true rfl) d_law_153 ⟨by show 43 + i + 0 ≤ 1076; omega, by show 10088 + 6 * i + 0 ≤ 18334; omega⟩ (fun r5 u5 H locs w5 hP hD hS => ?_)
  obtain ⟨e5, f5⟩ := w5
  have hP : va_P (dC, dI) classes (lw_W cA cZ cL am (lm_sw ad) ao u5 S g) H := hP
  have hD : va_D (lw_A s) (lw_W cA cZ cL am (lm_sw ad) ao u5 S g) := hD
  refine lv_aload_n hx hb d_law_156 rfl (lv_at hl 2 rfl) ?_
  refine lm_vi (b := am 0) (As := []) (rest := [.int r5]) (wr := lh_W cA cL (lm_sw ad) ao (u5, g)) ⟨hx, hb, hml, hown, hts⟩ hK3 hP hD hS hA [0, 1, 2, 3, 4, 5, 6, 7, 8, 9, 10, 11, 12, 13, 14, 15] [16, 17, 18, 19, 20, 21, 22, 23, 24, 25, 26, 27, 28, 29, 30, 31, 32, 33, 34, 35, 36, 37, 38, 39, 40, 41, 42] rfl rfl (by decide) (by decide) (by decide) (c_Model_load l dC dI cA cZ am _ S  (k_z_X hz).2.2) (cwV 0 hts (lx_gLV m_15_11 m_15_12 m_15_13 m_0_5 m_15_14) rfl rfl rfl (by decide +kernel) ⟨Nat.le_of_ble_eq_true rfl, Nat.le_of_ble_eq_true rfl⟩) (va_recv (q0 := 0) hK hP rfl rfl) lm_bl_no (fun _ _ _ => trivial) hl.1 rfl rfl (Nat.le_of_ble_eq_true rfl) d_law_157 ⟨by show 43 + i + 0 ≤ 1076; omega, by show 10088 + 6 * i + 0 ≤ 18334; omega⟩ (fun r6 u6 H locs w6 hP hD hS => ?_)
  obtain ⟨e6, f6⟩ := w6
  have hP : va_P (dC, dI) classes (lw_W cA cZ cL am (lm_sw ad) ao u5 u6 g) H := hP.sub [27, 28, 29, 30, 31, 32, 33, 34, 35, 36, 37, 38, 39, 40, 41, 42, 0, 1, 2, 3, 4, 5, 6, 7, 8, 9, 10, 11, 12, 13, 14, 15, 16, 17, 18, 19, 20, 21, 22, 23, 24, 25, 26] rfl
  have hD : va_D (lw_A s) (lw_W cA cZ cL am (lm_sw ad) ao u5 u6 g) := hD.sub [27, 28, 29, 30, 31, 32, 33, 34, 35, 36, 37, 38, 39, 40, 41, 42, 0, 1, 2, 3, 4, 5, 6, 7, 8, 9, 10, 11, 12, 13, 14, 15, 16, 17, 18, 19, 20, 21, 22, 23, 24, 25, 26] (by decide) rfl
  refine lv_icmp_eq hx hb d_law_160 rfl (fun h9 => ?_) (fun h9 => absurd (by rw [e5, e6]; exact hal.1) h9)
  refine W.widen (k := 43 + (i + 1)) (n := 10088 + 6 * (i + 1)) (by omega) (by omega) ?_
  exact hnx (lm_sw ad) u5 u6 g _ _ _ (lv_sub hl [0, 1, 2, 3, 4] rfl) hP hD hS (by rw [f5, f6]; exact k_z_le hal.2 (by omega))
set_option maxHeartbeats 4000000 in
set_option maxRecDepth 100000 in
theorem lw_case_restart {p : Program} {l : Launch} {e : Env} {s : State} {m : MethodId} {below : List Frame} {meth : Method} {c : Code} {b L : Nat} {xs : Nat → Int32} {dC : Nat → ClassId} {dI : Nat → Nat → Nat} {cA cZ cL : ClassId} {sa : Nat → Nat} {tp : Nat} {am ad : Nat → Nat} {ao i : Nat} {M : ZMS} {S : ZNS} {g : Nat → Int64} {ls : Array Slot} {H : Heap} {locs : List Loc} (F : lw_F p l s m meth c b L xs dC dI cA cZ cL sa tp) (hi : 3 * i + 3 ≤ L) (hl : lv_has ls 7 (lw_ls b am ad ao i)) (hP : va_P (dC, dI) classes (lw_W cA cZ cL am ad ao M S g) H) (hD : va_D (lw_A s) (lw_W cA cZ cL am ad ao M S g)) (hS : va_S (lw_A s) s.heap H locs) (hz : k_z (5001 * i) M S) (hnx : lw_nx p l e s m below meth c b dC dI cA cZ cL am ao i) : W p l e room_1 s m #[Value.ref b] below meth c H locs (43 + i) (10088 + 6 * i) (lw_Z below #[Value.ref b] s) (F0 m 165 ls []) := by
  obtain ⟨⟨hx, hb, hr, hml, hown, hlocks⟩, hts, ⟨hX, hbl, hL⟩, hK, hl0, hE, hT⟩ := F
  obtain ⟨i0, i1, i2⟩ := lw_i1 hi hL
  have hA : ∀ q, s.heap.size ≤ q → lw_A s q := fun q h => h
  have hbA : ¬ lw_A s b := fun q => absurd hbl (Nat.not_lt.mpr q)
  have hK1 : va_K (dC, dI) classes [(cA, .int)] s := hK.sub [0] rfl
  have hK2 : va_K (dC, dI) classes [(cA, .int), (cL, .long)] s := hK.sub [0, 2] rfl
  have hK3 : va_K (dC, dI) classes [(cA, .int), (cZ, .boolean)] s := hK.sub [0, 1] rfl
  have hal := al_restart hz
  refine lv_aload_n hx hb d_law_165 rfl (lv_at hl 1 rfl) ?_
  refine lx_si (As := [.ref (ad 0)]) (rest := []) (wr := mr_W cA cZ am S ++ lo_W cL ao g) ⟨hx, hb, hml, hown, hts⟩ hK1 hP hD hS hA [17, 18, 19, 20, 21, 22, 23, 24, 25, 26, 27, 28, 29, 30, 31, 32, 33, 34, 35, 36, 37, 38, 39, 40, 41, 42] [0, 1, 2, 3, 4, 5, 6, 7, 8, 9, 10, 11, 12, 13, 14, 15, 16] rfl rfl (by decide) (by decide) (by decide) (h_Law_restart l hl0 dC dI cA sa ad _ M) (vx_cwSW 1 hts (lx_gLS m_6_19 m_6_20 m_0_0 cw_Law_restart_in (by decide +kernel)) rfl rfl rfl (by decide +kernel) ⟨Nat.le_of_ble_eq_true rfl, Nat.le_of_ble_eq_true rfl⟩) lx_E_bl (lx_E_use hE hS (va_free (wc := lz_W cA ad M) hD hS hA [17, 18, 19, 20, 21, 22, 23, 24, 25, 26, 27, 28, 29, 30, 31, 32, 33, 34, 35, 36, 37, 38, 39, 40, 41, 42] rfl)) hl.1 rfl rfl (Nat.le_of_ble_eq_true rfl) d_law_166 ⟨by show 43 + i + 1 ≤ 1076; omega, by show 10088 + 6 * i + 6 ≤ 18334; omega⟩ (fun r5 u5 H locs w5 hP hD hS => ?_)
  obtain ⟨e5, f5⟩ := w5
  have hP : va_P (dC, dI) classes (lw_W cA cZ cL am ad ao u5 S g) H := hP
  have hD : va_D (lw_A s) (lw_W cA cZ cL am ad ao u5 S g) := hD
  refine lv_istore (lv' := [(5, .int r5), (0, .ref b), (1, .ref (ad 0)), (2, .ref (am 0)), (3, .ref ao), (4, .int (nI (3 * i)))]) hx hb d_law_169 hl (by decide) rfl (fun ls hl => ?_)
  refine lv_aload_n hx hb d_law_171 rfl (lv_at hl 3 rfl) ?_
  refine lm_vv (b := am 0) (As := []) (rest := []) (wr := lh_W cA cL ad ao (u5, g)) ⟨hx, hb, hml, hown, hts⟩ hK3 hP hD hS hA [0, 1, 2, 3, 4, 5, 6, 7, 8, 9, 10, 11, 12, 13, 14, 15] [16, 17, 18, 19, 20, 21, 22, 23, 24, 25, 26, 27, 28, 29, 30, 31, 32, 33, 34, 35, 36, 37, 38, 39, 40, 41, 42] rfl rfl (by decide) (by decide) (by decide) (c_Model_restart l dC dI cA cZ am _ S  ) (cwV 0 hts (lx_gLV m_15_21 m_15_22 m_15_23 m_0_5 m_16_0) rfl rfl rfl (by decide +kernel) ⟨Nat.le_of_ble_eq_true rfl, Nat.le_of_ble_eq_true rfl⟩) (va_recv (q0 := 0) hK hP rfl rfl) lm_bl_no (fun _ _ _ => trivial) hl.1 rfl rfl (Nat.le_of_ble_eq_true rfl) d_law_172 ⟨by show 43 + i + 1 + 0 ≤ 1076; omega, by show 10088 + 6 * i + 6 + 0 ≤ 18334; omega⟩ (fun u6 H locs f6 hP hD hS => ?_)
  have hP : va_P (dC, dI) classes (lw_W cA cZ cL am ad ao u5 u6 g) H := hP.sub [27, 28, 29, 30, 31, 32, 33, 34, 35, 36, 37, 38, 39, 40, 41, 42, 0, 1, 2, 3, 4, 5, 6, 7, 8, 9, 10, 11, 12, 13, 14, 15, 16, 17, 18, 19, 20, 21, 22, 23, 24, 25, 26] rfl
  have hD : va_D (lw_A s) (lw_W cA cZ cL am ad ao u5 u6 g) := hD.sub [27, 28, 29, 30, 31, 32, 33, 34, 35, 36, 37, 38, 39, 40, 41, 42, 0, 1, 2, 3, 4, 5, 6, 7, 8, 9, 10, 11, 12, 13, 14, 15, 16, 17, 18, 19, 20, 21, 22, 23, 24, 25, 26] (by decide) rfl
  refine lv_aload_n hx hb d_law_175 rfl (lv_at hl 3 rfl) ?_
  refine lm_vi (b := am 0) (As := []) (rest := []) (wr := lh_W cA cL ad ao (u5, g)) ⟨hx, hb, hml, hown, hts⟩ hK3 hP hD hS hA [0, 1, 2, 3, 4, 5, 6, 7, 8, 9, 10, 11, 12, 13, 14, 15] [16, 17, 18, 19, 20, 21, 22, 23, 24, 25, 26, 27, 28, 29, 30, 31, 32, 33, 34, 35, 36, 37, 38, 39, 40, 41, 42] rfl rfl (by decide) (by decide) (by decide) (c_Model_thrown l dC dI cA cZ am _ u6  ) (cwV 0 hts (lx_gLV m_15_0 m_15_1 m_15_2 m_0_5 m_15_3) rfl rfl rfl (by decide +kernel) ⟨Nat.le_of_ble_eq_true rfl, Nat.le_of_ble_eq_true rfl⟩) (va_recv (q0 := 0) hK hP rfl rfl) lm_bl_no (fun _ _ _ => trivial) hl.1 rfl rfl (Nat.le_of_ble_eq_true rfl) d_law_176 ⟨by show 43 + i + 1 + 0 ≤ 1076; omega, by show 10088 + 6 * i + 6 + 0 ≤ 18334; omega⟩ (fun r7 u7 H locs w7 hP hD hS => ?_)
  obtain ⟨e7, f7⟩ := w7
  rw [f7] at hP hD
  have hP : va_P (dC, dI) classes (lw_W cA cZ cL am ad ao u5 u6 g) H := hP.sub [27, 28, 29, 30, 31, 32, 33, 34, 35, 36, 37, 38, 39, 40, 41, 42, 0, 1, 2, 3, 4, 5, 6, 7, 8, 9, 10, 11, 12, 13, 14, 15, 16, 17, 18, 19, 20, 21, 22, 23, 24, 25, 26] rfl
  have hD : va_D (lw_A s) (lw_W cA cZ cL am ad ao u5 u6 g) := hD.sub [27, 28, 29, 30, 31, 32, 33, 34, 35, 36, 37, 38, 39, 40, 41, 42, 0, 1, 2, 3, 4, 5, 6, 7, 8, 9, 10, 11, 12, 13, 14, 15, 16, 17, 18, 19, 20, 21, 22, 23, 24, 25, 26] (by decide) rfl
  refine lv_iload hx hb d_law_179 (lv_at hl 0 rfl) ?_
  refine lv_icmp_eq hx hb d_law_181 rfl (fun h9 => ?_) (fun h9 => absurd (by rw [e7, f6, e5]; exact hal.1) h9)
  refine lv_goto hx hb d_law_186 rfl ?_
  refine W.widen (k := 43 + (i + 1)) (n := 10088 + 6 * (i + 1)) (by omega) (by omega) ?_
  exact hnx ad u5 u6 g _ _ _ (lv_sub hl [1, 2, 3, 4, 5] rfl) hP hD hS (by rw [f5, f6, show 5001 * (i + 1) = 5001 * i + 5001 by omega]; exact hal.2)
set_option maxHeartbeats 4000000 in
set_option maxRecDepth 100000 in
theorem lw_case_run {p : Program} {l : Launch} {e : Env} {s : State} {m : MethodId} {below : List Frame} {meth : Method} {c : Code} {b L : Nat} {xs : Nat → Int32} {dC : Nat → ClassId} {dI : Nat → Nat → Nat} {cA cZ cL : ClassId} {sa : Nat → Nat} {tp : Nat} {am ad : Nat → Nat} {ao i : Nat} {M : ZMS} {S : ZNS} {g : Nat → Int64} {ls : Array Slot} {H : Heap} {locs : List Loc} (F : lw_F p l s m meth c b L xs dC dI cA cZ cL sa tp) (hi : 3 * i + 3 ≤ L) (hl : lv_has ls 7 (lw_ls b am ad ao i)) (hP : va_P (dC, dI) classes (lw_W cA cZ cL am ad ao M S g) H) (hD : va_D (lw_A s) (lw_W cA cZ cL am ad ao M S g)) (hS : va_S (lw_A s) s.heap H locs) (hz : k_z (5001 * i) M S) (hnx : lw_nx p l e s m below meth c b dC dI cA cZ cL am ao i) : W p l e room_1 s m #[Value.ref b] below meth c H locs (43 + i) (10088 + 6 * i) (lw_Z below #[Value.ref b] s) (F0 m 189 ls []) := by
  obtain ⟨⟨hx, hb, hr, hml, hown, hlocks⟩, hts, ⟨hX, hbl, hL⟩, hK, hl0, hE, hT⟩ := F
  obtain ⟨i0, i1, i2⟩ := lw_i1 hi hL
  have hA : ∀ q, s.heap.size ≤ q → lw_A s q := fun q h => h
  have hbA : ¬ lw_A s b := fun q => absurd hbl (Nat.not_lt.mpr q)
  have hK1 : va_K (dC, dI) classes [(cA, .int)] s := hK.sub [0] rfl
  have hK2 : va_K (dC, dI) classes [(cA, .int), (cL, .long)] s := hK.sub [0, 2] rfl
  have hK3 : va_K (dC, dI) classes [(cA, .int), (cZ, .boolean)] s := hK.sub [0, 1] rfl
  refine lv_aload_n hx hb d_law_189 rfl (lv_at hl 1 rfl) ?_
  refine lv_aload_n hx hb d_law_190 rfl (lv_at hl 0 rfl) ?_
  refine lv_iload hx hb d_law_191 (lv_at hl 4 rfl) ?_
  refine lv_iconst (v := 1) hx hb d_law_193 (by decide) ?_
  refine lv_iadd hx hb d_law_194 ?_
  refine va_sld hx hb hX hbl hbA hS i1 d_law_195 ?_
  refine lv_aload_n hx hb d_law_196 rfl (lv_at hl 3 rfl) ?_
  have hal := al_run (x := xs (nI (3 * i) + 1).toNatClampNeg) hz (by omega)
  refine lx_si (As := [.ref (ad 0), .int (xs (nI (3 * i) + 1).toNatClampNeg), .ref ao]) (rest := []) (wr := mr_W cA cZ am S) ⟨hx, hb, hml, hown, hts⟩ hK2 hP hD hS hA [16, 17, 18, 19, 20, 21, 22, 23, 24, 25, 26, 27, 28, 29, 30, 31, 32, 33, 34, 35, 36, 37, 38, 39, 40, 41, 42] [0, 1, 2, 3, 4, 5, 6, 7, 8, 9, 10, 11, 12, 13, 14, 15] rfl rfl (by decide) (by decide) (by decide) (h_Law_run l hl0 dC dI cA cL sa ad ao _ M g S (5001 * i) (xs (nI (3 * i) + 1).toNatClampNeg) hz (by omega)) (vx_cwSW 3 hts (lx_gLS m_7_3 m_7_4 m_0_0 cw_Law_run_in (by decide +kernel)) rfl rfl rfl (by decide +kernel) ⟨Nat.le_of_ble_eq_true rfl, Nat.le_of_ble_eq_true rfl⟩) lx_E_bl (lx_E_use hE hS (va_free (wc := lh_W cA cL ad ao (M, g)) hD hS hA [16, 17, 18, 19, 20, 21, 22, 23, 24, 25, 26, 27, 28, 29, 30, 31, 32, 33, 34, 35, 36, 37, 38, 39, 40, 41, 42] rfl)) hl.1 rfl rfl (Nat.le_of_ble_eq_true rfl) d_law_197 ⟨by show 43 + i + 1 ≤ 1076; omega, by show 10088 + 6 * i + 6 ≤ 18334; omega⟩ (fun r5 u5 H locs w5 hP hD hS => ?_)
  obtain ⟨e5, f5⟩ := w5
  refine lv_istore (lv' := [(5, .int r5), (0, .ref b), (1, .ref (ad 0)), (2, .ref (am 0)), (3, .ref ao), (4, .int (nI (3 * i)))]) hx hb d_law_200 hl (by decide) rfl (fun ls hl => ?_)
  refine lv_aload_n hx hb d_law_202 rfl (lv_at hl 3 rfl) ?_
  refine lv_aload_n hx hb d_law_203 rfl (lv_at hl 1 rfl) ?_
  refine lv_iload hx hb d_law_204 (lv_at hl 5 rfl) ?_
  refine lv_iconst (v := 1) hx hb d_law_206 (by decide) ?_
  refine lv_iadd hx hb d_law_207 ?_
  refine va_sld hx hb hX hbl hbA hS i1 d_law_208 ?_
  refine lm_vi (b := am 0) (As := [.int (xs (nI (3 * i) + 1).toNatClampNeg)]) (rest := []) (wr := lh_W cA cL ad ao u5) ⟨hx, hb, hml, hown, hts⟩ hK3 hP hD hS hA [0, 1, 2, 3, 4, 5, 6, 7, 8, 9, 10, 11, 12, 13, 14, 15] [16, 17, 18, 19, 20, 21, 22, 23, 24, 25, 26, 27, 28, 29, 30, 31, 32, 33, 34, 35, 36, 37, 38, 39, 40, 41, 42] rfl rfl (by decide) (by decide) (by decide) (c_Model_run l dC dI cA cZ am _ S (xs (nI (3 * i) + 1).toNatClampNeg) (by rcases (k_z_ss hz).2 with q | q | q | q | q | q | q <;> rw [q] <;> decide) (fun j N => ∃ T M1, k_x T (5001 * i + j) M1 N) (fun h0 _ _ => by obtain ⟨T, h9⟩ := k_z_x hz h0; exact ⟨T, M, h9⟩) (fun j N hj hJ hs => by obtain ⟨T, M1, h9⟩ := hJ; exact k_sr h9 (show 5001 * i + j + 1 < 2 ^ 31 by omega) hs) (fun j N hj hJ hs => by obtain ⟨T, M1, h9⟩ := hJ; exact ⟨T, _, k_step h9 (show 5001 * i + j + 1 < 2 ^ 31 by omega) (by obtain ⟨B, _, q, _⟩ := h9; exact q.trans hs)⟩)) (cwV 1 hts (lx_gLV m_16_1 m_16_2 m_16_3 m_0_5 m_16_4) rfl rfl rfl (by decide +kernel) ⟨Nat.le_of_ble_eq_true rfl, Nat.le_of_ble_eq_true rfl⟩) (va_recv (q0 := 0) hK hP rfl rfl) lm_bl_no (fun _ _ _ => trivial) hl.1 rfl rfl (Nat.le_of_ble_eq_true rfl) d_law_209 ⟨by show 43 + i + 1 + 0 ≤ 1076; omega, by show 10088 + 6 * i + 6 + 0 ≤ 18334; omega⟩ (fun r6 u6 H locs w6 hP hD hS => ?_)
  obtain ⟨e6, f6⟩ := w6
  have hP : va_P (dC, dI) classes (lw_W cA cZ cL am ad ao u5.1 u6 u5.2) H := hP.sub [27, 28, 29, 30, 31, 32, 33, 34, 35, 36, 37, 38, 39, 40, 41, 42, 0, 1, 2, 3, 4, 5, 6, 7, 8, 9, 10, 11, 12, 13, 14, 15, 16, 17, 18, 19, 20, 21, 22, 23, 24, 25, 26] rfl
  have hD : va_D (lw_A s) (lw_W cA cZ cL am ad ao u5.1 u6 u5.2) := hD.sub [27, 28, 29, 30, 31, 32, 33, 34, 35, 36, 37, 38, 39, 40, 41, 42, 0, 1, 2, 3, 4, 5, 6, 7, 8, 9, 10, 11, 12, 13, 14, 15, 16, 17, 18, 19, 20, 21, 22, 23, 24, 25, 26] (by decide) rfl
  refine lv_istore (lv' := [(6, .int r6), (5, .int r5), (0, .ref b), (1, .ref (ad 0)), (2, .ref (am 0)), (3, .ref ao), (4, .int (nI (3 * i)))]) hx hb d_law_212 hl (by decide) rfl (fun ls hl => ?_)
  refine lv_aload_n hx hb d_law_214 rfl (lv_at hl 4 rfl) ?_
  refine lm_vi (b := am 0) (As := []) (rest := []) (wr := lh_W cA cL ad ao u5) ⟨hx, hb, hml, hown, hts⟩ hK3 hP hD hS hA [0, 1, 2, 3, 4, 5, 6, 7, 8, 9, 10, 11, 12, 13, 14, 15] [16, 17, 18, 19, 20, 21, 22, 23, 24, 25, 26, 27, 28, 29, 30, 31, 32, 33, 34, 35, 36, 37, 38, 39, 40, 41, 42] rfl rfl (by decide) (by decide) (by decide) (c_Model_thrown l dC dI cA cZ am _ u6  ) (cwV 0 hts (lx_gLV m_15_0 m_15_1 m_15_2 m_0_5 m_15_3) rfl rfl rfl (by decide +kernel) ⟨Nat.le_of_ble_eq_true rfl, Nat.le_of_ble_eq_true rfl⟩) (va_recv (q0 := 0) hK hP rfl rfl) lm_bl_no (fun _ _ _ => trivial) hl.1 rfl rfl (Nat.le_of_ble_eq_true rfl) d_law_215 ⟨by show 43 + i + 1 + 0 ≤ 1076; omega, by show 10088 + 6 * i + 6 + 0 ≤ 18334; omega⟩ (fun r7 u7 H locs w7 hP hD hS => ?_)
  obtain ⟨e7, f7⟩ := w7
  rw [f7] at hP hD
  have hP : va_P (dC, dI) classes (lw_W cA cZ cL am ad ao u5.1 u6 u5.2) H := hP.sub [27, 28, 29, 30, 31, 32, 33, 34, 35, 36, 37, 38, 39, 40, 41, 42, 0, 1, 2, 3, 4, 5, 6, 7, 8, 9, 10, 11, 12, 13, 14, 15, 16, 17, 18, 19, 20, 21, 22, 23, 24, 25, 26] rfl
  have hD : va_D (lw_A s) (lw_W cA cZ cL am ad ao u5.1 u6 u5.2) := hD.sub [27, 28, 29, 30, 31, 32, 33, 34, 35, 36, 37, 38, 39, 40, 41, 42, 0, 1, 2, 3, 4, 5, 6, 7, 8, 9, 10, 11, 12, 13, 14, 15, 16, 17, 18, 19, 20, 21, 22, 23, 24, 25, 26] (by decide) rfl
  refine lv_iload hx hb d_law_218 (lv_at hl 1 rfl) ?_
  refine lv_icmp_eq hx hb d_law_220 rfl (fun h9 => ?_) (fun h9 => absurd (by rw [e7, f6, e5]; exact hal.1) h9)
  have hkz : k_z (5001 * (i + 1)) u5.1 u6 := by rw [f5, f6, show 5001 * (i + 1) = 5001 * i + 5001 by omega]; exact hal.2.2
  refine lv_iload hx hb d_law_225 (lv_at hl 1 rfl) ?_
  refine lv_if_ne hx hb d_law_227 rfl (fun h8 => ?_) (fun h8 => ?_)
  · refine lv_goto hx hb d_law_242 rfl ?_
    refine W.widen (k := 43 + (i + 1)) (n := 10088 + 6 * (i + 1)) (by omega) (by omega) ?_
    exact hnx ad u5.1 u6 u5.2 _ _ _ (lv_sub hl [2, 3, 4, 5, 6] rfl) hP hD hS (by exact hkz)
  · refine lv_aload_n hx hb d_law_230 rfl (lv_at hl 5 rfl) ?_
    refine lv_iconst (v := 0) hx hb d_law_231 (by decide) ?_
    refine va_lald (cA := cL) (n := 1) (f := u5.2) hx hb hK hP 16 2 rfl rfl (vp_in_nI (n := 0) (by decide) (by decide)) d_law_232 ?_
    refine lv_iload hx hb d_law_233 (lv_at hl 0 rfl) ?_
    refine lv_i2l hx hb d_law_235 rfl ?_
    have h0 : (hl_run M (xs (nI (3 * i) + 1).toNatClampNeg)).1 = 0 := e5.symm.trans h8
    have hxy : u5.2 (0 : Int32).toNatClampNeg = r6.toInt64 := by rw [f5, e6, ← hal.2.1 h0]; exact lo_at h0
    refine lx_lcmp hx hb hxy d_law_236 ?_
    refine lv_if_eq hx hb d_law_237 rfl (fun h7 => ?_) (fun h7 => absurd rfl h7)
    refine lv_goto hx hb d_law_242 rfl ?_
    refine W.widen (k := 43 + (i + 1)) (n := 10088 + 6 * (i + 1)) (by omega) (by omega) ?_
    exact hnx ad u5.1 u6 u5.2 _ _ _ (lv_sub hl [2, 3, 4, 5, 6] rfl) hP hD hS (by exact hkz)
set_option maxHeartbeats 4000000 in
set_option maxRecDepth 100000 in
theorem lw_case_result {p : Program} {l : Launch} {e : Env} {s : State} {m : MethodId} {below : List Frame} {meth : Method} {c : Code} {b L : Nat} {xs : Nat → Int32} {dC : Nat → ClassId} {dI : Nat → Nat → Nat} {cA cZ cL : ClassId} {sa : Nat → Nat} {tp : Nat} {am ad : Nat → Nat} {ao i : Nat} {M : ZMS} {S : ZNS} {g : Nat → Int64} {ls : Array Slot} {H : Heap} {locs : List Loc} (F : lw_F p l s m meth c b L xs dC dI cA cZ cL sa tp) (hi : 3 * i + 3 ≤ L) (hl : lv_has ls 7 (lw_ls b am ad ao i)) (hP : va_P (dC, dI) classes (lw_W cA cZ cL am ad ao M S g) H) (hD : va_D (lw_A s) (lw_W cA cZ cL am ad ao M S g)) (hS : va_S (lw_A s) s.heap H locs) (hz : k_z (5001 * i) M S) (hnx : lw_nx p l e s m below meth c b dC dI cA cZ cL am ao i) : W p l e room_1 s m #[Value.ref b] below meth c H locs (43 + i) (10088 + 6 * i) (lw_Z below #[Value.ref b] s) (F0 m 245 ls []) := by
  obtain ⟨⟨hx, hb, hr, hml, hown, hlocks⟩, hts, ⟨hX, hbl, hL⟩, hK, hl0, hE, hT⟩ := F
  obtain ⟨i0, i1, i2⟩ := lw_i1 hi hL
  have hA : ∀ q, s.heap.size ≤ q → lw_A s q := fun q h => h
  have hbA : ¬ lw_A s b := fun q => absurd hbl (Nat.not_lt.mpr q)
  have hK1 : va_K (dC, dI) classes [(cA, .int)] s := hK.sub [0] rfl
  have hK2 : va_K (dC, dI) classes [(cA, .int), (cL, .long)] s := hK.sub [0, 2] rfl
  have hK3 : va_K (dC, dI) classes [(cA, .int), (cZ, .boolean)] s := hK.sub [0, 1] rfl
  refine lv_aload_n hx hb d_law_245 rfl (lv_at hl 1 rfl) ?_
  refine lv_aload_n hx hb d_law_246 rfl (lv_at hl 0 rfl) ?_
  refine lv_iload hx hb d_law_247 (lv_at hl 4 rfl) ?_
  refine lv_iconst (v := 1) hx hb d_law_249 (by decide) ?_
  refine lv_iadd hx hb d_law_250 ?_
  refine va_sld hx hb hX hbl hbA hS i1 d_law_251 ?_
  refine lv_aload_n hx hb d_law_252 rfl (lv_at hl 3 rfl) ?_
  have hal := al_result (x := xs (nI (3 * i) + 1).toNatClampNeg) hz
  refine lx_si (As := [.ref (ad 0), .int (xs (nI (3 * i) + 1).toNatClampNeg), .ref ao]) (rest := []) (wr := mr_W cA cZ am S) ⟨hx, hb, hml, hown, hts⟩ hK2 hP hD hS hA [16, 17, 18, 19, 20, 21, 22, 23, 24, 25, 26, 27, 28, 29, 30, 31, 32, 33, 34, 35, 36, 37, 38, 39, 40, 41, 42] [0, 1, 2, 3, 4, 5, 6, 7, 8, 9, 10, 11, 12, 13, 14, 15] rfl rfl (by decide) (by decide) (by decide) (h_Law_result l hl0 dC dI cA cL sa ad ao _ M g S (5001 * i) (xs (nI (3 * i) + 1).toNatClampNeg) hz (by omega)) (vx_cwSW 3 hts (lx_gLS m_12_17 m_12_18 m_0_0 cw_Law_result_in (by decide +kernel)) rfl rfl rfl (by decide +kernel) ⟨Nat.le_of_ble_eq_true rfl, Nat.le_of_ble_eq_true rfl⟩) lx_E_bl (lx_E_use hE hS (va_free (wc := lh_W cA cL ad ao (M, g)) hD hS hA [16, 17, 18, 19, 20, 21, 22, 23, 24, 25, 26, 27, 28, 29, 30, 31, 32, 33, 34, 35, 36, 37, 38, 39, 40, 41, 42] rfl)) hl.1 rfl rfl (Nat.le_of_ble_eq_true rfl) d_law_253 ⟨by show 43 + i + 1 ≤ 1076; omega, by show 10088 + 6 * i + 6 ≤ 18334; omega⟩ (fun r5 u5 H locs w5 hP hD hS => ?_)
  obtain ⟨e5, f5⟩ := w5
  refine lv_istore (lv' := [(5, .int r5), (0, .ref b), (1, .ref (ad 0)), (2, .ref (am 0)), (3, .ref ao), (4, .int (nI (3 * i)))]) hx hb d_law_256 hl (by decide) rfl (fun ls hl => ?_)
  refine lv_aload_n hx hb d_law_258 rfl (lv_at hl 3 rfl) ?_
  refine lv_aload_n hx hb d_law_259 rfl (lv_at hl 1 rfl) ?_
  refine lv_iload hx hb d_law_260 (lv_at hl 5 rfl) ?_
  refine lv_iconst (v := 1) hx hb d_law_262 (by decide) ?_
  refine lv_iadd hx hb d_law_263 ?_
  refine va_sld hx hb hX hbl hbA hS i1 d_law_264 ?_
  refine lm_vi (b := am 0) (As := [.int (xs (nI (3 * i) + 1).toNatClampNeg)]) (rest := []) (wr := lh_W cA cL ad ao u5) ⟨hx, hb, hml, hown, hts⟩ hK3 hP hD hS hA [0, 1, 2, 3, 4, 5, 6, 7, 8, 9, 10, 11, 12, 13, 14, 15] [16, 17, 18, 19, 20, 21, 22, 23, 24, 25, 26, 27, 28, 29, 30, 31, 32, 33, 34, 35, 36, 37, 38, 39, 40, 41, 42] rfl rfl (by decide) (by decide) (by decide) (c_Model_result l dC dI cA cZ am _ S (xs (nI (3 * i) + 1).toNatClampNeg) ) (cwV 1 hts (lx_gLV m_18_11 m_18_12 m_18_13 m_0_5 m_18_14) rfl rfl rfl (by decide +kernel) ⟨Nat.le_of_ble_eq_true rfl, Nat.le_of_ble_eq_true rfl⟩) (va_recv (q0 := 0) hK hP rfl rfl) lm_bl_no (fun _ _ _ => trivial) hl.1 rfl rfl (Nat.le_of_ble_eq_true rfl) d_law_265 ⟨by show 43 + i + 1 + 0 ≤ 1076; omega, by show 10088 + 6 * i + 6 + 0 ≤ 18334; omega⟩ (fun r6 u6 H locs w6 hP hD hS => ?_)
  obtain ⟨e6, f6⟩ := w6
  have hP : va_P (dC, dI) classes (lw_W cA cZ cL am ad ao u5.1 u6 u5.2) H := hP.sub [27, 28, 29, 30, 31, 32, 33, 34, 35, 36, 37, 38, 39, 40, 41, 42, 0, 1, 2, 3, 4, 5, 6, 7, 8, 9, 10, 11, 12, 13, 14, 15, 16, 17, 18, 19, 20, 21, 22, 23, 24, 25, 26] rfl
  have hD : va_D (lw_A s) (lw_W cA cZ cL am ad ao u5.1 u6 u5.2) := hD.sub [27, 28, 29, 30, 31, 32, 33, 34, 35, 36, 37, 38, 39, 40, 41, 42, 0, 1, 2, 3, 4, 5, 6, 7, 8, 9, 10, 11, 12, 13, 14, 15, 16, 17, 18, 19, 20, 21, 22, 23, 24, 25, 26] (by decide) rfl
  refine lv_istore (lv' := [(6, .int r6), (5, .int r5), (0, .ref b), (1, .ref (ad 0)), (2, .ref (am 0)), (3, .ref ao), (4, .int (nI (3 * i)))]) hx hb d_law_268 hl (by decide) rfl (fun ls hl => ?_)
  refine lv_aload_n hx hb d_law_270 rfl (lv_at hl 4 rfl) ?_
  refine lm_vi (b := am 0) (As := []) (rest := []) (wr := lh_W cA cL ad ao u5) ⟨hx, hb, hml, hown, hts⟩ hK3 hP hD hS hA [0, 1, 2, 3, 4, 5, 6, 7, 8, 9, 10, 11, 12, 13, 14, 15] [16, 17, 18, 19, 20, 21, 22, 23, 24, 25, 26, 27, 28, 29, 30, 31, 32, 33, 34, 35, 36, 37, 38, 39, 40, 41, 42] rfl rfl (by decide) (by decide) (by decide) (c_Model_thrown l dC dI cA cZ am _ u6  ) (cwV 0 hts (lx_gLV m_15_0 m_15_1 m_15_2 m_0_5 m_15_3) rfl rfl rfl (by decide +kernel) ⟨Nat.le_of_ble_eq_true rfl, Nat.le_of_ble_eq_true rfl⟩) (va_recv (q0 := 0) hK hP rfl rfl) lm_bl_no (fun _ _ _ => trivial) hl.1 rfl rfl (Nat.le_of_ble_eq_true rfl) d_law_271 ⟨by show 43 + i + 1 + 0 ≤ 1076; omega, by show 10088 + 6 * i + 6 + 0 ≤ 18334; omega⟩ (fun r7 u7 H locs w7 hP hD hS => ?_)
  obtain ⟨e7, f7⟩ := w7
  rw [f7] at hP hD
  have hP : va_P (dC, dI) classes (lw_W cA cZ cL am ad ao u5.1 u6 u5.2) H := hP.sub [27, 28, 29, 30, 31, 32, 33, 34, 35, 36, 37, 38, 39, 40, 41, 42, 0, 1, 2, 3, 4, 5, 6, 7, 8, 9, 10, 11, 12, 13, 14, 15, 16, 17, 18, 19, 20, 21, 22, 23, 24, 25, 26] rfl
  have hD : va_D (lw_A s) (lw_W cA cZ cL am ad ao u5.1 u6 u5.2) := hD.sub [27, 28, 29, 30, 31, 32, 33, 34, 35, 36, 37, 38, 39, 40, 41, 42, 0, 1, 2, 3, 4, 5, 6, 7, 8, 9, 10, 11, 12, 13, 14, 15, 16, 17, 18, 19, 20, 21, 22, 23, 24, 25, 26] (by decide) rfl
  refine lv_iload hx hb d_law_274 (lv_at hl 1 rfl) ?_
  refine lv_icmp_eq hx hb d_law_276 rfl (fun h9 => ?_) (fun h9 => absurd (by rw [e7, f6, e5]; exact hal.1) h9)
  have hkz : k_z (5001 * (i + 1)) u5.1 u6 := by rw [f5, f6, show 5001 * (i + 1) = 5001 * i + 5001 by omega]; exact hal.2.2
  refine lv_iload hx hb d_law_281 (lv_at hl 1 rfl) ?_
  refine lv_if_ne hx hb d_law_283 rfl (fun h8 => ?_) (fun h8 => ?_)
  · refine lv_goto hx hb d_law_298 rfl ?_
    refine W.widen (k := 43 + (i + 1)) (n := 10088 + 6 * (i + 1)) (by omega) (by omega) ?_
    exact hnx ad u5.1 u6 u5.2 _ _ _ (lv_sub hl [2, 3, 4, 5, 6] rfl) hP hD hS (by exact hkz)
  · refine lv_aload_n hx hb d_law_286 rfl (lv_at hl 5 rfl) ?_
    refine lv_iconst (v := 0) hx hb d_law_287 (by decide) ?_
    refine va_lald (cA := cL) (n := 1) (f := u5.2) hx hb hK hP 16 2 rfl rfl (vp_in_nI (n := 0) (by decide) (by decide)) d_law_288 ?_
    refine lv_iload hx hb d_law_289 (lv_at hl 0 rfl) ?_
    refine lv_i2l hx hb d_law_291 rfl ?_
    have h0 : (hl_result M (xs (nI (3 * i) + 1).toNatClampNeg)).1 = 0 := e5.symm.trans h8
    have hxy : u5.2 (0 : Int32).toNatClampNeg = r6.toInt64 := by rw [f5, e6, ← hal.2.1 h0]; exact lo_at h0
    refine lx_lcmp hx hb hxy d_law_292 ?_
    refine lv_if_eq hx hb d_law_293 rfl (fun h7 => ?_) (fun h7 => absurd rfl h7)
    refine lv_goto hx hb d_law_298 rfl ?_
    refine W.widen (k := 43 + (i + 1)) (n := 10088 + 6 * (i + 1)) (by omega) (by omega) ?_
    exact hnx ad u5.1 u6 u5.2 _ _ _ (lv_sub hl [2, 3, 4, 5, 6] rfl) hP hD hS (by exact hkz)
set_option maxHeartbeats 4000000 in
set_option maxRecDepth 100000 in
theorem lw_case_into {p : Program} {l : Launch} {e : Env} {s : State} {m : MethodId} {below : List Frame} {meth : Method} {c : Code} {b L : Nat} {xs : Nat → Int32} {dC : Nat → ClassId} {dI : Nat → Nat → Nat} {cA cZ cL : ClassId} {sa : Nat → Nat} {tp : Nat} {am ad : Nat → Nat} {ao i : Nat} {M : ZMS} {S : ZNS} {g : Nat → Int64} {ls : Array Slot} {H : Heap} {locs : List Loc} (F : lw_F p l s m meth c b L xs dC dI cA cZ cL sa tp) (hi : 3 * i + 3 ≤ L) (hl : lv_has ls 7 (lw_ls b am ad ao i)) (hP : va_P (dC, dI) classes (lw_W cA cZ cL am ad ao M S g) H) (hD : va_D (lw_A s) (lw_W cA cZ cL am ad ao M S g)) (hS : va_S (lw_A s) s.heap H locs) (hz : k_z (5001 * i) M S) (hnx : lw_nx p l e s m below meth c b dC dI cA cZ cL am ao i) : W p l e room_1 s m #[Value.ref b] below meth c H locs (43 + i) (10088 + 6 * i) (lw_Z below #[Value.ref b] s) (F0 m 301 ls []) := by
  obtain ⟨⟨hx, hb, hr, hml, hown, hlocks⟩, hts, ⟨hX, hbl, hL⟩, hK, hl0, hE, hT⟩ := F
  obtain ⟨i0, i1, i2⟩ := lw_i1 hi hL
  have hA : ∀ q, s.heap.size ≤ q → lw_A s q := fun q h => h
  have hbA : ¬ lw_A s b := fun q => absurd hbl (Nat.not_lt.mpr q)
  have hK1 : va_K (dC, dI) classes [(cA, .int)] s := hK.sub [0] rfl
  have hK2 : va_K (dC, dI) classes [(cA, .int), (cL, .long)] s := hK.sub [0, 2] rfl
  have hK3 : va_K (dC, dI) classes [(cA, .int), (cZ, .boolean)] s := hK.sub [0, 1] rfl
  refine lv_aload_n hx hb d_law_301 rfl (lv_at hl 1 rfl) ?_
  refine lv_aload_n hx hb d_law_302 rfl (lv_at hl 0 rfl) ?_
  refine lv_iload hx hb d_law_303 (lv_at hl 4 rfl) ?_
  refine lv_iconst (v := 1) hx hb d_law_305 (by decide) ?_
  refine lv_iadd hx hb d_law_306 ?_
  refine va_sld hx hb hX hbl hbA hS i1 d_law_307 ?_
  refine lv_aload_n hx hb d_law_308 rfl (lv_at hl 3 rfl) ?_
  have hal := al_into (x := xs (nI (3 * i) + 1).toNatClampNeg) hz
  refine lx_si (As := [.ref (ad 0), .int (xs (nI (3 * i) + 1).toNatClampNeg), .ref ao]) (rest := []) (wr := mr_W cA cZ am S) ⟨hx, hb, hml, hown, hts⟩ hK2 hP hD hS hA [16, 17, 18, 19, 20, 21, 22, 23, 24, 25, 26, 27, 28, 29, 30, 31, 32, 33, 34, 35, 36, 37, 38, 39, 40, 41, 42] [0, 1, 2, 3, 4, 5, 6, 7, 8, 9, 10, 11, 12, 13, 14, 15] rfl rfl (by decide) (by decide) (by decide) (h_Law_into l hl0 dC dI cA cL sa ad ao _ M g S (5001 * i) (xs (nI (3 * i) + 1).toNatClampNeg) hz (by omega)) (vx_cwSW 3 hts (lx_gLS m_12_23 m_13_0 m_0_0 cw_Law_into_in (by decide +kernel)) rfl rfl rfl (by decide +kernel) ⟨Nat.le_of_ble_eq_true rfl, Nat.le_of_ble_eq_true rfl⟩) lx_E_bl (lx_E_use hE hS (va_free (wc := lh_W cA cL ad ao (M, g)) hD hS hA [16, 17, 18, 19, 20, 21, 22, 23, 24, 25, 26, 27, 28, 29, 30, 31, 32, 33, 34, 35, 36, 37, 38, 39, 40, 41, 42] rfl)) hl.1 rfl rfl (Nat.le_of_ble_eq_true rfl) d_law_309 ⟨by show 43 + i + 1 ≤ 1076; omega, by show 10088 + 6 * i + 6 ≤ 18334; omega⟩ (fun r5 u5 H locs w5 hP hD hS => ?_)
  obtain ⟨e5, f5⟩ := w5
  refine lv_istore (lv' := [(5, .int r5), (0, .ref b), (1, .ref (ad 0)), (2, .ref (am 0)), (3, .ref ao), (4, .int (nI (3 * i)))]) hx hb d_law_312 hl (by decide) rfl (fun ls hl => ?_)
  refine lv_aload_n hx hb d_law_314 rfl (lv_at hl 3 rfl) ?_
  refine lv_aload_n hx hb d_law_315 rfl (lv_at hl 1 rfl) ?_
  refine lv_iload hx hb d_law_316 (lv_at hl 5 rfl) ?_
  refine lv_iconst (v := 1) hx hb d_law_318 (by decide) ?_
  refine lv_iadd hx hb d_law_319 ?_
  refine va_sld hx hb hX hbl hbA hS i1 d_law_320 ?_
  refine lm_vi (b := am 0) (As := [.int (xs (nI (3 * i) + 1).toNatClampNeg)]) (rest := []) (wr := lh_W cA cL ad ao u5) ⟨hx, hb, hml, hown, hts⟩ hK3 hP hD hS hA [0, 1, 2, 3, 4, 5, 6, 7, 8, 9, 10, 11, 12, 13, 14, 15] [16, 17, 18, 19, 20, 21, 22, 23, 24, 25, 26, 27, 28, 29, 30, 31, 32, 33, 34, 35, 36, 37, 38, 39, 40, 41, 42] rfl rfl (by decide) (by decide) (by decide) (c_Model_into l dC dI cA cZ am _ S (xs (nI (3 * i) + 1).toNatClampNeg) (fun q1 q2 => (k_z_pair hz q1 q2).2)) (cwV 1 hts (lx_gLV m_18_15 m_18_16 m_18_17 m_0_5 m_18_18) rfl rfl rfl (by decide +kernel) ⟨Nat.le_of_ble_eq_true rfl, Nat.le_of_ble_eq_true rfl⟩) (va_recv (q0 := 0) hK hP rfl rfl) lm_bl_no (fun _ _ _ => trivial) hl.1 rfl rfl (Nat.le_of_ble_eq_true rfl) d_law_321 ⟨by show 43 + i + 1 + 0 ≤ 1076; omega, by show 10088 + 6 * i + 6 + 0 ≤ 18334; omega⟩ (fun r6 u6 H locs w6 hP hD hS => ?_)
  obtain ⟨e6, f6⟩ := w6
  have hP : va_P (dC, dI) classes (lw_W cA cZ cL am ad ao u5.1 u6 u5.2) H := hP.sub [27, 28, 29, 30, 31, 32, 33, 34, 35, 36, 37, 38, 39, 40, 41, 42, 0, 1, 2, 3, 4, 5, 6, 7, 8, 9, 10, 11, 12, 13, 14, 15, 16, 17, 18, 19, 20, 21, 22, 23, 24, 25, 26] rfl
  have hD : va_D (lw_A s) (lw_W cA cZ cL am ad ao u5.1 u6 u5.2) := hD.sub [27, 28, 29, 30, 31, 32, 33, 34, 35, 36, 37, 38, 39, 40, 41, 42, 0, 1, 2, 3, 4, 5, 6, 7, 8, 9, 10, 11, 12, 13, 14, 15, 16, 17, 18, 19, 20, 21, 22, 23, 24, 25, 26] (by decide) rfl
  refine lv_istore (lv' := [(6, .int r6), (5, .int r5), (0, .ref b), (1, .ref (ad 0)), (2, .ref (am 0)), (3, .ref ao), (4, .int (nI (3 * i)))]) hx hb d_law_324 hl (by decide) rfl (fun ls hl => ?_)
  refine lv_aload_n hx hb d_law_326 rfl (lv_at hl 4 rfl) ?_
  refine lm_vi (b := am 0) (As := []) (rest := []) (wr := lh_W cA cL ad ao u5) ⟨hx, hb, hml, hown, hts⟩ hK3 hP hD hS hA [0, 1, 2, 3, 4, 5, 6, 7, 8, 9, 10, 11, 12, 13, 14, 15] [16, 17, 18, 19, 20, 21, 22, 23, 24, 25, 26, 27, 28, 29, 30, 31, 32, 33, 34, 35, 36, 37, 38, 39, 40, 41, 42] rfl rfl (by decide) (by decide) (by decide) (c_Model_thrown l dC dI cA cZ am _ u6  ) (cwV 0 hts (lx_gLV m_15_0 m_15_1 m_15_2 m_0_5 m_15_3) rfl rfl rfl (by decide +kernel) ⟨Nat.le_of_ble_eq_true rfl, Nat.le_of_ble_eq_true rfl⟩) (va_recv (q0 := 0) hK hP rfl rfl) lm_bl_no (fun _ _ _ => trivial) hl.1 rfl rfl (Nat.le_of_ble_eq_true rfl) d_law_327 ⟨by show 43 + i + 1 + 0 ≤ 1076; omega, by show 10088 + 6 * i + 6 + 0 ≤ 18334; omega⟩ (fun r7 u7 H locs w7 hP hD hS => ?_)
  obtain ⟨e7, f7⟩ := w7
  rw [f7] at hP hD
  have hP : va_P (dC, dI) classes (lw_W cA cZ cL am ad ao u5.1 u6 u5.2) H := hP.sub [27, 28, 29, 30, 31, 32, 33, 34, 35, 36, 37, 38, 39, 40, 41, 42, 0, 1, 2, 3, 4, 5, 6, 7, 8, 9, 10, 11, 12, 13, 14, 15, 16, 17, 18, 19, 20, 21, 22, 23, 24, 25, 26] rfl
  have hD : va_D (lw_A s) (lw_W cA cZ cL am ad ao u5.1 u6 u5.2) := hD.sub [27, 28, 29, 30, 31, 32, 33, 34, 35, 36, 37, 38, 39, 40, 41, 42, 0, 1, 2, 3, 4, 5, 6, 7, 8, 9, 10, 11, 12, 13, 14, 15, 16, 17, 18, 19, 20, 21, 22, 23, 24, 25, 26] (by decide) rfl
  refine lv_iload hx hb d_law_330 (lv_at hl 1 rfl) ?_
  refine lv_icmp_eq hx hb d_law_332 rfl (fun h9 => ?_) (fun h9 => absurd (by rw [e7, f6, e5]; exact hal.1) h9)
  have hkz : k_z (5001 * (i + 1)) u5.1 u6 := by rw [f5, f6, show 5001 * (i + 1) = 5001 * i + 5001 by omega]; exact hal.2.2
  refine lv_iload hx hb d_law_337 (lv_at hl 1 rfl) ?_
  refine lv_if_ne hx hb d_law_339 rfl (fun h8 => ?_) (fun h8 => ?_)
  · refine lv_goto hx hb d_law_354 rfl ?_
    refine W.widen (k := 43 + (i + 1)) (n := 10088 + 6 * (i + 1)) (by omega) (by omega) ?_
    exact hnx ad u5.1 u6 u5.2 _ _ _ (lv_sub hl [2, 3, 4, 5, 6] rfl) hP hD hS (by exact hkz)
  · refine lv_aload_n hx hb d_law_342 rfl (lv_at hl 5 rfl) ?_
    refine lv_iconst (v := 0) hx hb d_law_343 (by decide) ?_
    refine va_lald (cA := cL) (n := 1) (f := u5.2) hx hb hK hP 16 2 rfl rfl (vp_in_nI (n := 0) (by decide) (by decide)) d_law_344 ?_
    refine lv_iload hx hb d_law_345 (lv_at hl 0 rfl) ?_
    refine lv_i2l hx hb d_law_347 rfl ?_
    have h0 : (hl_into M (xs (nI (3 * i) + 1).toNatClampNeg)).1 = 0 := e5.symm.trans h8
    have hxy : u5.2 (0 : Int32).toNatClampNeg = r6.toInt64 := by rw [f5, e6, ← hal.2.1 h0]; exact lo_at h0
    refine lx_lcmp hx hb hxy d_law_348 ?_
    refine lv_if_eq hx hb d_law_349 rfl (fun h7 => ?_) (fun h7 => absurd rfl h7)
    refine lv_goto hx hb d_law_354 rfl ?_
    refine W.widen (k := 43 + (i + 1)) (n := 10088 + 6 * (i + 1)) (by omega) (by omega) ?_
    exact hnx ad u5.1 u6 u5.2 _ _ _ (lv_sub hl [2, 3, 4, 5, 6] rfl) hP hD hS (by exact hkz)
set_option maxHeartbeats 4000000 in
set_option maxRecDepth 100000 in
theorem lw_case_apply {p : Program} {l : Launch} {e : Env} {s : State} {m : MethodId} {below : List Frame} {meth : Method} {c : Code} {b L : Nat} {xs : Nat → Int32} {dC : Nat → ClassId} {dI : Nat → Nat → Nat} {cA cZ cL : ClassId} {sa : Nat → Nat} {tp : Nat} {am ad : Nat → Nat} {ao i : Nat} {M : ZMS} {S : ZNS} {g : Nat → Int64} {ls : Array Slot} {H : Heap} {locs : List Loc} (F : lw_F p l s m meth c b L xs dC dI cA cZ cL sa tp) (hi : 3 * i + 3 ≤ L) (hl : lv_has ls 7 (lw_ls b am ad ao i)) (hP : va_P (dC, dI) classes (lw_W cA cZ cL am ad ao M S g) H) (hD : va_D (lw_A s) (lw_W cA cZ cL am ad ao M S g)) (hS : va_S (lw_A s) s.heap H locs) (hz : k_z (5001 * i) M S) (hnx : lw_nx p l e s m below meth c b dC dI cA cZ cL am ao i) : W p l e room_1 s m #[Value.ref b] below meth c H locs (43 + i) (10088 + 6 * i) (lw_Z below #[Value.ref b] s) (F0 m 357 ls []) := by
  obtain ⟨⟨hx, hb, hr, hml, hown, hlocks⟩, hts, ⟨hX, hbl, hL⟩, hK, hl0, hE, hT⟩ := F
  obtain ⟨i0, i1, i2⟩ := lw_i1 hi hL
  have hA : ∀ q, s.heap.size ≤ q → lw_A s q := fun q h => h
  have hbA : ¬ lw_A s b := fun q => absurd hbl (Nat.not_lt.mpr q)
  have hK1 : va_K (dC, dI) classes [(cA, .int)] s := hK.sub [0] rfl
  have hK2 : va_K (dC, dI) classes [(cA, .int), (cL, .long)] s := hK.sub [0, 2] rfl
  have hK3 : va_K (dC, dI) classes [(cA, .int), (cZ, .boolean)] s := hK.sub [0, 1] rfl
  refine lv_aload_n hx hb d_law_357 rfl (lv_at hl 1 rfl) ?_
  refine lv_aload_n hx hb d_law_358 rfl (lv_at hl 0 rfl) ?_
  refine lv_iload hx hb d_law_359 (lv_at hl 4 rfl) ?_
  refine lv_iconst (v := 1) hx hb d_law_361 (by decide) ?_
  refine lv_iadd hx hb d_law_362 ?_
  refine va_sld hx hb hX hbl hbA hS i1 d_law_363 ?_
  refine lv_aload_n hx hb d_law_364 rfl (lv_at hl 3 rfl) ?_
  have hal := al_apply (x := xs (nI (3 * i) + 1).toNatClampNeg) hz (by omega)
  refine lx_si (As := [.ref (ad 0), .int (xs (nI (3 * i) + 1).toNatClampNeg), .ref ao]) (rest := []) (wr := mr_W cA cZ am S) ⟨hx, hb, hml, hown, hts⟩ hK2 hP hD hS hA [16, 17, 18, 19, 20, 21, 22, 23, 24, 25, 26, 27, 28, 29, 30, 31, 32, 33, 34, 35, 36, 37, 38, 39, 40, 41, 42] [0, 1, 2, 3, 4, 5, 6, 7, 8, 9, 10, 11, 12, 13, 14, 15] rfl rfl (by decide) (by decide) (by decide) (h_Law_apply l hl0 dC dI cA cL sa ad ao _ M g S (5001 * i) (xs (nI (3 * i) + 1).toNatClampNeg) hz (by omega)) (vx_cwSW 3 hts (lx_gLS m_13_5 m_13_6 m_0_0 cw_Law_apply_in (by decide +kernel)) rfl rfl rfl (by decide +kernel) ⟨Nat.le_of_ble_eq_true rfl, Nat.le_of_ble_eq_true rfl⟩) lx_E_bl (lx_E_use hE hS (va_free (wc := lh_W cA cL ad ao (M, g)) hD hS hA [16, 17, 18, 19, 20, 21, 22, 23, 24, 25, 26, 27, 28, 29, 30, 31, 32, 33, 34, 35, 36, 37, 38, 39, 40, 41, 42] rfl)) hl.1 rfl rfl (Nat.le_of_ble_eq_true rfl) d_law_365 ⟨by show 43 + i + 1 ≤ 1076; omega, by show 10088 + 6 * i + 6 ≤ 18334; omega⟩ (fun r5 u5 H locs w5 hP hD hS => ?_)
  obtain ⟨e5, f5⟩ := w5
  refine lv_istore (lv' := [(5, .int r5), (0, .ref b), (1, .ref (ad 0)), (2, .ref (am 0)), (3, .ref ao), (4, .int (nI (3 * i)))]) hx hb d_law_368 hl (by decide) rfl (fun ls hl => ?_)
  refine lv_aload_n hx hb d_law_370 rfl (lv_at hl 3 rfl) ?_
  refine lv_aload_n hx hb d_law_371 rfl (lv_at hl 1 rfl) ?_
  refine lv_iload hx hb d_law_372 (lv_at hl 5 rfl) ?_
  refine lv_iconst (v := 1) hx hb d_law_374 (by decide) ?_
  refine lv_iadd hx hb d_law_375 ?_
  refine va_sld hx hb hX hbl hbA hS i1 d_law_376 ?_
  refine lm_vi (b := am 0) (As := [.int (xs (nI (3 * i) + 1).toNatClampNeg)]) (rest := []) (wr := lh_W cA cL ad ao u5) ⟨hx, hb, hml, hown, hts⟩ hK3 hP hD hS hA [0, 1, 2, 3, 4, 5, 6, 7, 8, 9, 10, 11, 12, 13, 14, 15] [16, 17, 18, 19, 20, 21, 22, 23, 24, 25, 26, 27, 28, 29, 30, 31, 32, 33, 34, 35, 36, 37, 38, 39, 40, 41, 42] rfl rfl (by decide) (by decide) (by decide) (c_Model_apply l dC dI cA cZ am _ S (xs (nI (3 * i) + 1).toNatClampNeg) (fun q1 q2 => ⟨k_z_md1 hz q1, (k_z_fun hz q1 q2).2⟩)) (cwV 1 hts (lx_gLV m_18_19 m_18_20 m_18_21 m_0_5 m_18_22) rfl rfl rfl (by decide +kernel) ⟨Nat.le_of_ble_eq_true rfl, Nat.le_of_ble_eq_true rfl⟩) (va_recv (q0 := 0) hK hP rfl rfl) lm_bl_no (fun _ _ _ => trivial) hl.1 rfl rfl (Nat.le_of_ble_eq_true rfl) d_law_377 ⟨by show 43 + i + 1 + 0 ≤ 1076; omega, by show 10088 + 6 * i + 6 + 0 ≤ 18334; omega⟩ (fun r6 u6 H locs w6 hP hD hS => ?_)
  obtain ⟨e6, f6⟩ := w6
  have hP : va_P (dC, dI) classes (lw_W cA cZ cL am ad ao u5.1 u6 u5.2) H := hP.sub [27, 28, 29, 30, 31, 32, 33, 34, 35, 36, 37, 38, 39, 40, 41, 42, 0, 1, 2, 3, 4, 5, 6, 7, 8, 9, 10, 11, 12, 13, 14, 15, 16, 17, 18, 19, 20, 21, 22, 23, 24, 25, 26] rfl
  have hD : va_D (lw_A s) (lw_W cA cZ cL am ad ao u5.1 u6 u5.2) := hD.sub [27, 28, 29, 30, 31, 32, 33, 34, 35, 36, 37, 38, 39, 40, 41, 42, 0, 1, 2, 3, 4, 5, 6, 7, 8, 9, 10, 11, 12, 13, 14, 15, 16, 17, 18, 19, 20, 21, 22, 23, 24, 25, 26] (by decide) rfl
  refine lv_istore (lv' := [(6, .int r6), (5, .int r5), (0, .ref b), (1, .ref (ad 0)), (2, .ref (am 0)), (3, .ref ao), (4, .int (nI (3 * i)))]) hx hb d_law_380 hl (by decide) rfl (fun ls hl => ?_)
  refine lv_aload_n hx hb d_law_382 rfl (lv_at hl 4 rfl) ?_
  refine lm_vi (b := am 0) (As := []) (rest := []) (wr := lh_W cA cL ad ao u5) ⟨hx, hb, hml, hown, hts⟩ hK3 hP hD hS hA [0, 1, 2, 3, 4, 5, 6, 7, 8, 9, 10, 11, 12, 13, 14, 15] [16, 17, 18, 19, 20, 21, 22, 23, 24, 25, 26, 27, 28, 29, 30, 31, 32, 33, 34, 35, 36, 37, 38, 39, 40, 41, 42] rfl rfl (by decide) (by decide) (by decide) (c_Model_thrown l dC dI cA cZ am _ u6  ) (cwV 0 hts (lx_gLV m_15_0 m_15_1 m_15_2 m_0_5 m_15_3) rfl rfl rfl (by decide +kernel) ⟨Nat.le_of_ble_eq_true rfl, Nat.le_of_ble_eq_true rfl⟩) (va_recv (q0 := 0) hK hP rfl rfl) lm_bl_no (fun _ _ _ => trivial) hl.1 rfl rfl (Nat.le_of_ble_eq_true rfl) d_law_383 ⟨by show 43 + i + 1 + 0 ≤ 1076; omega, by show 10088 + 6 * i + 6 + 0 ≤ 18334; omega⟩ (fun r7 u7 H locs w7 hP hD hS => ?_)
  obtain ⟨e7, f7⟩ := w7
  rw [f7] at hP hD
  have hP : va_P (dC, dI) classes (lw_W cA cZ cL am ad ao u5.1 u6 u5.2) H := hP.sub [27, 28, 29, 30, 31, 32, 33, 34, 35, 36, 37, 38, 39, 40, 41, 42, 0, 1, 2, 3, 4, 5, 6, 7, 8, 9, 10, 11, 12, 13, 14, 15, 16, 17, 18, 19, 20, 21, 22, 23, 24, 25, 26] rfl
  have hD : va_D (lw_A s) (lw_W cA cZ cL am ad ao u5.1 u6 u5.2) := hD.sub [27, 28, 29, 30, 31, 32, 33, 34, 35, 36, 37, 38, 39, 40, 41, 42, 0, 1, 2, 3, 4, 5, 6, 7, 8, 9, 10, 11, 12, 13, 14, 15, 16, 17, 18, 19, 20, 21, 22, 23, 24, 25, 26] (by decide) rfl
  refine lv_iload hx hb d_law_386 (lv_at hl 1 rfl) ?_
  refine lv_icmp_eq hx hb d_law_388 rfl (fun h9 => ?_) (fun h9 => absurd (by rw [e7, f6, e5]; exact hal.1) h9)
  have hkz : k_z (5001 * (i + 1)) u5.1 u6 := by rw [f5, f6, show 5001 * (i + 1) = 5001 * i + 5001 by omega]; exact hal.2.2
  refine lv_iload hx hb d_law_393 (lv_at hl 1 rfl) ?_
  refine lv_if_ne hx hb d_law_395 rfl (fun h8 => ?_) (fun h8 => ?_)
  · refine lv_goto hx hb d_law_410 rfl ?_
    refine W.widen (k := 43 + (i + 1)) (n := 10088 + 6 * (i + 1)) (by omega) (by omega) ?_
    exact hnx ad u5.1 u6 u5.2 _ _ _ (lv_sub hl [2, 3, 4, 5, 6] rfl) hP hD hS (by exact hkz)
  · refine lv_aload_n hx hb d_law_398 rfl (lv_at hl 5 rfl) ?_
    refine lv_iconst (v := 0) hx hb d_law_399 (by decide) ?_
    refine va_lald (cA := cL) (n := 1) (f := u5.2) hx hb hK hP 16 2 rfl rfl (vp_in_nI (n := 0) (by decide) (by decide)) d_law_400 ?_
    refine lv_iload hx hb d_law_401 (lv_at hl 0 rfl) ?_
    refine lv_i2l hx hb d_law_403 rfl ?_
    have h0 : (hl_apply M (xs (nI (3 * i) + 1).toNatClampNeg)).1 = 0 := e5.symm.trans h8
    have hxy : u5.2 (0 : Int32).toNatClampNeg = r6.toInt64 := by rw [f5, e6, ← hal.2.1 h0]; exact lo_at h0
    refine lx_lcmp hx hb hxy d_law_404 ?_
    refine lv_if_eq hx hb d_law_405 rfl (fun h7 => ?_) (fun h7 => absurd rfl h7)
    refine lv_goto hx hb d_law_410 rfl ?_
    refine W.widen (k := 43 + (i + 1)) (n := 10088 + 6 * (i + 1)) (by omega) (by omega) ?_
    exact hnx ad u5.1 u6 u5.2 _ _ _ (lv_sub hl [2, 3, 4, 5, 6] rfl) hP hD hS (by exact hkz)
set_option maxHeartbeats 4000000 in
set_option maxRecDepth 100000 in
theorem lw_case_count {p : Program} {l : Launch} {e : Env} {s : State} {m : MethodId} {below : List Frame} {meth : Method} {c : Code} {b L : Nat} {xs : Nat → Int32} {dC : Nat → ClassId} {dI : Nat → Nat → Nat} {cA cZ cL : ClassId} {sa : Nat → Nat} {tp : Nat} {am ad : Nat → Nat} {ao i : Nat} {M : ZMS} {S : ZNS} {g : Nat → Int64} {ls : Array Slot} {H : Heap} {locs : List Loc} (F : lw_F p l s m meth c b L xs dC dI cA cZ cL sa tp) (hi : 3 * i + 3 ≤ L) (hl : lv_has ls 7 (lw_ls b am ad ao i)) (hP : va_P (dC, dI) classes (lw_W cA cZ cL am ad ao M S g) H) (hD : va_D (lw_A s) (lw_W cA cZ cL am ad ao M S g)) (hS : va_S (lw_A s) s.heap H locs) (hz : k_z (5001 * i) M S) (hnx : lw_nx p l e s m below meth c b dC dI cA cZ cL am ao i) : W p l e room_1 s m #[Value.ref b] below meth c H locs (43 + i) (10088 + 6 * i) (lw_Z below #[Value.ref b] s) (F0 m 413 ls []) := by
  obtain ⟨⟨hx, hb, hr, hml, hown, hlocks⟩, hts, ⟨hX, hbl, hL⟩, hK, hl0, hE, hT⟩ := F
  obtain ⟨i0, i1, i2⟩ := lw_i1 hi hL
  have hA : ∀ q, s.heap.size ≤ q → lw_A s q := fun q h => h
  have hbA : ¬ lw_A s b := fun q => absurd hbl (Nat.not_lt.mpr q)
  have hK1 : va_K (dC, dI) classes [(cA, .int)] s := hK.sub [0] rfl
  have hK2 : va_K (dC, dI) classes [(cA, .int), (cL, .long)] s := hK.sub [0, 2] rfl
  have hK3 : va_K (dC, dI) classes [(cA, .int), (cZ, .boolean)] s := hK.sub [0, 1] rfl
  refine lv_aload_n hx hb d_law_413 rfl (lv_at hl 1 rfl) ?_
  refine lv_aload_n hx hb d_law_414 rfl (lv_at hl 0 rfl) ?_
  refine lv_iload hx hb d_law_415 (lv_at hl 4 rfl) ?_
  refine lv_iconst (v := 1) hx hb d_law_417 (by decide) ?_
  refine lv_iadd hx hb d_law_418 ?_
  refine va_sld hx hb hX hbl hbA hS i1 d_law_419 ?_
  have hal := z_count (w := xs (nI (3 * i) + 1).toNatClampNeg) hz (by omega)
  refine lm_vi (b := ad 0) (As := [.int (xs (nI (3 * i) + 1).toNatClampNeg)]) (rest := []) (wr := mr_W cA cZ am S ++ lo_W cL ao g) ⟨hx, hb, hml, hown, hts⟩ hK1 hP hD hS hA [17, 18, 19, 20, 21, 22, 23, 24, 25, 26, 27, 28, 29, 30, 31, 32, 33, 34, 35, 36, 37, 38, 39, 40, 41, 42] [0, 1, 2, 3, 4, 5, 6, 7, 8, 9, 10, 11, 12, 13, 14, 15, 16] rfl rfl (by decide) (by decide) (by decide) (c_LazyMachine_count l dC dI cA ad _ M (xs (nI (3 * i) + 1).toNatClampNeg) (fun _ => (z_lo hz).1)) (cwV 1 hts (lx_gLV m_4_12 m_4_13 m_4_14 m_0_1 m_4_15) rfl rfl rfl (by decide +kernel) ⟨Nat.le_of_ble_eq_true rfl, Nat.le_of_ble_eq_true rfl⟩) (va_recv (q0 := 17) hK hP rfl rfl) lm_bl_no (fun _ _ _ => trivial) hl.1 rfl rfl (Nat.le_of_ble_eq_true rfl) d_law_420 ⟨by show 43 + i + 0 ≤ 1076; omega, by show 10088 + 6 * i + 0 ≤ 18334; omega⟩ (fun r5 u5 H locs w5 hP hD hS => ?_)
  obtain ⟨e5, f5⟩ := w5
  have hP : va_P (dC, dI) classes (lw_W cA cZ cL am ad ao u5 S g) H := hP
  have hD : va_D (lw_A s) (lw_W cA cZ cL am ad ao u5 S g) := hD
  refine lv_aload_n hx hb d_law_423 rfl (lv_at hl 2 rfl) ?_
  refine lv_aload_n hx hb d_law_424 rfl (lv_at hl 0 rfl) ?_
  refine lv_iload hx hb d_law_425 (lv_at hl 4 rfl) ?_
  refine lv_iconst (v := 1) hx hb d_law_427 (by decide) ?_
  refine lv_iadd hx hb d_law_428 ?_
  refine va_sld hx hb hX hbl hbA hS i1 d_law_429 ?_
  refine lm_vi (b := am 0) (As := [.int (xs (nI (3 * i) + 1).toNatClampNeg)]) (rest := [.int r5]) (wr := lh_W cA cL ad ao (u5, g)) ⟨hx, hb, hml, hown, hts⟩ hK3 hP hD hS hA [0, 1, 2, 3, 4, 5, 6, 7, 8, 9, 10, 11, 12, 13, 14, 15] [16, 17, 18, 19, 20, 21, 22, 23, 24, 25, 26, 27, 28, 29, 30, 31, 32, 33, 34, 35, 36, 37, 38, 39, 40, 41, 42] rfl rfl (by decide) (by decide) (by decide) (c_Model_count l dC dI cA cZ am _ S (xs (nI (3 * i) + 1).toNatClampNeg) (fun _ => (z_lo hz).2)) (cwV 1 hts (lx_gLV m_18_23 m_19_0 m_19_1 m_0_5 m_19_2) rfl rfl rfl (by decide +kernel) ⟨Nat.le_of_ble_eq_true rfl, Nat.le_of_ble_eq_true rfl⟩) (va_recv (q0 := 0) hK hP rfl rfl) lm_bl_no (fun _ _ _ => trivial) hl.1 rfl rfl (Nat.le_of_ble_eq_true rfl) d_law_430 ⟨by show 43 + i + 0 ≤ 1076; omega, by show 10088 + 6 * i + 0 ≤ 18334; omega⟩ (fun r6 u6 H locs w6 hP hD hS => ?_)
  obtain ⟨e6, f6⟩ := w6
  have hP : va_P (dC, dI) classes (lw_W cA cZ cL am ad ao u5 u6 g) H := hP.sub [27, 28, 29, 30, 31, 32, 33, 34, 35, 36, 37, 38, 39, 40, 41, 42, 0, 1, 2, 3, 4, 5, 6, 7, 8, 9, 10, 11, 12, 13, 14, 15, 16, 17, 18, 19, 20, 21, 22, 23, 24, 25, 26] rfl
  have hD : va_D (lw_A s) (lw_W cA cZ cL am ad ao u5 u6 g) := hD.sub [27, 28, 29, 30, 31, 32, 33, 34, 35, 36, 37, 38, 39, 40, 41, 42, 0, 1, 2, 3, 4, 5, 6, 7, 8, 9, 10, 11, 12, 13, 14, 15, 16, 17, 18, 19, 20, 21, 22, 23, 24, 25, 26] (by decide) rfl
  refine lv_icmp_eq hx hb d_law_433 rfl (fun h9 => ?_) (fun h9 => absurd (by rw [e5, e6]; exact hal.1) h9)
  refine W.widen (k := 43 + (i + 1)) (n := 10088 + 6 * (i + 1)) (by omega) (by omega) ?_
  exact hnx ad u5 u6 g _ _ _ (lv_sub hl [0, 1, 2, 3, 4] rfl) hP hD hS (by rw [f5, f6]; exact k_z_le hal.2 (by omega))
