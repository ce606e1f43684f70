/-! THE LAW -/
theorem dL_law_0 : decode cL_law 0 = .ok (.new 8, 3) := by decide +kernel
theorem dL_law_3 : decode cL_law 3 = .ok (.dup, 1) := by decide +kernel
theorem dL_law_4 : decode cL_law 4 = .ok (.invokespecial 223, 3) := by decide +kernel
theorem dL_law_7 : decode cL_law 7 = .ok (.astore_n 1, 1) := by decide +kernel
theorem dL_law_8 : decode cL_law 8 = .ok (.new 8, 3) := by decide +kernel
theorem dL_law_11 : decode cL_law 11 = .ok (.dup, 1) := by decide +kernel
theorem dL_law_12 : decode cL_law 12 = .ok (.invokespecial 223, 3) := by decide +kernel
theorem dL_law_15 : decode cL_law 15 = .ok (.astore_n 2, 1) := by decide +kernel
theorem dL_law_16 : decode cL_law 16 = .ok (.bipush 14, 2) := by decide +kernel
theorem dL_law_18 : decode cL_law 18 = .ok (.aload_n 0, 1) := by decide +kernel
theorem dL_law_19 : decode cL_law 19 = .ok (.iconst 0, 1) := by decide +kernel
theorem dL_law_20 : decode cL_law 20 = .ok (.invokestatic 224, 3) := by decide +kernel
theorem dL_law_23 : decode cL_law 23 = .ok (.bipush 27, 2) := by decide +kernel
theorem dL_law_25 : decode cL_law 25 = .ok (.irem, 1) := by decide +kernel
theorem dL_law_26 : decode cL_law 26 = .ok (.iadd, 1) := by decide +kernel
theorem dL_law_27 : decode cL_law 27 = .ok (.istore_n 3, 1) := by decide +kernel
theorem dL_law_28 : decode cL_law 28 = .ok (.aload_n 0, 1) := by decide +kernel
theorem dL_law_29 : decode cL_law 29 = .ok (.iconst 1, 1) := by decide +kernel
theorem dL_law_30 : decode cL_law 30 = .ok (.invokestatic 224, 3) := by decide +kernel
theorem dL_law_33 : decode cL_law 33 = .ok (.istore 4, 2) := by decide +kernel
theorem dL_law_35 : decode cL_law 35 = .ok (.iconst 1, 1) := by decide +kernel
theorem dL_law_36 : decode cL_law 36 = .ok (.istore 5, 2) := by decide +kernel
theorem dL_law_38 : decode cL_law 38 = .ok (.iconst 0, 1) := by decide +kernel
theorem dL_law_39 : decode cL_law 39 = .ok (.istore 6, 2) := by decide +kernel
theorem dL_law_41 : decode cL_law 41 = .ok (.iload 6, 2) := by decide +kernel
theorem dL_law_43 : decode cL_law 43 = .ok (.iconst 3, 1) := by decide +kernel
theorem dL_law_44 : decode cL_law 44 = .ok (.if_icmp .ge 49, 3) := by decide +kernel
theorem dL_law_47 : decode cL_law 47 = .ok (.iload 5, 2) := by decide +kernel
theorem dL_law_49 : decode cL_law 49 = .ok (.ifCond .eq 44, 3) := by decide +kernel
theorem dL_law_52 : decode cL_law 52 = .ok (.aload_n 1, 1) := by decide +kernel
theorem dL_law_53 : decode cL_law 53 = .ok (.bipush 7, 2) := by decide +kernel
theorem dL_law_55 : decode cL_law 55 = .ok (.iconst 0, 1) := by decide +kernel
theorem dL_law_56 : decode cL_law 56 = .ok (.iconst 0, 1) := by decide +kernel
theorem dL_law_57 : decode cL_law 57 = .ok (.iconst 0, 1) := by decide +kernel
theorem dL_law_58 : decode cL_law 58 = .ok (.invokestatic 198, 3) := by decide +kernel
theorem dL_law_61 : decode cL_law 61 = .ok (.iload 6, 2) := by decide +kernel
theorem dL_law_63 : decode cL_law 63 = .ok (.if_icmp .ne 21, 3) := by decide +kernel
theorem dL_law_66 : decode cL_law 66 = .ok (.aload_n 2, 1) := by decide +kernel
theorem dL_law_67 : decode cL_law 67 = .ok (.bipush 7, 2) := by decide +kernel
theorem dL_law_69 : decode cL_law 69 = .ok (.iconst 0, 1) := by decide +kernel
theorem dL_law_70 : decode cL_law 70 = .ok (.iconst 0, 1) := by decide +kernel
theorem dL_law_71 : decode cL_law 71 = .ok (.iconst 0, 1) := by decide +kernel
theorem dL_law_72 : decode cL_law 72 = .ok (.invokestatic 198, 3) := by decide +kernel
theorem dL_law_75 : decode cL_law 75 = .ok (.iload 6, 2) := by decide +kernel
theorem dL_law_77 : decode cL_law 77 = .ok (.if_icmp .ne 7, 3) := by decide +kernel
theorem dL_law_80 : decode cL_law 80 = .ok (.iconst 1, 1) := by decide +kernel
theorem dL_law_81 : decode cL_law 81 = .ok (.goto 4, 3) := by decide +kernel
theorem dL_law_84 : decode cL_law 84 = .ok (.iconst 0, 1) := by decide +kernel
theorem dL_law_85 : decode cL_law 85 = .ok (.istore 5, 2) := by decide +kernel
theorem dL_law_87 : decode cL_law 87 = .ok (.iinc 6 1, 3) := by decide +kernel
theorem dL_law_90 : decode cL_law 90 = .ok (.goto (-49), 3) := by decide +kernel
theorem dL_law_93 : decode cL_law 93 = .ok (.iload 5, 2) := by decide +kernel
theorem dL_law_95 : decode cL_law 95 = .ok (.ifCond .eq 117, 3) := by decide +kernel
theorem dL_law_98 : decode cL_law 98 = .ok (.aload_n 1, 1) := by decide +kernel
theorem dL_law_99 : decode cL_law 99 = .ok (.bipush 8, 2) := by decide +kernel
theorem dL_law_101 : decode cL_law 101 = .ok (.iconst 0, 1) := by decide +kernel
theorem dL_law_102 : decode cL_law 102 = .ok (.iconst 1, 1) := by decide +kernel
theorem dL_law_103 : decode cL_law 103 = .ok (.iconst 1, 1) := by decide +kernel
theorem dL_law_104 : decode cL_law 104 = .ok (.iload 4, 2) := by decide +kernel
theorem dL_law_106 : decode cL_law 106 = .ok (.bipush 20, 2) := by decide +kernel
theorem dL_law_108 : decode cL_law 108 = .ok (.irem, 1) := by decide +kernel
theorem dL_law_109 : decode cL_law 109 = .ok (.iadd, 1) := by decide +kernel
theorem dL_law_110 : decode cL_law 110 = .ok (.invokestatic 198, 3) := by decide +kernel
theorem dL_law_113 : decode cL_law 113 = .ok (.ifCond .ne 99, 3) := by decide +kernel
theorem dL_law_116 : decode cL_law 116 = .ok (.aload_n 2, 1) := by decide +kernel
theorem dL_law_117 : decode cL_law 117 = .ok (.bipush 8, 2) := by decide +kernel
theorem dL_law_119 : decode cL_law 119 = .ok (.iconst 0, 1) := by decide +kernel
theorem dL_law_120 : decode cL_law 120 = .ok (.iconst 1, 1) := by decide +kernel
theorem dL_law_121 : decode cL_law 121 = .ok (.iconst 1, 1) := by decide +kernel
theorem dL_law_122 : decode cL_law 122 = .ok (.iload 4, 2) := by decide +kernel
theorem dL_law_124 : decode cL_law 124 = .ok (.bipush 20, 2) := by decide +kernel
theorem dL_law_126 : decode cL_law 126 = .ok (.irem, 1) := by decide +kernel
theorem dL_law_127 : decode cL_law 127 = .ok (.iadd, 1) := by decide +kernel
theorem dL_law_128 : decode cL_law 128 = .ok (.invokestatic 198, 3) := by decide +kernel
theorem dL_law_131 : decode cL_law 131 = .ok (.ifCond .ne 81, 3) := by decide +kernel
theorem dL_law_134 : decode cL_law 134 = .ok (.aload_n 1, 1) := by decide +kernel
theorem dL_law_135 : decode cL_law 135 = .ok (.bipush 9, 2) := by decide +kernel
theorem dL_law_137 : decode cL_law 137 = .ok (.iconst 0, 1) := by decide +kernel
theorem dL_law_138 : decode cL_law 138 = .ok (.iconst 0, 1) := by decide +kernel
theorem dL_law_139 : decode cL_law 139 = .ok (.iconst 0, 1) := by decide +kernel
theorem dL_law_140 : decode cL_law 140 = .ok (.invokestatic 198, 3) := by decide +kernel
theorem dL_law_143 : decode cL_law 143 = .ok (.ifCond .ne 69, 3) := by decide +kernel
theorem dL_law_146 : decode cL_law 146 = .ok (.aload_n 2, 1) := by decide +kernel
theorem dL_law_147 : decode cL_law 147 = .ok (.bipush 9, 2) := by decide +kernel
theorem dL_law_149 : decode cL_law 149 = .ok (.iconst 0, 1) := by decide +kernel
theorem dL_law_150 : decode cL_law 150 = .ok (.iconst 0, 1) := by decide +kernel
theorem dL_law_151 : decode cL_law 151 = .ok (.iconst 0, 1) := by decide +kernel
theorem dL_law_152 : decode cL_law 152 = .ok (.invokestatic 198, 3) := by decide +kernel
theorem dL_law_155 : decode cL_law 155 = .ok (.ifCond .ne 57, 3) := by decide +kernel
theorem dL_law_158 : decode cL_law 158 = .ok (.aload_n 1, 1) := by decide +kernel
theorem dL_law_159 : decode cL_law 159 = .ok (.bipush 10, 2) := by decide +kernel
theorem dL_law_161 : decode cL_law 161 = .ok (.iconst 0, 1) := by decide +kernel
theorem dL_law_162 : decode cL_law 162 = .ok (.iload 4, 2) := by decide +kernel
theorem dL_law_164 : decode cL_law 164 = .ok (.ldc 202, 2) := by decide +kernel
theorem dL_law_166 : decode cL_law 166 = .ok (.irem, 1) := by decide +kernel
theorem dL_law_167 : decode cL_law 167 = .ok (.iconst 1, 1) := by decide +kernel
theorem dL_law_168 : decode cL_law 168 = .ok (.iload 4, 2) := by decide +kernel
theorem dL_law_170 : decode cL_law 170 = .ok (.bipush 20, 2) := by decide +kernel
theorem dL_law_172 : decode cL_law 172 = .ok (.idiv, 1) := by decide +kernel
theorem dL_law_173 : decode cL_law 173 = .ok (.bipush 9, 2) := by decide +kernel
theorem dL_law_175 : decode cL_law 175 = .ok (.irem, 1) := by decide +kernel
theorem dL_law_176 : decode cL_law 176 = .ok (.iadd, 1) := by decide +kernel
theorem dL_law_177 : decode cL_law 177 = .ok (.invokestatic 198, 3) := by decide +kernel
theorem dL_law_180 : decode cL_law 180 = .ok (.ifCond .ne 32, 3) := by decide +kernel
theorem dL_law_183 : decode cL_law 183 = .ok (.aload_n 2, 1) := by decide +kernel
theorem dL_law_184 : decode cL_law 184 = .ok (.bipush 10, 2) := by decide +kernel
theorem dL_law_186 : decode cL_law 186 = .ok (.iconst 0, 1) := by decide +kernel
theorem dL_law_187 : decode cL_law 187 = .ok (.iload 4, 2) := by decide +kernel
theorem dL_law_189 : decode cL_law 189 = .ok (.ldc 202, 2) := by decide +kernel
theorem dL_law_191 : decode cL_law 191 = .ok (.irem, 1) := by decide +kernel
theorem dL_law_192 : decode cL_law 192 = .ok (.iconst 1, 1) := by decide +kernel
theorem dL_law_193 : decode cL_law 193 = .ok (.iload 4, 2) := by decide +kernel
theorem dL_law_195 : decode cL_law 195 = .ok (.bipush 20, 2) := by decide +kernel
theorem dL_law_197 : decode cL_law 197 = .ok (.idiv, 1) := by decide +kernel
theorem dL_law_198 : decode cL_law 198 = .ok (.bipush 9, 2) := by decide +kernel
theorem dL_law_200 : decode cL_law 200 = .ok (.irem, 1) := by decide +kernel
theorem dL_law_201 : decode cL_law 201 = .ok (.iadd, 1) := by decide +kernel
theorem dL_law_202 : decode cL_law 202 = .ok (.invokestatic 198, 3) := by decide +kernel
theorem dL_law_205 : decode cL_law 205 = .ok (.ifCond .ne 7, 3) := by decide +kernel
theorem dL_law_208 : decode cL_law 208 = .ok (.iconst 1, 1) := by decide +kernel
theorem dL_law_209 : decode cL_law 209 = .ok (.goto 4, 3) := by decide +kernel
theorem dL_law_212 : decode cL_law 212 = .ok (.iconst 0, 1) := by decide +kernel
theorem dL_law_213 : decode cL_law 213 = .ok (.istore 5, 2) := by decide +kernel
theorem dL_law_215 : decode cL_law 215 = .ok (.iconst 0, 1) := by decide +kernel
theorem dL_law_216 : decode cL_law 216 = .ok (.istore 6, 2) := by decide +kernel
theorem dL_law_218 : decode cL_law 218 = .ok (.iload 6, 2) := by decide +kernel
theorem dL_law_220 : decode cL_law 220 = .ok (.iload_n 3, 1) := by decide +kernel
theorem dL_law_221 : decode cL_law 221 = .ok (.if_icmp .ge 147, 3) := by decide +kernel
theorem dL_law_224 : decode cL_law 224 = .ok (.iload 5, 2) := by decide +kernel
theorem dL_law_226 : decode cL_law 226 = .ok (.ifCond .eq 142, 3) := by decide +kernel
theorem dL_law_229 : decode cL_law 229 = .ok (.aload_n 0, 1) := by decide +kernel
theorem dL_law_230 : decode cL_law 230 = .ok (.iconst 2, 1) := by decide +kernel
theorem dL_law_231 : decode cL_law 231 = .ok (.iload 6, 2) := by decide +kernel
theorem dL_law_233 : decode cL_law 233 = .ok (.iadd, 1) := by decide +kernel
theorem dL_law_234 : decode cL_law 234 = .ok (.invokestatic 224, 3) := by decide +kernel
theorem dL_law_237 : decode cL_law 237 = .ok (.istore 7, 2) := by decide +kernel
theorem dL_law_239 : decode cL_law 239 = .ok (.aload_n 1, 1) := by decide +kernel
theorem dL_law_240 : decode cL_law 240 = .ok (.iload 7, 2) := by decide +kernel
theorem dL_law_242 : decode cL_law 242 = .ok (.invokestatic 228, 3) := by decide +kernel
theorem dL_law_245 : decode cL_law 245 = .ok (.istore 8, 2) := by decide +kernel
theorem dL_law_247 : decode cL_law 247 = .ok (.aload_n 2, 1) := by decide +kernel
theorem dL_law_248 : decode cL_law 248 = .ok (.iload 7, 2) := by decide +kernel
theorem dL_law_250 : decode cL_law 250 = .ok (.ldc 231, 2) := by decide +kernel
theorem dL_law_252 : decode cL_law 252 = .ok (.irem, 1) := by decide +kernel
theorem dL_law_253 : decode cL_law 253 = .ok (.invokestatic 232, 3) := by decide +kernel
theorem dL_law_256 : decode cL_law 256 = .ok (.ifCond .eq 103, 3) := by decide +kernel
theorem dL_law_259 : decode cL_law 259 = .ok (.aload_n 2, 1) := by decide +kernel
theorem dL_law_260 : decode cL_law 260 = .ok (.iload 7, 2) := by decide +kernel
theorem dL_law_262 : decode cL_law 262 = .ok (.invokestatic 228, 3) := by decide +kernel
theorem dL_law_265 : decode cL_law 265 = .ok (.iload 8, 2) := by decide +kernel
theorem dL_law_267 : decode cL_law 267 = .ok (.if_icmp .ne 92, 3) := by decide +kernel
theorem dL_law_270 : decode cL_law 270 = .ok (.aload_n 2, 1) := by decide +kernel
theorem dL_law_271 : decode cL_law 271 = .ok (.iload 7, 2) := by decide +kernel
theorem dL_law_273 : decode cL_law 273 = .ok (.sipush 1000, 3) := by decide +kernel
theorem dL_law_276 : decode cL_law 276 = .ok (.irem, 1) := by decide +kernel
theorem dL_law_277 : decode cL_law 277 = .ok (.invokestatic 232, 3) := by decide +kernel
theorem dL_law_280 : decode cL_law 280 = .ok (.ifCond .eq 79, 3) := by decide +kernel
theorem dL_law_283 : decode cL_law 283 = .ok (.aload_n 1, 1) := by decide +kernel
theorem dL_law_284 : decode cL_law 284 = .ok (.aload_n 2, 1) := by decide +kernel
theorem dL_law_285 : decode cL_law 285 = .ok (.iload 7, 2) := by decide +kernel
theorem dL_law_287 : decode cL_law 287 = .ok (.sipush 5000, 3) := by decide +kernel
theorem dL_law_290 : decode cL_law 290 = .ok (.irem, 1) := by decide +kernel
theorem dL_law_291 : decode cL_law 291 = .ok (.invokestatic 236, 3) := by decide +kernel
theorem dL_law_294 : decode cL_law 294 = .ok (.ifCond .eq 65, 3) := by decide +kernel
theorem dL_law_297 : decode cL_law 297 = .ok (.iload 6, 2) := by decide +kernel
theorem dL_law_299 : decode cL_law 299 = .ok (.iconst 2, 1) := by decide +kernel
theorem dL_law_300 : decode cL_law 300 = .ok (.irem, 1) := by decide +kernel
theorem dL_law_301 : decode cL_law 301 = .ok (.ifCond .ne 17, 3) := by decide +kernel
theorem dL_law_304 : decode cL_law 304 = .ok (.aload_n 1, 1) := by decide +kernel
theorem dL_law_305 : decode cL_law 305 = .ok (.iload 7, 2) := by decide +kernel
theorem dL_law_307 : decode cL_law 307 = .ok (.iconst 3, 1) := by decide +kernel
theorem dL_law_308 : decode cL_law 308 = .ok (.idiv, 1) := by decide +kernel
theorem dL_law_309 : decode cL_law 309 = .ok (.invokestatic 240, 3) := by decide +kernel
theorem dL_law_312 : decode cL_law 312 = .ok (.ifCond .eq 47, 3) := by decide +kernel
theorem dL_law_315 : decode cL_law 315 = .ok (.goto 14, 3) := by decide +kernel
theorem dL_law_318 : decode cL_law 318 = .ok (.aload_n 2, 1) := by decide +kernel
theorem dL_law_319 : decode cL_law 319 = .ok (.iload 7, 2) := by decide +kernel
theorem dL_law_321 : decode cL_law 321 = .ok (.iconst 3, 1) := by decide +kernel
theorem dL_law_322 : decode cL_law 322 = .ok (.idiv, 1) := by decide +kernel
theorem dL_law_323 : decode cL_law 323 = .ok (.invokestatic 240, 3) := by decide +kernel
theorem dL_law_326 : decode cL_law 326 = .ok (.ifCond .eq 33, 3) := by decide +kernel
theorem dL_law_329 : decode cL_law 329 = .ok (.aload_n 1, 1) := by decide +kernel
theorem dL_law_330 : decode cL_law 330 = .ok (.aload_n 2, 1) := by decide +kernel
theorem dL_law_331 : decode cL_law 331 = .ok (.iload 7, 2) := by decide +kernel
theorem dL_law_333 : decode cL_law 333 = .ok (.bipush 7, 2) := by decide +kernel
theorem dL_law_335 : decode cL_law 335 = .ok (.idiv, 1) := by decide +kernel
theorem dL_law_336 : decode cL_law 336 = .ok (.invokestatic 243, 3) := by decide +kernel
theorem dL_law_339 : decode cL_law 339 = .ok (.ifCond .eq 20, 3) := by decide +kernel
theorem dL_law_342 : decode cL_law 342 = .ok (.aload_n 1, 1) := by decide +kernel
theorem dL_law_343 : decode cL_law 343 = .ok (.aload_n 2, 1) := by decide +kernel
theorem dL_law_344 : decode cL_law 344 = .ok (.iload 7, 2) := by decide +kernel
theorem dL_law_346 : decode cL_law 346 = .ok (.bipush 11, 2) := by decide +kernel
theorem dL_law_348 : decode cL_law 348 = .ok (.idiv, 1) := by decide +kernel
theorem dL_law_349 : decode cL_law 349 = .ok (.invokestatic 246, 3) := by decide +kernel
theorem dL_law_352 : decode cL_law 352 = .ok (.ifCond .eq 7, 3) := by decide +kernel
theorem dL_law_355 : decode cL_law 355 = .ok (.iconst 1, 1) := by decide +kernel
theorem dL_law_356 : decode cL_law 356 = .ok (.goto 4, 3) := by decide +kernel
theorem dL_law_359 : decode cL_law 359 = .ok (.iconst 0, 1) := by decide +kernel
theorem dL_law_360 : decode cL_law 360 = .ok (.istore 5, 2) := by decide +kernel
theorem dL_law_362 : decode cL_law 362 = .ok (.iinc 6 1, 3) := by decide +kernel
theorem dL_law_365 : decode cL_law 365 = .ok (.goto (-147), 3) := by decide +kernel
theorem dL_law_368 : decode cL_law 368 = .ok (.iload 5, 2) := by decide +kernel
theorem dL_law_370 : decode cL_law 370 = .ok (.ireturn, 1) := by decide +kernel
/-! THE CLAIM OUT OF ONE WALK OF THE LAW'S BODY. Your part is whole_start (and what it stands on); all else here is the same for every law, but numbers. -/
def R_law : String := "FadingSheetsLaw"
def lw_P (b : Addr) (xs : List Int32) (args : Array Value) (s : State) : Prop := args = #[.ref b] ∧ s.IntsAt b xs ∧ xs.length ≤ 260 ∧ (Jvm.Cond.and given_1 narrow_1).before args s = true
def lw_Q (_ : Array Value) (s : State) (o : Outcome) (t : State) : Prop := o = .returned (some (.int 1)) ∧ Framed s o t [] 657874 7128003
def lw_Z (below : List Frame) (a : Array Value) (s : State) : State → Prop := fun t => ∃ o, t.status = .running ∧ Ended t below o ∧ lw_Q a s o t
/-- the law's own end, with 1 on the stack, nothing written that was there before, its room as the claim has it -/
theorem lw_ret {p : Program} {l : Launch} {e : Env} {s : State} {m : MethodId} {below : List Frame} {meth : Method} {c : Code} {b : Nat} (hx : p.tables.exec = Jvm.exec) (hb : c.code = code) (hr : meth.sig.returnType = ret) (hlocks : meth.locks = false) {pc : Nat} {H : Heap} {ls : Array Slot} (hdg : decode code pc = .ok (.ireturn, 1)) : W p l e room_1 s m #[Value.ref b] below meth c H [] 657874 7128003 (lw_Z below #[Value.ref b] s) (F0 m pc ls [.int 1]) := by
  intro T hT X
  obtain ⟨fs, hret, hrun, hended, hW, hframe⟩ := X.leave (v := some (.int 1)) (hlocks := hlocks) (fun h => by rw [hr] at h; cases h)
  have hmeth' : T.vm.method? m = some meth := X.method'
  refine ⟨T.setFrames fs, ?_, .returned (some (.int 1)), hrun, hended, rfl, ⟨_, rfl⟩, hW, hframe⟩
  jvm_step X.here [X.here.top, hx, hb, hdg, hmeth', hr, ret, narrow_b1]
  (try refine ⟨rfl, ?_⟩); (try refine ⟨rfl, ?_⟩)
  first | (intro acts; rw [hret _ acts rfl rfl rfl]) | rw [hret _ _ rfl rfl rfl]
  exact Steps.refl _
/-- what holds at the law's entry: the machine, the code, the tables' words (any of lw_tbl by 'hts w (by decide +kernel)'), the script of L ints xs at the cell b, what the Statement gives of the start (any of its parts by flat_of_before) -/
def lw_At (p : Program) (s : State) (m : MethodId) (meth : Method) (c : Code) (b L : Nat) (xs : Nat → Int32) : Prop :=
  p.tables.exec = Jvm.exec ∧ c.code = code ∧ meth.sig.returnType = ret ∧ c.maxLocals = 9 ∧ s.vm.findClass R_law = some m.cls ∧ (∀ w ∈ lw_tbl, w.before #[Value.ref b] s = true) ∧ va_X b L xs s s.heap ∧ b < s.heap.size ∧ meth.locks = false ∧ (Jvm.Cond.and given_1 narrow_1).before #[Value.ref b] s = true
-- ===== YOUR PART BEGINS =====
/-- YOUR PART: from the entry, for every script of at most 260 ints, the law comes to its end with true ('hflags': the launch's flags, for a law that throws: no stack traces) -/
theorem V_lwret {p : Program} {l : Launch} {e : Env} {s : State} {m : MethodId} {below : List Frame} {meth : Method} {c : Code} {G : GT} {b : Nat} (C : Cx p s m #[Value.ref b] meth c cL_law 9 RL ret G) (hG : G.2.2 = s.heap.size) {n : Nat} {h : AH} : V p l e room_1 s m #[Value.ref b] below meth c (lw_Z below #[Value.ref b] s) G 9 657874 7128003 n h 368 [(5, .int (nI 1))] [] := fun H locs ls h1 h2 h3 h4 => by
  refine lv_iload C.1 C.2.1 dL_law_368 (lget_has h4 (v := .int (nI 1)) rfl) ?_
  refine va_forget (fun q hq => ?_) ?_
  · have hr : G.2.2 ≤ q.base := h3.2.2 q hq
    omega
  · exact lw_ret C.1 C.2.1 C.2.2.2.2.2.2.1 C.2.2.2.2.2.2.2.1 dL_law_370
theorem fl_st {l : Launch} (hf : l.flags = flags0) : l.stackTraces = false := by
  unfold Launch.stackTraces
  rw [hf]
  decide +kernel
set_option maxRecDepth 100000 in
set_option maxHeartbeats 4000000 in
theorem law_16 {p : Program} {l : Launch} {e : Env} {s : State} {m : MethodId} {below : List Frame} {meth : Method} {c : Code} {G : GT} {b LL : Nat} {xs : Nat → Int32} (hl : l.stackTraces = false) (C : Cx p s m #[Value.ref b] meth c cL_law 9 RL ret G) (hG : G.2.2 = s.heap.size) (hX : va_X b LL xs s s.heap) (hb : b < s.heap.size ∧ ¬ rg G b) (hLL : LL ≤ 260) (x q : Nat) (hx : apt x q) : ∀ (n : Nat) (h : AH) (hS : SC x σ0 h) (hQ : SC q σ0 h), V p l e room_1 s m #[Value.ref b] below meth c (lw_Z below #[Value.ref b] s) G 9 1238 6460 n h 16 [(0, .ref b), (1, .ref x), (2, .ref q)] [] := by
  have J218 : ∀ (t9 : Nat), ∀ (TT x0 k : Nat) (σ : St) (B : Nat) (lim : TT < k + t9) (hT : TT ≤ 40) (hk : k ≤ TT) (hJ : JS B σ) (hB : B ≤ 420 * k) (n : Nat) (h : AH) (hS : SC x σ h) (hQ : SC q σ h), V p l e room_1 s m #[Value.ref b] below meth c (lw_Z below #[Value.ref b] s) G 9 (2000 + 3000 * k) (8000 + 18000 * k) n h 218 [(0, .ref b), (1, .ref x), (2, .ref q), (3, .int (nI TT)), (4, .int (nI x0)), (5, .int (nI 1)), (6, .int (nI k))] [] := by
    intro t9
    induction t9 with
    | zero => intro TT x0 k σ B lim hT hk hJ hB n h hS hQ; exact absurd lim (by omega)
    | succ t9 ih =>
      intro TT x0 k σ B lim hT hk hJ hB n h hS hQ
      refine V_iload 220 C dL_law_218 rfl rfl ?_
      refine V_iload_n 221 C dL_law_220 rfl rfl ?_
      refine V_icmp_geN 368 224 C dL_law_221 (by decide) rfl (by omega) (by omega) (fun c221 => ?_) (fun c221 => ?_)
      · skip
        refine V_L [5] rfl ?_
        exact V_wid _ _ (by omega) (by omega) (V_lwret C hG)
      · skip
        have hk : k < TT := c221
        have hB3 : B < 2 ^ 30 := by omega
        refine V_iload 226 C dL_law_224 rfl rfl ?_
        refine V_if_eqN 368 229 C dL_law_226 (by decide) rfl (by omega) (fun c226 => by omega) (fun c226 => ?_)
        refine V_aload_n 230 C dL_law_229 rfl rfl ?_
        refine V_iconst 231 C dL_law_230 rfl ic2 ?_
        refine V_iload 233 C dL_law_231 rfl rfl ?_
        refine V_iaddN 234 C dL_law_233 rfl  ?_
        refine V_cell 237 C hX hb hLL dL_law_234 rfl tw854 (by omega) ⟨Nat.le_of_ble_eq_true rfl, Nat.le_of_ble_eq_true rfl⟩ ⟨by show _ ≤ 657874; omega, by show _ ≤ 7128003; omega⟩ (Nat.le_of_ble_eq_true rfl) (fun Y hY => ?_)
        refine V_istore 239 C dL_law_237 rfl (by decide) (L' := [(0, _), (1, _), (2, _), (3, _), (4, _), (5, _), (6, _), (7, _)]) rfl ?_
        refine V_aload_n 240 C dL_law_239 rfl rfl ?_
        refine V_iload 242 C dL_law_240 rfl rfl ?_
        obtain ⟨v9, σ9, hJ9, hK9⟩ := act_ex l G hl B hB3 σ hJ Y hY
        have h3 := hJ.1.2
        have h39 := hJ9.1.2
        have hI := hJ.si
        have hI9 := hJ9.si
        refine V_q2 245 (2000 + 3000 * k + 24) (8000 + 18000 * k + 144) C hQ hx dL_law_242 rfl mL_act.z tw939 (hK9 _ _ x hS) rfl rfl ⟨Nat.le_of_ble_eq_true rfl, Nat.le_of_ble_eq_true rfl⟩ ⟨by omega, by omega⟩ ⟨by show _ ≤ 657874; omega, by show _ ≤ 7128003; omega⟩ (Nat.le_of_ble_eq_true rfl) ?_
        clear hS hQ n h
        intro n h hS hQ
        refine V_istore 247 C dL_law_245 rfl (by decide) (L' := [(0, _), (1, _), (2, _), (3, _), (4, _), (5, _), (6, _), (7, _), (8, _)]) rfl ?_
        refine V_aload_n 248 C dL_law_247 rfl rfl ?_
        refine V_iload 250 C dL_law_248 rfl rfl ?_
        refine V_ldc 252 C dL_law_250 rfl tw960 ?_
        refine V_st (st' := .int (nI 100000) :: _) rfl ?_
        refine V_iremN 253 C dL_law_252 rfl (by omega) (by omega) (by omega) ?_
        refine V_q2 256 (2000 + 3000 * k + 244) (8000 + 18000 * k + 1464) C hS hx.sy dL_law_253 rfl mL_refuses.z tw859 (c_L_refuses l G _ _ hl q σ hQ hI h3 (Y % 100000) (by omega)) rfl rfl ⟨Nat.le_of_ble_eq_true rfl, Nat.le_of_ble_eq_true rfl⟩ ⟨by omega, by omega⟩ ⟨by show _ ≤ 657874; omega, by show _ ≤ 7128003; omega⟩ (Nat.le_of_ble_eq_true rfl) ?_
        clear hS hQ n h
        intro n h hQ hS
        refine V_if_eqN 359 259 C dL_law_256 (by decide) rfl (by omega) (fun c256 => by omega) (fun c256 => ?_)
        refine V_aload_n 260 C dL_law_259 rfl rfl ?_
        refine V_iload 262 C dL_law_260 rfl rfl ?_
        refine V_q2 265 (2000 + 3000 * k + 268) (8000 + 18000 * k + 1608) C hS hx.sy dL_law_262 rfl mL_act.z tw939 (hK9 _ _ q hQ) rfl rfl ⟨Nat.le_of_ble_eq_true rfl, Nat.le_of_ble_eq_true rfl⟩ ⟨by omega, by omega⟩ ⟨by show _ ≤ 657874; omega, by show _ ≤ 7128003; omega⟩ (Nat.le_of_ble_eq_true rfl) ?_
        clear hS hQ n h
        intro n h hQ hS
        refine V_iload 267 C dL_law_265 rfl rfl ?_
        refine V_icmp_ne 359 270 C dL_law_267 (by decide) rfl  (fun c267 => by exact absurd rfl c267) (fun c267 => ?_)
        refine V_aload_n 271 C dL_law_270 rfl rfl ?_
        refine V_iload 273 C dL_law_271 rfl rfl ?_
        refine V_sipush 276 C dL_law_273 rfl sip1000 ?_
        refine V_iremN 277 C dL_law_276 rfl (by omega) (by omega) (by omega) ?_
        refine V_q2 280 (2000 + 3000 * k + 488) (8000 + 18000 * k + 2928) C hS hx.sy dL_law_277 rfl mL_refuses.z tw859 (c_L_refuses l G _ _ hl q σ9 hQ hI9 h39 (Y % 1000) (by omega)) rfl rfl ⟨Nat.le_of_ble_eq_true rfl, Nat.le_of_ble_eq_true rfl⟩ ⟨by omega, by omega⟩ ⟨by show _ ≤ 657874; omega, by show _ ≤ 7128003; omega⟩ (Nat.le_of_ble_eq_true rfl) ?_
        clear hS hQ n h
        intro n h hQ hS
        refine V_if_eqN 359 283 C dL_law_280 (by decide) rfl (by omega) (fun c280 => by omega) (fun c280 => ?_)
        refine V_aload_n 284 C dL_law_283 rfl rfl ?_
        refine V_aload_n 285 C dL_law_284 rfl rfl ?_
        refine V_iload 287 C dL_law_285 rfl rfl ?_
        refine V_sipush 290 C dL_law_287 rfl sip5000 ?_
        refine V_iremN 291 C dL_law_290 rfl (by omega) (by omega) (by omega) ?_
        refine V_q3 294 (2000 + 3000 * k + 976) (8000 + 18000 * k + 5856) C dL_law_291 rfl mL_alike.z tw942 (c_L_alike l G _ _ hl x q hx σ9 hS hQ hI9 (Y % 5000) (by omega)) rfl rfl ⟨Nat.le_of_ble_eq_true rfl, Nat.le_of_ble_eq_true rfl⟩ ⟨by omega, by omega⟩ ⟨by show _ ≤ 657874; omega, by show _ ≤ 7128003; omega⟩ (Nat.le_of_ble_eq_true rfl) ?_
        clear hS hQ n h
        intro n h hS hQ
        refine V_if_eqN 359 297 C dL_law_294 (by decide) rfl (by omega) (fun c294 => by omega) (fun c294 => ?_)
        refine V_iload 299 C dL_law_297 rfl rfl ?_
        refine V_iconst 300 C dL_law_299 rfl ic2 ?_
        refine V_iremN 301 C dL_law_300 rfl (by omega) (by omega) (by omega) ?_
        by_cases e2 : k % 2 = 0
        · skip
          refine V_if_neN 318 304 C dL_law_301 (by decide) rfl (by omega) (fun c301 => by omega) (fun c301 => ?_)
          refine V_aload_n 305 C dL_law_304 rfl rfl ?_
          refine V_iload 307 C dL_law_305 rfl rfl ?_
          refine V_iconst 308 C dL_law_307 rfl ic3 ?_
          refine V_idivN 309 C dL_law_308 rfl (by omega) (by omega) (by omega) ?_
          refine V_q2 312 (2000 + 3000 * k + 2780) (8000 + 18000 * k + 16680) C hQ hx dL_law_309 rfl mL_holds0 tw930 (c_L_holds l G _ _ hl x σ9 hS hI9 (B + 60) hJ9.1 (by omega) (Y / 3) (by omega)) rfl rfl ⟨Nat.le_of_ble_eq_true rfl, Nat.le_of_ble_eq_true rfl⟩ ⟨by omega, by omega⟩ ⟨by show _ ≤ 657874; omega, by show _ ≤ 7128003; omega⟩ (Nat.le_of_ble_eq_true rfl) ?_
          clear hS hQ n h
          intro n h hS hQ
          refine V_if_eqN 359 315 C dL_law_312 (by decide) rfl (by omega) (fun c312 => by omega) (fun c312 => ?_)
          refine V_goto 329 C dL_law_315 (by decide) ?_
          refine V_aload_n 330 C dL_law_329 rfl rfl ?_
          refine V_aload_n 331 C dL_law_330 rfl rfl ?_
          refine V_iload 333 C dL_law_331 rfl rfl ?_
          refine V_bipush 335 C dL_law_333 rfl bip7 ?_
          refine V_idivN 336 C dL_law_335 rfl (by omega) (by omega) (by omega) ?_
          refine V_q4 339 (2000 + 3000 * k + 2876) (8000 + 18000 * k + 17256) C dL_law_336 rfl mL_fades.z tw945 (c_L_fades l G _ _ hl x q hx σ9 hS hQ (B + 60) hJ9 (by omega) (Y / 7) (by omega)) rfl rfl ⟨Nat.le_of_ble_eq_true rfl, Nat.le_of_ble_eq_true rfl⟩ ⟨by omega, by omega⟩ ⟨by show _ ≤ 657874; omega, by show _ ≤ 7128003; omega⟩ (Nat.le_of_ble_eq_true rfl) ?_
          clear hS hQ n h
          intro n h σ2 hJ2 hS hQ
          refine V_if_eqN 359 342 C dL_law_339 (by decide) rfl (by omega) (fun c339 => by omega) (fun c339 => ?_)
          refine V_aload_n 343 C dL_law_342 rfl rfl ?_
          refine V_aload_n 344 C dL_law_343 rfl rfl ?_
          refine V_iload 346 C dL_law_344 rfl rfl ?_
          refine V_bipush 348 C dL_law_346 rfl bip11 ?_
          refine V_idivN 349 C dL_law_348 rfl (by omega) (by omega) (by omega) ?_
          refine V_q4 352 (2000 + 3000 * k + 2988) (8000 + 18000 * k + 17928) C dL_law_349 rfl mL_copies.z tw957 (c_L_copies l G _ _ hl x q hx σ2 hS hQ (B + 60 + 180) hJ2 (by omega) (Y / 11) (by omega)) rfl rfl ⟨Nat.le_of_ble_eq_true rfl, Nat.le_of_ble_eq_true rfl⟩ ⟨by omega, by omega⟩ ⟨by show _ ≤ 657874; omega, by show _ ≤ 7128003; omega⟩ (Nat.le_of_ble_eq_true rfl) ?_
          clear hS hQ n h
          intro n h σ3 hJ3 hS hQ
          refine V_if_eqN 359 355 C dL_law_352 (by decide) rfl (by omega) (fun c352 => by omega) (fun c352 => ?_)
          refine V_iconst 356 C dL_law_355 rfl ic1 ?_
          refine V_goto 360 C dL_law_356 (by decide) ?_
          refine V_istore 362 C dL_law_360 rfl (by decide) (L' := [(0, _), (1, _), (2, _), (3, _), (4, _), (5, _), (6, _), (7, _), (8, _)]) rfl ?_
          refine V_iinc 365 C dL_law_362 rfl (by decide) rfl (ii1 _) (L' := [(0, _), (1, _), (2, _), (3, _), (4, _), (5, _), (6, _), (7, _), (8, _)]) rfl ?_
          refine V_goto 218 C dL_law_365 (by decide) ?_
          refine V_L [0, 1, 2, 3, 4, 5, 6] rfl ?_
          exact V_wid _ _ (by omega) (by omega) (ih TT x0 (k + 1) σ3 (B + 60 + 180 + 180) (by omega) (by omega) (by omega) hJ3 (by omega) _ _ hS hQ)
        · skip
          refine V_if_neN 318 304 C dL_law_301 (by decide) rfl (by omega) (fun c301 => ?_) (fun c301 => by omega)
          refine V_aload_n 319 C dL_law_318 rfl rfl ?_
          refine V_iload 321 C dL_law_319 rfl rfl ?_
          refine V_iconst 322 C dL_law_321 rfl ic3 ?_
          refine V_idivN 323 C dL_law_322 rfl (by omega) (by omega) (by omega) ?_
          refine V_q2 326 (2000 + 3000 * k + 2780) (8000 + 18000 * k + 16680) C hS hx.sy dL_law_323 rfl mL_holds0 tw930 (c_L_holds l G _ _ hl q σ9 hQ hI9 (B + 60) hJ9.1 (by omega) (Y / 3) (by omega)) rfl rfl ⟨Nat.le_of_ble_eq_true rfl, Nat.le_of_ble_eq_true rfl⟩ ⟨by omega, by omega⟩ ⟨by show _ ≤ 657874; omega, by show _ ≤ 7128003; omega⟩ (Nat.le_of_ble_eq_true rfl) ?_
          clear hS hQ n h
          intro n h hQ hS
          refine V_if_eqN 359 329 C dL_law_326 (by decide) rfl (by omega) (fun c326 => by omega) (fun c326 => ?_)
          refine V_aload_n 330 C dL_law_329 rfl rfl ?_
          refine V_aload_n 331 C dL_law_330 rfl rfl ?_
          refine V_iload 333 C dL_law_331 rfl rfl ?_
          refine V_bipush 335 C dL_law_333 rfl bip7 ?_
          refine V_idivN 336 C dL_law_335 rfl (by omega) (by omega) (by omega) ?_
          refine V_q4 339 (2000 + 3000 * k + 2876) (8000 + 18000 * k + 17256) C dL_law_336 rfl mL_fades.z tw945 (c_L_fades l G _ _ hl x q hx σ9 hS hQ (B + 60) hJ9 (by omega) (Y / 7) (by omega)) rfl rfl ⟨Nat.le_of_ble_eq_true rfl, Nat.le_of_ble_eq_true rfl⟩ ⟨by omega, by omega⟩ ⟨by show _ ≤ 657874; omega, by show _ ≤ 7128003; omega⟩ (Nat.le_of_ble_eq_true rfl) ?_
          clear hS hQ n h
          intro n h σ2 hJ2 hS hQ
          refine V_if_eqN 359 342 C dL_law_339 (by decide) rfl (by omega) (fun c339 => by omega) (fun c339 => ?_)
          refine V_aload_n 343 C dL_law_342 rfl rfl ?_
          refine V_aload_n 344 C dL_law_343 rfl rfl ?_
          refine V_iload 346 C dL_law_344 rfl rfl ?_
          refine V_bipush 348 C dL_law_346 rfl bip11 ?_
          refine V_idivN 349 C dL_law_348 rfl (by omega) (by omega) (by omega) ?_
          refine V_q4 352 (2000 + 3000 * k + 2988) (8000 + 18000 * k + 17928) C dL_law_349 rfl mL_copies.z tw957 (c_L_copies l G _ _ hl x q hx σ2 hS hQ (B + 60 + 180) hJ2 (by omega) (Y / 11) (by omega)) rfl rfl ⟨Nat.le_of_ble_eq_true rfl, Nat.le_of_ble_eq_true rfl⟩ ⟨by omega, by omega⟩ ⟨by show _ ≤ 657874; omega, by show _ ≤ 7128003; omega⟩ (Nat.le_of_ble_eq_true rfl) ?_
          clear hS hQ n h
          intro n h σ3 hJ3 hS hQ
          refine V_if_eqN 359 355 C dL_law_352 (by decide) rfl (by omega) (fun c352 => by omega) (fun c352 => ?_)
          refine V_iconst 356 C dL_law_355 rfl ic1 ?_
          refine V_goto 360 C dL_law_356 (by decide) ?_
          refine V_istore 362 C dL_law_360 rfl (by decide) (L' := [(0, _), (1, _), (2, _), (3, _), (4, _), (5, _), (6, _), (7, _), (8, _)]) rfl ?_
          refine V_iinc 365 C dL_law_362 rfl (by decide) rfl (ii1 _) (L' := [(0, _), (1, _), (2, _), (3, _), (4, _), (5, _), (6, _), (7, _), (8, _)]) rfl ?_
          refine V_goto 218 C dL_law_365 (by decide) ?_
          refine V_L [0, 1, 2, 3, 4, 5, 6] rfl ?_
          exact V_wid _ _ (by omega) (by omega) (ih TT x0 (k + 1) σ3 (B + 60 + 180 + 180) (by omega) (by omega) (by omega) hJ3 (by omega) _ _ hS hQ)
  have J93 : ∀ (j0 x0 : Nat) (σ : St) (hj0 : j0 < 2 ^ 31) (hx0 : x0 < 2 ^ 31) (hz : S0 σ) (h0 : σ.1 0 = 3) (h14 : σ.1 1 = 0 ∧ σ.1 2 = 0 ∧ σ.1 3 = 0 ∧ σ.1 4 = 0) (n : Nat) (h : AH) (hS : SC x σ h) (hQ : SC q σ h), V p l e room_1 s m #[Value.ref b] below meth c (lw_Z below #[Value.ref b] s) G 9 1324 6744 n h 93 [(0, .ref b), (1, .ref x), (2, .ref q), (3, .int (nI (14 + j0 % 27))), (4, .int (nI x0)), (5, .int (nI 1))] [] := by
    intro j0 x0 σ hj0 hx0 hz h0 h14 n h hS hQ
    have hI1 := hz.si
    have hr1 : 3 ≤ σ.1 0 ∧ σ.1 0 ≤ 6 := by omega
    have hr2 : σ.1 1 < 10 := by omega
    obtain ⟨σa, ea⟩ : ∃ t, psh σ (rdOn σ.1 0 1 (1 + x0 % 20)) = t := ⟨_, rfl⟩
    have hIr : Iv (rdOn σ.1 0 1 (1 + x0 % 20)) := Iv_rdOn hz.1.1 hr2 (by omega) (by omega) (by omega) (by omega)
    have hza : S0 σa := by rw [← ea]; exact S0_psh hz (EV_rd hz.1 hr2 hIr)
    have hIa := hza.si
    have ya : σa.1 = rdOn σ.1 0 1 (1 + x0 % 20) := by rw [← ea]; rfl
    have qa : ∀ j, ¬ j = 1 → (j < 7 ∨ 36 < j) → σa.1 j = σ.1 j := fun j g1 g2 => by rw [ya]; exact rdOn_n g1 (by omega)
    have ka0 := qa 0 (by omega) (by omega)
    have ka2 := qa 2 (by omega) (by omega)
    have ka3 := qa 3 (by omega) (by omega)
    have ka4 := qa 4 (by omega) (by omega)
    have ha1 : 3 ≤ σa.1 0 ∧ σa.1 0 ≤ 6 := by omega
    have ha2 : σa.1 2 < 5 := by omega
    obtain ⟨σb, eb⟩ : ∃ t, psh σa (ruOn σa.1 0) = t := ⟨_, rfl⟩
    have hzb : S0 σb := by rw [← eb]; exact S0_psh hza (EV_ru hza.1 ha2 (Iv_ruOn hza.1.1 ha2 (by omega)))
    have hIb := hzb.si
    have yb : σb.1 = ruOn σa.1 0 := by rw [← eb]; rfl
    have qb : ∀ j, ¬ j = 2 → j < 37 → σb.1 j = σa.1 j := fun j g1 g2 => by rw [yb]; exact ruOn_n g1 (by omega)
    have kb0 := qb 0 (by omega) (by omega)
    have kb2 : σb.1 2 = σa.1 2 + 1 := by rw [yb]; exact ruOn_2 _ _
    have kb3 := qb 3 (by omega) (by omega)
    have kb4 := qb 4 (by omega) (by omega)
    have hb1 : 3 ≤ σb.1 0 ∧ σb.1 0 ≤ 6 := by omega
    have hb2 : σb.1 3 < 6 ∧ σb.1 4 < 12 := by omega
    obtain ⟨σc, ec⟩ : ∃ t, psh σb (wrOn σb.1 0 (x0 % 1000000) (1 + x0 / 20 % 9)) = t := ⟨_, rfl⟩
    have hzc : S0 σc := by rw [← ec]; exact S0_psh hzb (EV_wr hzb.1 hb2.1 hb2.2 (Iv_wrOn hzb.1.1 hb2.1 hb2.2 (by omega) (by omega) (by omega)))
    have yc : σc.1 = wrOn σb.1 0 (x0 % 1000000) (1 + x0 / 20 % 9) := by rw [← ec]; rfl
    have eP : ∀ j, ¬ j = 3 → ¬ j = 52 + σb.1 3 → wrP σb.1 (x0 % 1000000) j = σb.1 j := fun j g1 g2 => wrP_n g1 g2
    have kc0 : σc.1 0 = σb.1 0 := by
      rw [yc]; unfold wrOn
      rw [shOn_n (by omega) (by rw [eP 4 (by omega) (by omega)]; omega), eP _ (by omega) (by omega)]
    have kc2 : σc.1 2 = σb.1 2 := by
      rw [yc]; unfold wrOn
      rw [shOn_n (by omega) (by rw [eP 4 (by omega) (by omega)]; omega), eP _ (by omega) (by omega)]
    have kc4 : σc.1 4 = σb.1 4 + 1 := by
      rw [yc]; unfold wrOn
      rw [shOn_4, eP _ (by omega) (by omega)]
    refine V_iload 95 C dL_law_93 rfl rfl ?_
    refine V_if_eqN 212 98 C dL_law_95 (by decide) rfl (by omega) (fun c95 => by omega) (fun c95 => ?_)
    refine V_aload_n 99 C dL_law_98 rfl rfl ?_
    refine V_bipush 101 C dL_law_99 rfl bip8 ?_
    refine V_iconst 102 C dL_law_101 rfl ic0 ?_
    refine V_iconst 103 C dL_law_102 rfl ic1 ?_
    refine V_iconst 104 C dL_law_103 rfl ic1 ?_
    refine V_iload 106 C dL_law_104 rfl rfl ?_
    refine V_bipush 108 C dL_law_106 rfl bip20 ?_
    refine V_iremN 109 C dL_law_108 rfl (by omega) (by omega) (by omega) ?_
    refine V_iaddN 110 C dL_law_109 rfl  ?_
    refine V_q2 113 (1324 + 4) (6744 + 24) C hQ hx dL_law_110 rfl mL_call.z tw250 (k_road l G _ _ hl x σ hS hI1 _ _ _ _ (st_rd (c := 1 + x0 % 20) hr1 (by omega) hr2).1 _ (st_rd (c := 1 + x0 % 20) hr1 (by omega) hr2).2) rfl rfl ⟨Nat.le_of_ble_eq_true rfl, Nat.le_of_ble_eq_true rfl⟩ ⟨by omega, by omega⟩ ⟨by show _ ≤ 657874; omega, by show _ ≤ 7128003; omega⟩ (Nat.le_of_ble_eq_true rfl) ?_
    clear hS hQ n h
    intro n h hS hQ
    refine V_if_neN 212 116 C dL_law_113 (by decide) rfl (by omega) (fun c113 => by omega) (fun c113 => ?_)
    refine V_aload_n 117 C dL_law_116 rfl rfl ?_
    refine V_bipush 119 C dL_law_117 rfl bip8 ?_
    refine V_iconst 120 C dL_law_119 rfl ic0 ?_
    refine V_iconst 121 C dL_law_120 rfl ic1 ?_
    refine V_iconst 122 C dL_law_121 rfl ic1 ?_
    refine V_iload 124 C dL_law_122 rfl rfl ?_
    refine V_bipush 126 C dL_law_124 rfl bip20 ?_
    refine V_iremN 127 C dL_law_126 rfl (by omega) (by omega) (by omega) ?_
    refine V_iaddN 128 C dL_law_127 rfl  ?_
    refine V_q2 131 (1324 + 8) (6744 + 48) C hS hx.sy dL_law_128 rfl mL_call.z tw250 (k_road l G _ _ hl q σ hQ hI1 _ _ _ _ (st_rd (c := 1 + x0 % 20) hr1 (by omega) hr2).1 _ (st_rd (c := 1 + x0 % 20) hr1 (by omega) hr2).2) rfl rfl ⟨Nat.le_of_ble_eq_true rfl, Nat.le_of_ble_eq_true rfl⟩ ⟨by omega, by omega⟩ ⟨by show _ ≤ 657874; omega, by show _ ≤ 7128003; omega⟩ (Nat.le_of_ble_eq_true rfl) ?_
    clear hS hQ n h
    intro n h hQ hS
    rw [ea] at hS hQ
    refine V_if_neN 212 134 C dL_law_131 (by decide) rfl (by omega) (fun c131 => by omega) (fun c131 => ?_)
    refine V_aload_n 135 C dL_law_134 rfl rfl ?_
    refine V_bipush 137 C dL_law_135 rfl bip9 ?_
    refine V_iconst 138 C dL_law_137 rfl ic0 ?_
    refine V_iconst 139 C dL_law_138 rfl ic0 ?_
    refine V_iconst 140 C dL_law_139 rfl ic0 ?_
    refine V_q2 143 (1324 + 12) (6744 + 72) C hQ hx dL_law_140 rfl mL_call.z tw250 (k_runner l G _ _ hl x σa hS hIa _ _ _ _ (st_ru (σ := σa) ha1 ha2).1 _ (st_ru (σ := σa) ha1 ha2).2) rfl rfl ⟨Nat.le_of_ble_eq_true rfl, Nat.le_of_ble_eq_true rfl⟩ ⟨by omega, by omega⟩ ⟨by show _ ≤ 657874; omega, by show _ ≤ 7128003; omega⟩ (Nat.le_of_ble_eq_true rfl) ?_
    clear hS hQ n h
    intro n h hS hQ
    refine V_if_neN 212 146 C dL_law_143 (by decide) rfl (by omega) (fun c143 => by omega) (fun c143 => ?_)
    refine V_aload_n 147 C dL_law_146 rfl rfl ?_
    refine V_bipush 149 C dL_law_147 rfl bip9 ?_
    refine V_iconst 150 C dL_law_149 rfl ic0 ?_
    refine V_iconst 151 C dL_law_150 rfl ic0 ?_
    refine V_iconst 152 C dL_law_151 rfl ic0 ?_
    refine V_q2 155 (1324 + 16) (6744 + 96) C hS hx.sy dL_law_152 rfl mL_call.z tw250 (k_runner l G _ _ hl q σa hQ hIa _ _ _ _ (st_ru (σ := σa) ha1 ha2).1 _ (st_ru (σ := σa) ha1 ha2).2) rfl rfl ⟨Nat.le_of_ble_eq_true rfl, Nat.le_of_ble_eq_true rfl⟩ ⟨by omega, by omega⟩ ⟨by show _ ≤ 657874; omega, by show _ ≤ 7128003; omega⟩ (Nat.le_of_ble_eq_true rfl) ?_
    clear hS hQ n h
    intro n h hQ hS
    rw [eb] at hS hQ
    refine V_if_neN 212 158 C dL_law_155 (by decide) rfl (by omega) (fun c155 => by omega) (fun c155 => ?_)
    refine V_aload_n 159 C dL_law_158 rfl rfl ?_
    refine V_bipush 161 C dL_law_159 rfl bip10 ?_
    refine V_iconst 162 C dL_law_161 rfl ic0 ?_
    refine V_iload 164 C dL_law_162 rfl rfl ?_
    refine V_ldc 166 C dL_law_164 rfl tw862 ?_
    refine V_st (st' := .int (nI 1000000) :: _) rfl ?_
    refine V_iremN 167 C dL_law_166 rfl (by omega) (by omega) (by omega) ?_
    refine V_iconst 168 C dL_law_167 rfl ic1 ?_
    refine V_iload 170 C dL_law_168 rfl rfl ?_
    refine V_bipush 172 C dL_law_170 rfl bip20 ?_
    refine V_idivN 173 C dL_law_172 rfl (by omega) (by omega) (by omega) ?_
    refine V_bipush 175 C dL_law_173 rfl bip9 ?_
    refine V_iremN 176 C dL_law_175 rfl (by omega) (by omega) (by omega) ?_
    refine V_iaddN 177 C dL_law_176 rfl  ?_
    refine V_q2 180 (1324 + 20) (6744 + 120) C hQ hx dL_law_177 rfl mL_call.z tw250 (k_write l G _ _ hl x σb hS hIb _ _ _ _ (st_wr (σ := σb) (d := x0 % 1000000) (f := 1 + x0 / 20 % 9) hb1 (by omega) (by omega) hb2).1 _ (st_wr (σ := σb) (d := x0 % 1000000) (f := 1 + x0 / 20 % 9) hb1 (by omega) (by omega) hb2).2) rfl rfl ⟨Nat.le_of_ble_eq_true rfl, Nat.le_of_ble_eq_true rfl⟩ ⟨by omega, by omega⟩ ⟨by show _ ≤ 657874; omega, by show _ ≤ 7128003; omega⟩ (Nat.le_of_ble_eq_true rfl) ?_
    clear hS hQ n h
    intro n h hS hQ
    refine V_if_neN 212 183 C dL_law_180 (by decide) rfl (by omega) (fun c180 => by omega) (fun c180 => ?_)
    refine V_aload_n 184 C dL_law_183 rfl rfl ?_
    refine V_bipush 186 C dL_law_184 rfl bip10 ?_
    refine V_iconst 187 C dL_law_186 rfl ic0 ?_
    refine V_iload 189 C dL_law_187 rfl rfl ?_
    refine V_ldc 191 C dL_law_189 rfl tw862 ?_
    refine V_st (st' := .int (nI 1000000) :: _) rfl ?_
    refine V_iremN 192 C dL_law_191 rfl (by omega) (by omega) (by omega) ?_
    refine V_iconst 193 C dL_law_192 rfl ic1 ?_
    refine V_iload 195 C dL_law_193 rfl rfl ?_
    refine V_bipush 197 C dL_law_195 rfl bip20 ?_
    refine V_idivN 198 C dL_law_197 rfl (by omega) (by omega) (by omega) ?_
    refine V_bipush 200 C dL_law_198 rfl bip9 ?_
    refine V_iremN 201 C dL_law_200 rfl (by omega) (by omega) (by omega) ?_
    refine V_iaddN 202 C dL_law_201 rfl  ?_
    refine V_q2 205 (1324 + 24) (6744 + 144) C hS hx.sy dL_law_202 rfl mL_call.z tw250 (k_write l G _ _ hl q σb hQ hIb _ _ _ _ (st_wr (σ := σb) (d := x0 % 1000000) (f := 1 + x0 / 20 % 9) hb1 (by omega) (by omega) hb2).1 _ (st_wr (σ := σb) (d := x0 % 1000000) (f := 1 + x0 / 20 % 9) hb1 (by omega) (by omega) hb2).2) rfl rfl ⟨Nat.le_of_ble_eq_true rfl, Nat.le_of_ble_eq_true rfl⟩ ⟨by omega, by omega⟩ ⟨by show _ ≤ 657874; omega, by show _ ≤ 7128003; omega⟩ (Nat.le_of_ble_eq_true rfl) ?_
    clear hS hQ n h
    intro n h hQ hS
    rw [ec] at hS hQ
    refine V_if_neN 212 208 C dL_law_205 (by decide) rfl (by omega) (fun c205 => by omega) (fun c205 => ?_)
    refine V_iconst 209 C dL_law_208 rfl ic1 ?_
    refine V_goto 213 C dL_law_209 (by decide) ?_
    refine V_istore 215 C dL_law_213 rfl (by decide) (L' := [(0, _), (1, _), (2, _), (3, _), (4, _), (5, _)]) rfl ?_
    refine V_iconst 216 C dL_law_215 rfl ic0 ?_
    refine V_istore 218 C dL_law_216 rfl (by decide) (L' := [(0, _), (1, _), (2, _), (3, _), (4, _), (5, _), (6, _)]) rfl ?_
    refine V_L [0, 1, 2, 3, 4, 5, 6] rfl ?_
    exact V_wid _ _ (by omega) (by omega) (J218 41 (14 + j0 % 27) x0 0 σc 0 (by omega) (by omega) (by omega) (hzc.js ⟨by omega, by omega, by omega⟩) (by omega) _ _ hS hQ)
  have J41 : ∀ (t9 : Nat), ∀ (j0 x0 t : Nat) (σ : St) (lim : 3 < t + t9) (hj0 : j0 < 2 ^ 31) (hx0 : x0 < 2 ^ 31) (ht : t ≤ 3) (hz : S0 σ) (h0 : σ.1 0 = t) (h14 : σ.1 1 = 0 ∧ σ.1 2 = 0 ∧ σ.1 3 = 0 ∧ σ.1 4 = 0) (n : Nat) (h : AH) (hS : SC x σ h) (hQ : SC q σ h), V p l e room_1 s m #[Value.ref b] below meth c (lw_Z below #[Value.ref b] s) G 9 (1300 + 8 * t) (6600 + 48 * t) n h 41 [(0, .ref b), (1, .ref x), (2, .ref q), (3, .int (nI (14 + j0 % 27))), (4, .int (nI x0)), (5, .int (nI 1)), (6, .int (nI t))] [] := by
    intro t9
    induction t9 with
    | zero => intro j0 x0 t σ lim hj0 hx0 ht hz h0 h14 n h hS hQ; exact absurd lim (by omega)
    | succ t9 ih =>
      intro j0 x0 t σ lim hj0 hx0 ht hz h0 h14 n h hS hQ
      refine V_iload 43 C dL_law_41 rfl rfl ?_
      refine V_iconst 44 C dL_law_43 rfl ic3 ?_
      refine V_icmp_geN 93 47 C dL_law_44 (by decide) rfl (by omega) (by omega) (fun c44 => ?_) (fun c44 => ?_)
      · skip
        have et : t = 3 := by omega
        subst et
        refine V_L [0, 1, 2, 3, 4, 5] rfl ?_
        exact V_wid _ _ (by omega) (by omega) (J93 j0 x0 σ hj0 hx0 hz h0 h14 _ _ hS hQ)
      · skip
        have h6 : σ.1 0 < 6 := by omega
        have hI1 := hz.si
        have etw : ∀ j, ¬ j = 0 → twOn σ.1 j = σ.1 j := fun j hj => ys_n _ hj
        refine V_iload 49 C dL_law_47 rfl rfl ?_
        refine V_if_eqN 93 52 C dL_law_49 (by decide) rfl (by omega) (fun c49 => by omega) (fun c49 => ?_)
        refine V_aload_n 53 C dL_law_52 rfl rfl ?_
        refine V_bipush 55 C dL_law_53 rfl bip7 ?_
        refine V_iconst 56 C dL_law_55 rfl ic0 ?_
        refine V_iconst 57 C dL_law_56 rfl ic0 ?_
        refine V_iconst 58 C dL_law_57 rfl ic0 ?_
        refine V_q2 61 (1300 + 8 * t + 4) (6600 + 48 * t + 24) C hQ hx dL_law_58 rfl mL_call.z tw250 (k_town l G _ _ hl x σ hS hI1 _ _ _ _ (st_tw h6).1 _ (st_tw h6).2) rfl rfl ⟨Nat.le_of_ble_eq_true rfl, Nat.le_of_ble_eq_true rfl⟩ ⟨by omega, by omega⟩ ⟨by show _ ≤ 657874; omega, by show _ ≤ 7128003; omega⟩ (Nat.le_of_ble_eq_true rfl) ?_
        clear hS hQ n h
        intro n h hS hQ
        refine V_iload 63 C dL_law_61 rfl rfl ?_
        refine V_icmp_neN 84 66 C dL_law_63 (by decide) rfl (by omega) (by omega) (fun c63 => by omega) (fun c63 => ?_)
        refine V_aload_n 67 C dL_law_66 rfl rfl ?_
        refine V_bipush 69 C dL_law_67 rfl bip7 ?_
        refine V_iconst 70 C dL_law_69 rfl ic0 ?_
        refine V_iconst 71 C dL_law_70 rfl ic0 ?_
        refine V_iconst 72 C dL_law_71 rfl ic0 ?_
        refine V_q2 75 (1300 + 8 * t + 8) (6600 + 48 * t + 48) C hS hx.sy dL_law_72 rfl mL_call.z tw250 (k_town l G _ _ hl q σ hQ hI1 _ _ _ _ (st_tw h6).1 _ (st_tw h6).2) rfl rfl ⟨Nat.le_of_ble_eq_true rfl, Nat.le_of_ble_eq_true rfl⟩ ⟨by omega, by omega⟩ ⟨by show _ ≤ 657874; omega, by show _ ≤ 7128003; omega⟩ (Nat.le_of_ble_eq_true rfl) ?_
        clear hS hQ n h
        intro n h hQ hS
        refine V_iload 77 C dL_law_75 rfl rfl ?_
        refine V_icmp_neN 84 80 C dL_law_77 (by decide) rfl (by omega) (by omega) (fun c77 => by omega) (fun c77 => ?_)
        refine V_iconst 81 C dL_law_80 rfl ic1 ?_
        refine V_goto 85 C dL_law_81 (by decide) ?_
        refine V_istore 87 C dL_law_85 rfl (by decide) (L' := [(0, _), (1, _), (2, _), (3, _), (4, _), (5, _), (6, _)]) rfl ?_
        refine V_iinc 90 C dL_law_87 rfl (by decide) rfl (ii1 _) (L' := [(0, _), (1, _), (2, _), (3, _), (4, _), (5, _), (6, _)]) rfl ?_
        refine V_goto 41 C dL_law_90 (by decide) ?_
        refine V_L [0, 1, 2, 3, 4, 5, 6] rfl ?_
        exact V_wid _ _ (by omega) (by omega) (ih j0 x0 (t + 1) (psh σ (twOn σ.1)) (by omega) hj0 hx0 (by omega) (S0_psh hz (EV_tw hz.1 (Iv_twOn hz.1.1 h6))) (by show twOn σ.1 0 = _; unfold twOn; rw [ys_s]; omega) ⟨(etw 1 (by omega)).trans h14.1, (etw 2 (by omega)).trans h14.2.1, (etw 3 (by omega)).trans h14.2.2.1, (etw 4 (by omega)).trans h14.2.2.2⟩ _ _ hS hQ)
  intro n h hS hQ
  refine V_bipush 18 C dL_law_16 rfl bip14 ?_
  refine V_aload_n 19 C dL_law_18 rfl rfl ?_
  refine V_iconst 20 C dL_law_19 rfl ic0 ?_
  refine V_cell 23 C hX hb hLL dL_law_20 rfl tw854 (by omega) ⟨Nat.le_of_ble_eq_true rfl, Nat.le_of_ble_eq_true rfl⟩ ⟨by show _ ≤ 657874; omega, by show _ ≤ 7128003; omega⟩ (Nat.le_of_ble_eq_true rfl) (fun j0 hj0 => ?_)
  refine V_bipush 25 C dL_law_23 rfl bip27 ?_
  refine V_iremN 26 C dL_law_25 rfl (by omega) (by omega) (by omega) ?_
  refine V_iaddN 27 C dL_law_26 rfl  ?_
  refine V_istore_n 28 C dL_law_27 rfl (by decide) (L' := [(0, _), (1, _), (2, _), (3, _)]) rfl ?_
  refine V_aload_n 29 C dL_law_28 rfl rfl ?_
  refine V_iconst 30 C dL_law_29 rfl ic1 ?_
  refine V_cell 33 C hX hb hLL dL_law_30 rfl tw854 (by omega) ⟨Nat.le_of_ble_eq_true rfl, Nat.le_of_ble_eq_true rfl⟩ ⟨by show _ ≤ 657874; omega, by show _ ≤ 7128003; omega⟩ (Nat.le_of_ble_eq_true rfl) (fun x0 hx0 => ?_)
  refine V_istore 35 C dL_law_33 rfl (by decide) (L' := [(0, _), (1, _), (2, _), (3, _), (4, _)]) rfl ?_
  refine V_iconst 36 C dL_law_35 rfl ic1 ?_
  refine V_istore 38 C dL_law_36 rfl (by decide) (L' := [(0, _), (1, _), (2, _), (3, _), (4, _), (5, _)]) rfl ?_
  refine V_iconst 39 C dL_law_38 rfl ic0 ?_
  refine V_istore 41 C dL_law_39 rfl (by decide) (L' := [(0, _), (1, _), (2, _), (3, _), (4, _), (5, _), (6, _)]) rfl ?_
  refine V_L [0, 1, 2, 3, 4, 5, 6] rfl ?_
  exact V_wid _ _ (by omega) (by omega) (J41 4 j0 x0 0 σ0 (by omega) hj0 hx0 (by omega) S0_0 rfl ⟨rfl, rfl, rfl, rfl⟩ _ _ hS hQ)
