/-! WHAT HOLDS IN EACH COUNTRY -/
theorem sg_1 {v : Nat} (h : v = NO ∨ v < 2 ^ 31) : ¬ nI v < nI 4294967295 := by
  rw [Int32.lt_iff_toInt_lt, show (nI 4294967295).toInt = -1 from by decide]
  rcases h with rfl | h
  · rw [NOI]; omega
  · rw [nI_toInt h]; omega
theorem sg_2 {v b : Nat} (h : v = NO ∨ v < b) (hb : b < 2 ^ 31) : ¬ nI b ≤ nI v := by
  rw [Int32.le_iff_toInt_le, nI_toInt hb]
  rcases h with rfl | h
  · rw [NOI]; omega
  · rw [nI_toInt (by omega)]; omega
theorem MZ_holds : MZ yL_holds cL_holds 20 (some .boolean) 2 := ⟨⟨tw932, tw0, ⟨by decide +kernel, by decide +kernel⟩, by decide +kernel, by decide +kernel⟩, tw931⟩
abbrev mL_holds0 := MZ_holds
theorem crs_at {y : Nat → Nat} {s : Nat} : (pof y s = NO ∧ crs y s = 1) ∨ (¬ pof y s = NO ∧ y (58 + 6 * s + 2) = 0 ∧ crs y s = 2) ∨ (¬ pof y s = NO ∧ ¬ y (58 + 6 * s + 2) = 0 ∧ (crs y s = 3 ∨ (y 4 = 12 ∧ crs y s = 4) ∨ (¬ y 4 = 12 ∧ crs y s = 0))) := by
  unfold crs
  by_cases h1 : pof y s = NO
  · rw [if_pos h1]; exact Or.inl ⟨h1, rfl⟩
  · rw [if_neg h1]
    by_cases h2 : y (58 + 6 * s + 2) = 0
    · rw [if_pos h2]; exact Or.inr (Or.inl ⟨h1, h2, rfl⟩)
    · rw [if_neg h2]
      refine Or.inr (Or.inr ⟨h1, h2, ?_⟩)
      by_cases h3 : rinb y (pof y s) (y (58 + 6 * s + 4)) (y 2) = false
      · rw [if_pos h3]; exact Or.inl rfl
      · rw [if_neg h3]
        by_cases h4 : y 4 = 12
        · rw [if_pos h4]; exact Or.inr (Or.inl ⟨h4, rfl⟩)
        · rw [if_neg h4]; exact Or.inr (Or.inr ⟨h4, rfl⟩)
theorem dL_holds_0 : decode cL_holds 0 = .ok (.aload_n 0, 1) := by decide +kernel
theorem dL_holds_1 : decode cL_holds 1 = .ok (.iconst 2, 1) := by decide +kernel
theorem dL_holds_2 : decode cL_holds 2 = .ok (.iconst 0, 1) := by decide +kernel
theorem dL_holds_3 : decode cL_holds 3 = .ok (.iconst 0, 1) := by decide +kernel
theorem dL_holds_4 : decode cL_holds 4 = .ok (.iconst 0, 1) := by decide +kernel
theorem dL_holds_5 : decode cL_holds 5 = .ok (.invokestatic 198, 3) := by decide +kernel
theorem dL_holds_8 : decode cL_holds 8 = .ok (.istore_n 2, 1) := by decide +kernel
theorem dL_holds_9 : decode cL_holds 9 = .ok (.aload_n 0, 1) := by decide +kernel
theorem dL_holds_10 : decode cL_holds 10 = .ok (.iconst 2, 1) := by decide +kernel
theorem dL_holds_11 : decode cL_holds 11 = .ok (.iconst 2, 1) := by decide +kernel
theorem dL_holds_12 : decode cL_holds 12 = .ok (.iconst 0, 1) := by decide +kernel
theorem dL_holds_13 : decode cL_holds 13 = .ok (.iconst 0, 1) := by decide +kernel
theorem dL_holds_14 : decode cL_holds 14 = .ok (.invokestatic 198, 3) := by decide +kernel
theorem dL_holds_17 : decode cL_holds 17 = .ok (.istore_n 3, 1) := by decide +kernel
theorem dL_holds_18 : decode cL_holds 18 = .ok (.aload_n 0, 1) := by decide +kernel
theorem dL_holds_19 : decode cL_holds 19 = .ok (.iconst 2, 1) := by decide +kernel
theorem dL_holds_20 : decode cL_holds 20 = .ok (.iconst 3, 1) := by decide +kernel
theorem dL_holds_21 : decode cL_holds 21 = .ok (.iconst 0, 1) := by decide +kernel
theorem dL_holds_22 : decode cL_holds 22 = .ok (.iconst 0, 1) := by decide +kernel
theorem dL_holds_23 : decode cL_holds 23 = .ok (.invokestatic 198, 3) := by decide +kernel
theorem dL_holds_26 : decode cL_holds 26 = .ok (.istore 4, 2) := by decide +kernel
theorem dL_holds_28 : decode cL_holds 28 = .ok (.aload_n 0, 1) := by decide +kernel
theorem dL_holds_29 : decode cL_holds 29 = .ok (.iconst 2, 1) := by decide +kernel
theorem dL_holds_30 : decode cL_holds 30 = .ok (.iconst 4, 1) := by decide +kernel
theorem dL_holds_31 : decode cL_holds 31 = .ok (.iconst 0, 1) := by decide +kernel
theorem dL_holds_32 : decode cL_holds 32 = .ok (.iconst 0, 1) := by decide +kernel
theorem dL_holds_33 : decode cL_holds 33 = .ok (.invokestatic 198, 3) := by decide +kernel
theorem dL_holds_36 : decode cL_holds 36 = .ok (.istore 5, 2) := by decide +kernel
theorem dL_holds_38 : decode cL_holds 38 = .ok (.iconst 0, 1) := by decide +kernel
theorem dL_holds_39 : decode cL_holds 39 = .ok (.istore 6, 2) := by decide +kernel
theorem dL_holds_41 : decode cL_holds 41 = .ok (.iconst 0, 1) := by decide +kernel
theorem dL_holds_42 : decode cL_holds 42 = .ok (.istore 7, 2) := by decide +kernel
theorem dL_holds_44 : decode cL_holds 44 = .ok (.iconst 0, 1) := by decide +kernel
theorem dL_holds_45 : decode cL_holds 45 = .ok (.istore 8, 2) := by decide +kernel
theorem dL_holds_47 : decode cL_holds 47 = .ok (.iconst 0, 1) := by decide +kernel
theorem dL_holds_48 : decode cL_holds 48 = .ok (.istore 9, 2) := by decide +kernel
theorem dL_holds_50 : decode cL_holds 50 = .ok (.iload_n 2, 1) := by decide +kernel
theorem dL_holds_51 : decode cL_holds 51 = .ok (.bipush 6, 2) := by decide +kernel
theorem dL_holds_53 : decode cL_holds 53 = .ok (.if_icmp .gt 33, 3) := by decide +kernel
theorem dL_holds_56 : decode cL_holds 56 = .ok (.iload_n 3, 1) := by decide +kernel
theorem dL_holds_57 : decode cL_holds 57 = .ok (.iconst 5, 1) := by decide +kernel
theorem dL_holds_58 : decode cL_holds 58 = .ok (.if_icmp .gt 28, 3) := by decide +kernel
theorem dL_holds_61 : decode cL_holds 61 = .ok (.iload 4, 2) := by decide +kernel
theorem dL_holds_63 : decode cL_holds 63 = .ok (.bipush 6, 2) := by decide +kernel
theorem dL_holds_65 : decode cL_holds 65 = .ok (.if_icmp .gt 21, 3) := by decide +kernel
theorem dL_holds_68 : decode cL_holds 68 = .ok (.iload 5, 2) := by decide +kernel
theorem dL_holds_70 : decode cL_holds 70 = .ok (.bipush 12, 2) := by decide +kernel
theorem dL_holds_72 : decode cL_holds 72 = .ok (.if_icmp .gt 14, 3) := by decide +kernel
theorem dL_holds_75 : decode cL_holds 75 = .ok (.iload 4, 2) := by decide +kernel
theorem dL_holds_77 : decode cL_holds 77 = .ok (.iload 5, 2) := by decide +kernel
theorem dL_holds_79 : decode cL_holds 79 = .ok (.if_icmp .gt 7, 3) := by decide +kernel
theorem dL_holds_82 : decode cL_holds 82 = .ok (.iconst 1, 1) := by decide +kernel
theorem dL_holds_83 : decode cL_holds 83 = .ok (.goto 4, 3) := by decide +kernel
theorem dL_holds_86 : decode cL_holds 86 = .ok (.iconst 0, 1) := by decide +kernel
theorem dL_holds_87 : decode cL_holds 87 = .ok (.istore 10, 2) := by decide +kernel
theorem dL_holds_89 : decode cL_holds 89 = .ok (.iconst 0, 1) := by decide +kernel
theorem dL_holds_90 : decode cL_holds 90 = .ok (.istore 11, 2) := by decide +kernel
theorem dL_holds_92 : decode cL_holds 92 = .ok (.iload 11, 2) := by decide +kernel
theorem dL_holds_94 : decode cL_holds 94 = .ok (.iload 5, 2) := by decide +kernel
theorem dL_holds_96 : decode cL_holds 96 = .ok (.if_icmp .ge 453, 3) := by decide +kernel
theorem dL_holds_99 : decode cL_holds 99 = .ok (.iload 10, 2) := by decide +kernel
theorem dL_holds_101 : decode cL_holds 101 = .ok (.ifCond .eq 448, 3) := by decide +kernel
theorem dL_holds_104 : decode cL_holds 104 = .ok (.aload_n 0, 1) := by decide +kernel
theorem dL_holds_105 : decode cL_holds 105 = .ok (.iconst 5, 1) := by decide +kernel
theorem dL_holds_106 : decode cL_holds 106 = .ok (.iload 11, 2) := by decide +kernel
theorem dL_holds_108 : decode cL_holds 108 = .ok (.iconst 1, 1) := by decide +kernel
theorem dL_holds_109 : decode cL_holds 109 = .ok (.iconst 0, 1) := by decide +kernel
theorem dL_holds_110 : decode cL_holds 110 = .ok (.invokestatic 198, 3) := by decide +kernel
theorem dL_holds_113 : decode cL_holds 113 = .ok (.istore 12, 2) := by decide +kernel
theorem dL_holds_115 : decode cL_holds 115 = .ok (.aload_n 0, 1) := by decide +kernel
theorem dL_holds_116 : decode cL_holds 116 = .ok (.iconst 5, 1) := by decide +kernel
theorem dL_holds_117 : decode cL_holds 117 = .ok (.iload 11, 2) := by decide +kernel
theorem dL_holds_119 : decode cL_holds 119 = .ok (.iconst 3, 1) := by decide +kernel
theorem dL_holds_120 : decode cL_holds 120 = .ok (.iconst 0, 1) := by decide +kernel
theorem dL_holds_121 : decode cL_holds 121 = .ok (.invokestatic 198, 3) := by decide +kernel
theorem dL_holds_124 : decode cL_holds 124 = .ok (.istore 13, 2) := by decide +kernel
theorem dL_holds_126 : decode cL_holds 126 = .ok (.aload_n 0, 1) := by decide +kernel
theorem dL_holds_127 : decode cL_holds 127 = .ok (.iconst 5, 1) := by decide +kernel
theorem dL_holds_128 : decode cL_holds 128 = .ok (.iload 11, 2) := by decide +kernel
theorem dL_holds_130 : decode cL_holds 130 = .ok (.iconst 4, 1) := by decide +kernel
theorem dL_holds_131 : decode cL_holds 131 = .ok (.iconst 0, 1) := by decide +kernel
theorem dL_holds_132 : decode cL_holds 132 = .ok (.invokestatic 198, 3) := by decide +kernel
theorem dL_holds_135 : decode cL_holds 135 = .ok (.istore 14, 2) := by decide +kernel
theorem dL_holds_137 : decode cL_holds 137 = .ok (.aload_n 0, 1) := by decide +kernel
theorem dL_holds_138 : decode cL_holds 138 = .ok (.iconst 5, 1) := by decide +kernel
theorem dL_holds_139 : decode cL_holds 139 = .ok (.iload 11, 2) := by decide +kernel
theorem dL_holds_141 : decode cL_holds 141 = .ok (.iconst 5, 1) := by decide +kernel
theorem dL_holds_142 : decode cL_holds 142 = .ok (.iconst 0, 1) := by decide +kernel
theorem dL_holds_143 : decode cL_holds 143 = .ok (.invokestatic 198, 3) := by decide +kernel
theorem dL_holds_146 : decode cL_holds 146 = .ok (.istore 15, 2) := by decide +kernel
theorem dL_holds_148 : decode cL_holds 148 = .ok (.aload_n 0, 1) := by decide +kernel
theorem dL_holds_149 : decode cL_holds 149 = .ok (.iconst 5, 1) := by decide +kernel
theorem dL_holds_150 : decode cL_holds 150 = .ok (.iload 11, 2) := by decide +kernel
theorem dL_holds_152 : decode cL_holds 152 = .ok (.bipush 6, 2) := by decide +kernel
theorem dL_holds_154 : decode cL_holds 154 = .ok (.iconst 0, 1) := by decide +kernel
theorem dL_holds_155 : decode cL_holds 155 = .ok (.invokestatic 198, 3) := by decide +kernel
theorem dL_holds_158 : decode cL_holds 158 = .ok (.istore 16, 2) := by decide +kernel
theorem dL_holds_160 : decode cL_holds 160 = .ok (.aload_n 0, 1) := by decide +kernel
theorem dL_holds_161 : decode cL_holds 161 = .ok (.iconst 5, 1) := by decide +kernel
theorem dL_holds_162 : decode cL_holds 162 = .ok (.iload 11, 2) := by decide +kernel
theorem dL_holds_164 : decode cL_holds 164 = .ok (.bipush 7, 2) := by decide +kernel
theorem dL_holds_166 : decode cL_holds 166 = .ok (.iconst 0, 1) := by decide +kernel
theorem dL_holds_167 : decode cL_holds 167 = .ok (.invokestatic 198, 3) := by decide +kernel
theorem dL_holds_170 : decode cL_holds 170 = .ok (.istore 17, 2) := by decide +kernel
theorem dL_holds_172 : decode cL_holds 172 = .ok (.aload_n 0, 1) := by decide +kernel
theorem dL_holds_173 : decode cL_holds 173 = .ok (.iconst 5, 1) := by decide +kernel
theorem dL_holds_174 : decode cL_holds 174 = .ok (.iload 11, 2) := by decide +kernel
theorem dL_holds_176 : decode cL_holds 176 = .ok (.iconst 0, 1) := by decide +kernel
theorem dL_holds_177 : decode cL_holds 177 = .ok (.iconst 0, 1) := by decide +kernel
theorem dL_holds_178 : decode cL_holds 178 = .ok (.invokestatic 198, 3) := by decide +kernel
theorem dL_holds_181 : decode cL_holds 181 = .ok (.istore 18, 2) := by decide +kernel
theorem dL_holds_183 : decode cL_holds 183 = .ok (.iload 6, 2) := by decide +kernel
theorem dL_holds_185 : decode cL_holds 185 = .ok (.iload 15, 2) := by decide +kernel
theorem dL_holds_187 : decode cL_holds 187 = .ok (.iadd, 1) := by decide +kernel
theorem dL_holds_188 : decode cL_holds 188 = .ok (.istore 6, 2) := by decide +kernel
theorem dL_holds_190 : decode cL_holds 190 = .ok (.iload 7, 2) := by decide +kernel
theorem dL_holds_192 : decode cL_holds 192 = .ok (.iload 12, 2) := by decide +kernel
theorem dL_holds_194 : decode cL_holds 194 = .ok (.ifCond .ne 7, 3) := by decide +kernel
theorem dL_holds_197 : decode cL_holds 197 = .ok (.iconst 1, 1) := by decide +kernel
theorem dL_holds_198 : decode cL_holds 198 = .ok (.goto 4, 3) := by decide +kernel
theorem dL_holds_201 : decode cL_holds 201 = .ok (.iconst 0, 1) := by decide +kernel
theorem dL_holds_202 : decode cL_holds 202 = .ok (.iadd, 1) := by decide +kernel
theorem dL_holds_203 : decode cL_holds 203 = .ok (.istore 7, 2) := by decide +kernel
theorem dL_holds_205 : decode cL_holds 205 = .ok (.iload 18, 2) := by decide +kernel
theorem dL_holds_207 : decode cL_holds 207 = .ok (.ifCond .lt 232, 3) := by decide +kernel
theorem dL_holds_210 : decode cL_holds 210 = .ok (.iload 18, 2) := by decide +kernel
theorem dL_holds_212 : decode cL_holds 212 = .ok (.iload 4, 2) := by decide +kernel
theorem dL_holds_214 : decode cL_holds 214 = .ok (.if_icmp .ge 225, 3) := by decide +kernel
theorem dL_holds_217 : decode cL_holds 217 = .ok (.iload 12, 2) := by decide +kernel
theorem dL_holds_219 : decode cL_holds 219 = .ok (.ifCond .lt 220, 3) := by decide +kernel
theorem dL_holds_222 : decode cL_holds 222 = .ok (.iload 12, 2) := by decide +kernel
theorem dL_holds_224 : decode cL_holds 224 = .ok (.bipush 99, 2) := by decide +kernel
theorem dL_holds_226 : decode cL_holds 226 = .ok (.if_icmp .gt 213, 3) := by decide +kernel
theorem dL_holds_229 : decode cL_holds 229 = .ok (.iload 13, 2) := by decide +kernel
theorem dL_holds_231 : decode cL_holds 231 = .ok (.iconst (-1), 1) := by decide +kernel
theorem dL_holds_232 : decode cL_holds 232 = .ok (.if_icmp .lt 207, 3) := by decide +kernel
theorem dL_holds_235 : decode cL_holds 235 = .ok (.iload 13, 2) := by decide +kernel
theorem dL_holds_237 : decode cL_holds 237 = .ok (.iload_n 3, 1) := by decide +kernel
theorem dL_holds_238 : decode cL_holds 238 = .ok (.if_icmp .ge 201, 3) := by decide +kernel
theorem dL_holds_241 : decode cL_holds 241 = .ok (.iload 14, 2) := by decide +kernel
theorem dL_holds_243 : decode cL_holds 243 = .ok (.iconst (-1), 1) := by decide +kernel
theorem dL_holds_244 : decode cL_holds 244 = .ok (.if_icmp .lt 195, 3) := by decide +kernel
theorem dL_holds_247 : decode cL_holds 247 = .ok (.iload 14, 2) := by decide +kernel
theorem dL_holds_249 : decode cL_holds 249 = .ok (.iload_n 2, 1) := by decide +kernel
theorem dL_holds_250 : decode cL_holds 250 = .ok (.if_icmp .ge 189, 3) := by decide +kernel
theorem dL_holds_253 : decode cL_holds 253 = .ok (.iload 16, 2) := by decide +kernel
theorem dL_holds_255 : decode cL_holds 255 = .ok (.ifCond .lt 184, 3) := by decide +kernel
theorem dL_holds_258 : decode cL_holds 258 = .ok (.iload 16, 2) := by decide +kernel
theorem dL_holds_260 : decode cL_holds 260 = .ok (.ldc 202, 2) := by decide +kernel
theorem dL_holds_262 : decode cL_holds 262 = .ok (.if_icmp .ge 177, 3) := by decide +kernel
theorem dL_holds_265 : decode cL_holds 265 = .ok (.iload 17, 2) := by decide +kernel
theorem dL_holds_267 : decode cL_holds 267 = .ok (.iconst (-1), 1) := by decide +kernel
theorem dL_holds_268 : decode cL_holds 268 = .ok (.if_icmp .ne 7, 3) := by decide +kernel
theorem dL_holds_271 : decode cL_holds 271 = .ok (.iconst 1, 1) := by decide +kernel
theorem dL_holds_272 : decode cL_holds 272 = .ok (.goto 4, 3) := by decide +kernel
theorem dL_holds_275 : decode cL_holds 275 = .ok (.iconst 0, 1) := by decide +kernel
theorem dL_holds_276 : decode cL_holds 276 = .ok (.iload 12, 2) := by decide +kernel
theorem dL_holds_278 : decode cL_holds 278 = .ok (.ifCond .ne 7, 3) := by decide +kernel
theorem dL_holds_281 : decode cL_holds 281 = .ok (.iconst 1, 1) := by decide +kernel
theorem dL_holds_282 : decode cL_holds 282 = .ok (.goto 4, 3) := by decide +kernel
theorem dL_holds_285 : decode cL_holds 285 = .ok (.iconst 0, 1) := by decide +kernel
theorem dL_holds_286 : decode cL_holds 286 = .ok (.if_icmp .ne 153, 3) := by decide +kernel
theorem dL_holds_289 : decode cL_holds 289 = .ok (.iload 15, 2) := by decide +kernel
theorem dL_holds_291 : decode cL_holds 291 = .ok (.iload 12, 2) := by decide +kernel
theorem dL_holds_293 : decode cL_holds 293 = .ok (.ifCond .ne 8, 3) := by decide +kernel
theorem dL_holds_296 : decode cL_holds 296 = .ok (.bipush 6, 2) := by decide +kernel
theorem dL_holds_298 : decode cL_holds 298 = .ok (.goto 18, 3) := by decide +kernel
theorem dL_holds_301 : decode cL_holds 301 = .ok (.iload 17, 2) := by decide +kernel
theorem dL_holds_303 : decode cL_holds 303 = .ok (.aload_n 0, 1) := by decide +kernel
theorem dL_holds_304 : decode cL_holds 304 = .ok (.bipush 6, 2) := by decide +kernel
theorem dL_holds_306 : decode cL_holds 306 = .ok (.iload 18, 2) := by decide +kernel
theorem dL_holds_308 : decode cL_holds 308 = .ok (.iconst 0, 1) := by decide +kernel
theorem dL_holds_309 : decode cL_holds 309 = .ok (.iconst 0, 1) := by decide +kernel
theorem dL_holds_310 : decode cL_holds 310 = .ok (.invokestatic 198, 3) := by decide +kernel
theorem dL_holds_313 : decode cL_holds 313 = .ok (.invokestatic 216, 3) := by decide +kernel
theorem dL_holds_316 : decode cL_holds 316 = .ok (.if_icmp .ne 123, 3) := by decide +kernel
theorem dL_holds_319 : decode cL_holds 319 = .ok (.iload 12, 2) := by decide +kernel
theorem dL_holds_321 : decode cL_holds 321 = .ok (.ifCond .eq 36, 3) := by decide +kernel
theorem dL_holds_324 : decode cL_holds 324 = .ok (.iload 17, 2) := by decide +kernel
theorem dL_holds_326 : decode cL_holds 326 = .ok (.iload 16, 2) := by decide +kernel
theorem dL_holds_328 : decode cL_holds 328 = .ok (.invokestatic 216, 3) := by decide +kernel
theorem dL_holds_331 : decode cL_holds 331 = .ok (.iload 12, 2) := by decide +kernel
theorem dL_holds_333 : decode cL_holds 333 = .ok (.bipush 40, 2) := by decide +kernel
theorem dL_holds_335 : decode cL_holds 335 = .ok (.if_icmp .lt 7, 3) := by decide +kernel
theorem dL_holds_338 : decode cL_holds 338 = .ok (.iconst 0, 1) := by decide +kernel
theorem dL_holds_339 : decode cL_holds 339 = .ok (.goto 15, 3) := by decide +kernel
theorem dL_holds_342 : decode cL_holds 342 = .ok (.iload 12, 2) := by decide +kernel
theorem dL_holds_344 : decode cL_holds 344 = .ok (.bipush 20, 2) := by decide +kernel
theorem dL_holds_346 : decode cL_holds 346 = .ok (.if_icmp .lt 7, 3) := by decide +kernel
theorem dL_holds_349 : decode cL_holds 349 = .ok (.iconst 1, 1) := by decide +kernel
theorem dL_holds_350 : decode cL_holds 350 = .ok (.goto 4, 3) := by decide +kernel
theorem dL_holds_353 : decode cL_holds 353 = .ok (.iconst 2, 1) := by decide +kernel
theorem dL_holds_354 : decode cL_holds 354 = .ok (.if_icmp .ne 85, 3) := by decide +kernel
theorem dL_holds_357 : decode cL_holds 357 = .ok (.iload 15, 2) := by decide +kernel
theorem dL_holds_359 : decode cL_holds 359 = .ok (.aload_n 0, 1) := by decide +kernel
theorem dL_holds_360 : decode cL_holds 360 = .ok (.bipush 18, 2) := by decide +kernel
theorem dL_holds_362 : decode cL_holds 362 = .ok (.iload 11, 2) := by decide +kernel
theorem dL_holds_364 : decode cL_holds 364 = .ok (.iconst 0, 1) := by decide +kernel
theorem dL_holds_365 : decode cL_holds 365 = .ok (.iconst 0, 1) := by decide +kernel
theorem dL_holds_366 : decode cL_holds 366 = .ok (.invokestatic 198, 3) := by decide +kernel
theorem dL_holds_369 : decode cL_holds 369 = .ok (.if_icmp .ne 70, 3) := by decide +kernel
theorem dL_holds_372 : decode cL_holds 372 = .ok (.iload 13, 2) := by decide +kernel
theorem dL_holds_374 : decode cL_holds 374 = .ok (.iconst (-1), 1) := by decide +kernel
theorem dL_holds_375 : decode cL_holds 375 = .ok (.if_icmp .ne 12, 3) := by decide +kernel
theorem dL_holds_378 : decode cL_holds 378 = .ok (.iload 14, 2) := by decide +kernel
theorem dL_holds_380 : decode cL_holds 380 = .ok (.iconst (-1), 1) := by decide +kernel
theorem dL_holds_381 : decode cL_holds 381 = .ok (.if_icmp .eq 58, 3) := by decide +kernel
theorem dL_holds_384 : decode cL_holds 384 = .ok (.goto 51, 3) := by decide +kernel
theorem dL_holds_387 : decode cL_holds 387 = .ok (.iload 14, 2) := by decide +kernel
theorem dL_holds_389 : decode cL_holds 389 = .ok (.aload_n 0, 1) := by decide +kernel
theorem dL_holds_390 : decode cL_holds 390 = .ok (.iconst 4, 1) := by decide +kernel
theorem dL_holds_391 : decode cL_holds 391 = .ok (.iload 13, 2) := by decide +kernel
theorem dL_holds_393 : decode cL_holds 393 = .ok (.iconst 1, 1) := by decide +kernel
theorem dL_holds_394 : decode cL_holds 394 = .ok (.iconst 0, 1) := by decide +kernel
theorem dL_holds_395 : decode cL_holds 395 = .ok (.invokestatic 198, 3) := by decide +kernel
theorem dL_holds_398 : decode cL_holds 398 = .ok (.ifCond .le 7, 3) := by decide +kernel
theorem dL_holds_401 : decode cL_holds 401 = .ok (.iconst (-1), 1) := by decide +kernel
theorem dL_holds_402 : decode cL_holds 402 = .ok (.goto 12, 3) := by decide +kernel
theorem dL_holds_405 : decode cL_holds 405 = .ok (.aload_n 0, 1) := by decide +kernel
theorem dL_holds_406 : decode cL_holds 406 = .ok (.iconst 4, 1) := by decide +kernel
theorem dL_holds_407 : decode cL_holds 407 = .ok (.iload 13, 2) := by decide +kernel
theorem dL_holds_409 : decode cL_holds 409 = .ok (.iconst 0, 1) := by decide +kernel
theorem dL_holds_410 : decode cL_holds 410 = .ok (.iconst 0, 1) := by decide +kernel
theorem dL_holds_411 : decode cL_holds 411 = .ok (.invokestatic 198, 3) := by decide +kernel
theorem dL_holds_414 : decode cL_holds 414 = .ok (.if_icmp .ne 25, 3) := by decide +kernel
theorem dL_holds_417 : decode cL_holds 417 = .ok (.aload_n 0, 1) := by decide +kernel
theorem dL_holds_418 : decode cL_holds 418 = .ok (.iconst 4, 1) := by decide +kernel
theorem dL_holds_419 : decode cL_holds 419 = .ok (.iload 13, 2) := by decide +kernel
theorem dL_holds_421 : decode cL_holds 421 = .ok (.iconst 2, 1) := by decide +kernel
theorem dL_holds_422 : decode cL_holds 422 = .ok (.iconst 0, 1) := by decide +kernel
theorem dL_holds_423 : decode cL_holds 423 = .ok (.invokestatic 198, 3) := by decide +kernel
theorem dL_holds_426 : decode cL_holds 426 = .ok (.iload 11, 2) := by decide +kernel
theorem dL_holds_428 : decode cL_holds 428 = .ok (.ishr, 1) := by decide +kernel
theorem dL_holds_429 : decode cL_holds 429 = .ok (.iconst 1, 1) := by decide +kernel
theorem dL_holds_430 : decode cL_holds 430 = .ok (.iand, 1) := by decide +kernel
theorem dL_holds_431 : decode cL_holds 431 = .ok (.iconst 1, 1) := by decide +kernel
theorem dL_holds_432 : decode cL_holds 432 = .ok (.if_icmp .ne 7, 3) := by decide +kernel
theorem dL_holds_435 : decode cL_holds 435 = .ok (.iconst 1, 1) := by decide +kernel
theorem dL_holds_436 : decode cL_holds 436 = .ok (.goto 4, 3) := by decide +kernel
theorem dL_holds_439 : decode cL_holds 439 = .ok (.iconst 0, 1) := by decide +kernel
theorem dL_holds_440 : decode cL_holds 440 = .ok (.istore 10, 2) := by decide +kernel
theorem dL_holds_442 : decode cL_holds 442 = .ok (.aload_n 0, 1) := by decide +kernel
theorem dL_holds_443 : decode cL_holds 443 = .ok (.bipush 17, 2) := by decide +kernel
theorem dL_holds_445 : decode cL_holds 445 = .ok (.iload 11, 2) := by decide +kernel
theorem dL_holds_447 : decode cL_holds 447 = .ok (.iconst 0, 1) := by decide +kernel
theorem dL_holds_448 : decode cL_holds 448 = .ok (.iconst 0, 1) := by decide +kernel
theorem dL_holds_449 : decode cL_holds 449 = .ok (.invokestatic 198, 3) := by decide +kernel
theorem dL_holds_452 : decode cL_holds 452 = .ok (.istore 19, 2) := by decide +kernel
theorem dL_holds_454 : decode cL_holds 454 = .ok (.iload 10, 2) := by decide +kernel
theorem dL_holds_456 : decode cL_holds 456 = .ok (.ifCond .eq 84, 3) := by decide +kernel
theorem dL_holds_459 : decode cL_holds 459 = .ok (.iload 19, 2) := by decide +kernel
theorem dL_holds_461 : decode cL_holds 461 = .ok (.ifCond .lt 79, 3) := by decide +kernel
theorem dL_holds_464 : decode cL_holds 464 = .ok (.iload 19, 2) := by decide +kernel
theorem dL_holds_466 : decode cL_holds 466 = .ok (.iconst 5, 1) := by decide +kernel
theorem dL_holds_467 : decode cL_holds 467 = .ok (.if_icmp .ge 73, 3) := by decide +kernel
theorem dL_holds_470 : decode cL_holds 470 = .ok (.iload 19, 2) := by decide +kernel
theorem dL_holds_472 : decode cL_holds 472 = .ok (.iconst 1, 1) := by decide +kernel
theorem dL_holds_473 : decode cL_holds 473 = .ok (.if_icmp .ne 7, 3) := by decide +kernel
theorem dL_holds_476 : decode cL_holds 476 = .ok (.iconst 1, 1) := by decide +kernel
theorem dL_holds_477 : decode cL_holds 477 = .ok (.goto 4, 3) := by decide +kernel
theorem dL_holds_480 : decode cL_holds 480 = .ok (.iconst 0, 1) := by decide +kernel
theorem dL_holds_481 : decode cL_holds 481 = .ok (.iload 14, 2) := by decide +kernel
theorem dL_holds_483 : decode cL_holds 483 = .ok (.iconst (-1), 1) := by decide +kernel
theorem dL_holds_484 : decode cL_holds 484 = .ok (.if_icmp .ne 7, 3) := by decide +kernel
theorem dL_holds_487 : decode cL_holds 487 = .ok (.iconst 1, 1) := by decide +kernel
theorem dL_holds_488 : decode cL_holds 488 = .ok (.goto 4, 3) := by decide +kernel
theorem dL_holds_491 : decode cL_holds 491 = .ok (.iconst 0, 1) := by decide +kernel
theorem dL_holds_492 : decode cL_holds 492 = .ok (.if_icmp .ne 48, 3) := by decide +kernel
theorem dL_holds_495 : decode cL_holds 495 = .ok (.iload 19, 2) := by decide +kernel
theorem dL_holds_497 : decode cL_holds 497 = .ok (.iconst 2, 1) := by decide +kernel
theorem dL_holds_498 : decode cL_holds 498 = .ok (.if_icmp .ne 8, 3) := by decide +kernel
theorem dL_holds_501 : decode cL_holds 501 = .ok (.iload 12, 2) := by decide +kernel
theorem dL_holds_503 : decode cL_holds 503 = .ok (.ifCond .ne 37, 3) := by decide +kernel
theorem dL_holds_506 : decode cL_holds 506 = .ok (.iload 19, 2) := by decide +kernel
theorem dL_holds_508 : decode cL_holds 508 = .ok (.iconst 4, 1) := by decide +kernel
theorem dL_holds_509 : decode cL_holds 509 = .ok (.if_icmp .ne 10, 3) := by decide +kernel
theorem dL_holds_512 : decode cL_holds 512 = .ok (.iload 5, 2) := by decide +kernel
theorem dL_holds_514 : decode cL_holds 514 = .ok (.bipush 12, 2) := by decide +kernel
theorem dL_holds_516 : decode cL_holds 516 = .ok (.if_icmp .ne 24, 3) := by decide +kernel
theorem dL_holds_519 : decode cL_holds 519 = .ok (.iload 19, 2) := by decide +kernel
theorem dL_holds_521 : decode cL_holds 521 = .ok (.ifCond .ne 15, 3) := by decide +kernel
theorem dL_holds_524 : decode cL_holds 524 = .ok (.iload 12, 2) := by decide +kernel
theorem dL_holds_526 : decode cL_holds 526 = .ok (.ifCond .le 14, 3) := by decide +kernel
theorem dL_holds_529 : decode cL_holds 529 = .ok (.iload 5, 2) := by decide +kernel
theorem dL_holds_531 : decode cL_holds 531 = .ok (.bipush 12, 2) := by decide +kernel
theorem dL_holds_533 : decode cL_holds 533 = .ok (.if_icmp .ge 7, 3) := by decide +kernel
theorem dL_holds_536 : decode cL_holds 536 = .ok (.iconst 1, 1) := by decide +kernel
theorem dL_holds_537 : decode cL_holds 537 = .ok (.goto 4, 3) := by decide +kernel
theorem dL_holds_540 : decode cL_holds 540 = .ok (.iconst 0, 1) := by decide +kernel
theorem dL_holds_541 : decode cL_holds 541 = .ok (.istore 10, 2) := by decide +kernel
theorem dL_holds_543 : decode cL_holds 543 = .ok (.iinc 11 1, 3) := by decide +kernel
theorem dL_holds_546 : decode cL_holds 546 = .ok (.goto (-454), 3) := by decide +kernel
theorem dL_holds_549 : decode cL_holds 549 = .ok (.iconst 0, 1) := by decide +kernel
theorem dL_holds_550 : decode cL_holds 550 = .ok (.istore 11, 2) := by decide +kernel
theorem dL_holds_552 : decode cL_holds 552 = .ok (.iload 11, 2) := by decide +kernel
theorem dL_holds_554 : decode cL_holds 554 = .ok (.iload_n 3, 1) := by decide +kernel
theorem dL_holds_555 : decode cL_holds 555 = .ok (.if_icmp .ge 159, 3) := by decide +kernel
theorem dL_holds_558 : decode cL_holds 558 = .ok (.iload 10, 2) := by decide +kernel
theorem dL_holds_560 : decode cL_holds 560 = .ok (.ifCond .eq 154, 3) := by decide +kernel
theorem dL_holds_563 : decode cL_holds 563 = .ok (.aload_n 0, 1) := by decide +kernel
theorem dL_holds_564 : decode cL_holds 564 = .ok (.iconst 4, 1) := by decide +kernel
theorem dL_holds_565 : decode cL_holds 565 = .ok (.iload 11, 2) := by decide +kernel
theorem dL_holds_567 : decode cL_holds 567 = .ok (.iconst 1, 1) := by decide +kernel
theorem dL_holds_568 : decode cL_holds 568 = .ok (.iconst 0, 1) := by decide +kernel
theorem dL_holds_569 : decode cL_holds 569 = .ok (.invokestatic 198, 3) := by decide +kernel
theorem dL_holds_572 : decode cL_holds 572 = .ok (.istore 12, 2) := by decide +kernel
theorem dL_holds_574 : decode cL_holds 574 = .ok (.aload_n 0, 1) := by decide +kernel
theorem dL_holds_575 : decode cL_holds 575 = .ok (.iconst 4, 1) := by decide +kernel
theorem dL_holds_576 : decode cL_holds 576 = .ok (.iload 11, 2) := by decide +kernel
theorem dL_holds_578 : decode cL_holds 578 = .ok (.iconst 2, 1) := by decide +kernel
theorem dL_holds_579 : decode cL_holds 579 = .ok (.iconst 0, 1) := by decide +kernel
theorem dL_holds_580 : decode cL_holds 580 = .ok (.invokestatic 198, 3) := by decide +kernel
theorem dL_holds_583 : decode cL_holds 583 = .ok (.istore 13, 2) := by decide +kernel
theorem dL_holds_585 : decode cL_holds 585 = .ok (.iconst 0, 1) := by decide +kernel
theorem dL_holds_586 : decode cL_holds 586 = .ok (.istore 14, 2) := by decide +kernel
theorem dL_holds_588 : decode cL_holds 588 = .ok (.iload 8, 2) := by decide +kernel
theorem dL_holds_590 : decode cL_holds 590 = .ok (.iload 12, 2) := by decide +kernel
theorem dL_holds_592 : decode cL_holds 592 = .ok (.ifCond .ne 10, 3) := by decide +kernel
theorem dL_holds_595 : decode cL_holds 595 = .ok (.iconst 1, 1) := by decide +kernel
theorem dL_holds_596 : decode cL_holds 596 = .ok (.iload 11, 2) := by decide +kernel
theorem dL_holds_598 : decode cL_holds 598 = .ok (.ishl, 1) := by decide +kernel
theorem dL_holds_599 : decode cL_holds 599 = .ok (.goto 4, 3) := by decide +kernel
theorem dL_holds_602 : decode cL_holds 602 = .ok (.iconst 0, 1) := by decide +kernel
theorem dL_holds_603 : decode cL_holds 603 = .ok (.ior, 1) := by decide +kernel
theorem dL_holds_604 : decode cL_holds 604 = .ok (.istore 8, 2) := by decide +kernel
theorem dL_holds_606 : decode cL_holds 606 = .ok (.iconst 0, 1) := by decide +kernel
theorem dL_holds_607 : decode cL_holds 607 = .ok (.istore 15, 2) := by decide +kernel
theorem dL_holds_609 : decode cL_holds 609 = .ok (.iload 15, 2) := by decide +kernel
theorem dL_holds_611 : decode cL_holds 611 = .ok (.iload 5, 2) := by decide +kernel
theorem dL_holds_613 : decode cL_holds 613 = .ok (.if_icmp .ge 21, 3) := by decide +kernel
theorem dL_holds_616 : decode cL_holds 616 = .ok (.iload 14, 2) := by decide +kernel
theorem dL_holds_618 : decode cL_holds 618 = .ok (.iload 13, 2) := by decide +kernel
theorem dL_holds_620 : decode cL_holds 620 = .ok (.iload 15, 2) := by decide +kernel
theorem dL_holds_622 : decode cL_holds 622 = .ok (.ishr, 1) := by decide +kernel
theorem dL_holds_623 : decode cL_holds 623 = .ok (.iconst 1, 1) := by decide +kernel
theorem dL_holds_624 : decode cL_holds 624 = .ok (.iand, 1) := by decide +kernel
theorem dL_holds_625 : decode cL_holds 625 = .ok (.iadd, 1) := by decide +kernel
theorem dL_holds_626 : decode cL_holds 626 = .ok (.istore 14, 2) := by decide +kernel
theorem dL_holds_628 : decode cL_holds 628 = .ok (.iinc 15 1, 3) := by decide +kernel
theorem dL_holds_631 : decode cL_holds 631 = .ok (.goto (-22), 3) := by decide +kernel
theorem dL_holds_634 : decode cL_holds 634 = .ok (.iload 9, 2) := by decide +kernel
theorem dL_holds_636 : decode cL_holds 636 = .ok (.iload 14, 2) := by decide +kernel
theorem dL_holds_638 : decode cL_holds 638 = .ok (.iadd, 1) := by decide +kernel
theorem dL_holds_639 : decode cL_holds 639 = .ok (.istore 9, 2) := by decide +kernel
theorem dL_holds_641 : decode cL_holds 641 = .ok (.iload 12, 2) := by decide +kernel
theorem dL_holds_643 : decode cL_holds 643 = .ok (.ifCond .lt 62, 3) := by decide +kernel
theorem dL_holds_646 : decode cL_holds 646 = .ok (.iload 12, 2) := by decide +kernel
theorem dL_holds_648 : decode cL_holds 648 = .ok (.bipush 20, 2) := by decide +kernel
theorem dL_holds_650 : decode cL_holds 650 = .ok (.if_icmp .gt 55, 3) := by decide +kernel
theorem dL_holds_653 : decode cL_holds 653 = .ok (.iload 14, 2) := by decide +kernel
theorem dL_holds_655 : decode cL_holds 655 = .ok (.iconst 3, 1) := by decide +kernel
theorem dL_holds_656 : decode cL_holds 656 = .ok (.if_icmp .gt 49, 3) := by decide +kernel
theorem dL_holds_659 : decode cL_holds 659 = .ok (.iload 13, 2) := by decide +kernel
theorem dL_holds_661 : decode cL_holds 661 = .ok (.iconst 1, 1) := by decide +kernel
theorem dL_holds_662 : decode cL_holds 662 = .ok (.iload 5, 2) := by decide +kernel
theorem dL_holds_664 : decode cL_holds 664 = .ok (.ishl, 1) := by decide +kernel
theorem dL_holds_665 : decode cL_holds 665 = .ok (.if_icmp .ge 40, 3) := by decide +kernel
theorem dL_holds_668 : decode cL_holds 668 = .ok (.aload_n 0, 1) := by decide +kernel
theorem dL_holds_669 : decode cL_holds 669 = .ok (.iconst 4, 1) := by decide +kernel
theorem dL_holds_670 : decode cL_holds 670 = .ok (.iload 11, 2) := by decide +kernel
theorem dL_holds_672 : decode cL_holds 672 = .ok (.iconst 0, 1) := by decide +kernel
theorem dL_holds_673 : decode cL_holds 673 = .ok (.iconst 0, 1) := by decide +kernel
theorem dL_holds_674 : decode cL_holds 674 = .ok (.invokestatic 198, 3) := by decide +kernel
theorem dL_holds_677 : decode cL_holds 677 = .ok (.iload_n 2, 1) := by decide +kernel
theorem dL_holds_678 : decode cL_holds 678 = .ok (.if_icmp .ge 27, 3) := by decide +kernel
theorem dL_holds_681 : decode cL_holds 681 = .ok (.aload_n 0, 1) := by decide +kernel
theorem dL_holds_682 : decode cL_holds 682 = .ok (.iconst 4, 1) := by decide +kernel
theorem dL_holds_683 : decode cL_holds 683 = .ok (.iload 11, 2) := by decide +kernel
theorem dL_holds_685 : decode cL_holds 685 = .ok (.iconst 3, 1) := by decide +kernel
theorem dL_holds_686 : decode cL_holds 686 = .ok (.iconst 0, 1) := by decide +kernel
theorem dL_holds_687 : decode cL_holds 687 = .ok (.invokestatic 198, 3) := by decide +kernel
theorem dL_holds_690 : decode cL_holds 690 = .ok (.aload_n 0, 1) := by decide +kernel
theorem dL_holds_691 : decode cL_holds 691 = .ok (.iconst 2, 1) := by decide +kernel
theorem dL_holds_692 : decode cL_holds 692 = .ok (.iconst 5, 1) := by decide +kernel
theorem dL_holds_693 : decode cL_holds 693 = .ok (.iconst 0, 1) := by decide +kernel
theorem dL_holds_694 : decode cL_holds 694 = .ok (.iconst 0, 1) := by decide +kernel
theorem dL_holds_695 : decode cL_holds 695 = .ok (.invokestatic 198, 3) := by decide +kernel
theorem dL_holds_698 : decode cL_holds 698 = .ok (.if_icmp .gt 7, 3) := by decide +kernel
theorem dL_holds_701 : decode cL_holds 701 = .ok (.iconst 1, 1) := by decide +kernel
theorem dL_holds_702 : decode cL_holds 702 = .ok (.goto 4, 3) := by decide +kernel
theorem dL_holds_705 : decode cL_holds 705 = .ok (.iconst 0, 1) := by decide +kernel
theorem dL_holds_706 : decode cL_holds 706 = .ok (.istore 10, 2) := by decide +kernel
theorem dL_holds_708 : decode cL_holds 708 = .ok (.iinc 11 1, 3) := by decide +kernel
theorem dL_holds_711 : decode cL_holds 711 = .ok (.goto (-159), 3) := by decide +kernel
theorem dL_holds_714 : decode cL_holds 714 = .ok (.iconst 0, 1) := by decide +kernel
theorem dL_holds_715 : decode cL_holds 715 = .ok (.istore 11, 2) := by decide +kernel
theorem dL_holds_717 : decode cL_holds 717 = .ok (.iload 11, 2) := by decide +kernel
theorem dL_holds_719 : decode cL_holds 719 = .ok (.iload 5, 2) := by decide +kernel
theorem dL_holds_721 : decode cL_holds 721 = .ok (.if_icmp .ge 32, 3) := by decide +kernel
theorem dL_holds_724 : decode cL_holds 724 = .ok (.iload 9, 2) := by decide +kernel
theorem dL_holds_726 : decode cL_holds 726 = .ok (.aload_n 0, 1) := by decide +kernel
theorem dL_holds_727 : decode cL_holds 727 = .ok (.iconst 5, 1) := by decide +kernel
theorem dL_holds_728 : decode cL_holds 728 = .ok (.iload 11, 2) := by decide +kernel
theorem dL_holds_730 : decode cL_holds 730 = .ok (.iconst 3, 1) := by decide +kernel
theorem dL_holds_731 : decode cL_holds 731 = .ok (.iconst 0, 1) := by decide +kernel
theorem dL_holds_732 : decode cL_holds 732 = .ok (.invokestatic 198, 3) := by decide +kernel
theorem dL_holds_735 : decode cL_holds 735 = .ok (.iconst (-1), 1) := by decide +kernel
theorem dL_holds_736 : decode cL_holds 736 = .ok (.if_icmp .ne 7, 3) := by decide +kernel
theorem dL_holds_739 : decode cL_holds 739 = .ok (.iconst 0, 1) := by decide +kernel
theorem dL_holds_740 : decode cL_holds 740 = .ok (.goto 4, 3) := by decide +kernel
theorem dL_holds_743 : decode cL_holds 743 = .ok (.iconst 1, 1) := by decide +kernel
theorem dL_holds_744 : decode cL_holds 744 = .ok (.isub, 1) := by decide +kernel
theorem dL_holds_745 : decode cL_holds 745 = .ok (.istore 9, 2) := by decide +kernel
theorem dL_holds_747 : decode cL_holds 747 = .ok (.iinc 11 1, 3) := by decide +kernel
theorem dL_holds_750 : decode cL_holds 750 = .ok (.goto (-33), 3) := by decide +kernel
theorem dL_holds_753 : decode cL_holds 753 = .ok (.iconst 0, 1) := by decide +kernel
theorem dL_holds_754 : decode cL_holds 754 = .ok (.istore 11, 2) := by decide +kernel
theorem dL_holds_756 : decode cL_holds 756 = .ok (.iload 11, 2) := by decide +kernel
theorem dL_holds_758 : decode cL_holds 758 = .ok (.iload 4, 2) := by decide +kernel
theorem dL_holds_760 : decode cL_holds 760 = .ok (.if_icmp .ge 163, 3) := by decide +kernel
theorem dL_holds_763 : decode cL_holds 763 = .ok (.iload 10, 2) := by decide +kernel
theorem dL_holds_765 : decode cL_holds 765 = .ok (.ifCond .eq 158, 3) := by decide +kernel
theorem dL_holds_768 : decode cL_holds 768 = .ok (.aload_n 0, 1) := by decide +kernel
theorem dL_holds_769 : decode cL_holds 769 = .ok (.bipush 23, 2) := by decide +kernel
theorem dL_holds_771 : decode cL_holds 771 = .ok (.iload 11, 2) := by decide +kernel
theorem dL_holds_773 : decode cL_holds 773 = .ok (.iconst 0, 1) := by decide +kernel
theorem dL_holds_774 : decode cL_holds 774 = .ok (.iconst 0, 1) := by decide +kernel
theorem dL_holds_775 : decode cL_holds 775 = .ok (.invokestatic 198, 3) := by decide +kernel
theorem dL_holds_778 : decode cL_holds 778 = .ok (.istore 12, 2) := by decide +kernel
theorem dL_holds_780 : decode cL_holds 780 = .ok (.aload_n 0, 1) := by decide +kernel
theorem dL_holds_781 : decode cL_holds 781 = .ok (.iconst 5, 1) := by decide +kernel
theorem dL_holds_782 : decode cL_holds 782 = .ok (.iload 12, 2) := by decide +kernel
theorem dL_holds_784 : decode cL_holds 784 = .ok (.iconst 1, 1) := by decide +kernel
theorem dL_holds_785 : decode cL_holds 785 = .ok (.iconst 0, 1) := by decide +kernel
theorem dL_holds_786 : decode cL_holds 786 = .ok (.invokestatic 198, 3) := by decide +kernel
theorem dL_holds_789 : decode cL_holds 789 = .ok (.bipush 100, 2) := by decide +kernel
theorem dL_holds_791 : decode cL_holds 791 = .ok (.aload_n 0, 1) := by decide +kernel
theorem dL_holds_792 : decode cL_holds 792 = .ok (.iconst 5, 1) := by decide +kernel
theorem dL_holds_793 : decode cL_holds 793 = .ok (.iload 12, 2) := by decide +kernel
theorem dL_holds_795 : decode cL_holds 795 = .ok (.iconst 5, 1) := by decide +kernel
theorem dL_holds_796 : decode cL_holds 796 = .ok (.iconst 0, 1) := by decide +kernel
theorem dL_holds_797 : decode cL_holds 797 = .ok (.invokestatic 198, 3) := by decide +kernel
theorem dL_holds_800 : decode cL_holds 800 = .ok (.imul, 1) := by decide +kernel
theorem dL_holds_801 : decode cL_holds 801 = .ok (.isub, 1) := by decide +kernel
theorem dL_holds_802 : decode cL_holds 802 = .ok (.istore 13, 2) := by decide +kernel
theorem dL_holds_804 : decode cL_holds 804 = .ok (.iload 12, 2) := by decide +kernel
theorem dL_holds_806 : decode cL_holds 806 = .ok (.ifCond .lt 21, 3) := by decide +kernel
theorem dL_holds_809 : decode cL_holds 809 = .ok (.aload_n 0, 1) := by decide +kernel
theorem dL_holds_810 : decode cL_holds 810 = .ok (.iconst 5, 1) := by decide +kernel
theorem dL_holds_811 : decode cL_holds 811 = .ok (.iload 12, 2) := by decide +kernel
theorem dL_holds_813 : decode cL_holds 813 = .ok (.iconst 0, 1) := by decide +kernel
theorem dL_holds_814 : decode cL_holds 814 = .ok (.iconst 0, 1) := by decide +kernel
theorem dL_holds_815 : decode cL_holds 815 = .ok (.invokestatic 198, 3) := by decide +kernel
theorem dL_holds_818 : decode cL_holds 818 = .ok (.iload 11, 2) := by decide +kernel
theorem dL_holds_820 : decode cL_holds 820 = .ok (.if_icmp .ne 7, 3) := by decide +kernel
theorem dL_holds_823 : decode cL_holds 823 = .ok (.iconst 1, 1) := by decide +kernel
theorem dL_holds_824 : decode cL_holds 824 = .ok (.goto 4, 3) := by decide +kernel
theorem dL_holds_827 : decode cL_holds 827 = .ok (.iconst 0, 1) := by decide +kernel
theorem dL_holds_828 : decode cL_holds 828 = .ok (.istore 10, 2) := by decide +kernel
theorem dL_holds_830 : decode cL_holds 830 = .ok (.iconst 0, 1) := by decide +kernel
theorem dL_holds_831 : decode cL_holds 831 = .ok (.istore 14, 2) := by decide +kernel
theorem dL_holds_833 : decode cL_holds 833 = .ok (.iload 14, 2) := by decide +kernel
theorem dL_holds_835 : decode cL_holds 835 = .ok (.iload 5, 2) := by decide +kernel
theorem dL_holds_837 : decode cL_holds 837 = .ok (.if_icmp .ge 80, 3) := by decide +kernel
theorem dL_holds_840 : decode cL_holds 840 = .ok (.iload 10, 2) := by decide +kernel
theorem dL_holds_842 : decode cL_holds 842 = .ok (.ifCond .eq 75, 3) := by decide +kernel
theorem dL_holds_845 : decode cL_holds 845 = .ok (.aload_n 0, 1) := by decide +kernel
theorem dL_holds_846 : decode cL_holds 846 = .ok (.iconst 5, 1) := by decide +kernel
theorem dL_holds_847 : decode cL_holds 847 = .ok (.iload 14, 2) := by decide +kernel
theorem dL_holds_849 : decode cL_holds 849 = .ok (.iconst 1, 1) := by decide +kernel
theorem dL_holds_850 : decode cL_holds 850 = .ok (.iconst 0, 1) := by decide +kernel
theorem dL_holds_851 : decode cL_holds 851 = .ok (.invokestatic 198, 3) := by decide +kernel
theorem dL_holds_854 : decode cL_holds 854 = .ok (.bipush 100, 2) := by decide +kernel
theorem dL_holds_856 : decode cL_holds 856 = .ok (.aload_n 0, 1) := by decide +kernel
theorem dL_holds_857 : decode cL_holds 857 = .ok (.iconst 5, 1) := by decide +kernel
theorem dL_holds_858 : decode cL_holds 858 = .ok (.iload 14, 2) := by decide +kernel
theorem dL_holds_860 : decode cL_holds 860 = .ok (.iconst 5, 1) := by decide +kernel
theorem dL_holds_861 : decode cL_holds 861 = .ok (.iconst 0, 1) := by decide +kernel
theorem dL_holds_862 : decode cL_holds 862 = .ok (.invokestatic 198, 3) := by decide +kernel
theorem dL_holds_865 : decode cL_holds 865 = .ok (.imul, 1) := by decide +kernel
theorem dL_holds_866 : decode cL_holds 866 = .ok (.isub, 1) := by decide +kernel
theorem dL_holds_867 : decode cL_holds 867 = .ok (.istore 15, 2) := by decide +kernel
theorem dL_holds_869 : decode cL_holds 869 = .ok (.aload_n 0, 1) := by decide +kernel
theorem dL_holds_870 : decode cL_holds 870 = .ok (.iconst 5, 1) := by decide +kernel
theorem dL_holds_871 : decode cL_holds 871 = .ok (.iload 14, 2) := by decide +kernel
theorem dL_holds_873 : decode cL_holds 873 = .ok (.iconst 0, 1) := by decide +kernel
theorem dL_holds_874 : decode cL_holds 874 = .ok (.iconst 0, 1) := by decide +kernel
theorem dL_holds_875 : decode cL_holds 875 = .ok (.invokestatic 198, 3) := by decide +kernel
theorem dL_holds_878 : decode cL_holds 878 = .ok (.iload 11, 2) := by decide +kernel
theorem dL_holds_880 : decode cL_holds 880 = .ok (.if_icmp .ne 24, 3) := by decide +kernel
theorem dL_holds_883 : decode cL_holds 883 = .ok (.iload 15, 2) := by decide +kernel
theorem dL_holds_885 : decode cL_holds 885 = .ok (.iload 13, 2) := by decide +kernel
theorem dL_holds_887 : decode cL_holds 887 = .ok (.if_icmp .lt 17, 3) := by decide +kernel
theorem dL_holds_890 : decode cL_holds 890 = .ok (.iload 15, 2) := by decide +kernel
theorem dL_holds_892 : decode cL_holds 892 = .ok (.iload 13, 2) := by decide +kernel
theorem dL_holds_894 : decode cL_holds 894 = .ok (.if_icmp .ne 14, 3) := by decide +kernel
theorem dL_holds_897 : decode cL_holds 897 = .ok (.iload 14, 2) := by decide +kernel
theorem dL_holds_899 : decode cL_holds 899 = .ok (.iload 12, 2) := by decide +kernel
theorem dL_holds_901 : decode cL_holds 901 = .ok (.if_icmp .lt 7, 3) := by decide +kernel
theorem dL_holds_904 : decode cL_holds 904 = .ok (.iconst 1, 1) := by decide +kernel
theorem dL_holds_905 : decode cL_holds 905 = .ok (.goto 4, 3) := by decide +kernel
theorem dL_holds_908 : decode cL_holds 908 = .ok (.iconst 0, 1) := by decide +kernel
theorem dL_holds_909 : decode cL_holds 909 = .ok (.istore 10, 2) := by decide +kernel
theorem dL_holds_911 : decode cL_holds 911 = .ok (.iinc 14 1, 3) := by decide +kernel
theorem dL_holds_914 : decode cL_holds 914 = .ok (.goto (-81), 3) := by decide +kernel
theorem dL_holds_917 : decode cL_holds 917 = .ok (.iinc 11 1, 3) := by decide +kernel
theorem dL_holds_920 : decode cL_holds 920 = .ok (.goto (-164), 3) := by decide +kernel
theorem dL_holds_923 : decode cL_holds 923 = .ok (.iload 10, 2) := by decide +kernel
theorem dL_holds_925 : decode cL_holds 925 = .ok (.ifCond .eq 76, 3) := by decide +kernel
theorem dL_holds_928 : decode cL_holds 928 = .ok (.iload 9, 2) := by decide +kernel
theorem dL_holds_930 : decode cL_holds 930 = .ok (.ifCond .ne 71, 3) := by decide +kernel
theorem dL_holds_933 : decode cL_holds 933 = .ok (.iload 6, 2) := by decide +kernel
theorem dL_holds_935 : decode cL_holds 935 = .ok (.aload_n 0, 1) := by decide +kernel
theorem dL_holds_936 : decode cL_holds 936 = .ok (.iconst 2, 1) := by decide +kernel
theorem dL_holds_937 : decode cL_holds 937 = .ok (.bipush 6, 2) := by decide +kernel
theorem dL_holds_939 : decode cL_holds 939 = .ok (.iconst 0, 1) := by decide +kernel
theorem dL_holds_940 : decode cL_holds 940 = .ok (.iconst 0, 1) := by decide +kernel
theorem dL_holds_941 : decode cL_holds 941 = .ok (.invokestatic 198, 3) := by decide +kernel
theorem dL_holds_944 : decode cL_holds 944 = .ok (.if_icmp .ne 57, 3) := by decide +kernel
theorem dL_holds_947 : decode cL_holds 947 = .ok (.iload 7, 2) := by decide +kernel
theorem dL_holds_949 : decode cL_holds 949 = .ok (.aload_n 0, 1) := by decide +kernel
theorem dL_holds_950 : decode cL_holds 950 = .ok (.iconst 2, 1) := by decide +kernel
theorem dL_holds_951 : decode cL_holds 951 = .ok (.bipush 7, 2) := by decide +kernel
theorem dL_holds_953 : decode cL_holds 953 = .ok (.iconst 0, 1) := by decide +kernel
theorem dL_holds_954 : decode cL_holds 954 = .ok (.iconst 0, 1) := by decide +kernel
theorem dL_holds_955 : decode cL_holds 955 = .ok (.invokestatic 198, 3) := by decide +kernel
theorem dL_holds_958 : decode cL_holds 958 = .ok (.if_icmp .ne 43, 3) := by decide +kernel
theorem dL_holds_961 : decode cL_holds 961 = .ok (.iload 8, 2) := by decide +kernel
theorem dL_holds_963 : decode cL_holds 963 = .ok (.aload_n 0, 1) := by decide +kernel
theorem dL_holds_964 : decode cL_holds 964 = .ok (.iconst 2, 1) := by decide +kernel
theorem dL_holds_965 : decode cL_holds 965 = .ok (.bipush 9, 2) := by decide +kernel
theorem dL_holds_967 : decode cL_holds 967 = .ok (.iconst 0, 1) := by decide +kernel
theorem dL_holds_968 : decode cL_holds 968 = .ok (.iconst 0, 1) := by decide +kernel
theorem dL_holds_969 : decode cL_holds 969 = .ok (.invokestatic 198, 3) := by decide +kernel
theorem dL_holds_972 : decode cL_holds 972 = .ok (.if_icmp .ne 29, 3) := by decide +kernel
theorem dL_holds_975 : decode cL_holds 975 = .ok (.aload_n 0, 1) := by decide +kernel
theorem dL_holds_976 : decode cL_holds 976 = .ok (.iload_n 1, 1) := by decide +kernel
theorem dL_holds_977 : decode cL_holds 977 = .ok (.iload_n 2, 1) := by decide +kernel
theorem dL_holds_978 : decode cL_holds 978 = .ok (.irem, 1) := by decide +kernel
theorem dL_holds_979 : decode cL_holds 979 = .ok (.iload_n 1, 1) := by decide +kernel
theorem dL_holds_980 : decode cL_holds 980 = .ok (.bipush 6, 2) := by decide +kernel
theorem dL_holds_982 : decode cL_holds 982 = .ok (.idiv, 1) := by decide +kernel
theorem dL_holds_983 : decode cL_holds 983 = .ok (.iload_n 2, 1) := by decide +kernel
theorem dL_holds_984 : decode cL_holds 984 = .ok (.irem, 1) := by decide +kernel
theorem dL_holds_985 : decode cL_holds 985 = .ok (.iload_n 1, 1) := by decide +kernel
theorem dL_holds_986 : decode cL_holds 986 = .ok (.bipush 36, 2) := by decide +kernel
theorem dL_holds_988 : decode cL_holds 988 = .ok (.idiv, 1) := by decide +kernel
theorem dL_holds_989 : decode cL_holds 989 = .ok (.iload_n 2, 1) := by decide +kernel
theorem dL_holds_990 : decode cL_holds 990 = .ok (.irem, 1) := by decide +kernel
theorem dL_holds_991 : decode cL_holds 991 = .ok (.invokestatic 219, 3) := by decide +kernel
theorem dL_holds_994 : decode cL_holds 994 = .ok (.ifCond .eq 7, 3) := by decide +kernel
theorem dL_holds_997 : decode cL_holds 997 = .ok (.iconst 1, 1) := by decide +kernel
theorem dL_holds_998 : decode cL_holds 998 = .ok (.goto 4, 3) := by decide +kernel
theorem dL_holds_1001 : decode cL_holds 1001 = .ok (.iconst 0, 1) := by decide +kernel
theorem dL_holds_1002 : decode cL_holds 1002 = .ok (.ireturn, 1) := by decide +kernel
set_option maxRecDepth 100000 in
set_option maxHeartbeats 4000000 in
theorem c_L_holds (l : Launch) (G : GT) (n0 : Nat) (h0 : AH) (hl : l.stackTraces = false) (x : Nat) (σ : St) (hS0 : SC x σ h0) (hI : SIs σ) (B : Nat) (hJ : JV B σ.1) (hB : B < 2 ^ 30) (X : Nat) (hX : X < 2 ^ 31) : Ct l yL_holds cL_holds 20 (some .boolean) 12 1804 10824 G n0 h0 [.ref x, .int (nI X)] (PoS x h0 (nI 1) σ) := by
  have hIv : Iv σ.1 := hI.1
  obtain ⟨⟨i0, i1, i2, i3, i4⟩, iR, iU, iM, iS⟩ := id hIv
  obtain ⟨⟨-, ⟨g34, hcov⟩, hcar, hwalk, hb5, hb6⟩, h30, h32, h34⟩ := id hJ
  have hN := NO_eq
  have hA := smc_cc hIv
  have hAl := smc_le σ.1 (fun r => Nat.le_trans (cark_le σ.1 r _) (by omega)) (σ.1 2)
  refine Ct_ofZ mL_holds0 (Nat.le_of_ble_eq_true rfl) ?_
  intro p₀ e₀ s₀ m₀ as₀ bl₀ me₀ c₀ C
  refine V_Le (L' := [(0, .ref x), (1, .int (nI X))]) rfl ?_
  suffices H : ∀ (n : Nat) (h : AH) (hS : SC x σ h) (hF : FX x h0 h), V p₀ l e₀ (rmD 12 1804 10824) s₀ m₀ as₀ bl₀ me₀ c₀ (MQ bl₀ (Po G (PoS x h0 (nI 1) σ)) as₀ s₀ 1804 10824 (rg G)) G 20 0 0 n h 0 [(0, .ref x), (1, .int (nI X))] [] from H n0 h0 hS0 FX.rf
  have J923 : ∀ (n : Nat) (h : AH) (hS : SC x σ h) (hF : FX x h0 h), V p₀ l e₀ (rmD 12 1804 10824) s₀ m₀ as₀ bl₀ me₀ c₀ (MQ bl₀ (Po G (PoS x h0 (nI 1) σ)) as₀ s₀ 1804 10824 (rg G)) G 20 1748 10488 n h 923 [(0, .ref x), (1, .int (nI X)), (2, .int (nI (σ.1 0))), (3, .int (nI (σ.1 2))), (4, .int (nI (σ.1 3))), (5, .int (nI (σ.1 4))), (6, .int (nI (allk σ.1 (σ.1 4)))), (7, .int (nI (blk σ.1 (σ.1 4)))), (8, .int (nI (rtk σ.1 (σ.1 2)))), (9, .int (nI (0))), (10, .int (nI 1))] [] := by
    intro  n h hS hF
    have b1 := allk_le σ.1 (σ.1 4)
    have b2 := blk_le σ.1 (σ.1 4)
    have b3 := rtk_lt σ.1 (σ.1 2)
    have b4 : 2 ^ σ.1 2 ≤ 2 ^ 5 := Nat.pow_le_pow_right (by decide) (by omega)
    refine V_iload 925 C dL_holds_923 rfl rfl ?_
    refine V_if_eqN 1001 928 C dL_holds_925 (by decide) rfl (by omega) (fun c925 => by omega) (fun c925 => ?_)
    refine V_iload 930 C dL_holds_928 rfl rfl ?_
    refine V_if_neN 1001 933 C dL_holds_930 (by decide) rfl (by omega) (fun c930 => by omega) (fun c930 => ?_)
    refine V_iload 935 C dL_holds_933 rfl rfl ?_
    refine V_aload_n 936 C dL_holds_935 rfl rfl ?_
    refine V_iconst 937 C dL_holds_936 rfl ic2 ?_
    refine V_bipush 939 C dL_holds_937 rfl bip6 ?_
    refine V_iconst 940 C dL_holds_939 rfl ic0 ?_
    refine V_iconst 941 C dL_holds_940 rfl ic0 ?_
    refine V_q1 944 (1748 + 4) (10488 + 24) C hF dL_holds_941 rfl mL_call.z tw250 (k_about l G _ _ hl x σ hS hI _ _ _ _ (v_ab (j := 6) (w := allk σ.1 (σ.1 4)) (by omega) rfl)) rfl rfl ⟨Nat.le_of_ble_eq_true rfl, Nat.le_of_ble_eq_true rfl⟩ ⟨by omega, by omega⟩ ⟨by show _ ≤ 1804; omega, by show _ ≤ 10824; omega⟩ (Nat.le_of_ble_eq_true rfl) ?_
    clear hS hF n h
    intro n h hS hF
    refine V_icmp_neN 1001 947 C dL_holds_944 (by decide) rfl (by omega) (by omega) (fun c944 => by omega) (fun c944 => ?_)
    refine V_iload 949 C dL_holds_947 rfl rfl ?_
    refine V_aload_n 950 C dL_holds_949 rfl rfl ?_
    refine V_iconst 951 C dL_holds_950 rfl ic2 ?_
    refine V_bipush 953 C dL_holds_951 rfl bip7 ?_
    refine V_iconst 954 C dL_holds_953 rfl ic0 ?_
    refine V_iconst 955 C dL_holds_954 rfl ic0 ?_
    refine V_q1 958 (1748 + 8) (10488 + 48) C hF dL_holds_955 rfl mL_call.z tw250 (k_about l G _ _ hl x σ hS hI _ _ _ _ (v_ab (j := 7) (w := blk σ.1 (σ.1 4)) (by omega) rfl)) rfl rfl ⟨Nat.le_of_ble_eq_true rfl, Nat.le_of_ble_eq_true rfl⟩ ⟨by omega, by omega⟩ ⟨by show _ ≤ 1804; omega, by show _ ≤ 10824; omega⟩ (Nat.le_of_ble_eq_true rfl) ?_
    clear hS hF n h
    intro n h hS hF
    refine V_icmp_neN 1001 961 C dL_holds_958 (by decide) rfl (by omega) (by omega) (fun c958 => by omega) (fun c958 => ?_)
    refine V_iload 963 C dL_holds_961 rfl rfl ?_
    refine V_aload_n 964 C dL_holds_963 rfl rfl ?_
    refine V_iconst 965 C dL_holds_964 rfl ic2 ?_
    refine V_bipush 967 C dL_holds_965 rfl bip9 ?_
    refine V_iconst 968 C dL_holds_967 rfl ic0 ?_
    refine V_iconst 969 C dL_holds_968 rfl ic0 ?_
    refine V_q1 972 (1748 + 12) (10488 + 72) C hF dL_holds_969 rfl mL_call.z tw250 (k_about l G _ _ hl x σ hS hI _ _ _ _ (v_ab (j := 9) (w := rtk σ.1 (σ.1 2)) (by omega) rfl)) rfl rfl ⟨Nat.le_of_ble_eq_true rfl, Nat.le_of_ble_eq_true rfl⟩ ⟨by omega, by omega⟩ ⟨by show _ ≤ 1804; omega, by show _ ≤ 10824; omega⟩ (Nat.le_of_ble_eq_true rfl) ?_
    clear hS hF n h
    intro n h hS hF
    refine V_icmp_neN 1001 975 C dL_holds_972 (by decide) rfl (by omega) (by omega) (fun c972 => by omega) (fun c972 => ?_)
    refine V_aload_n 976 C dL_holds_975 rfl rfl ?_
    refine V_iload_n 977 C dL_holds_976 rfl rfl ?_
    refine V_iload_n 978 C dL_holds_977 rfl rfl ?_
    obtain ⟨t1, ht1, et1⟩ : ∃ t, t < σ.1 0 ∧ X % σ.1 0 = t := ⟨_, Nat.mod_lt _ (by omega), rfl⟩
    refine V_iremN 979 C dL_holds_978 rfl (by omega) (by omega) (by omega) ?_
    rw [et1]
    refine V_iload_n 980 C dL_holds_979 rfl rfl ?_
    refine V_bipush 982 C dL_holds_980 rfl bip6 ?_
    refine V_idivN 983 C dL_holds_982 rfl (by omega) (by omega) (by omega) ?_
    refine V_iload_n 984 C dL_holds_983 rfl rfl ?_
    obtain ⟨t2, ht2, et2⟩ : ∃ t, t < σ.1 0 ∧ (X / 6) % σ.1 0 = t := ⟨_, Nat.mod_lt _ (by omega), rfl⟩
    refine V_iremN 985 C dL_holds_984 rfl (by omega) (by omega) (by omega) ?_
    rw [et2]
    refine V_iload_n 986 C dL_holds_985 rfl rfl ?_
    refine V_bipush 988 C dL_holds_986 rfl bip36 ?_
    refine V_idivN 989 C dL_holds_988 rfl (by omega) (by omega) (by omega) ?_
    refine V_iload_n 990 C dL_holds_989 rfl rfl ?_
    obtain ⟨t3, ht3, et3⟩ : ∃ t, t < σ.1 0 ∧ (X / 36) % σ.1 0 = t := ⟨_, Nat.mod_lt _ (by omega), rfl⟩
    refine V_iremN 991 C dL_holds_990 rfl (by omega) (by omega) (by omega) ?_
    rw [et3]
    refine V_q1 994 (1748 + 56) (10488 + 336) C hF dL_holds_991 rfl mL_goes.z tw936 (c_L_goes l G _ _ hl x σ hS hI t1 t2 t3 ht1 ht2 ht3) rfl rfl ⟨Nat.le_of_ble_eq_true rfl, Nat.le_of_ble_eq_true rfl⟩ ⟨by omega, by omega⟩ ⟨by show _ ≤ 1804; omega, by show _ ≤ 10824; omega⟩ (Nat.le_of_ble_eq_true rfl) ?_
    clear hS hF n h
    intro n h hS hF
    refine V_if_eqN 1001 997 C dL_holds_994 (by decide) rfl (by omega) (fun c994 => by omega) (fun c994 => ?_)
    refine V_iconst 998 C dL_holds_997 rfl ic1 ?_
    refine V_goto 1002 C dL_holds_998 (by decide) ?_
    refine V_ireturn C dL_holds_1002 rfl nar_1 (by omega) (by omega) ?_
    exact ⟨rfl, hS, hF⟩
  have J833 : ∀ (t9 : Nat), ∀ (m b9 s : Nat) (lim : σ.1 4 < s + t9) (hs : s ≤ σ.1 4) (hm : m < σ.1 3) (hb : b9 < σ.1 4) (hbm : σ.1 (58 + 6 * b9) = m) (hbb : ∀ s, s < σ.1 4 → σ.1 (58 + 6 * s) = m → ers σ.1 b9 0 < ers σ.1 s 0 ∨ (ers σ.1 s 0 = ers σ.1 b9 0 ∧ (σ.1 (58 + 6 * s + 2) < σ.1 (58 + 6 * b9 + 2) ∨ (σ.1 (58 + 6 * s + 2) = σ.1 (58 + 6 * b9 + 2) ∧ b9 ≤ s)))) (KE : ∀ (n : Nat) (h : AH) (hS : SC x σ h) (hF : FX x h0 h), V p₀ l e₀ (rmD 12 1804 10824) s₀ m₀ as₀ bl₀ me₀ c₀ (MQ bl₀ (Po G (PoS x h0 (nI 1) σ)) as₀ s₀ 1804 10824 (rg G)) G 20 (788 + 160 * m + 160) (4728 + 960 * m + 960) n h 917 [(0, .ref x), (1, .int (nI X)), (2, .int (nI (σ.1 0))), (3, .int (nI (σ.1 2))), (4, .int (nI (σ.1 3))), (5, .int (nI (σ.1 4))), (6, .int (nI (allk σ.1 (σ.1 4)))), (7, .int (nI (blk σ.1 (σ.1 4)))), (8, .int (nI (rtk σ.1 (σ.1 2)))), (9, .int (nI (0))), (10, .int (nI 1)), (11, .int (nI m))] []) (n : Nat) (h : AH) (hS : SC x σ h) (hF : FX x h0 h), V p₀ l e₀ (rmD 12 1804 10824) s₀ m₀ as₀ bl₀ me₀ c₀ (MQ bl₀ (Po G (PoS x h0 (nI 1) σ)) as₀ s₀ 1804 10824 (rg G)) G 20 (788 + 160 * m + 16 + 12 * s) (4728 + 960 * m + 96 + 72 * s) n h 833 [(0, .ref x), (1, .int (nI X)), (2, .int (nI (σ.1 0))), (3, .int (nI (σ.1 2))), (4, .int (nI (σ.1 3))), (5, .int (nI (σ.1 4))), (6, .int (nI (allk σ.1 (σ.1 4)))), (7, .int (nI (blk σ.1 (σ.1 4)))), (8, .int (nI (rtk σ.1 (σ.1 2)))), (9, .int (nI (0))), (10, .int (nI 1)), (11, .int (nI m)), (12, .int (nI b9)), (13, .int (nI (σ.1 (58 + 6 * b9 + 2)) - nI (100 * ers σ.1 b9 0))), (14, .int (nI s))] [] := by
    intro t9
    induction t9 with
    | zero => intro m b9 s lim hs hm hb hbm hbb KE n h hS hF; exact absurd lim (by omega)
    | succ t9 ih =>
      intro m b9 s lim hs hm hb hbm hbb KE n h hS hF
      refine V_iload 835 C dL_holds_833 rfl rfl ?_
      refine V_iload 837 C dL_holds_835 rfl rfl ?_
      refine V_icmp_geN 917 840 C dL_holds_837 (by decide) rfl (by omega) (by omega) (fun c837 => ?_) (fun c837 => ?_)
      · skip
        refine V_L [0, 1, 2, 3, 4, 5, 6, 7, 8, 9, 10, 11] rfl ?_
        exact V_wid _ _ (by omega) (by omega) (KE _ _ hS hF)
      · skip
        have hs : s < σ.1 4 := c837
        obtain ⟨s0, s1, s2, s3, s4, s5⟩ := iS s hs
        obtain ⟨q0, q1, q2, q3, q4, q5⟩ := iS b9 hb
        have e1 := ers_le σ.1 s 0
        have e2 := ers_le σ.1 b9 0
        refine V_iload 842 C dL_holds_840 rfl rfl ?_
        refine V_if_eqN 917 845 C dL_holds_842 (by decide) rfl (by omega) (fun c842 => by omega) (fun c842 => ?_)
        refine V_aload_n 846 C dL_holds_845 rfl rfl ?_
        refine V_iconst 847 C dL_holds_846 rfl ic5 ?_
        refine V_iload 849 C dL_holds_847 rfl rfl ?_
        refine V_iconst 850 C dL_holds_849 rfl ic1 ?_
        refine V_iconst 851 C dL_holds_850 rfl ic0 ?_
        refine V_q1 854 (788 + 160 * m + 16 + 12 * s + 4) (4728 + 960 * m + 96 + 72 * s + 24) C hF dL_holds_851 rfl mL_call.z tw250 (k_sheet l G _ _ hl x σ hS hI _ _ _ _ (v_sh (w := σ.1 (58 + 6 * s + 2)) hs hIv (j := 1) (by omega) rfl)) rfl rfl ⟨Nat.le_of_ble_eq_true rfl, Nat.le_of_ble_eq_true rfl⟩ ⟨by omega, by omega⟩ ⟨by show _ ≤ 1804; omega, by show _ ≤ 10824; omega⟩ (Nat.le_of_ble_eq_true rfl) ?_
        clear hS hF n h
        intro n h hS hF
        refine V_bipush 856 C dL_holds_854 rfl bip100 ?_
        refine V_aload_n 857 C dL_holds_856 rfl rfl ?_
        refine V_iconst 858 C dL_holds_857 rfl ic5 ?_
        refine V_iload 860 C dL_holds_858 rfl rfl ?_
        refine V_iconst 861 C dL_holds_860 rfl ic5 ?_
        refine V_iconst 862 C dL_holds_861 rfl ic0 ?_
        refine V_q1 865 (788 + 160 * m + 16 + 12 * s + 8) (4728 + 960 * m + 96 + 72 * s + 48) C hF dL_holds_862 rfl mL_call.z tw250 (k_sheet l G _ _ hl x σ hS hI _ _ _ _ (v_sh (w := ers σ.1 s 0) hs hIv (j := 5) (by omega) rfl)) rfl rfl ⟨Nat.le_of_ble_eq_true rfl, Nat.le_of_ble_eq_true rfl⟩ ⟨by omega, by omega⟩ ⟨by show _ ≤ 1804; omega, by show _ ≤ 10824; omega⟩ (Nat.le_of_ble_eq_true rfl) ?_
        clear hS hF n h
        intro n h hS hF
        refine V_imulN 866 C dL_holds_865 rfl  ?_
        refine V_isub 867 C dL_holds_866 rfl  ?_
        refine V_istore 869 C dL_holds_867 rfl (by decide) (L' := [(0, _), (1, _), (2, _), (3, _), (4, _), (5, _), (6, _), (7, _), (8, _), (9, _), (10, _), (11, _), (12, _), (13, _), (14, _), (15, _)]) rfl ?_
        refine V_aload_n 870 C dL_holds_869 rfl rfl ?_
        refine V_iconst 871 C dL_holds_870 rfl ic5 ?_
        refine V_iload 873 C dL_holds_871 rfl rfl ?_
        refine V_iconst 874 C dL_holds_873 rfl ic0 ?_
        refine V_iconst 875 C dL_holds_874 rfl ic0 ?_
        refine V_q1 878 (788 + 160 * m + 16 + 12 * s + 12) (4728 + 960 * m + 96 + 72 * s + 72) C hF dL_holds_875 rfl mL_call.z tw250 (k_sheet l G _ _ hl x σ hS hI _ _ _ _ (v_sh (w := σ.1 (58 + 6 * s)) hs hIv (j := 0) (by omega) rfl)) rfl rfl ⟨Nat.le_of_ble_eq_true rfl, Nat.le_of_ble_eq_true rfl⟩ ⟨by omega, by omega⟩ ⟨by show _ ≤ 1804; omega, by show _ ≤ 10824; omega⟩ (Nat.le_of_ble_eq_true rfl) ?_
        clear hS hF n h
        intro n h hS hF
        refine V_iload 880 C dL_holds_878 rfl rfl ?_
        by_cases em : σ.1 (58 + 6 * s) = m
        · skip
          have hcs := hbb s hs em
          refine V_icmp_neN 904 883 C dL_holds_880 (by decide) rfl (by omega) (by omega) (fun c880 => by omega) (fun c880 => ?_)
          refine V_iload 885 C dL_holds_883 rfl rfl ?_
          refine V_iload 887 C dL_holds_885 rfl rfl ?_
          by_cases ec : (σ.1 (58 + 6 * s + 2) : Int) - 100 * (ers σ.1 s 0 : Int) < (σ.1 (58 + 6 * b9 + 2) : Int) - 100 * (ers σ.1 b9 0 : Int)
          · skip
            refine V_icmp_lt 904 890 C dL_holds_887 (by decide) rfl  (fun c887 => ?_) (fun c887 => by exact absurd ((wo_lt (by omega) (by omega) (by omega) (by omega)).mpr ec) c887)
            refine V_iconst 905 C dL_holds_904 rfl ic1 ?_
            refine V_goto 909 C dL_holds_905 (by decide) ?_
            refine V_istore 911 C dL_holds_909 rfl (by decide) (L' := [(0, _), (1, _), (2, _), (3, _), (4, _), (5, _), (6, _), (7, _), (8, _), (9, _), (10, _), (11, _), (12, _), (13, _), (14, _), (15, _)]) rfl ?_
            refine V_iinc 914 C dL_holds_911 rfl (by decide) rfl (ii1 _) (L' := [(0, _), (1, _), (2, _), (3, _), (4, _), (5, _), (6, _), (7, _), (8, _), (9, _), (10, _), (11, _), (12, _), (13, _), (14, _), (15, _)]) rfl ?_
            refine V_goto 833 C dL_holds_914 (by decide) ?_
            refine V_L [0, 1, 2, 3, 4, 5, 6, 7, 8, 9, 10, 11, 12, 13, 14] rfl ?_
            exact V_wid _ _ (by omega) (by omega) (ih m b9 (s + 1) (by omega) (by omega) hm hb hbm hbb KE _ _ hS hF)
          · skip
            refine V_icmp_lt 904 890 C dL_holds_887 (by decide) rfl  (fun c887 => by exact absurd ((wo_lt (by omega) (by omega) (by omega) (by omega)).mp c887) ec) (fun c887 => ?_)
            refine V_iload 892 C dL_holds_890 rfl rfl ?_
            refine V_iload 894 C dL_holds_892 rfl rfl ?_
            refine V_icmp_ne 908 897 C dL_holds_894 (by decide) rfl  (fun c894 => by exact absurd ((wo_eq (by omega) (by omega) (by omega) (by omega)).mpr (by omega)) c894) (fun c894 => ?_)
            refine V_iload 899 C dL_holds_897 rfl rfl ?_
            refine V_iload 901 C dL_holds_899 rfl rfl ?_
            refine V_icmp_ltN 908 904 C dL_holds_901 (by decide) rfl (by omega) (by omega) (fun c901 => by omega) (fun c901 => ?_)
            refine V_iconst 905 C dL_holds_904 rfl ic1 ?_
            refine V_goto 909 C dL_holds_905 (by decide) ?_
            refine V_istore 911 C dL_holds_909 rfl (by decide) (L' := [(0, _), (1, _), (2, _), (3, _), (4, _), (5, _), (6, _), (7, _), (8, _), (9, _), (10, _), (11, _), (12, _), (13, _), (14, _), (15, _)]) rfl ?_
            refine V_iinc 914 C dL_holds_911 rfl (by decide) rfl (ii1 _) (L' := [(0, _), (1, _), (2, _), (3, _), (4, _), (5, _), (6, _), (7, _), (8, _), (9, _), (10, _), (11, _), (12, _), (13, _), (14, _), (15, _)]) rfl ?_
            refine V_goto 833 C dL_holds_914 (by decide) ?_
            refine V_L [0, 1, 2, 3, 4, 5, 6, 7, 8, 9, 10, 11, 12, 13, 14] rfl ?_
            exact V_wid _ _ (by omega) (by omega) (ih m b9 (s + 1) (by omega) (by omega) hm hb hbm hbb KE _ _ hS hF)
        · skip
          refine V_icmp_neN 904 883 C dL_holds_880 (by decide) rfl (by omega) (by omega) (fun c880 => ?_) (fun c880 => by omega)
          refine V_iconst 905 C dL_holds_904 rfl ic1 ?_
          refine V_goto 909 C dL_holds_905 (by decide) ?_
          refine V_istore 911 C dL_holds_909 rfl (by decide) (L' := [(0, _), (1, _), (2, _), (3, _), (4, _), (5, _), (6, _), (7, _), (8, _), (9, _), (10, _), (11, _), (12, _), (13, _), (14, _), (15, _)]) rfl ?_
          refine V_iinc 914 C dL_holds_911 rfl (by decide) rfl (ii1 _) (L' := [(0, _), (1, _), (2, _), (3, _), (4, _), (5, _), (6, _), (7, _), (8, _), (9, _), (10, _), (11, _), (12, _), (13, _), (14, _), (15, _)]) rfl ?_
          refine V_goto 833 C dL_holds_914 (by decide) ?_
          refine V_L [0, 1, 2, 3, 4, 5, 6, 7, 8, 9, 10, 11, 12, 13, 14] rfl ?_
          exact V_wid _ _ (by omega) (by omega) (ih m b9 (s + 1) (by omega) (by omega) hm hb hbm hbb KE _ _ hS hF)
  have J756 : ∀ (t9 : Nat), ∀ (m : Nat) (lim : σ.1 3 < m + t9) (hm : m ≤ σ.1 3) (n : Nat) (h : AH) (hS : SC x σ h) (hF : FX x h0 h), V p₀ l e₀ (rmD 12 1804 10824) s₀ m₀ as₀ bl₀ me₀ c₀ (MQ bl₀ (Po G (PoS x h0 (nI 1) σ)) as₀ s₀ 1804 10824 (rg G)) G 20 (788 + 160 * m) (4728 + 960 * m) n h 756 [(0, .ref x), (1, .int (nI X)), (2, .int (nI (σ.1 0))), (3, .int (nI (σ.1 2))), (4, .int (nI (σ.1 3))), (5, .int (nI (σ.1 4))), (6, .int (nI (allk σ.1 (σ.1 4)))), (7, .int (nI (blk σ.1 (σ.1 4)))), (8, .int (nI (rtk σ.1 (σ.1 2)))), (9, .int (nI (0))), (10, .int (nI 1)), (11, .int (nI m))] [] := by
    intro t9
    induction t9 with
    | zero => intro m lim hm n h hS hF; exact absurd lim (by omega)
    | succ t9 ih =>
      intro m lim hm n h hS hF
      refine V_iload 758 C dL_holds_756 rfl rfl ?_
      refine V_iload 760 C dL_holds_758 rfl rfl ?_
      refine V_icmp_geN 923 763 C dL_holds_760 (by decide) rfl (by omega) (by omega) (fun c760 => ?_) (fun c760 => ?_)
      · skip
        refine V_L [0, 1, 2, 3, 4, 5, 6, 7, 8, 9, 10] rfl ?_
        exact V_wid _ _ (by omega) (by omega) (J923 _ _ hS hF)
      · skip
        have hm : m < σ.1 3 := c760
        obtain ⟨s8, hs8, hs9⟩ := hcov m hm
        obtain ⟨b9, eb, hb, hbm, hbb⟩ : ∃ b9, bestk σ.1 m (σ.1 4) = b9 ∧ b9 < σ.1 4 ∧ σ.1 (58 + 6 * b9) = m ∧ ∀ s, s < σ.1 4 → σ.1 (58 + 6 * s) = m → ers σ.1 b9 0 < ers σ.1 s 0 ∨ (ers σ.1 s 0 = ers σ.1 b9 0 ∧ (σ.1 (58 + 6 * s + 2) < σ.1 (58 + 6 * b9 + 2) ∨ (σ.1 (58 + 6 * s + 2) = σ.1 (58 + 6 * b9 + 2) ∧ b9 ≤ s))) := by
          rcases bestk_at (y := σ.1) (m := m) (k := σ.1 4) (by omega) with ⟨g1, g2⟩ | ⟨g1, g2, g3⟩
          · exact absurd hs9 (g2 s8 hs8)
          · exact ⟨_, rfl, g1, g2, g3⟩
        refine V_iload 765 C dL_holds_763 rfl rfl ?_
        refine V_if_eqN 923 768 C dL_holds_765 (by decide) rfl (by omega) (fun c765 => by omega) (fun c765 => ?_)
        refine V_aload_n 769 C dL_holds_768 rfl rfl ?_
        refine V_bipush 771 C dL_holds_769 rfl bip23 ?_
        refine V_iload 773 C dL_holds_771 rfl rfl ?_
        refine V_iconst 774 C dL_holds_773 rfl ic0 ?_
        refine V_iconst 775 C dL_holds_774 rfl ic0 ?_
        refine V_q1 778 (788 + 160 * m + 4) (4728 + 960 * m + 24) C hF dL_holds_775 rfl mL_call.z tw250 (k_best l G _ _ hl x σ hS hI _ _ _ _ ((v_best hm hIv).trans (congrArg nI eb))) rfl rfl ⟨Nat.le_of_ble_eq_true rfl, Nat.le_of_ble_eq_true rfl⟩ ⟨by omega, by omega⟩ ⟨by show _ ≤ 1804; omega, by show _ ≤ 10824; omega⟩ (Nat.le_of_ble_eq_true rfl) ?_
        clear hS hF n h
        intro n h hS hF
        refine V_istore 780 C dL_holds_778 rfl (by decide) (L' := [(0, _), (1, _), (2, _), (3, _), (4, _), (5, _), (6, _), (7, _), (8, _), (9, _), (10, _), (11, _), (12, _)]) rfl ?_
        refine V_aload_n 781 C dL_holds_780 rfl rfl ?_
        refine V_iconst 782 C dL_holds_781 rfl ic5 ?_
        refine V_iload 784 C dL_holds_782 rfl rfl ?_
        refine V_iconst 785 C dL_holds_784 rfl ic1 ?_
        refine V_iconst 786 C dL_holds_785 rfl ic0 ?_
        refine V_q1 789 (788 + 160 * m + 8) (4728 + 960 * m + 48) C hF dL_holds_786 rfl mL_call.z tw250 (k_sheet l G _ _ hl x σ hS hI _ _ _ _ (v_sh (w := σ.1 (58 + 6 * b9 + 2)) hb hIv (j := 1) (by omega) rfl)) rfl rfl ⟨Nat.le_of_ble_eq_true rfl, Nat.le_of_ble_eq_true rfl⟩ ⟨by omega, by omega⟩ ⟨by show _ ≤ 1804; omega, by show _ ≤ 10824; omega⟩ (Nat.le_of_ble_eq_true rfl) ?_
        clear hS hF n h
        intro n h hS hF
        refine V_bipush 791 C dL_holds_789 rfl bip100 ?_
        refine V_aload_n 792 C dL_holds_791 rfl rfl ?_
        refine V_iconst 793 C dL_holds_792 rfl ic5 ?_
        refine V_iload 795 C dL_holds_793 rfl rfl ?_
        refine V_iconst 796 C dL_holds_795 rfl ic5 ?_
        refine V_iconst 797 C dL_holds_796 rfl ic0 ?_
        refine V_q1 800 (788 + 160 * m + 12) (4728 + 960 * m + 72) C hF dL_holds_797 rfl mL_call.z tw250 (k_sheet l G _ _ hl x σ hS hI _ _ _ _ (v_sh (w := ers σ.1 b9 0) hb hIv (j := 5) (by omega) rfl)) rfl rfl ⟨Nat.le_of_ble_eq_true rfl, Nat.le_of_ble_eq_true rfl⟩ ⟨by omega, by omega⟩ ⟨by show _ ≤ 1804; omega, by show _ ≤ 10824; omega⟩ (Nat.le_of_ble_eq_true rfl) ?_
        clear hS hF n h
        intro n h hS hF
        refine V_imulN 801 C dL_holds_800 rfl  ?_
        refine V_isub 802 C dL_holds_801 rfl  ?_
        refine V_istore 804 C dL_holds_802 rfl (by decide) (L' := [(0, _), (1, _), (2, _), (3, _), (4, _), (5, _), (6, _), (7, _), (8, _), (9, _), (10, _), (11, _), (12, _), (13, _)]) rfl ?_
        refine V_iload 806 C dL_holds_804 rfl rfl ?_
        refine V_if_ltN 827 809 C dL_holds_806 (by decide) rfl (by omega) (fun c806 => by exact c806.elim) (fun c806 => ?_)
        refine V_aload_n 810 C dL_holds_809 rfl rfl ?_
        refine V_iconst 811 C dL_holds_810 rfl ic5 ?_
        refine V_iload 813 C dL_holds_811 rfl rfl ?_
        refine V_iconst 814 C dL_holds_813 rfl ic0 ?_
        refine V_iconst 815 C dL_holds_814 rfl ic0 ?_
        refine V_q1 818 (788 + 160 * m + 16) (4728 + 960 * m + 96) C hF dL_holds_815 rfl mL_call.z tw250 (k_sheet l G _ _ hl x σ hS hI _ _ _ _ (v_sh (w := σ.1 (58 + 6 * b9)) hb hIv (j := 0) (by omega) rfl)) rfl rfl ⟨Nat.le_of_ble_eq_true rfl, Nat.le_of_ble_eq_true rfl⟩ ⟨by omega, by omega⟩ ⟨by show _ ≤ 1804; omega, by show _ ≤ 10824; omega⟩ (Nat.le_of_ble_eq_true rfl) ?_
        clear hS hF n h
        intro n h hS hF
        refine V_iload 820 C dL_holds_818 rfl rfl ?_
        refine V_icmp_neN 827 823 C dL_holds_820 (by decide) rfl (by omega) (by omega) (fun c820 => by omega) (fun c820 => ?_)
        refine V_iconst 824 C dL_holds_823 rfl ic1 ?_
        refine V_goto 828 C dL_holds_824 (by decide) ?_
        refine V_istore 830 C dL_holds_828 rfl (by decide) (L' := [(0, _), (1, _), (2, _), (3, _), (4, _), (5, _), (6, _), (7, _), (8, _), (9, _), (10, _), (11, _), (12, _), (13, _)]) rfl ?_
        refine V_iconst 831 C dL_holds_830 rfl ic0 ?_
        refine V_istore 833 C dL_holds_831 rfl (by decide) (L' := [(0, _), (1, _), (2, _), (3, _), (4, _), (5, _), (6, _), (7, _), (8, _), (9, _), (10, _), (11, _), (12, _), (13, _), (14, _)]) rfl ?_
        refine V_L [0, 1, 2, 3, 4, 5, 6, 7, 8, 9, 10, 11, 12, 13, 14] rfl ?_
        refine V_wid _ _ (by omega) (by omega) (J833 13 m b9 0 (by omega) (by omega) hm hb hbm hbb (fun n h hS hF => ?_) _ _ hS hF)
        refine V_iinc 920 C dL_holds_917 rfl (by decide) rfl (ii1 _) (L' := [(0, _), (1, _), (2, _), (3, _), (4, _), (5, _), (6, _), (7, _), (8, _), (9, _), (10, _), (11, _)]) rfl ?_
        refine V_goto 756 C dL_holds_920 (by decide) ?_
        refine V_L [0, 1, 2, 3, 4, 5, 6, 7, 8, 9, 10, 11] rfl ?_
        exact V_wid _ _ (by omega) (by omega) (ih (m + 1) (by omega) (by omega) _ _ hS hF)
  have J717 : ∀ (t9 : Nat), ∀ (s : Nat) (lim : σ.1 4 < s + t9) (hs : s ≤ σ.1 4) (n : Nat) (h : AH) (hS : SC x σ h) (hF : FX x h0 h), V p₀ l e₀ (rmD 12 1804 10824) s₀ m₀ as₀ bl₀ me₀ c₀ (MQ bl₀ (Po G (PoS x h0 (nI 1) σ)) as₀ s₀ 1804 10824 (rg G)) G 20 (740 + 4 * s) (4440 + 24 * s) n h 717 [(0, .ref x), (1, .int (nI X)), (2, .int (nI (σ.1 0))), (3, .int (nI (σ.1 2))), (4, .int (nI (σ.1 3))), (5, .int (nI (σ.1 4))), (6, .int (nI (allk σ.1 (σ.1 4)))), (7, .int (nI (blk σ.1 (σ.1 4)))), (8, .int (nI (rtk σ.1 (σ.1 2)))), (9, .int (nI (smc σ.1 (σ.1 2) - ccs σ.1 s))), (10, .int (nI 1)), (11, .int (nI s))] [] := by
    intro t9
    induction t9 with
    | zero => intro s lim hs n h hS hF; exact absurd lim (by omega)
    | succ t9 ih =>
      intro s lim hs n h hS hF
      refine V_iload 719 C dL_holds_717 rfl rfl ?_
      refine V_iload 721 C dL_holds_719 rfl rfl ?_
      refine V_icmp_geN 753 724 C dL_holds_721 (by decide) rfl (by omega) (by omega) (fun c721 => ?_) (fun c721 => ?_)
      · skip
        have es : s = σ.1 4 := by omega
        subst es
        rw [hA, Nat.sub_self]
        refine V_iconst 754 C dL_holds_753 rfl ic0 ?_
        refine V_istore 756 C dL_holds_754 rfl (by decide) (L' := [(0, _), (1, _), (2, _), (3, _), (4, _), (5, _), (6, _), (7, _), (8, _), (9, _), (10, _), (11, _)]) rfl ?_
        refine V_L [0, 1, 2, 3, 4, 5, 6, 7, 8, 9, 10, 11] rfl ?_
        exact V_wid _ _ (by omega) (by omega) (J756 7 0 (by omega) (by omega) _ _ hS hF)
      · skip
        have hs : s < σ.1 4 := c721
        obtain ⟨s0, s1, s2, s3, s4, s5⟩ := iS s hs
        have hc1 := ccs_mo σ.1 (a := s + 1) (b := σ.1 4) (by omega)
        have hc2 : ccs σ.1 (s + 1) = ccs σ.1 s + bp (¬ σ.1 (58 + 6 * s + 4) = NO) := rfl
        refine V_iload 726 C dL_holds_724 rfl rfl ?_
        refine V_aload_n 727 C dL_holds_726 rfl rfl ?_
        refine V_iconst 728 C dL_holds_727 rfl ic5 ?_
        refine V_iload 730 C dL_holds_728 rfl rfl ?_
        refine V_iconst 731 C dL_holds_730 rfl ic3 ?_
        refine V_iconst 732 C dL_holds_731 rfl ic0 ?_
        refine V_q1 735 (740 + 4 * s + 4) (4440 + 24 * s + 24) C hF dL_holds_732 rfl mL_call.z tw250 (k_sheet l G _ _ hl x σ hS hI _ _ _ _ (v_sh (w := σ.1 (58 + 6 * s + 4)) hs hIv (j := 3) (by omega) rfl)) rfl rfl ⟨Nat.le_of_ble_eq_true rfl, Nat.le_of_ble_eq_true rfl⟩ ⟨by omega, by omega⟩ ⟨by show _ ≤ 1804; omega, by show _ ≤ 10824; omega⟩ (Nat.le_of_ble_eq_true rfl) ?_
        clear hS hF n h
        intro n h hS hF
        refine V_iconst 736 C dL_holds_735 rfl icm1 ?_
        by_cases ec : σ.1 (58 + 6 * s + 4) = NO
        · skip
          rw [bp_f (not_not_intro ec)] at hc2
          refine V_icmp_neN 743 739 C dL_holds_736 (by decide) rfl (by omega) (by omega) (fun c736 => by omega) (fun c736 => ?_)
          refine V_iconst 740 C dL_holds_739 rfl ic0 ?_
          refine V_goto 744 C dL_holds_740 (by decide) ?_
          refine V_isubN 745 C dL_holds_744 rfl (by omega) ?_
          rw [show smc σ.1 (σ.1 2) - ccs σ.1 s - 0 = smc σ.1 (σ.1 2) - ccs σ.1 (s + 1) from by omega]
          refine V_istore 747 C dL_holds_745 rfl (by decide) (L' := [(0, _), (1, _), (2, _), (3, _), (4, _), (5, _), (6, _), (7, _), (8, _), (9, _), (10, _), (11, _)]) rfl ?_
          refine V_iinc 750 C dL_holds_747 rfl (by decide) rfl (ii1 _) (L' := [(0, _), (1, _), (2, _), (3, _), (4, _), (5, _), (6, _), (7, _), (8, _), (9, _), (10, _), (11, _)]) rfl ?_
          refine V_goto 717 C dL_holds_750 (by decide) ?_
          refine V_L [0, 1, 2, 3, 4, 5, 6, 7, 8, 9, 10, 11] rfl ?_
          exact V_wid _ _ (by omega) (by omega) (ih (s + 1) (by omega) (by omega) _ _ hS hF)
        · skip
          rw [bp_t ec] at hc2
          refine V_icmp_neN 743 739 C dL_holds_736 (by decide) rfl (by omega) (by omega) (fun c736 => ?_) (fun c736 => by omega)
          refine V_iconst 744 C dL_holds_743 rfl ic1 ?_
          refine V_isubN 745 C dL_holds_744 rfl (by omega) ?_
          rw [show smc σ.1 (σ.1 2) - ccs σ.1 s - 1 = smc σ.1 (σ.1 2) - ccs σ.1 (s + 1) from by omega]
          refine V_istore 747 C dL_holds_745 rfl (by decide) (L' := [(0, _), (1, _), (2, _), (3, _), (4, _), (5, _), (6, _), (7, _), (8, _), (9, _), (10, _), (11, _)]) rfl ?_
          refine V_iinc 750 C dL_holds_747 rfl (by decide) rfl (ii1 _) (L' := [(0, _), (1, _), (2, _), (3, _), (4, _), (5, _), (6, _), (7, _), (8, _), (9, _), (10, _), (11, _)]) rfl ?_
          refine V_goto 717 C dL_holds_750 (by decide) ?_
          refine V_L [0, 1, 2, 3, 4, 5, 6, 7, 8, 9, 10, 11] rfl ?_
          exact V_wid _ _ (by omega) (by omega) (ih (s + 1) (by omega) (by omega) _ _ hS hF)
  have J609 : ∀ (t9 : Nat), ∀ (r k : Nat) (lim : σ.1 4 < k + t9) (hk : k ≤ σ.1 4) (KE : ∀ (n : Nat) (h : AH) (hS : SC x σ h) (hF : FX x h0 h), V p₀ l e₀ (rmD 12 1804 10824) s₀ m₀ as₀ bl₀ me₀ c₀ (MQ bl₀ (Po G (PoS x h0 (nI 1) σ)) as₀ s₀ 1804 10824 (rg G)) G 20 (640 + 20 * r + 8) (3840 + 120 * r + 48) n h 634 [(0, .ref x), (1, .int (nI X)), (2, .int (nI (σ.1 0))), (3, .int (nI (σ.1 2))), (4, .int (nI (σ.1 3))), (5, .int (nI (σ.1 4))), (6, .int (nI (allk σ.1 (σ.1 4)))), (7, .int (nI (blk σ.1 (σ.1 4)))), (8, .int (nI (rtk σ.1 (r + 1)))), (9, .int (nI (smc σ.1 r))), (10, .int (nI 1)), (11, .int (nI r)), (12, .int (nI (σ.1 (37 + 3 * r + 1)))), (13, .int (nI (cbk σ.1 r (σ.1 4)))), (14, .int (nI (car σ.1 r)))] []) (n : Nat) (h : AH) (hS : SC x σ h) (hF : FX x h0 h), V p₀ l e₀ (rmD 12 1804 10824) s₀ m₀ as₀ bl₀ me₀ c₀ (MQ bl₀ (Po G (PoS x h0 (nI 1) σ)) as₀ s₀ 1804 10824 (rg G)) G 20 (640 + 20 * r + 8) (3840 + 120 * r + 48) n h 609 [(0, .ref x), (1, .int (nI X)), (2, .int (nI (σ.1 0))), (3, .int (nI (σ.1 2))), (4, .int (nI (σ.1 3))), (5, .int (nI (σ.1 4))), (6, .int (nI (allk σ.1 (σ.1 4)))), (7, .int (nI (blk σ.1 (σ.1 4)))), (8, .int (nI (rtk σ.1 (r + 1)))), (9, .int (nI (smc σ.1 r))), (10, .int (nI 1)), (11, .int (nI r)), (12, .int (nI (σ.1 (37 + 3 * r + 1)))), (13, .int (nI (cbk σ.1 r (σ.1 4)))), (14, .int (nI (cark σ.1 r k))), (15, .int (nI k))] [] := by
    intro t9
    induction t9 with
    | zero => intro r k lim hk KE n h hS hF; exact absurd lim (by omega)
    | succ t9 ih =>
      intro r k lim hk KE n h hS hF
      refine V_iload 611 C dL_holds_609 rfl rfl ?_
      refine V_iload 613 C dL_holds_611 rfl rfl ?_
      refine V_icmp_geN 634 616 C dL_holds_613 (by decide) rfl (by omega) (by omega) (fun c613 => ?_) (fun c613 => ?_)
      · skip
        have ek : k = σ.1 4 := by omega
        subst ek
        refine V_L [0, 1, 2, 3, 4, 5, 6, 7, 8, 9, 10, 11, 12, 13, 14] rfl ?_
        exact V_wid _ _ (by omega) (by omega) (KE _ _ hS hF)
      · skip
        have hk : k < σ.1 4 := c613
        refine V_iload 618 C dL_holds_616 rfl rfl ?_
        refine V_iload 620 C dL_holds_618 rfl rfl ?_
        refine V_iload 622 C dL_holds_620 rfl rfl ?_
        refine V_ishr 623 C dL_holds_622 rfl  ?_
        refine V_iconst 624 C dL_holds_623 rfl ic1 ?_
        refine V_iand 625 C dL_holds_624 rfl  ?_
        rw [bit_of hIv hk]
        refine V_iaddN 626 C dL_holds_625 rfl  ?_
        refine V_istore 628 C dL_holds_626 rfl (by decide) (L' := [(0, _), (1, _), (2, _), (3, _), (4, _), (5, _), (6, _), (7, _), (8, _), (9, _), (10, _), (11, _), (12, _), (13, _), (14, _), (15, _)]) rfl ?_
        refine V_iinc 631 C dL_holds_628 rfl (by decide) rfl (ii1 _) (L' := [(0, _), (1, _), (2, _), (3, _), (4, _), (5, _), (6, _), (7, _), (8, _), (9, _), (10, _), (11, _), (12, _), (13, _), (14, _), (15, _)]) rfl ?_
        refine V_goto 609 C dL_holds_631 (by decide) ?_
        refine V_L [0, 1, 2, 3, 4, 5, 6, 7, 8, 9, 10, 11, 12, 13, 14, 15] rfl ?_
        exact V_wid _ _ (by omega) (by omega) (ih r (k + 1) (by omega) (by omega) KE _ _ hS hF)
  have J552 : ∀ (t9 : Nat), ∀ (r : Nat) (lim : σ.1 2 < r + t9) (hr : r ≤ σ.1 2) (n : Nat) (h : AH) (hS : SC x σ h) (hF : FX x h0 h), V p₀ l e₀ (rmD 12 1804 10824) s₀ m₀ as₀ bl₀ me₀ c₀ (MQ bl₀ (Po G (PoS x h0 (nI 1) σ)) as₀ s₀ 1804 10824 (rg G)) G 20 (640 + 20 * r) (3840 + 120 * r) n h 552 [(0, .ref x), (1, .int (nI X)), (2, .int (nI (σ.1 0))), (3, .int (nI (σ.1 2))), (4, .int (nI (σ.1 3))), (5, .int (nI (σ.1 4))), (6, .int (nI (allk σ.1 (σ.1 4)))), (7, .int (nI (blk σ.1 (σ.1 4)))), (8, .int (nI (rtk σ.1 r))), (9, .int (nI (smc σ.1 r))), (10, .int (nI 1)), (11, .int (nI r))] [] := by
    intro t9
    induction t9 with
    | zero => intro r lim hr n h hS hF; exact absurd lim (by omega)
    | succ t9 ih =>
      intro r lim hr n h hS hF
      refine V_iload 554 C dL_holds_552 rfl rfl ?_
      refine V_iload_n 555 C dL_holds_554 rfl rfl ?_
      refine V_icmp_geN 714 558 C dL_holds_555 (by decide) rfl (by omega) (by omega) (fun c555 => ?_) (fun c555 => ?_)
      · skip
        have er : r = σ.1 2 := by omega
        subst er
        refine V_iconst 715 C dL_holds_714 rfl ic0 ?_
        refine V_istore 717 C dL_holds_715 rfl (by decide) (L' := [(0, _), (1, _), (2, _), (3, _), (4, _), (5, _), (6, _), (7, _), (8, _), (9, _), (10, _), (11, _)]) rfl ?_
        refine V_L [0, 1, 2, 3, 4, 5, 6, 7, 8, 9, 10, 11] rfl ?_
        exact V_wid _ _ (by omega) (by omega) (J717 13 0 (by omega) (by omega) _ _ hS hF)
      · skip
        have hr : r < σ.1 2 := c555
        obtain ⟨u0, u1⟩ := iU r hr
        have hcl := cbk_lt σ.1 r (σ.1 4)
        have hp4 : 2 ^ σ.1 4 ≤ 2 ^ 12 := Nat.pow_le_pow_right (by decide) (by omega)
        have hc3 := hcar r hr
        have hwk := hwalk r hr
        have hrt := rtk_lt σ.1 r
        have hrs : rtk σ.1 (r + 1) = rtk σ.1 r + bp (σ.1 (37 + 3 * r + 1) = 0) * 2 ^ r := rfl
        refine V_iload 560 C dL_holds_558 rfl rfl ?_
        refine V_if_eqN 714 563 C dL_holds_560 (by decide) rfl (by omega) (fun c560 => by omega) (fun c560 => ?_)
        refine V_aload_n 564 C dL_holds_563 rfl rfl ?_
        refine V_iconst 565 C dL_holds_564 rfl ic4 ?_
        refine V_iload 567 C dL_holds_565 rfl rfl ?_
        refine V_iconst 568 C dL_holds_567 rfl ic1 ?_
        refine V_iconst 569 C dL_holds_568 rfl ic0 ?_
        refine V_q1 572 (640 + 20 * r + 4) (3840 + 120 * r + 24) C hF dL_holds_569 rfl mL_call.z tw250 (k_carrier l G _ _ hl x σ hS hI _ _ _ _ (v_car (w := σ.1 (37 + 3 * r + 1)) hr hIv (j := 1) (by omega) rfl)) rfl rfl ⟨Nat.le_of_ble_eq_true rfl, Nat.le_of_ble_eq_true rfl⟩ ⟨by omega, by omega⟩ ⟨by show _ ≤ 1804; omega, by show _ ≤ 10824; omega⟩ (Nat.le_of_ble_eq_true rfl) ?_
        clear hS hF n h
        intro n h hS hF
        refine V_istore 574 C dL_holds_572 rfl (by decide) (L' := [(0, _), (1, _), (2, _), (3, _), (4, _), (5, _), (6, _), (7, _), (8, _), (9, _), (10, _), (11, _), (12, _)]) rfl ?_
        refine V_aload_n 575 C dL_holds_574 rfl rfl ?_
        refine V_iconst 576 C dL_holds_575 rfl ic4 ?_
        refine V_iload 578 C dL_holds_576 rfl rfl ?_
        refine V_iconst 579 C dL_holds_578 rfl ic2 ?_
        refine V_iconst 580 C dL_holds_579 rfl ic0 ?_
        refine V_q1 583 (640 + 20 * r + 8) (3840 + 120 * r + 48) C hF dL_holds_580 rfl mL_call.z tw250 (k_carrier l G _ _ hl x σ hS hI _ _ _ _ (v_car (w := cbk σ.1 r (σ.1 4)) hr hIv (j := 2) (by omega) rfl)) rfl rfl ⟨Nat.le_of_ble_eq_true rfl, Nat.le_of_ble_eq_true rfl⟩ ⟨by omega, by omega⟩ ⟨by show _ ≤ 1804; omega, by show _ ≤ 10824; omega⟩ (Nat.le_of_ble_eq_true rfl) ?_
        clear hS hF n h
        intro n h hS hF
        refine V_istore 585 C dL_holds_583 rfl (by decide) (L' := [(0, _), (1, _), (2, _), (3, _), (4, _), (5, _), (6, _), (7, _), (8, _), (9, _), (10, _), (11, _), (12, _), (13, _)]) rfl ?_
        refine V_iconst 586 C dL_holds_585 rfl ic0 ?_
        refine V_istore 588 C dL_holds_586 rfl (by decide) (L' := [(0, _), (1, _), (2, _), (3, _), (4, _), (5, _), (6, _), (7, _), (8, _), (9, _), (10, _), (11, _), (12, _), (13, _), (14, _)]) rfl ?_
        refine V_iload 590 C dL_holds_588 rfl rfl ?_
        refine V_iload 592 C dL_holds_590 rfl rfl ?_
        by_cases el : σ.1 (37 + 3 * r + 1) = 0
        · skip
          rw [bp_t el, Nat.one_mul] at hrs
          refine V_if_neN 602 595 C dL_holds_592 (by decide) rfl (by omega) (fun c592 => by omega) (fun c592 => ?_)
          refine V_iconst 596 C dL_holds_595 rfl ic1 ?_
          refine V_iload 598 C dL_holds_596 rfl rfl ?_
          refine V_ishl 599 C dL_holds_598 rfl  ?_
          refine V_goto 603 C dL_holds_599 (by decide) ?_
          refine V_ior 604 C dL_holds_603 rfl  ?_
          rw [orbit (by omega) hrt, ← hrs]
          refine V_istore 606 C dL_holds_604 rfl (by decide) (L' := [(0, _), (1, _), (2, _), (3, _), (4, _), (5, _), (6, _), (7, _), (8, _), (9, _), (10, _), (11, _), (12, _), (13, _), (14, _)]) rfl ?_
          refine V_iconst 607 C dL_holds_606 rfl ic0 ?_
          refine V_istore 609 C dL_holds_607 rfl (by decide) (L' := [(0, _), (1, _), (2, _), (3, _), (4, _), (5, _), (6, _), (7, _), (8, _), (9, _), (10, _), (11, _), (12, _), (13, _), (14, _), (15, _)]) rfl ?_
          refine V_L [0, 1, 2, 3, 4, 5, 6, 7, 8, 9, 10, 11, 12, 13, 14, 15] rfl ?_
          refine V_wid _ _ (by omega) (by omega) (J609 13 r 0 (by omega) (by omega) (fun n h hS hF => ?_) _ _ hS hF)
          refine V_iload 636 C dL_holds_634 rfl rfl ?_
          refine V_iload 638 C dL_holds_636 rfl rfl ?_
          refine V_iaddN 639 C dL_holds_638 rfl  ?_
          refine V_istore 641 C dL_holds_639 rfl (by decide) (L' := [(0, _), (1, _), (2, _), (3, _), (4, _), (5, _), (6, _), (7, _), (8, _), (9, _), (10, _), (11, _), (12, _), (13, _), (14, _)]) rfl ?_
          refine V_iload 643 C dL_holds_641 rfl rfl ?_
          refine V_if_ltN 705 646 C dL_holds_643 (by decide) rfl (by omega) (fun c643 => by exact c643.elim) (fun c643 => ?_)
          refine V_iload 648 C dL_holds_646 rfl rfl ?_
          refine V_bipush 650 C dL_holds_648 rfl bip20 ?_
          refine V_icmp_gtN 705 653 C dL_holds_650 (by decide) rfl (by omega) (by omega) (fun c650 => by omega) (fun c650 => ?_)
          refine V_iload 655 C dL_holds_653 rfl rfl ?_
          refine V_iconst 656 C dL_holds_655 rfl ic3 ?_
          refine V_icmp_gtN 705 659 C dL_holds_656 (by decide) rfl (by omega) (by omega) (fun c656 => by omega) (fun c656 => ?_)
          refine V_iload 661 C dL_holds_659 rfl rfl ?_
          refine V_iconst 662 C dL_holds_661 rfl ic1 ?_
          refine V_iload 664 C dL_holds_662 rfl rfl ?_
          refine V_ishl 665 C dL_holds_664 rfl  ?_
          rw [shl12 (by omega)]
          refine V_icmp_geN 705 668 C dL_holds_665 (by decide) rfl (by omega) (by omega) (fun c665 => by omega) (fun c665 => ?_)
          refine V_aload_n 669 C dL_holds_668 rfl rfl ?_
          refine V_iconst 670 C dL_holds_669 rfl ic4 ?_
          refine V_iload 672 C dL_holds_670 rfl rfl ?_
          refine V_iconst 673 C dL_holds_672 rfl ic0 ?_
          refine V_iconst 674 C dL_holds_673 rfl ic0 ?_
          refine V_q1 677 (640 + 20 * r + 8 + 4) (3840 + 120 * r + 48 + 24) C hF dL_holds_674 rfl mL_call.z tw250 (k_carrier l G _ _ hl x σ hS hI _ _ _ _ (v_car (w := σ.1 (37 + 3 * r)) hr hIv (j := 0) (by omega) rfl)) rfl rfl ⟨Nat.le_of_ble_eq_true rfl, Nat.le_of_ble_eq_true rfl⟩ ⟨by omega, by omega⟩ ⟨by show _ ≤ 1804; omega, by show _ ≤ 10824; omega⟩ (Nat.le_of_ble_eq_true rfl) ?_
          clear hS hF n h
          intro n h hS hF
          refine V_iload_n 678 C dL_holds_677 rfl rfl ?_
          refine V_icmp_geN 705 681 C dL_holds_678 (by decide) rfl (by omega) (by omega) (fun c678 => by omega) (fun c678 => ?_)
          refine V_aload_n 682 C dL_holds_681 rfl rfl ?_
          refine V_iconst 683 C dL_holds_682 rfl ic4 ?_
          refine V_iload 685 C dL_holds_683 rfl rfl ?_
          refine V_iconst 686 C dL_holds_685 rfl ic3 ?_
          refine V_iconst 687 C dL_holds_686 rfl ic0 ?_
          refine V_q1 690 (640 + 20 * r + 8 + 8) (3840 + 120 * r + 48 + 48) C hF dL_holds_687 rfl mL_call.z tw250 (k_carrier l G _ _ hl x σ hS hI _ _ _ _ (v_car (w := σ.1 (37 + 3 * r + 2)) hr hIv (j := 3) (by omega) rfl)) rfl rfl ⟨Nat.le_of_ble_eq_true rfl, Nat.le_of_ble_eq_true rfl⟩ ⟨by omega, by omega⟩ ⟨by show _ ≤ 1804; omega, by show _ ≤ 10824; omega⟩ (Nat.le_of_ble_eq_true rfl) ?_
          clear hS hF n h
          intro n h hS hF
          refine V_aload_n 691 C dL_holds_690 rfl rfl ?_
          refine V_iconst 692 C dL_holds_691 rfl ic2 ?_
          refine V_iconst 693 C dL_holds_692 rfl ic5 ?_
          refine V_iconst 694 C dL_holds_693 rfl ic0 ?_
          refine V_iconst 695 C dL_holds_694 rfl ic0 ?_
          refine V_q1 698 (640 + 20 * r + 8 + 12) (3840 + 120 * r + 48 + 72) C hF dL_holds_695 rfl mL_call.z tw250 (k_about l G _ _ hl x σ hS hI _ _ _ _ (v_ab (j := 5) (w := σ.1 5) (by omega) rfl)) rfl rfl ⟨Nat.le_of_ble_eq_true rfl, Nat.le_of_ble_eq_true rfl⟩ ⟨by omega, by omega⟩ ⟨by show _ ≤ 1804; omega, by show _ ≤ 10824; omega⟩ (Nat.le_of_ble_eq_true rfl) ?_
          clear hS hF n h
          intro n h hS hF
          refine V_icmp_gtN 705 701 C dL_holds_698 (by decide) rfl (by omega) (by omega) (fun c698 => by omega) (fun c698 => ?_)
          refine V_iconst 702 C dL_holds_701 rfl ic1 ?_
          refine V_goto 706 C dL_holds_702 (by decide) ?_
          refine V_istore 708 C dL_holds_706 rfl (by decide) (L' := [(0, _), (1, _), (2, _), (3, _), (4, _), (5, _), (6, _), (7, _), (8, _), (9, _), (10, _), (11, _), (12, _), (13, _), (14, _)]) rfl ?_
          refine V_iinc 711 C dL_holds_708 rfl (by decide) rfl (ii1 _) (L' := [(0, _), (1, _), (2, _), (3, _), (4, _), (5, _), (6, _), (7, _), (8, _), (9, _), (10, _), (11, _), (12, _), (13, _), (14, _)]) rfl ?_
          refine V_goto 552 C dL_holds_711 (by decide) ?_
          refine V_L [0, 1, 2, 3, 4, 5, 6, 7, 8, 9, 10, 11] rfl ?_
          exact V_wid _ _ (by omega) (by omega) (ih (r + 1) (by omega) (by omega) _ _ hS hF)
        · skip
          rw [bp_f el, Nat.zero_mul, Nat.add_zero] at hrs
          refine V_if_neN 602 595 C dL_holds_592 (by decide) rfl (by omega) (fun c592 => ?_) (fun c592 => by omega)
          refine V_iconst 603 C dL_holds_602 rfl ic0 ?_
          refine V_ior 604 C dL_holds_603 rfl  ?_
          rw [show nI (rtk σ.1 r) ||| nI 0 = nI (rtk σ.1 (r + 1)) from by rw [hrs, orN (by have := Nat.pow_le_pow_right (n := 2) (by decide) (show r ≤ 5 by omega); omega) (by decide), Nat.or_zero]; rfl]
          refine V_istore 606 C dL_holds_604 rfl (by decide) (L' := [(0, _), (1, _), (2, _), (3, _), (4, _), (5, _), (6, _), (7, _), (8, _), (9, _), (10, _), (11, _), (12, _), (13, _), (14, _)]) rfl ?_
          refine V_iconst 607 C dL_holds_606 rfl ic0 ?_
          refine V_istore 609 C dL_holds_607 rfl (by decide) (L' := [(0, _), (1, _), (2, _), (3, _), (4, _), (5, _), (6, _), (7, _), (8, _), (9, _), (10, _), (11, _), (12, _), (13, _), (14, _), (15, _)]) rfl ?_
          refine V_L [0, 1, 2, 3, 4, 5, 6, 7, 8, 9, 10, 11, 12, 13, 14, 15] rfl ?_
          refine V_wid _ _ (by omega) (by omega) (J609 13 r 0 (by omega) (by omega) (fun n h hS hF => ?_) _ _ hS hF)
          refine V_iload 636 C dL_holds_634 rfl rfl ?_
          refine V_iload 638 C dL_holds_636 rfl rfl ?_
          refine V_iaddN 639 C dL_holds_638 rfl  ?_
          refine V_istore 641 C dL_holds_639 rfl (by decide) (L' := [(0, _), (1, _), (2, _), (3, _), (4, _), (5, _), (6, _), (7, _), (8, _), (9, _), (10, _), (11, _), (12, _), (13, _), (14, _)]) rfl ?_
          refine V_iload 643 C dL_holds_641 rfl rfl ?_
          refine V_if_ltN 705 646 C dL_holds_643 (by decide) rfl (by omega) (fun c643 => by exact c643.elim) (fun c643 => ?_)
          refine V_iload 648 C dL_holds_646 rfl rfl ?_
          refine V_bipush 650 C dL_holds_648 rfl bip20 ?_
          refine V_icmp_gtN 705 653 C dL_holds_650 (by decide) rfl (by omega) (by omega) (fun c650 => by omega) (fun c650 => ?_)
          refine V_iload 655 C dL_holds_653 rfl rfl ?_
          refine V_iconst 656 C dL_holds_655 rfl ic3 ?_
          refine V_icmp_gtN 705 659 C dL_holds_656 (by decide) rfl (by omega) (by omega) (fun c656 => by omega) (fun c656 => ?_)
          refine V_iload 661 C dL_holds_659 rfl rfl ?_
          refine V_iconst 662 C dL_holds_661 rfl ic1 ?_
          refine V_iload 664 C dL_holds_662 rfl rfl ?_
          refine V_ishl 665 C dL_holds_664 rfl  ?_
          rw [shl12 (by omega)]
          refine V_icmp_geN 705 668 C dL_holds_665 (by decide) rfl (by omega) (by omega) (fun c665 => by omega) (fun c665 => ?_)
          refine V_aload_n 669 C dL_holds_668 rfl rfl ?_
          refine V_iconst 670 C dL_holds_669 rfl ic4 ?_
          refine V_iload 672 C dL_holds_670 rfl rfl ?_
          refine V_iconst 673 C dL_holds_672 rfl ic0 ?_
          refine V_iconst 674 C dL_holds_673 rfl ic0 ?_
          refine V_q1 677 (640 + 20 * r + 8 + 4) (3840 + 120 * r + 48 + 24) C hF dL_holds_674 rfl mL_call.z tw250 (k_carrier l G _ _ hl x σ hS hI _ _ _ _ (v_car (w := σ.1 (37 + 3 * r)) hr hIv (j := 0) (by omega) rfl)) rfl rfl ⟨Nat.le_of_ble_eq_true rfl, Nat.le_of_ble_eq_true rfl⟩ ⟨by omega, by omega⟩ ⟨by show _ ≤ 1804; omega, by show _ ≤ 10824; omega⟩ (Nat.le_of_ble_eq_true rfl) ?_
          clear hS hF n h
          intro n h hS hF
          refine V_iload_n 678 C dL_holds_677 rfl rfl ?_
          refine V_icmp_geN 705 681 C dL_holds_678 (by decide) rfl (by omega) (by omega) (fun c678 => by omega) (fun c678 => ?_)
          refine V_aload_n 682 C dL_holds_681 rfl rfl ?_
          refine V_iconst 683 C dL_holds_682 rfl ic4 ?_
          refine V_iload 685 C dL_holds_683 rfl rfl ?_
          refine V_iconst 686 C dL_holds_685 rfl ic3 ?_
          refine V_iconst 687 C dL_holds_686 rfl ic0 ?_
          refine V_q1 690 (640 + 20 * r + 8 + 8) (3840 + 120 * r + 48 + 48) C hF dL_holds_687 rfl mL_call.z tw250 (k_carrier l G _ _ hl x σ hS hI _ _ _ _ (v_car (w := σ.1 (37 + 3 * r + 2)) hr hIv (j := 3) (by omega) rfl)) rfl rfl ⟨Nat.le_of_ble_eq_true rfl, Nat.le_of_ble_eq_true rfl⟩ ⟨by omega, by omega⟩ ⟨by show _ ≤ 1804; omega, by show _ ≤ 10824; omega⟩ (Nat.le_of_ble_eq_true rfl) ?_
          clear hS hF n h
          intro n h hS hF
          refine V_aload_n 691 C dL_holds_690 rfl rfl ?_
          refine V_iconst 692 C dL_holds_691 rfl ic2 ?_
          refine V_iconst 693 C dL_holds_692 rfl ic5 ?_
          refine V_iconst 694 C dL_holds_693 rfl ic0 ?_
          refine V_iconst 695 C dL_holds_694 rfl ic0 ?_
          refine V_q1 698 (640 + 20 * r + 8 + 12) (3840 + 120 * r + 48 + 72) C hF dL_holds_695 rfl mL_call.z tw250 (k_about l G _ _ hl x σ hS hI _ _ _ _ (v_ab (j := 5) (w := σ.1 5) (by omega) rfl)) rfl rfl ⟨Nat.le_of_ble_eq_true rfl, Nat.le_of_ble_eq_true rfl⟩ ⟨by omega, by omega⟩ ⟨by show _ ≤ 1804; omega, by show _ ≤ 10824; omega⟩ (Nat.le_of_ble_eq_true rfl) ?_
          clear hS hF n h
          intro n h hS hF
          refine V_icmp_gtN 705 701 C dL_holds_698 (by decide) rfl (by omega) (by omega) (fun c698 => by omega) (fun c698 => ?_)
          refine V_iconst 702 C dL_holds_701 rfl ic1 ?_
          refine V_goto 706 C dL_holds_702 (by decide) ?_
          refine V_istore 708 C dL_holds_706 rfl (by decide) (L' := [(0, _), (1, _), (2, _), (3, _), (4, _), (5, _), (6, _), (7, _), (8, _), (9, _), (10, _), (11, _), (12, _), (13, _), (14, _)]) rfl ?_
          refine V_iinc 711 C dL_holds_708 rfl (by decide) rfl (ii1 _) (L' := [(0, _), (1, _), (2, _), (3, _), (4, _), (5, _), (6, _), (7, _), (8, _), (9, _), (10, _), (11, _), (12, _), (13, _), (14, _)]) rfl ?_
          refine V_goto 552 C dL_holds_711 (by decide) ?_
          refine V_L [0, 1, 2, 3, 4, 5, 6, 7, 8, 9, 10, 11] rfl ?_
          exact V_wid _ _ (by omega) (by omega) (ih (r + 1) (by omega) (by omega) _ _ hS hF)
  have J442 : ∀ (s : Nat) (hs : s < σ.1 4) (KE : ∀ (n : Nat) (h : AH) (hS : SC x σ h) (hF : FX x h0 h), V p₀ l e₀ (rmD 12 1804 10824) s₀ m₀ as₀ bl₀ me₀ c₀ (MQ bl₀ (Po G (PoS x h0 (nI 1) σ)) as₀ s₀ 1804 10824 (rg G)) G 20 (16 + 52 * s + 52) (96 + 312 * s + 312) n h 543 [(0, .ref x), (1, .int (nI X)), (2, .int (nI (σ.1 0))), (3, .int (nI (σ.1 2))), (4, .int (nI (σ.1 3))), (5, .int (nI (σ.1 4))), (6, .int (nI (allk σ.1 (s + 1)))), (7, .int (nI (blk σ.1 (s + 1)))), (8, .int (nI (0))), (9, .int (nI (0))), (10, .int (nI 1)), (11, .int (nI s))] []) (n : Nat) (h : AH) (hS : SC x σ h) (hF : FX x h0 h), V p₀ l e₀ (rmD 12 1804 10824) s₀ m₀ as₀ bl₀ me₀ c₀ (MQ bl₀ (Po G (PoS x h0 (nI 1) σ)) as₀ s₀ 1804 10824 (rg G)) G 20 (16 + 52 * s + 48) (96 + 312 * s + 288) n h 442 [(0, .ref x), (1, .int (nI X)), (2, .int (nI (σ.1 0))), (3, .int (nI (σ.1 2))), (4, .int (nI (σ.1 3))), (5, .int (nI (σ.1 4))), (6, .int (nI (allk σ.1 (s + 1)))), (7, .int (nI (blk σ.1 (s + 1)))), (8, .int (nI (0))), (9, .int (nI (0))), (10, .int (nI 1)), (11, .int (nI s)), (12, .int (nI (σ.1 (58 + 6 * s + 2)))), (13, .int (nI (σ.1 (58 + 6 * s + 4)))), (14, .int (nI (pof σ.1 s))), (15, .int (nI (ers σ.1 s 0))), (16, .int (nI (σ.1 (58 + 6 * s + 1)))), (17, .int (nI (rof σ.1 s))), (18, .int (nI (σ.1 (58 + 6 * s))))] [] := by
    intro s hs KE n h hS hF
    obtain ⟨s0, s1, s2, s3, s4, s5⟩ := iS s hs
    have e1 := ers_le σ.1 s 0
    have hpb := pof_b hIv hs
    have hrb := rof_b hIv hs
    have hrn : rof σ.1 s = NO ↔ σ.1 (58 + 6 * s + 2) = 0 := rdw_no s1
    have hcl := crs_le σ.1 s
    refine V_aload_n 443 C dL_holds_442 rfl rfl ?_
    refine V_bipush 445 C dL_holds_443 rfl bip17 ?_
    refine V_iload 447 C dL_holds_445 rfl rfl ?_
    refine V_iconst 448 C dL_holds_447 rfl ic0 ?_
    refine V_iconst 449 C dL_holds_448 rfl ic0 ?_
    refine V_q1 452 (16 + 52 * s + 48 + 4) (96 + 312 * s + 288 + 24) C hF dL_holds_449 rfl mL_call.z tw250 (k_why l G _ _ hl x σ hS hI _ _ _ _ (v_why hs hIv)) rfl rfl ⟨Nat.le_of_ble_eq_true rfl, Nat.le_of_ble_eq_true rfl⟩ ⟨by omega, by omega⟩ ⟨by show _ ≤ 1804; omega, by show _ ≤ 10824; omega⟩ (Nat.le_of_ble_eq_true rfl) ?_
    clear hS hF n h
    intro n h hS hF
    refine V_istore 454 C dL_holds_452 rfl (by decide) (L' := [(0, _), (1, _), (2, _), (3, _), (4, _), (5, _), (6, _), (7, _), (8, _), (9, _), (10, _), (11, _), (12, _), (13, _), (14, _), (15, _), (16, _), (17, _), (18, _), (19, _)]) rfl ?_
    refine V_iload 456 C dL_holds_454 rfl rfl ?_
    refine V_if_eqN 540 459 C dL_holds_456 (by decide) rfl (by omega) (fun c456 => by omega) (fun c456 => ?_)
    refine V_iload 461 C dL_holds_459 rfl rfl ?_
    refine V_if_ltN 540 464 C dL_holds_461 (by decide) rfl (by omega) (fun c461 => by exact c461.elim) (fun c461 => ?_)
    refine V_iload 466 C dL_holds_464 rfl rfl ?_
    refine V_iconst 467 C dL_holds_466 rfl ic5 ?_
    refine V_icmp_geN 540 470 C dL_holds_467 (by decide) rfl (by omega) (by omega) (fun c467 => by omega) (fun c467 => ?_)
    refine V_iload 472 C dL_holds_470 rfl rfl ?_
    refine V_iconst 473 C dL_holds_472 rfl ic1 ?_
    rcases crs_at (y := σ.1) (s := s) with ⟨g1, g2⟩ | ⟨g1, g3, g2⟩ | ⟨g1, g3, g4⟩
    · skip
      refine V_icmp_neN 480 476 C dL_holds_473 (by decide) rfl (by omega) (by omega) (fun c473 => by omega) (fun c473 => ?_)
      refine V_iconst 477 C dL_holds_476 rfl ic1 ?_
      refine V_goto 481 C dL_holds_477 (by decide) ?_
      refine V_iload 483 C dL_holds_481 rfl rfl ?_
      refine V_iconst 484 C dL_holds_483 rfl icm1 ?_
      refine V_icmp_neN 491 487 C dL_holds_484 (by decide) rfl (by omega) (by omega) (fun c484 => by omega) (fun c484 => ?_)
      refine V_iconst 488 C dL_holds_487 rfl ic1 ?_
      refine V_goto 492 C dL_holds_488 (by decide) ?_
      refine V_icmp_neN 540 495 C dL_holds_492 (by decide) rfl (by omega) (by omega) (fun c492 => by omega) (fun c492 => ?_)
      refine V_iload 497 C dL_holds_495 rfl rfl ?_
      refine V_iconst 498 C dL_holds_497 rfl ic2 ?_
      refine V_icmp_neN 506 501 C dL_holds_498 (by decide) rfl (by omega) (by omega) (fun c498 => ?_) (fun c498 => by omega)
      refine V_iload 508 C dL_holds_506 rfl rfl ?_
      refine V_iconst 509 C dL_holds_508 rfl ic4 ?_
      refine V_icmp_neN 519 512 C dL_holds_509 (by decide) rfl (by omega) (by omega) (fun c509 => ?_) (fun c509 => by omega)
      refine V_iload 521 C dL_holds_519 rfl rfl ?_
      refine V_if_neN 536 524 C dL_holds_521 (by decide) rfl (by omega) (fun c521 => ?_) (fun c521 => by omega)
      refine V_iconst 537 C dL_holds_536 rfl ic1 ?_
      refine V_goto 541 C dL_holds_537 (by decide) ?_
      refine V_istore 543 C dL_holds_541 rfl (by decide) (L' := [(0, _), (1, _), (2, _), (3, _), (4, _), (5, _), (6, _), (7, _), (8, _), (9, _), (10, _), (11, _), (12, _), (13, _), (14, _), (15, _), (16, _), (17, _), (18, _), (19, _)]) rfl ?_
      refine V_L [0, 1, 2, 3, 4, 5, 6, 7, 8, 9, 10, 11] rfl ?_
      exact V_wid _ _ (by omega) (by omega) (KE _ _ hS hF)
    · skip
      refine V_icmp_neN 480 476 C dL_holds_473 (by decide) rfl (by omega) (by omega) (fun c473 => ?_) (fun c473 => by omega)
      refine V_iconst 481 C dL_holds_480 rfl ic0 ?_
      refine V_iload 483 C dL_holds_481 rfl rfl ?_
      refine V_iconst 484 C dL_holds_483 rfl icm1 ?_
      refine V_icmp_neN 491 487 C dL_holds_484 (by decide) rfl (by omega) (by omega) (fun c484 => ?_) (fun c484 => by omega)
      refine V_iconst 492 C dL_holds_491 rfl ic0 ?_
      refine V_icmp_neN 540 495 C dL_holds_492 (by decide) rfl (by omega) (by omega) (fun c492 => by omega) (fun c492 => ?_)
      refine V_iload 497 C dL_holds_495 rfl rfl ?_
      refine V_iconst 498 C dL_holds_497 rfl ic2 ?_
      refine V_icmp_neN 506 501 C dL_holds_498 (by decide) rfl (by omega) (by omega) (fun c498 => by omega) (fun c498 => ?_)
      refine V_iload 503 C dL_holds_501 rfl rfl ?_
      refine V_if_neN 540 506 C dL_holds_503 (by decide) rfl (by omega) (fun c503 => by omega) (fun c503 => ?_)
      refine V_iload 508 C dL_holds_506 rfl rfl ?_
      refine V_iconst 509 C dL_holds_508 rfl ic4 ?_
      refine V_icmp_neN 519 512 C dL_holds_509 (by decide) rfl (by omega) (by omega) (fun c509 => ?_) (fun c509 => by omega)
      refine V_iload 521 C dL_holds_519 rfl rfl ?_
      refine V_if_neN 536 524 C dL_holds_521 (by decide) rfl (by omega) (fun c521 => ?_) (fun c521 => by omega)
      refine V_iconst 537 C dL_holds_536 rfl ic1 ?_
      refine V_goto 541 C dL_holds_537 (by decide) ?_
      refine V_istore 543 C dL_holds_541 rfl (by decide) (L' := [(0, _), (1, _), (2, _), (3, _), (4, _), (5, _), (6, _), (7, _), (8, _), (9, _), (10, _), (11, _), (12, _), (13, _), (14, _), (15, _), (16, _), (17, _), (18, _), (19, _)]) rfl ?_
      refine V_L [0, 1, 2, 3, 4, 5, 6, 7, 8, 9, 10, 11] rfl ?_
      exact V_wid _ _ (by omega) (by omega) (KE _ _ hS hF)
    · skip
      refine V_icmp_neN 480 476 C dL_holds_473 (by decide) rfl (by omega) (by omega) (fun c473 => ?_) (fun c473 => by omega)
      refine V_iconst 481 C dL_holds_480 rfl ic0 ?_
      refine V_iload 483 C dL_holds_481 rfl rfl ?_
      refine V_iconst 484 C dL_holds_483 rfl icm1 ?_
      refine V_icmp_neN 491 487 C dL_holds_484 (by decide) rfl (by omega) (by omega) (fun c484 => ?_) (fun c484 => by omega)
      refine V_iconst 492 C dL_holds_491 rfl ic0 ?_
      refine V_icmp_neN 540 495 C dL_holds_492 (by decide) rfl (by omega) (by omega) (fun c492 => by omega) (fun c492 => ?_)
      refine V_iload 497 C dL_holds_495 rfl rfl ?_
      refine V_iconst 498 C dL_holds_497 rfl ic2 ?_
      refine V_icmp_neN 506 501 C dL_holds_498 (by decide) rfl (by omega) (by omega) (fun c498 => ?_) (fun c498 => by omega)
      refine V_iload 508 C dL_holds_506 rfl rfl ?_
      refine V_iconst 509 C dL_holds_508 rfl ic4 ?_
      rcases g4 with g4 | ⟨g4, g5⟩ | ⟨g4, g5⟩
      · skip
        refine V_icmp_neN 519 512 C dL_holds_509 (by decide) rfl (by omega) (by omega) (fun c509 => ?_) (fun c509 => by omega)
        refine V_iload 521 C dL_holds_519 rfl rfl ?_
        refine V_if_neN 536 524 C dL_holds_521 (by decide) rfl (by omega) (fun c521 => ?_) (fun c521 => by omega)
        refine V_iconst 537 C dL_holds_536 rfl ic1 ?_
        refine V_goto 541 C dL_holds_537 (by decide) ?_
        refine V_istore 543 C dL_holds_541 rfl (by decide) (L' := [(0, _), (1, _), (2, _), (3, _), (4, _), (5, _), (6, _), (7, _), (8, _), (9, _), (10, _), (11, _), (12, _), (13, _), (14, _), (15, _), (16, _), (17, _), (18, _), (19, _)]) rfl ?_
        refine V_L [0, 1, 2, 3, 4, 5, 6, 7, 8, 9, 10, 11] rfl ?_
        exact V_wid _ _ (by omega) (by omega) (KE _ _ hS hF)
      · skip
        refine V_icmp_neN 519 512 C dL_holds_509 (by decide) rfl (by omega) (by omega) (fun c509 => by omega) (fun c509 => ?_)
        refine V_iload 514 C dL_holds_512 rfl rfl ?_
        refine V_bipush 516 C dL_holds_514 rfl bip12 ?_
        refine V_icmp_neN 540 519 C dL_holds_516 (by decide) rfl (by omega) (by omega) (fun c516 => by omega) (fun c516 => ?_)
        refine V_iload 521 C dL_holds_519 rfl rfl ?_
        refine V_if_neN 536 524 C dL_holds_521 (by decide) rfl (by omega) (fun c521 => ?_) (fun c521 => by omega)
        refine V_iconst 537 C dL_holds_536 rfl ic1 ?_
        refine V_goto 541 C dL_holds_537 (by decide) ?_
        refine V_istore 543 C dL_holds_541 rfl (by decide) (L' := [(0, _), (1, _), (2, _), (3, _), (4, _), (5, _), (6, _), (7, _), (8, _), (9, _), (10, _), (11, _), (12, _), (13, _), (14, _), (15, _), (16, _), (17, _), (18, _), (19, _)]) rfl ?_
        refine V_L [0, 1, 2, 3, 4, 5, 6, 7, 8, 9, 10, 11] rfl ?_
        exact V_wid _ _ (by omega) (by omega) (KE _ _ hS hF)
      · skip
        refine V_icmp_neN 519 512 C dL_holds_509 (by decide) rfl (by omega) (by omega) (fun c509 => ?_) (fun c509 => by omega)
        refine V_iload 521 C dL_holds_519 rfl rfl ?_
        refine V_if_neN 536 524 C dL_holds_521 (by decide) rfl (by omega) (fun c521 => by omega) (fun c521 => ?_)
        refine V_iload 526 C dL_holds_524 rfl rfl ?_
        refine V_if_leN 540 529 C dL_holds_526 (by decide) rfl (by omega) (fun c526 => by omega) (fun c526 => ?_)
        refine V_iload 531 C dL_holds_529 rfl rfl ?_
        refine V_bipush 533 C dL_holds_531 rfl bip12 ?_
        refine V_icmp_geN 540 536 C dL_holds_533 (by decide) rfl (by omega) (by omega) (fun c533 => by omega) (fun c533 => ?_)
        refine V_iconst 537 C dL_holds_536 rfl ic1 ?_
        refine V_goto 541 C dL_holds_537 (by decide) ?_
        refine V_istore 543 C dL_holds_541 rfl (by decide) (L' := [(0, _), (1, _), (2, _), (3, _), (4, _), (5, _), (6, _), (7, _), (8, _), (9, _), (10, _), (11, _), (12, _), (13, _), (14, _), (15, _), (16, _), (17, _), (18, _), (19, _)]) rfl ?_
        refine V_L [0, 1, 2, 3, 4, 5, 6, 7, 8, 9, 10, 11] rfl ?_
        exact V_wid _ _ (by omega) (by omega) (KE _ _ hS hF)
  have J372 : ∀ (s : Nat) (hs : s < σ.1 4) (KE : ∀ (n : Nat) (h : AH) (hS : SC x σ h) (hF : FX x h0 h), V p₀ l e₀ (rmD 12 1804 10824) s₀ m₀ as₀ bl₀ me₀ c₀ (MQ bl₀ (Po G (PoS x h0 (nI 1) σ)) as₀ s₀ 1804 10824 (rg G)) G 20 (16 + 52 * s + 52) (96 + 312 * s + 312) n h 543 [(0, .ref x), (1, .int (nI X)), (2, .int (nI (σ.1 0))), (3, .int (nI (σ.1 2))), (4, .int (nI (σ.1 3))), (5, .int (nI (σ.1 4))), (6, .int (nI (allk σ.1 (s + 1)))), (7, .int (nI (blk σ.1 (s + 1)))), (8, .int (nI (0))), (9, .int (nI (0))), (10, .int (nI 1)), (11, .int (nI s))] []) (n : Nat) (h : AH) (hS : SC x σ h) (hF : FX x h0 h), V p₀ l e₀ (rmD 12 1804 10824) s₀ m₀ as₀ bl₀ me₀ c₀ (MQ bl₀ (Po G (PoS x h0 (nI 1) σ)) as₀ s₀ 1804 10824 (rg G)) G 20 (16 + 52 * s + 36) (96 + 312 * s + 216) n h 372 [(0, .ref x), (1, .int (nI X)), (2, .int (nI (σ.1 0))), (3, .int (nI (σ.1 2))), (4, .int (nI (σ.1 3))), (5, .int (nI (σ.1 4))), (6, .int (nI (allk σ.1 (s + 1)))), (7, .int (nI (blk σ.1 (s + 1)))), (8, .int (nI (0))), (9, .int (nI (0))), (10, .int (nI 1)), (11, .int (nI s)), (12, .int (nI (σ.1 (58 + 6 * s + 2)))), (13, .int (nI (σ.1 (58 + 6 * s + 4)))), (14, .int (nI (pof σ.1 s))), (15, .int (nI (ers σ.1 s 0))), (16, .int (nI (σ.1 (58 + 6 * s + 1)))), (17, .int (nI (rof σ.1 s))), (18, .int (nI (σ.1 (58 + 6 * s))))] [] := by
    intro s hs KE n h hS hF
    obtain ⟨s0, s1, s2, s3, s4, s5⟩ := iS s hs
    have e1 := ers_le σ.1 s 0
    have hpb := pof_b hIv hs
    have hrb := rof_b hIv hs
    have hrn : rof σ.1 s = NO ↔ σ.1 (58 + 6 * s + 2) = 0 := rdw_no s1
    refine V_iload 374 C dL_holds_372 rfl rfl ?_
    refine V_iconst 375 C dL_holds_374 rfl icm1 ?_
    by_cases ec : σ.1 (58 + 6 * s + 4) = NO
    · skip
      have ep : pof σ.1 s = σ.1 (58 + 6 * s + 5) := if_pos ec
      refine V_icmp_neN 387 378 C dL_holds_375 (by decide) rfl (by omega) (by omega) (fun c375 => by omega) (fun c375 => ?_)
      refine V_iload 380 C dL_holds_378 rfl rfl ?_
      refine V_iconst 381 C dL_holds_380 rfl icm1 ?_
      refine V_icmp_eqN 439 384 C dL_holds_381 (by decide) rfl (by omega) (by omega) (fun c381 => by omega) (fun c381 => ?_)
      refine V_goto 435 C dL_holds_384 (by decide) ?_
      refine V_iconst 436 C dL_holds_435 rfl ic1 ?_
      refine V_goto 440 C dL_holds_436 (by decide) ?_
      refine V_istore 442 C dL_holds_440 rfl (by decide) (L' := [(0, _), (1, _), (2, _), (3, _), (4, _), (5, _), (6, _), (7, _), (8, _), (9, _), (10, _), (11, _), (12, _), (13, _), (14, _), (15, _), (16, _), (17, _), (18, _)]) rfl ?_
      refine V_L [0, 1, 2, 3, 4, 5, 6, 7, 8, 9, 10, 11, 12, 13, 14, 15, 16, 17, 18] rfl ?_
      exact V_wid _ _ (by omega) (by omega) (J442 s hs KE _ _ hS hF)
    · skip
      have hcu : σ.1 (58 + 6 * s + 4) < σ.1 2 := s4.resolve_left ec
      obtain ⟨u0, u1⟩ := iU _ hcu
      have ep : pof σ.1 s = tof σ.1 (σ.1 (58 + 6 * s + 4)) := if_neg ec
      refine V_icmp_neN 387 378 C dL_holds_375 (by decide) rfl (by omega) (by omega) (fun c375 => ?_) (fun c375 => by omega)
      refine V_iload 389 C dL_holds_387 rfl rfl ?_
      refine V_aload_n 390 C dL_holds_389 rfl rfl ?_
      refine V_iconst 391 C dL_holds_390 rfl ic4 ?_
      refine V_iload 393 C dL_holds_391 rfl rfl ?_
      refine V_iconst 394 C dL_holds_393 rfl ic1 ?_
      refine V_iconst 395 C dL_holds_394 rfl ic0 ?_
      refine V_q1 398 (16 + 52 * s + 36 + 4) (96 + 312 * s + 216 + 24) C hF dL_holds_395 rfl mL_call.z tw250 (k_carrier l G _ _ hl x σ hS hI _ _ _ _ (v_car (w := σ.1 (37 + 3 * σ.1 (58 + 6 * s + 4) + 1)) hcu hIv (j := 1) (by omega) rfl)) rfl rfl ⟨Nat.le_of_ble_eq_true rfl, Nat.le_of_ble_eq_true rfl⟩ ⟨by omega, by omega⟩ ⟨by show _ ≤ 1804; omega, by show _ ≤ 10824; omega⟩ (Nat.le_of_ble_eq_true rfl) ?_
      clear hS hF n h
      intro n h hS hF
      by_cases el : σ.1 (37 + 3 * σ.1 (58 + 6 * s + 4) + 1) = 0
      · skip
        have et : tof σ.1 (σ.1 (58 + 6 * s + 4)) = σ.1 (37 + 3 * σ.1 (58 + 6 * s + 4)) := if_pos el
        refine V_if_leN 405 401 C dL_holds_398 (by decide) rfl (by omega) (fun c398 => ?_) (fun c398 => by omega)
        refine V_aload_n 406 C dL_holds_405 rfl rfl ?_
        refine V_iconst 407 C dL_holds_406 rfl ic4 ?_
        refine V_iload 409 C dL_holds_407 rfl rfl ?_
        refine V_iconst 410 C dL_holds_409 rfl ic0 ?_
        refine V_iconst 411 C dL_holds_410 rfl ic0 ?_
        refine V_q1 414 (16 + 52 * s + 36 + 8) (96 + 312 * s + 216 + 48) C hF dL_holds_411 rfl mL_call.z tw250 (k_carrier l G _ _ hl x σ hS hI _ _ _ _ (v_car (w := σ.1 (37 + 3 * σ.1 (58 + 6 * s + 4))) hcu hIv (j := 0) (by omega) rfl)) rfl rfl ⟨Nat.le_of_ble_eq_true rfl, Nat.le_of_ble_eq_true rfl⟩ ⟨by omega, by omega⟩ ⟨by show _ ≤ 1804; omega, by show _ ≤ 10824; omega⟩ (Nat.le_of_ble_eq_true rfl) ?_
        clear hS hF n h
        intro n h hS hF
        refine V_icmp_neN 439 417 C dL_holds_414 (by decide) rfl (by omega) (by omega) (fun c414 => by omega) (fun c414 => ?_)
        refine V_aload_n 418 C dL_holds_417 rfl rfl ?_
        refine V_iconst 419 C dL_holds_418 rfl ic4 ?_
        refine V_iload 421 C dL_holds_419 rfl rfl ?_
        refine V_iconst 422 C dL_holds_421 rfl ic2 ?_
        refine V_iconst 423 C dL_holds_422 rfl ic0 ?_
        refine V_q1 426 (16 + 52 * s + 36 + 12) (96 + 312 * s + 216 + 72) C hF dL_holds_423 rfl mL_call.z tw250 (k_carrier l G _ _ hl x σ hS hI _ _ _ _ (v_car (w := cbk σ.1 (σ.1 (58 + 6 * s + 4)) (σ.1 4)) hcu hIv (j := 2) (by omega) rfl)) rfl rfl ⟨Nat.le_of_ble_eq_true rfl, Nat.le_of_ble_eq_true rfl⟩ ⟨by omega, by omega⟩ ⟨by show _ ≤ 1804; omega, by show _ ≤ 10824; omega⟩ (Nat.le_of_ble_eq_true rfl) ?_
        clear hS hF n h
        intro n h hS hF
        refine V_iload 428 C dL_holds_426 rfl rfl ?_
        refine V_ishr 429 C dL_holds_428 rfl  ?_
        refine V_iconst 430 C dL_holds_429 rfl ic1 ?_
        refine V_iand 431 C dL_holds_430 rfl  ?_
        rw [bit_of hIv hs, bp_t rfl]
        refine V_iconst 432 C dL_holds_431 rfl ic1 ?_
        refine V_icmp_neN 439 435 C dL_holds_432 (by decide) rfl (by omega) (by omega) (fun c432 => by omega) (fun c432 => ?_)
        refine V_iconst 436 C dL_holds_435 rfl ic1 ?_
        refine V_goto 440 C dL_holds_436 (by decide) ?_
        refine V_istore 442 C dL_holds_440 rfl (by decide) (L' := [(0, _), (1, _), (2, _), (3, _), (4, _), (5, _), (6, _), (7, _), (8, _), (9, _), (10, _), (11, _), (12, _), (13, _), (14, _), (15, _), (16, _), (17, _), (18, _)]) rfl ?_
        refine V_L [0, 1, 2, 3, 4, 5, 6, 7, 8, 9, 10, 11, 12, 13, 14, 15, 16, 17, 18] rfl ?_
        exact V_wid _ _ (by omega) (by omega) (J442 s hs KE _ _ hS hF)
      · skip
        have et : tof σ.1 (σ.1 (58 + 6 * s + 4)) = NO := if_neg el
        refine V_if_leN 405 401 C dL_holds_398 (by decide) rfl (by omega) (fun c398 => by omega) (fun c398 => ?_)
        refine V_iconst 402 C dL_holds_401 rfl icm1 ?_
        refine V_goto 414 C dL_holds_402 (by decide) ?_
        refine V_icmp_neN 439 417 C dL_holds_414 (by decide) rfl (by omega) (by omega) (fun c414 => by omega) (fun c414 => ?_)
        refine V_aload_n 418 C dL_holds_417 rfl rfl ?_
        refine V_iconst 419 C dL_holds_418 rfl ic4 ?_
        refine V_iload 421 C dL_holds_419 rfl rfl ?_
        refine V_iconst 422 C dL_holds_421 rfl ic2 ?_
        refine V_iconst 423 C dL_holds_422 rfl ic0 ?_
        refine V_q1 426 (16 + 52 * s + 36 + 8) (96 + 312 * s + 216 + 48) C hF dL_holds_423 rfl mL_call.z tw250 (k_carrier l G _ _ hl x σ hS hI _ _ _ _ (v_car (w := cbk σ.1 (σ.1 (58 + 6 * s + 4)) (σ.1 4)) hcu hIv (j := 2) (by omega) rfl)) rfl rfl ⟨Nat.le_of_ble_eq_true rfl, Nat.le_of_ble_eq_true rfl⟩ ⟨by omega, by omega⟩ ⟨by show _ ≤ 1804; omega, by show _ ≤ 10824; omega⟩ (Nat.le_of_ble_eq_true rfl) ?_
        clear hS hF n h
        intro n h hS hF
        refine V_iload 428 C dL_holds_426 rfl rfl ?_
        refine V_ishr 429 C dL_holds_428 rfl  ?_
        refine V_iconst 430 C dL_holds_429 rfl ic1 ?_
        refine V_iand 431 C dL_holds_430 rfl  ?_
        rw [bit_of hIv hs, bp_t rfl]
        refine V_iconst 432 C dL_holds_431 rfl ic1 ?_
        refine V_icmp_neN 439 435 C dL_holds_432 (by decide) rfl (by omega) (by omega) (fun c432 => by omega) (fun c432 => ?_)
        refine V_iconst 436 C dL_holds_435 rfl ic1 ?_
        refine V_goto 440 C dL_holds_436 (by decide) ?_
        refine V_istore 442 C dL_holds_440 rfl (by decide) (L' := [(0, _), (1, _), (2, _), (3, _), (4, _), (5, _), (6, _), (7, _), (8, _), (9, _), (10, _), (11, _), (12, _), (13, _), (14, _), (15, _), (16, _), (17, _), (18, _)]) rfl ?_
        refine V_L [0, 1, 2, 3, 4, 5, 6, 7, 8, 9, 10, 11, 12, 13, 14, 15, 16, 17, 18] rfl ?_
        exact V_wid _ _ (by omega) (by omega) (J442 s hs KE _ _ hS hF)
  have J357 : ∀ (s : Nat) (hs : s < σ.1 4) (KE : ∀ (n : Nat) (h : AH) (hS : SC x σ h) (hF : FX x h0 h), V p₀ l e₀ (rmD 12 1804 10824) s₀ m₀ as₀ bl₀ me₀ c₀ (MQ bl₀ (Po G (PoS x h0 (nI 1) σ)) as₀ s₀ 1804 10824 (rg G)) G 20 (16 + 52 * s + 52) (96 + 312 * s + 312) n h 543 [(0, .ref x), (1, .int (nI X)), (2, .int (nI (σ.1 0))), (3, .int (nI (σ.1 2))), (4, .int (nI (σ.1 3))), (5, .int (nI (σ.1 4))), (6, .int (nI (allk σ.1 (s + 1)))), (7, .int (nI (blk σ.1 (s + 1)))), (8, .int (nI (0))), (9, .int (nI (0))), (10, .int (nI 1)), (11, .int (nI s))] []) (n : Nat) (h : AH) (hS : SC x σ h) (hF : FX x h0 h), V p₀ l e₀ (rmD 12 1804 10824) s₀ m₀ as₀ bl₀ me₀ c₀ (MQ bl₀ (Po G (PoS x h0 (nI 1) σ)) as₀ s₀ 1804 10824 (rg G)) G 20 (16 + 52 * s + 32) (96 + 312 * s + 192) n h 357 [(0, .ref x), (1, .int (nI X)), (2, .int (nI (σ.1 0))), (3, .int (nI (σ.1 2))), (4, .int (nI (σ.1 3))), (5, .int (nI (σ.1 4))), (6, .int (nI (allk σ.1 (s + 1)))), (7, .int (nI (blk σ.1 (s + 1)))), (8, .int (nI (0))), (9, .int (nI (0))), (10, .int (nI 1)), (11, .int (nI s)), (12, .int (nI (σ.1 (58 + 6 * s + 2)))), (13, .int (nI (σ.1 (58 + 6 * s + 4)))), (14, .int (nI (pof σ.1 s))), (15, .int (nI (ers σ.1 s 0))), (16, .int (nI (σ.1 (58 + 6 * s + 1)))), (17, .int (nI (rof σ.1 s))), (18, .int (nI (σ.1 (58 + 6 * s))))] [] := by
    intro s hs KE n h hS hF
    obtain ⟨s0, s1, s2, s3, s4, s5⟩ := iS s hs
    have e1 := ers_le σ.1 s 0
    have hpb := pof_b hIv hs
    have hrb := rof_b hIv hs
    have hrn : rof σ.1 s = NO ↔ σ.1 (58 + 6 * s + 2) = 0 := rdw_no s1
    refine V_iload 359 C dL_holds_357 rfl rfl ?_
    refine V_aload_n 360 C dL_holds_359 rfl rfl ?_
    refine V_bipush 362 C dL_holds_360 rfl bip18 ?_
    refine V_iload 364 C dL_holds_362 rfl rfl ?_
    refine V_iconst 365 C dL_holds_364 rfl ic0 ?_
    refine V_iconst 366 C dL_holds_365 rfl ic0 ?_
    refine V_q1 369 (16 + 52 * s + 32 + 4) (96 + 312 * s + 192 + 24) C hF dL_holds_366 rfl mL_call.z tw250 (k_later l G _ _ hl x σ hS hI _ _ _ _ (v_later hs hIv (j := 0) (by omega))) rfl rfl ⟨Nat.le_of_ble_eq_true rfl, Nat.le_of_ble_eq_true rfl⟩ ⟨by omega, by omega⟩ ⟨by show _ ≤ 1804; omega, by show _ ≤ 10824; omega⟩ (Nat.le_of_ble_eq_true rfl) ?_
    clear hS hF n h
    intro n h hS hF
    refine V_icmp_neN 439 372 C dL_holds_369 (by decide) rfl (by omega) (by omega) (fun c369 => by omega) (fun c369 => ?_)
    refine V_L [0, 1, 2, 3, 4, 5, 6, 7, 8, 9, 10, 11, 12, 13, 14, 15, 16, 17, 18] rfl ?_
    exact V_wid _ _ (by omega) (by omega) (J372 s hs KE _ _ hS hF)
  have J205 : ∀ (s : Nat) (hs : s < σ.1 4) (KE : ∀ (n : Nat) (h : AH) (hS : SC x σ h) (hF : FX x h0 h), V p₀ l e₀ (rmD 12 1804 10824) s₀ m₀ as₀ bl₀ me₀ c₀ (MQ bl₀ (Po G (PoS x h0 (nI 1) σ)) as₀ s₀ 1804 10824 (rg G)) G 20 (16 + 52 * s + 52) (96 + 312 * s + 312) n h 543 [(0, .ref x), (1, .int (nI X)), (2, .int (nI (σ.1 0))), (3, .int (nI (σ.1 2))), (4, .int (nI (σ.1 3))), (5, .int (nI (σ.1 4))), (6, .int (nI (allk σ.1 (s + 1)))), (7, .int (nI (blk σ.1 (s + 1)))), (8, .int (nI (0))), (9, .int (nI (0))), (10, .int (nI 1)), (11, .int (nI s))] []) (n : Nat) (h : AH) (hS : SC x σ h) (hF : FX x h0 h), V p₀ l e₀ (rmD 12 1804 10824) s₀ m₀ as₀ bl₀ me₀ c₀ (MQ bl₀ (Po G (PoS x h0 (nI 1) σ)) as₀ s₀ 1804 10824 (rg G)) G 20 (16 + 52 * s + 28) (96 + 312 * s + 168) n h 205 [(0, .ref x), (1, .int (nI X)), (2, .int (nI (σ.1 0))), (3, .int (nI (σ.1 2))), (4, .int (nI (σ.1 3))), (5, .int (nI (σ.1 4))), (6, .int (nI (allk σ.1 (s + 1)))), (7, .int (nI (blk σ.1 (s + 1)))), (8, .int (nI (0))), (9, .int (nI (0))), (10, .int (nI 1)), (11, .int (nI s)), (12, .int (nI (σ.1 (58 + 6 * s + 2)))), (13, .int (nI (σ.1 (58 + 6 * s + 4)))), (14, .int (nI (pof σ.1 s))), (15, .int (nI (ers σ.1 s 0))), (16, .int (nI (σ.1 (58 + 6 * s + 1)))), (17, .int (nI (rof σ.1 s))), (18, .int (nI (σ.1 (58 + 6 * s))))] [] := by
    intro s hs KE n h hS hF
    obtain ⟨s0, s1, s2, s3, s4, s5⟩ := iS s hs
    have e1 := ers_le σ.1 s 0
    have hpb := pof_b hIv hs
    have hrb := rof_b hIv hs
    have hrn : rof σ.1 s = NO ↔ σ.1 (58 + 6 * s + 2) = 0 := rdw_no s1
    refine V_iload 207 C dL_holds_205 rfl rfl ?_
    refine V_if_ltN 439 210 C dL_holds_207 (by decide) rfl (by omega) (fun c207 => by exact c207.elim) (fun c207 => ?_)
    refine V_iload 212 C dL_holds_210 rfl rfl ?_
    refine V_iload 214 C dL_holds_212 rfl rfl ?_
    refine V_icmp_geN 439 217 C dL_holds_214 (by decide) rfl (by omega) (by omega) (fun c214 => by omega) (fun c214 => ?_)
    refine V_iload 219 C dL_holds_217 rfl rfl ?_
    refine V_if_ltN 439 222 C dL_holds_219 (by decide) rfl (by omega) (fun c219 => by exact c219.elim) (fun c219 => ?_)
    refine V_iload 224 C dL_holds_222 rfl rfl ?_
    refine V_bipush 226 C dL_holds_224 rfl bip99 ?_
    refine V_icmp_gtN 439 229 C dL_holds_226 (by decide) rfl (by omega) (by omega) (fun c226 => by omega) (fun c226 => ?_)
    refine V_iload 231 C dL_holds_229 rfl rfl ?_
    refine V_iconst 232 C dL_holds_231 rfl icm1 ?_
    refine V_icmp_lt 439 235 C dL_holds_232 (by decide) rfl  (fun c232 => by exact absurd c232 (sg_1 (by omega))) (fun c232 => ?_)
    refine V_iload 237 C dL_holds_235 rfl rfl ?_
    refine V_iload_n 238 C dL_holds_237 rfl rfl ?_
    refine V_icmp_ge 439 241 C dL_holds_238 (by decide) rfl  (fun c238 => by exact absurd c238 (sg_2 (by omega) (by omega))) (fun c238 => ?_)
    refine V_iload 243 C dL_holds_241 rfl rfl ?_
    refine V_iconst 244 C dL_holds_243 rfl icm1 ?_
    refine V_icmp_lt 439 247 C dL_holds_244 (by decide) rfl  (fun c244 => by exact absurd c244 (sg_1 (by omega))) (fun c244 => ?_)
    refine V_iload 249 C dL_holds_247 rfl rfl ?_
    refine V_iload_n 250 C dL_holds_249 rfl rfl ?_
    refine V_icmp_ge 439 253 C dL_holds_250 (by decide) rfl  (fun c250 => by exact absurd c250 (sg_2 (by omega) (by omega))) (fun c250 => ?_)
    refine V_iload 255 C dL_holds_253 rfl rfl ?_
    refine V_if_ltN 439 258 C dL_holds_255 (by decide) rfl (by omega) (fun c255 => by exact c255.elim) (fun c255 => ?_)
    refine V_iload 260 C dL_holds_258 rfl rfl ?_
    refine V_ldc 262 C dL_holds_260 rfl tw862 ?_
    refine V_st (st' := .int (nI 1000000) :: _) rfl ?_
    refine V_icmp_geN 439 265 C dL_holds_262 (by decide) rfl (by omega) (by omega) (fun c262 => by omega) (fun c262 => ?_)
    refine V_iload 267 C dL_holds_265 rfl rfl ?_
    refine V_iconst 268 C dL_holds_267 rfl icm1 ?_
    by_cases ei : σ.1 (58 + 6 * s + 2) = 0
    · skip
      have hrN := hrn.mpr ei
      have e6 : ers σ.1 s 0 = 6 := by
        unfold ers ink
        rw [Nat.zero_mul, Nat.sub_zero, ei, rdw_0]
        exact if_pos rfl
      refine V_icmp_neN 275 271 C dL_holds_268 (by decide) rfl (by omega) (by omega) (fun c268 => by omega) (fun c268 => ?_)
      refine V_iconst 272 C dL_holds_271 rfl ic1 ?_
      refine V_goto 276 C dL_holds_272 (by decide) ?_
      refine V_iload 278 C dL_holds_276 rfl rfl ?_
      refine V_if_neN 285 281 C dL_holds_278 (by decide) rfl (by omega) (fun c278 => by omega) (fun c278 => ?_)
      refine V_iconst 282 C dL_holds_281 rfl ic1 ?_
      refine V_goto 286 C dL_holds_282 (by decide) ?_
      refine V_icmp_neN 439 289 C dL_holds_286 (by decide) rfl (by omega) (by omega) (fun c286 => by omega) (fun c286 => ?_)
      refine V_iload 291 C dL_holds_289 rfl rfl ?_
      refine V_iload 293 C dL_holds_291 rfl rfl ?_
      refine V_if_neN 301 296 C dL_holds_293 (by decide) rfl (by omega) (fun c293 => by omega) (fun c293 => ?_)
      refine V_bipush 298 C dL_holds_296 rfl bip6 ?_
      refine V_goto 316 C dL_holds_298 (by decide) ?_
      refine V_icmp_neN 439 319 C dL_holds_316 (by decide) rfl (by omega) (by omega) (fun c316 => by omega) (fun c316 => ?_)
      refine V_iload 321 C dL_holds_319 rfl rfl ?_
      refine V_if_eqN 357 324 C dL_holds_321 (by decide) rfl (by omega) (fun c321 => ?_) (fun c321 => by omega)
      refine V_L [0, 1, 2, 3, 4, 5, 6, 7, 8, 9, 10, 11, 12, 13, 14, 15, 16, 17, 18] rfl ?_
      exact V_wid _ _ (by omega) (by omega) (J357 s hs KE _ _ hS hF)
    · skip
      have hrN : ¬ rof σ.1 s = NO := fun e => ei (hrn.mp e)
      have hrl : rof σ.1 s < 1000000 := rdw_lt s1 ei
      have e6 : ers σ.1 s 0 = ud (rof σ.1 s) (σ.1 (52 + σ.1 (58 + 6 * s))) := by
        unfold ers ink
        rw [Nat.zero_mul, Nat.sub_zero]
        exact if_neg hrN
      have eu := ud_rdw (k := σ.1 (58 + 6 * s + 2)) s1 ei
      have eu : ud (rof σ.1 s) (σ.1 (58 + 6 * s + 1)) = if 40 ≤ σ.1 (58 + 6 * s + 2) then 0 else if 20 ≤ σ.1 (58 + 6 * s + 2) then 1 else 2 := eu
      have ul1 := ud_le (rof σ.1 s) (σ.1 (52 + σ.1 (58 + 6 * s)))
      have ul2 := ud_le (rof σ.1 s) (σ.1 (58 + 6 * s + 1))
      refine V_icmp_neN 275 271 C dL_holds_268 (by decide) rfl (by omega) (by omega) (fun c268 => ?_) (fun c268 => by omega)
      refine V_iconst 276 C dL_holds_275 rfl ic0 ?_
      refine V_iload 278 C dL_holds_276 rfl rfl ?_
      refine V_if_neN 285 281 C dL_holds_278 (by decide) rfl (by omega) (fun c278 => ?_) (fun c278 => by omega)
      refine V_iconst 286 C dL_holds_285 rfl ic0 ?_
      refine V_icmp_neN 439 289 C dL_holds_286 (by decide) rfl (by omega) (by omega) (fun c286 => by omega) (fun c286 => ?_)
      refine V_iload 291 C dL_holds_289 rfl rfl ?_
      refine V_iload 293 C dL_holds_291 rfl rfl ?_
      refine V_if_neN 301 296 C dL_holds_293 (by decide) rfl (by omega) (fun c293 => ?_) (fun c293 => by omega)
      refine V_iload 303 C dL_holds_301 rfl rfl ?_
      refine V_aload_n 304 C dL_holds_303 rfl rfl ?_
      refine V_bipush 306 C dL_holds_304 rfl bip6 ?_
      refine V_iload 308 C dL_holds_306 rfl rfl ?_
      refine V_iconst 309 C dL_holds_308 rfl ic0 ?_
      refine V_iconst 310 C dL_holds_309 rfl ic0 ?_
      refine V_q1 313 (16 + 52 * s + 28 + 4) (96 + 312 * s + 168 + 24) C hF dL_holds_310 rfl mL_call.z tw250 (k_told l G _ _ hl x σ hS hI _ _ _ _ (v_told s0 hIv)) rfl rfl ⟨Nat.le_of_ble_eq_true rfl, Nat.le_of_ble_eq_true rfl⟩ ⟨by omega, by omega⟩ ⟨by show _ ≤ 1804; omega, by show _ ≤ 10824; omega⟩ (Nat.le_of_ble_eq_true rfl) ?_
      clear hS hF n h
      intro n h hS hF
      refine V_callSR 316 C dL_holds_313 rfl mL_differ.z tw933 (c_L_differ l G _ _ (rof σ.1 s) (σ.1 (52 + σ.1 (58 + 6 * s))) hrl (iM _ s0)) rfl rfl ⟨Nat.le_of_ble_eq_true rfl, Nat.le_of_ble_eq_true rfl⟩ ⟨by show _ ≤ 1804; omega, by show _ ≤ 10824; omega⟩ (Nat.le_of_ble_eq_true rfl) ?_
      rintro _ _ _ ⟨rfl, rfl, rfl⟩
      refine V_icmp_neN 439 319 C dL_holds_316 (by decide) rfl (by omega) (by omega) (fun c316 => by omega) (fun c316 => ?_)
      refine V_iload 321 C dL_holds_319 rfl rfl ?_
      refine V_if_eqN 357 324 C dL_holds_321 (by decide) rfl (by omega) (fun c321 => by omega) (fun c321 => ?_)
      refine V_iload 326 C dL_holds_324 rfl rfl ?_
      refine V_iload 328 C dL_holds_326 rfl rfl ?_
      refine V_callSR 331 C dL_holds_328 rfl mL_differ.z tw933 (c_L_differ l G _ _ (rof σ.1 s) (σ.1 (58 + 6 * s + 1)) hrl s1) rfl rfl ⟨Nat.le_of_ble_eq_true rfl, Nat.le_of_ble_eq_true rfl⟩ ⟨by show _ ≤ 1804; omega, by show _ ≤ 10824; omega⟩ (Nat.le_of_ble_eq_true rfl) ?_
      rintro _ _ _ ⟨rfl, rfl, rfl⟩
      refine V_iload 333 C dL_holds_331 rfl rfl ?_
      refine V_bipush 335 C dL_holds_333 rfl bip40 ?_
      by_cases e4 : 40 ≤ σ.1 (58 + 6 * s + 2)
      · skip
        rw [if_pos e4] at eu
        refine V_icmp_ltN 342 338 C dL_holds_335 (by decide) rfl (by omega) (by omega) (fun c335 => by omega) (fun c335 => ?_)
        refine V_iconst 339 C dL_holds_338 rfl ic0 ?_
        refine V_goto 354 C dL_holds_339 (by decide) ?_
        refine V_icmp_neN 439 357 C dL_holds_354 (by decide) rfl (by omega) (by omega) (fun c354 => by omega) (fun c354 => ?_)
        refine V_L [0, 1, 2, 3, 4, 5, 6, 7, 8, 9, 10, 11, 12, 13, 14, 15, 16, 17, 18] rfl ?_
        exact V_wid _ _ (by omega) (by omega) (J357 s hs KE _ _ hS hF)
      · skip
        rw [if_neg e4] at eu
        refine V_icmp_ltN 342 338 C dL_holds_335 (by decide) rfl (by omega) (by omega) (fun c335 => ?_) (fun c335 => by omega)
        refine V_iload 344 C dL_holds_342 rfl rfl ?_
        refine V_bipush 346 C dL_holds_344 rfl bip20 ?_
        by_cases e2 : 20 ≤ σ.1 (58 + 6 * s + 2)
        · skip
          rw [if_pos e2] at eu
          refine V_icmp_ltN 353 349 C dL_holds_346 (by decide) rfl (by omega) (by omega) (fun c346 => by omega) (fun c346 => ?_)
          refine V_iconst 350 C dL_holds_349 rfl ic1 ?_
          refine V_goto 354 C dL_holds_350 (by decide) ?_
          refine V_icmp_neN 439 357 C dL_holds_354 (by decide) rfl (by omega) (by omega) (fun c354 => by omega) (fun c354 => ?_)
          refine V_L [0, 1, 2, 3, 4, 5, 6, 7, 8, 9, 10, 11, 12, 13, 14, 15, 16, 17, 18] rfl ?_
          exact V_wid _ _ (by omega) (by omega) (J357 s hs KE _ _ hS hF)
        · skip
          rw [if_neg e2] at eu
          refine V_icmp_ltN 353 349 C dL_holds_346 (by decide) rfl (by omega) (by omega) (fun c346 => ?_) (fun c346 => by omega)
          refine V_iconst 354 C dL_holds_353 rfl ic2 ?_
          refine V_icmp_neN 439 357 C dL_holds_354 (by decide) rfl (by omega) (by omega) (fun c354 => by omega) (fun c354 => ?_)
          refine V_L [0, 1, 2, 3, 4, 5, 6, 7, 8, 9, 10, 11, 12, 13, 14, 15, 16, 17, 18] rfl ?_
          exact V_wid _ _ (by omega) (by omega) (J357 s hs KE _ _ hS hF)
  have J92 : ∀ (t9 : Nat), ∀ (s : Nat) (lim : σ.1 4 < s + t9) (hs : s ≤ σ.1 4) (n : Nat) (h : AH) (hS : SC x σ h) (hF : FX x h0 h), V p₀ l e₀ (rmD 12 1804 10824) s₀ m₀ as₀ bl₀ me₀ c₀ (MQ bl₀ (Po G (PoS x h0 (nI 1) σ)) as₀ s₀ 1804 10824 (rg G)) G 20 (16 + 52 * s) (96 + 312 * s) n h 92 [(0, .ref x), (1, .int (nI X)), (2, .int (nI (σ.1 0))), (3, .int (nI (σ.1 2))), (4, .int (nI (σ.1 3))), (5, .int (nI (σ.1 4))), (6, .int (nI (allk σ.1 s))), (7, .int (nI (blk σ.1 s))), (8, .int (nI (0))), (9, .int (nI (0))), (10, .int (nI 1)), (11, .int (nI s))] [] := by
    intro t9
    induction t9 with
    | zero => intro s lim hs n h hS hF; exact absurd lim (by omega)
    | succ t9 ih =>
      intro s lim hs n h hS hF
      refine V_iload 94 C dL_holds_92 rfl rfl ?_
      refine V_iload 96 C dL_holds_94 rfl rfl ?_
      refine V_icmp_geN 549 99 C dL_holds_96 (by decide) rfl (by omega) (by omega) (fun c96 => ?_) (fun c96 => ?_)
      · skip
        have es : s = σ.1 4 := by omega
        subst es
        refine V_iconst 550 C dL_holds_549 rfl ic0 ?_
        refine V_istore 552 C dL_holds_550 rfl (by decide) (L' := [(0, _), (1, _), (2, _), (3, _), (4, _), (5, _), (6, _), (7, _), (8, _), (9, _), (10, _), (11, _)]) rfl ?_
        refine V_L [0, 1, 2, 3, 4, 5, 6, 7, 8, 9, 10, 11] rfl ?_
        exact V_wid _ _ (by omega) (by omega) (J552 6 0 (by omega) (by omega) _ _ hS hF)
      · skip
        have hs : s < σ.1 4 := c96
        obtain ⟨s0, s1, s2, s3, s4, s5⟩ := iS s hs
        have e1 := ers_le σ.1 s 0
        have hpb := pof_b hIv hs
        have hrb := rof_b hIv hs
        have hrn : rof σ.1 s = NO ↔ σ.1 (58 + 6 * s + 2) = 0 := rdw_no s1
        have hbs : blk σ.1 (s + 1) = blk σ.1 s + bp (σ.1 (58 + 6 * s + 2) = 0) := rfl
        refine V_iload 101 C dL_holds_99 rfl rfl ?_
        refine V_if_eqN 549 104 C dL_holds_101 (by decide) rfl (by omega) (fun c101 => by omega) (fun c101 => ?_)
        refine V_aload_n 105 C dL_holds_104 rfl rfl ?_
        refine V_iconst 106 C dL_holds_105 rfl ic5 ?_
        refine V_iload 108 C dL_holds_106 rfl rfl ?_
        refine V_iconst 109 C dL_holds_108 rfl ic1 ?_
        refine V_iconst 110 C dL_holds_109 rfl ic0 ?_
        refine V_q1 113 (16 + 52 * s + 4) (96 + 312 * s + 24) C hF dL_holds_110 rfl mL_call.z tw250 (k_sheet l G _ _ hl x σ hS hI _ _ _ _ (v_sh (w := σ.1 (58 + 6 * s + 2)) hs hIv (j := 1) (by omega) rfl)) rfl rfl ⟨Nat.le_of_ble_eq_true rfl, Nat.le_of_ble_eq_true rfl⟩ ⟨by omega, by omega⟩ ⟨by show _ ≤ 1804; omega, by show _ ≤ 10824; omega⟩ (Nat.le_of_ble_eq_true rfl) ?_
        clear hS hF n h
        intro n h hS hF
        refine V_istore 115 C dL_holds_113 rfl (by decide) (L' := [(0, _), (1, _), (2, _), (3, _), (4, _), (5, _), (6, _), (7, _), (8, _), (9, _), (10, _), (11, _), (12, _)]) rfl ?_
        refine V_aload_n 116 C dL_holds_115 rfl rfl ?_
        refine V_iconst 117 C dL_holds_116 rfl ic5 ?_
        refine V_iload 119 C dL_holds_117 rfl rfl ?_
        refine V_iconst 120 C dL_holds_119 rfl ic3 ?_
        refine V_iconst 121 C dL_holds_120 rfl ic0 ?_
        refine V_q1 124 (16 + 52 * s + 8) (96 + 312 * s + 48) C hF dL_holds_121 rfl mL_call.z tw250 (k_sheet l G _ _ hl x σ hS hI _ _ _ _ (v_sh (w := σ.1 (58 + 6 * s + 4)) hs hIv (j := 3) (by omega) rfl)) rfl rfl ⟨Nat.le_of_ble_eq_true rfl, Nat.le_of_ble_eq_true rfl⟩ ⟨by omega, by omega⟩ ⟨by show _ ≤ 1804; omega, by show _ ≤ 10824; omega⟩ (Nat.le_of_ble_eq_true rfl) ?_
        clear hS hF n h
        intro n h hS hF
        refine V_istore 126 C dL_holds_124 rfl (by decide) (L' := [(0, _), (1, _), (2, _), (3, _), (4, _), (5, _), (6, _), (7, _), (8, _), (9, _), (10, _), (11, _), (12, _), (13, _)]) rfl ?_
        refine V_aload_n 127 C dL_holds_126 rfl rfl ?_
        refine V_iconst 128 C dL_holds_127 rfl ic5 ?_
        refine V_iload 130 C dL_holds_128 rfl rfl ?_
        refine V_iconst 131 C dL_holds_130 rfl ic4 ?_
        refine V_iconst 132 C dL_holds_131 rfl ic0 ?_
        refine V_q1 135 (16 + 52 * s + 12) (96 + 312 * s + 72) C hF dL_holds_132 rfl mL_call.z tw250 (k_sheet l G _ _ hl x σ hS hI _ _ _ _ (v_sh (w := pof σ.1 s) hs hIv (j := 4) (by omega) rfl)) rfl rfl ⟨Nat.le_of_ble_eq_true rfl, Nat.le_of_ble_eq_true rfl⟩ ⟨by omega, by omega⟩ ⟨by show _ ≤ 1804; omega, by show _ ≤ 10824; omega⟩ (Nat.le_of_ble_eq_true rfl) ?_
        clear hS hF n h
        intro n h hS hF
        refine V_istore 137 C dL_holds_135 rfl (by decide) (L' := [(0, _), (1, _), (2, _), (3, _), (4, _), (5, _), (6, _), (7, _), (8, _), (9, _), (10, _), (11, _), (12, _), (13, _), (14, _)]) rfl ?_
        refine V_aload_n 138 C dL_holds_137 rfl rfl ?_
        refine V_iconst 139 C dL_holds_138 rfl ic5 ?_
        refine V_iload 141 C dL_holds_139 rfl rfl ?_
        refine V_iconst 142 C dL_holds_141 rfl ic5 ?_
        refine V_iconst 143 C dL_holds_142 rfl ic0 ?_
        refine V_q1 146 (16 + 52 * s + 16) (96 + 312 * s + 96) C hF dL_holds_143 rfl mL_call.z tw250 (k_sheet l G _ _ hl x σ hS hI _ _ _ _ (v_sh (w := ers σ.1 s 0) hs hIv (j := 5) (by omega) rfl)) rfl rfl ⟨Nat.le_of_ble_eq_true rfl, Nat.le_of_ble_eq_true rfl⟩ ⟨by omega, by omega⟩ ⟨by show _ ≤ 1804; omega, by show _ ≤ 10824; omega⟩ (Nat.le_of_ble_eq_true rfl) ?_
        clear hS hF n h
        intro n h hS hF
        refine V_istore 148 C dL_holds_146 rfl (by decide) (L' := [(0, _), (1, _), (2, _), (3, _), (4, _), (5, _), (6, _), (7, _), (8, _), (9, _), (10, _), (11, _), (12, _), (13, _), (14, _), (15, _)]) rfl ?_
        refine V_aload_n 149 C dL_holds_148 rfl rfl ?_
        refine V_iconst 150 C dL_holds_149 rfl ic5 ?_
        refine V_iload 152 C dL_holds_150 rfl rfl ?_
        refine V_bipush 154 C dL_holds_152 rfl bip6 ?_
        refine V_iconst 155 C dL_holds_154 rfl ic0 ?_
        refine V_q1 158 (16 + 52 * s + 20) (96 + 312 * s + 120) C hF dL_holds_155 rfl mL_call.z tw250 (k_sheet l G _ _ hl x σ hS hI _ _ _ _ (v_sh (w := σ.1 (58 + 6 * s + 1)) hs hIv (j := 6) (by omega) rfl)) rfl rfl ⟨Nat.le_of_ble_eq_true rfl, Nat.le_of_ble_eq_true rfl⟩ ⟨by omega, by omega⟩ ⟨by show _ ≤ 1804; omega, by show _ ≤ 10824; omega⟩ (Nat.le_of_ble_eq_true rfl) ?_
        clear hS hF n h
        intro n h hS hF
        refine V_istore 160 C dL_holds_158 rfl (by decide) (L' := [(0, _), (1, _), (2, _), (3, _), (4, _), (5, _), (6, _), (7, _), (8, _), (9, _), (10, _), (11, _), (12, _), (13, _), (14, _), (15, _), (16, _)]) rfl ?_
        refine V_aload_n 161 C dL_holds_160 rfl rfl ?_
        refine V_iconst 162 C dL_holds_161 rfl ic5 ?_
        refine V_iload 164 C dL_holds_162 rfl rfl ?_
        refine V_bipush 166 C dL_holds_164 rfl bip7 ?_
        refine V_iconst 167 C dL_holds_166 rfl ic0 ?_
        refine V_q1 170 (16 + 52 * s + 24) (96 + 312 * s + 144) C hF dL_holds_167 rfl mL_call.z tw250 (k_sheet l G _ _ hl x σ hS hI _ _ _ _ (v_sh (w := rof σ.1 s) hs hIv (j := 7) (by omega) rfl)) rfl rfl ⟨Nat.le_of_ble_eq_true rfl, Nat.le_of_ble_eq_true rfl⟩ ⟨by omega, by omega⟩ ⟨by show _ ≤ 1804; omega, by show _ ≤ 10824; omega⟩ (Nat.le_of_ble_eq_true rfl) ?_
        clear hS hF n h
        intro n h hS hF
        refine V_istore 172 C dL_holds_170 rfl (by decide) (L' := [(0, _), (1, _), (2, _), (3, _), (4, _), (5, _), (6, _), (7, _), (8, _), (9, _), (10, _), (11, _), (12, _), (13, _), (14, _), (15, _), (16, _), (17, _)]) rfl ?_
        refine V_aload_n 173 C dL_holds_172 rfl rfl ?_
        refine V_iconst 174 C dL_holds_173 rfl ic5 ?_
        refine V_iload 176 C dL_holds_174 rfl rfl ?_
        refine V_iconst 177 C dL_holds_176 rfl ic0 ?_
        refine V_iconst 178 C dL_holds_177 rfl ic0 ?_
        refine V_q1 181 (16 + 52 * s + 28) (96 + 312 * s + 168) C hF dL_holds_178 rfl mL_call.z tw250 (k_sheet l G _ _ hl x σ hS hI _ _ _ _ (v_sh (w := σ.1 (58 + 6 * s)) hs hIv (j := 0) (by omega) rfl)) rfl rfl ⟨Nat.le_of_ble_eq_true rfl, Nat.le_of_ble_eq_true rfl⟩ ⟨by omega, by omega⟩ ⟨by show _ ≤ 1804; omega, by show _ ≤ 10824; omega⟩ (Nat.le_of_ble_eq_true rfl) ?_
        clear hS hF n h
        intro n h hS hF
        refine V_istore 183 C dL_holds_181 rfl (by decide) (L' := [(0, _), (1, _), (2, _), (3, _), (4, _), (5, _), (6, _), (7, _), (8, _), (9, _), (10, _), (11, _), (12, _), (13, _), (14, _), (15, _), (16, _), (17, _), (18, _)]) rfl ?_
        refine V_iload 185 C dL_holds_183 rfl rfl ?_
        refine V_iload 187 C dL_holds_185 rfl rfl ?_
        refine V_iaddN 188 C dL_holds_187 rfl  ?_
        refine V_istore 190 C dL_holds_188 rfl (by decide) (L' := [(0, _), (1, _), (2, _), (3, _), (4, _), (5, _), (6, _), (7, _), (8, _), (9, _), (10, _), (11, _), (12, _), (13, _), (14, _), (15, _), (16, _), (17, _), (18, _)]) rfl ?_
        refine V_iload 192 C dL_holds_190 rfl rfl ?_
        refine V_iload 194 C dL_holds_192 rfl rfl ?_
        by_cases ei : σ.1 (58 + 6 * s + 2) = 0
        · skip
          rw [bp_t ei] at hbs
          refine V_if_neN 201 197 C dL_holds_194 (by decide) rfl (by omega) (fun c194 => by omega) (fun c194 => ?_)
          refine V_iconst 198 C dL_holds_197 rfl ic1 ?_
          refine V_goto 202 C dL_holds_198 (by decide) ?_
          refine V_iaddN 203 C dL_holds_202 rfl  ?_
          rw [← hbs]
          refine V_istore 205 C dL_holds_203 rfl (by decide) (L' := [(0, _), (1, _), (2, _), (3, _), (4, _), (5, _), (6, _), (7, _), (8, _), (9, _), (10, _), (11, _), (12, _), (13, _), (14, _), (15, _), (16, _), (17, _), (18, _)]) rfl ?_
          refine V_L [0, 1, 2, 3, 4, 5, 6, 7, 8, 9, 10, 11, 12, 13, 14, 15, 16, 17, 18] rfl ?_
          refine V_wid _ _ (by omega) (by omega) (J205 s hs (fun n h hS hF => ?_) _ _ hS hF)
          refine V_iinc 546 C dL_holds_543 rfl (by decide) rfl (ii1 _) (L' := [(0, _), (1, _), (2, _), (3, _), (4, _), (5, _), (6, _), (7, _), (8, _), (9, _), (10, _), (11, _)]) rfl ?_
          refine V_goto 92 C dL_holds_546 (by decide) ?_
          refine V_L [0, 1, 2, 3, 4, 5, 6, 7, 8, 9, 10, 11] rfl ?_
          exact V_wid _ _ (by omega) (by omega) (ih (s + 1) (by omega) (by omega) _ _ hS hF)
        · skip
          rw [bp_f ei] at hbs
          refine V_if_neN 201 197 C dL_holds_194 (by decide) rfl (by omega) (fun c194 => ?_) (fun c194 => by omega)
          refine V_iconst 202 C dL_holds_201 rfl ic0 ?_
          refine V_iaddN 203 C dL_holds_202 rfl  ?_
          rw [← hbs]
          refine V_istore 205 C dL_holds_203 rfl (by decide) (L' := [(0, _), (1, _), (2, _), (3, _), (4, _), (5, _), (6, _), (7, _), (8, _), (9, _), (10, _), (11, _), (12, _), (13, _), (14, _), (15, _), (16, _), (17, _), (18, _)]) rfl ?_
          refine V_L [0, 1, 2, 3, 4, 5, 6, 7, 8, 9, 10, 11, 12, 13, 14, 15, 16, 17, 18] rfl ?_
          refine V_wid _ _ (by omega) (by omega) (J205 s hs (fun n h hS hF => ?_) _ _ hS hF)
          refine V_iinc 546 C dL_holds_543 rfl (by decide) rfl (ii1 _) (L' := [(0, _), (1, _), (2, _), (3, _), (4, _), (5, _), (6, _), (7, _), (8, _), (9, _), (10, _), (11, _)]) rfl ?_
          refine V_goto 92 C dL_holds_546 (by decide) ?_
          refine V_L [0, 1, 2, 3, 4, 5, 6, 7, 8, 9, 10, 11] rfl ?_
          exact V_wid _ _ (by omega) (by omega) (ih (s + 1) (by omega) (by omega) _ _ hS hF)
  intro n h hS hF
  refine V_aload_n 1 C dL_holds_0 rfl rfl ?_
  refine V_iconst 2 C dL_holds_1 rfl ic2 ?_
  refine V_iconst 3 C dL_holds_2 rfl ic0 ?_
  refine V_iconst 4 C dL_holds_3 rfl ic0 ?_
  refine V_iconst 5 C dL_holds_4 rfl ic0 ?_
  refine V_q1 8 (4) (24) C hF dL_holds_5 rfl mL_call.z tw250 (k_about l G _ _ hl x σ hS hI _ _ _ _ (v_ab (j := 0) (w := σ.1 0) (by omega) rfl)) rfl rfl ⟨Nat.le_of_ble_eq_true rfl, Nat.le_of_ble_eq_true rfl⟩ ⟨by omega, by omega⟩ ⟨by show _ ≤ 1804; omega, by show _ ≤ 10824; omega⟩ (Nat.le_of_ble_eq_true rfl) ?_
  clear hS hF n h
  intro n h hS hF
  refine V_istore_n 9 C dL_holds_8 rfl (by decide) (L' := [(0, _), (1, _), (2, _)]) rfl ?_
  refine V_aload_n 10 C dL_holds_9 rfl rfl ?_
  refine V_iconst 11 C dL_holds_10 rfl ic2 ?_
  refine V_iconst 12 C dL_holds_11 rfl ic2 ?_
  refine V_iconst 13 C dL_holds_12 rfl ic0 ?_
  refine V_iconst 14 C dL_holds_13 rfl ic0 ?_
  refine V_q1 17 (8) (48) C hF dL_holds_14 rfl mL_call.z tw250 (k_about l G _ _ hl x σ hS hI _ _ _ _ (v_ab (j := 2) (w := σ.1 2) (by omega) rfl)) rfl rfl ⟨Nat.le_of_ble_eq_true rfl, Nat.le_of_ble_eq_true rfl⟩ ⟨by omega, by omega⟩ ⟨by show _ ≤ 1804; omega, by show _ ≤ 10824; omega⟩ (Nat.le_of_ble_eq_true rfl) ?_
  clear hS hF n h
  intro n h hS hF
  refine V_istore_n 18 C dL_holds_17 rfl (by decide) (L' := [(0, _), (1, _), (2, _), (3, _)]) rfl ?_
  refine V_aload_n 19 C dL_holds_18 rfl rfl ?_
  refine V_iconst 20 C dL_holds_19 rfl ic2 ?_
  refine V_iconst 21 C dL_holds_20 rfl ic3 ?_
  refine V_iconst 22 C dL_holds_21 rfl ic0 ?_
  refine V_iconst 23 C dL_holds_22 rfl ic0 ?_
  refine V_q1 26 (12) (72) C hF dL_holds_23 rfl mL_call.z tw250 (k_about l G _ _ hl x σ hS hI _ _ _ _ (v_ab (j := 3) (w := σ.1 3) (by omega) rfl)) rfl rfl ⟨Nat.le_of_ble_eq_true rfl, Nat.le_of_ble_eq_true rfl⟩ ⟨by omega, by omega⟩ ⟨by show _ ≤ 1804; omega, by show _ ≤ 10824; omega⟩ (Nat.le_of_ble_eq_true rfl) ?_
  clear hS hF n h
  intro n h hS hF
  refine V_istore 28 C dL_holds_26 rfl (by decide) (L' := [(0, _), (1, _), (2, _), (3, _), (4, _)]) rfl ?_
  refine V_aload_n 29 C dL_holds_28 rfl rfl ?_
  refine V_iconst 30 C dL_holds_29 rfl ic2 ?_
  refine V_iconst 31 C dL_holds_30 rfl ic4 ?_
  refine V_iconst 32 C dL_holds_31 rfl ic0 ?_
  refine V_iconst 33 C dL_holds_32 rfl ic0 ?_
  refine V_q1 36 (16) (96) C hF dL_holds_33 rfl mL_call.z tw250 (k_about l G _ _ hl x σ hS hI _ _ _ _ (v_ab (j := 4) (w := σ.1 4) (by omega) rfl)) rfl rfl ⟨Nat.le_of_ble_eq_true rfl, Nat.le_of_ble_eq_true rfl⟩ ⟨by omega, by omega⟩ ⟨by show _ ≤ 1804; omega, by show _ ≤ 10824; omega⟩ (Nat.le_of_ble_eq_true rfl) ?_
  clear hS hF n h
  intro n h hS hF
  refine V_istore 38 C dL_holds_36 rfl (by decide) (L' := [(0, _), (1, _), (2, _), (3, _), (4, _), (5, _)]) rfl ?_
  refine V_iconst 39 C dL_holds_38 rfl ic0 ?_
  refine V_istore 41 C dL_holds_39 rfl (by decide) (L' := [(0, _), (1, _), (2, _), (3, _), (4, _), (5, _), (6, _)]) rfl ?_
  refine V_iconst 42 C dL_holds_41 rfl ic0 ?_
  refine V_istore 44 C dL_holds_42 rfl (by decide) (L' := [(0, _), (1, _), (2, _), (3, _), (4, _), (5, _), (6, _), (7, _)]) rfl ?_
  refine V_iconst 45 C dL_holds_44 rfl ic0 ?_
  refine V_istore 47 C dL_holds_45 rfl (by decide) (L' := [(0, _), (1, _), (2, _), (3, _), (4, _), (5, _), (6, _), (7, _), (8, _)]) rfl ?_
  refine V_iconst 48 C dL_holds_47 rfl ic0 ?_
  refine V_istore 50 C dL_holds_48 rfl (by decide) (L' := [(0, _), (1, _), (2, _), (3, _), (4, _), (5, _), (6, _), (7, _), (8, _), (9, _)]) rfl ?_
  refine V_iload_n 51 C dL_holds_50 rfl rfl ?_
  refine V_bipush 53 C dL_holds_51 rfl bip6 ?_
  refine V_icmp_gtN 86 56 C dL_holds_53 (by decide) rfl (by omega) (by omega) (fun c53 => by omega) (fun c53 => ?_)
  refine V_iload_n 57 C dL_holds_56 rfl rfl ?_
  refine V_iconst 58 C dL_holds_57 rfl ic5 ?_
  refine V_icmp_gtN 86 61 C dL_holds_58 (by decide) rfl (by omega) (by omega) (fun c58 => by omega) (fun c58 => ?_)
  refine V_iload 63 C dL_holds_61 rfl rfl ?_
  refine V_bipush 65 C dL_holds_63 rfl bip6 ?_
  refine V_icmp_gtN 86 68 C dL_holds_65 (by decide) rfl (by omega) (by omega) (fun c65 => by omega) (fun c65 => ?_)
  refine V_iload 70 C dL_holds_68 rfl rfl ?_
  refine V_bipush 72 C dL_holds_70 rfl bip12 ?_
  refine V_icmp_gtN 86 75 C dL_holds_72 (by decide) rfl (by omega) (by omega) (fun c72 => by omega) (fun c72 => ?_)
  refine V_iload 77 C dL_holds_75 rfl rfl ?_
  refine V_iload 79 C dL_holds_77 rfl rfl ?_
  refine V_icmp_gtN 86 82 C dL_holds_79 (by decide) rfl (by omega) (by omega) (fun c79 => by omega) (fun c79 => ?_)
  refine V_iconst 83 C dL_holds_82 rfl ic1 ?_
  refine V_goto 87 C dL_holds_83 (by decide) ?_
  refine V_istore 89 C dL_holds_87 rfl (by decide) (L' := [(0, _), (1, _), (2, _), (3, _), (4, _), (5, _), (6, _), (7, _), (8, _), (9, _), (10, _)]) rfl ?_
  refine V_iconst 90 C dL_holds_89 rfl ic0 ?_
  refine V_istore 92 C dL_holds_90 rfl (by decide) (L' := [(0, _), (1, _), (2, _), (3, _), (4, _), (5, _), (6, _), (7, _), (8, _), (9, _), (10, _), (11, _)]) rfl ?_
  refine V_L [0, 1, 2, 3, 4, 5, 6, 7, 8, 9, 10, 11] rfl ?_
  exact V_wid _ _ (by omega) (by omega) (J92 13 0 (by omega) (by omega) _ _ hS hF)

