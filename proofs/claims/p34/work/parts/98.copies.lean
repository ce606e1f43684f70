/-! COPIES -/
theorem dL_copies_0 : decode cL_copies 0 = .ok (.aload_n 0, 1) := by decide +kernel
theorem dL_copies_1 : decode cL_copies 1 = .ok (.iconst 2, 1) := by decide +kernel
theorem dL_copies_2 : decode cL_copies 2 = .ok (.iconst 4, 1) := by decide +kernel
theorem dL_copies_3 : decode cL_copies 3 = .ok (.iconst 0, 1) := by decide +kernel
theorem dL_copies_4 : decode cL_copies 4 = .ok (.iconst 0, 1) := by decide +kernel
theorem dL_copies_5 : decode cL_copies 5 = .ok (.invokestatic 198, 3) := by decide +kernel
theorem dL_copies_8 : decode cL_copies 8 = .ok (.istore_n 3, 1) := by decide +kernel
theorem dL_copies_9 : decode cL_copies 9 = .ok (.iload_n 2, 1) := by decide +kernel
theorem dL_copies_10 : decode cL_copies 10 = .ok (.iload_n 3, 1) := by decide +kernel
theorem dL_copies_11 : decode cL_copies 11 = .ok (.irem, 1) := by decide +kernel
theorem dL_copies_12 : decode cL_copies 12 = .ok (.istore 4, 2) := by decide +kernel
theorem dL_copies_14 : decode cL_copies 14 = .ok (.aload_n 0, 1) := by decide +kernel
theorem dL_copies_15 : decode cL_copies 15 = .ok (.bipush 17, 2) := by decide +kernel
theorem dL_copies_17 : decode cL_copies 17 = .ok (.iload 4, 2) := by decide +kernel
theorem dL_copies_19 : decode cL_copies 19 = .ok (.iconst 0, 1) := by decide +kernel
theorem dL_copies_20 : decode cL_copies 20 = .ok (.iconst 0, 1) := by decide +kernel
theorem dL_copies_21 : decode cL_copies 21 = .ok (.invokestatic 198, 3) := by decide +kernel
theorem dL_copies_24 : decode cL_copies 24 = .ok (.istore 5, 2) := by decide +kernel
theorem dL_copies_26 : decode cL_copies 26 = .ok (.aload_n 0, 1) := by decide +kernel
theorem dL_copies_27 : decode cL_copies 27 = .ok (.iconst 2, 1) := by decide +kernel
theorem dL_copies_28 : decode cL_copies 28 = .ok (.bipush 8, 2) := by decide +kernel
theorem dL_copies_30 : decode cL_copies 30 = .ok (.iconst 0, 1) := by decide +kernel
theorem dL_copies_31 : decode cL_copies 31 = .ok (.iconst 0, 1) := by decide +kernel
theorem dL_copies_32 : decode cL_copies 32 = .ok (.invokestatic 198, 3) := by decide +kernel
theorem dL_copies_35 : decode cL_copies 35 = .ok (.istore 6, 2) := by decide +kernel
theorem dL_copies_37 : decode cL_copies 37 = .ok (.aload_n 0, 1) := by decide +kernel
theorem dL_copies_38 : decode cL_copies 38 = .ok (.iconst 5, 1) := by decide +kernel
theorem dL_copies_39 : decode cL_copies 39 = .ok (.iload 4, 2) := by decide +kernel
theorem dL_copies_41 : decode cL_copies 41 = .ok (.bipush 7, 2) := by decide +kernel
theorem dL_copies_43 : decode cL_copies 43 = .ok (.iconst 0, 1) := by decide +kernel
theorem dL_copies_44 : decode cL_copies 44 = .ok (.invokestatic 198, 3) := by decide +kernel
theorem dL_copies_47 : decode cL_copies 47 = .ok (.istore 7, 2) := by decide +kernel
theorem dL_copies_49 : decode cL_copies 49 = .ok (.aload_n 0, 1) := by decide +kernel
theorem dL_copies_50 : decode cL_copies 50 = .ok (.iconst 5, 1) := by decide +kernel
theorem dL_copies_51 : decode cL_copies 51 = .ok (.iload 4, 2) := by decide +kernel
theorem dL_copies_53 : decode cL_copies 53 = .ok (.iconst 4, 1) := by decide +kernel
theorem dL_copies_54 : decode cL_copies 54 = .ok (.iconst 0, 1) := by decide +kernel
theorem dL_copies_55 : decode cL_copies 55 = .ok (.invokestatic 198, 3) := by decide +kernel
theorem dL_copies_58 : decode cL_copies 58 = .ok (.istore 8, 2) := by decide +kernel
theorem dL_copies_60 : decode cL_copies 60 = .ok (.aload_n 0, 1) := by decide +kernel
theorem dL_copies_61 : decode cL_copies 61 = .ok (.iconst 5, 1) := by decide +kernel
theorem dL_copies_62 : decode cL_copies 62 = .ok (.iload 4, 2) := by decide +kernel
theorem dL_copies_64 : decode cL_copies 64 = .ok (.iconst 5, 1) := by decide +kernel
theorem dL_copies_65 : decode cL_copies 65 = .ok (.iconst 0, 1) := by decide +kernel
theorem dL_copies_66 : decode cL_copies 66 = .ok (.invokestatic 198, 3) := by decide +kernel
theorem dL_copies_69 : decode cL_copies 69 = .ok (.istore 9, 2) := by decide +kernel
theorem dL_copies_71 : decode cL_copies 71 = .ok (.aload_n 0, 1) := by decide +kernel
theorem dL_copies_72 : decode cL_copies 72 = .ok (.bipush 14, 2) := by decide +kernel
theorem dL_copies_74 : decode cL_copies 74 = .ok (.iload 4, 2) := by decide +kernel
theorem dL_copies_76 : decode cL_copies 76 = .ok (.iload_n 2, 1) := by decide +kernel
theorem dL_copies_77 : decode cL_copies 77 = .ok (.bipush 12, 2) := by decide +kernel
theorem dL_copies_79 : decode cL_copies 79 = .ok (.idiv, 1) := by decide +kernel
theorem dL_copies_80 : decode cL_copies 80 = .ok (.bipush 10, 2) := by decide +kernel
theorem dL_copies_82 : decode cL_copies 82 = .ok (.irem, 1) := by decide +kernel
theorem dL_copies_83 : decode cL_copies 83 = .ok (.iconst 0, 1) := by decide +kernel
theorem dL_copies_84 : decode cL_copies 84 = .ok (.invokestatic 198, 3) := by decide +kernel
theorem dL_copies_87 : decode cL_copies 87 = .ok (.iload 5, 2) := by decide +kernel
theorem dL_copies_89 : decode cL_copies 89 = .ok (.if_icmp .ne 53, 3) := by decide +kernel
theorem dL_copies_92 : decode cL_copies 92 = .ok (.aload_n 1, 1) := by decide +kernel
theorem dL_copies_93 : decode cL_copies 93 = .ok (.bipush 14, 2) := by decide +kernel
theorem dL_copies_95 : decode cL_copies 95 = .ok (.iload 4, 2) := by decide +kernel
theorem dL_copies_97 : decode cL_copies 97 = .ok (.iload_n 2, 1) := by decide +kernel
theorem dL_copies_98 : decode cL_copies 98 = .ok (.bipush 12, 2) := by decide +kernel
theorem dL_copies_100 : decode cL_copies 100 = .ok (.idiv, 1) := by decide +kernel
theorem dL_copies_101 : decode cL_copies 101 = .ok (.bipush 10, 2) := by decide +kernel
theorem dL_copies_103 : decode cL_copies 103 = .ok (.irem, 1) := by decide +kernel
theorem dL_copies_104 : decode cL_copies 104 = .ok (.iconst 0, 1) := by decide +kernel
theorem dL_copies_105 : decode cL_copies 105 = .ok (.invokestatic 198, 3) := by decide +kernel
theorem dL_copies_108 : decode cL_copies 108 = .ok (.iload 5, 2) := by decide +kernel
theorem dL_copies_110 : decode cL_copies 110 = .ok (.if_icmp .ne 32, 3) := by decide +kernel
theorem dL_copies_113 : decode cL_copies 113 = .ok (.aload_n 0, 1) := by decide +kernel
theorem dL_copies_114 : decode cL_copies 114 = .ok (.iconst 2, 1) := by decide +kernel
theorem dL_copies_115 : decode cL_copies 115 = .ok (.bipush 8, 2) := by decide +kernel
theorem dL_copies_117 : decode cL_copies 117 = .ok (.iconst 0, 1) := by decide +kernel
theorem dL_copies_118 : decode cL_copies 118 = .ok (.iconst 0, 1) := by decide +kernel
theorem dL_copies_119 : decode cL_copies 119 = .ok (.invokestatic 198, 3) := by decide +kernel
theorem dL_copies_122 : decode cL_copies 122 = .ok (.iload 6, 2) := by decide +kernel
theorem dL_copies_124 : decode cL_copies 124 = .ok (.iload 5, 2) := by decide +kernel
theorem dL_copies_126 : decode cL_copies 126 = .ok (.ifCond .ne 7, 3) := by decide +kernel
theorem dL_copies_129 : decode cL_copies 129 = .ok (.iconst 0, 1) := by decide +kernel
theorem dL_copies_130 : decode cL_copies 130 = .ok (.goto 4, 3) := by decide +kernel
theorem dL_copies_133 : decode cL_copies 133 = .ok (.iconst 1, 1) := by decide +kernel
theorem dL_copies_134 : decode cL_copies 134 = .ok (.iadd, 1) := by decide +kernel
theorem dL_copies_135 : decode cL_copies 135 = .ok (.if_icmp .ne 7, 3) := by decide +kernel
theorem dL_copies_138 : decode cL_copies 138 = .ok (.iconst 1, 1) := by decide +kernel
theorem dL_copies_139 : decode cL_copies 139 = .ok (.goto 4, 3) := by decide +kernel
theorem dL_copies_142 : decode cL_copies 142 = .ok (.iconst 0, 1) := by decide +kernel
theorem dL_copies_143 : decode cL_copies 143 = .ok (.istore 10, 2) := by decide +kernel
theorem dL_copies_145 : decode cL_copies 145 = .ok (.iload 5, 2) := by decide +kernel
theorem dL_copies_147 : decode cL_copies 147 = .ok (.ifCond .ne 96, 3) := by decide +kernel
theorem dL_copies_150 : decode cL_copies 150 = .ok (.iload 10, 2) := by decide +kernel
theorem dL_copies_152 : decode cL_copies 152 = .ok (.ifCond .eq 88, 3) := by decide +kernel
theorem dL_copies_155 : decode cL_copies 155 = .ok (.aload_n 0, 1) := by decide +kernel
theorem dL_copies_156 : decode cL_copies 156 = .ok (.iconst 2, 1) := by decide +kernel
theorem dL_copies_157 : decode cL_copies 157 = .ok (.iconst 4, 1) := by decide +kernel
theorem dL_copies_158 : decode cL_copies 158 = .ok (.iconst 0, 1) := by decide +kernel
theorem dL_copies_159 : decode cL_copies 159 = .ok (.iconst 0, 1) := by decide +kernel
theorem dL_copies_160 : decode cL_copies 160 = .ok (.invokestatic 198, 3) := by decide +kernel
theorem dL_copies_163 : decode cL_copies 163 = .ok (.iload_n 3, 1) := by decide +kernel
theorem dL_copies_164 : decode cL_copies 164 = .ok (.iconst 1, 1) := by decide +kernel
theorem dL_copies_165 : decode cL_copies 165 = .ok (.iadd, 1) := by decide +kernel
theorem dL_copies_166 : decode cL_copies 166 = .ok (.if_icmp .ne 74, 3) := by decide +kernel
theorem dL_copies_169 : decode cL_copies 169 = .ok (.aload_n 0, 1) := by decide +kernel
theorem dL_copies_170 : decode cL_copies 170 = .ok (.iconst 5, 1) := by decide +kernel
theorem dL_copies_171 : decode cL_copies 171 = .ok (.iload_n 3, 1) := by decide +kernel
theorem dL_copies_172 : decode cL_copies 172 = .ok (.bipush 6, 2) := by decide +kernel
theorem dL_copies_174 : decode cL_copies 174 = .ok (.iconst 0, 1) := by decide +kernel
theorem dL_copies_175 : decode cL_copies 175 = .ok (.invokestatic 198, 3) := by decide +kernel
theorem dL_copies_178 : decode cL_copies 178 = .ok (.iload 7, 2) := by decide +kernel
theorem dL_copies_180 : decode cL_copies 180 = .ok (.if_icmp .ne 60, 3) := by decide +kernel
theorem dL_copies_183 : decode cL_copies 183 = .ok (.aload_n 0, 1) := by decide +kernel
theorem dL_copies_184 : decode cL_copies 184 = .ok (.iconst 5, 1) := by decide +kernel
theorem dL_copies_185 : decode cL_copies 185 = .ok (.iload_n 3, 1) := by decide +kernel
theorem dL_copies_186 : decode cL_copies 186 = .ok (.bipush 7, 2) := by decide +kernel
theorem dL_copies_188 : decode cL_copies 188 = .ok (.iconst 0, 1) := by decide +kernel
theorem dL_copies_189 : decode cL_copies 189 = .ok (.invokestatic 198, 3) := by decide +kernel
theorem dL_copies_192 : decode cL_copies 192 = .ok (.iload 7, 2) := by decide +kernel
theorem dL_copies_194 : decode cL_copies 194 = .ok (.if_icmp .ne 46, 3) := by decide +kernel
theorem dL_copies_197 : decode cL_copies 197 = .ok (.aload_n 0, 1) := by decide +kernel
theorem dL_copies_198 : decode cL_copies 198 = .ok (.iconst 5, 1) := by decide +kernel
theorem dL_copies_199 : decode cL_copies 199 = .ok (.iload_n 3, 1) := by decide +kernel
theorem dL_copies_200 : decode cL_copies 200 = .ok (.iconst 4, 1) := by decide +kernel
theorem dL_copies_201 : decode cL_copies 201 = .ok (.iconst 0, 1) := by decide +kernel
theorem dL_copies_202 : decode cL_copies 202 = .ok (.invokestatic 198, 3) := by decide +kernel
theorem dL_copies_205 : decode cL_copies 205 = .ok (.iload 8, 2) := by decide +kernel
theorem dL_copies_207 : decode cL_copies 207 = .ok (.if_icmp .ne 33, 3) := by decide +kernel
theorem dL_copies_210 : decode cL_copies 210 = .ok (.aload_n 0, 1) := by decide +kernel
theorem dL_copies_211 : decode cL_copies 211 = .ok (.iconst 5, 1) := by decide +kernel
theorem dL_copies_212 : decode cL_copies 212 = .ok (.iload_n 3, 1) := by decide +kernel
theorem dL_copies_213 : decode cL_copies 213 = .ok (.iconst 5, 1) := by decide +kernel
theorem dL_copies_214 : decode cL_copies 214 = .ok (.iconst 0, 1) := by decide +kernel
theorem dL_copies_215 : decode cL_copies 215 = .ok (.invokestatic 198, 3) := by decide +kernel
theorem dL_copies_218 : decode cL_copies 218 = .ok (.iload 9, 2) := by decide +kernel
theorem dL_copies_220 : decode cL_copies 220 = .ok (.if_icmp .ne 20, 3) := by decide +kernel
theorem dL_copies_223 : decode cL_copies 223 = .ok (.aload_n 0, 1) := by decide +kernel
theorem dL_copies_224 : decode cL_copies 224 = .ok (.iconst 5, 1) := by decide +kernel
theorem dL_copies_225 : decode cL_copies 225 = .ok (.iload_n 3, 1) := by decide +kernel
theorem dL_copies_226 : decode cL_copies 226 = .ok (.iconst 1, 1) := by decide +kernel
theorem dL_copies_227 : decode cL_copies 227 = .ok (.iconst 0, 1) := by decide +kernel
theorem dL_copies_228 : decode cL_copies 228 = .ok (.invokestatic 198, 3) := by decide +kernel
theorem dL_copies_231 : decode cL_copies 231 = .ok (.bipush 99, 2) := by decide +kernel
theorem dL_copies_233 : decode cL_copies 233 = .ok (.if_icmp .ne 7, 3) := by decide +kernel
theorem dL_copies_236 : decode cL_copies 236 = .ok (.iconst 1, 1) := by decide +kernel
theorem dL_copies_237 : decode cL_copies 237 = .ok (.goto 4, 3) := by decide +kernel
theorem dL_copies_240 : decode cL_copies 240 = .ok (.iconst 0, 1) := by decide +kernel
theorem dL_copies_241 : decode cL_copies 241 = .ok (.istore 10, 2) := by decide +kernel
theorem dL_copies_243 : decode cL_copies 243 = .ok (.iload 10, 2) := by decide +kernel
theorem dL_copies_245 : decode cL_copies 245 = .ok (.ifCond .eq 63, 3) := by decide +kernel
theorem dL_copies_248 : decode cL_copies 248 = .ok (.aload_n 0, 1) := by decide +kernel
theorem dL_copies_249 : decode cL_copies 249 = .ok (.bipush 16, 2) := by decide +kernel
theorem dL_copies_251 : decode cL_copies 251 = .ok (.iconst 0, 1) := by decide +kernel
theorem dL_copies_252 : decode cL_copies 252 = .ok (.iconst 0, 1) := by decide +kernel
theorem dL_copies_253 : decode cL_copies 253 = .ok (.iconst 0, 1) := by decide +kernel
theorem dL_copies_254 : decode cL_copies 254 = .ok (.invokestatic 198, 3) := by decide +kernel
theorem dL_copies_257 : decode cL_copies 257 = .ok (.invokestatic 249, 3) := by decide +kernel
theorem dL_copies_260 : decode cL_copies 260 = .ok (.ifCond .ne 48, 3) := by decide +kernel
theorem dL_copies_263 : decode cL_copies 263 = .ok (.aload_n 1, 1) := by decide +kernel
theorem dL_copies_264 : decode cL_copies 264 = .ok (.bipush 16, 2) := by decide +kernel
theorem dL_copies_266 : decode cL_copies 266 = .ok (.iconst 0, 1) := by decide +kernel
theorem dL_copies_267 : decode cL_copies 267 = .ok (.iconst 0, 1) := by decide +kernel
theorem dL_copies_268 : decode cL_copies 268 = .ok (.iconst 0, 1) := by decide +kernel
theorem dL_copies_269 : decode cL_copies 269 = .ok (.invokestatic 198, 3) := by decide +kernel
theorem dL_copies_272 : decode cL_copies 272 = .ok (.invokestatic 249, 3) := by decide +kernel
theorem dL_copies_275 : decode cL_copies 275 = .ok (.ifCond .ne 33, 3) := by decide +kernel
theorem dL_copies_278 : decode cL_copies 278 = .ok (.aload_n 0, 1) := by decide +kernel
theorem dL_copies_279 : decode cL_copies 279 = .ok (.iconst 2, 1) := by decide +kernel
theorem dL_copies_280 : decode cL_copies 280 = .ok (.iconst 4, 1) := by decide +kernel
theorem dL_copies_281 : decode cL_copies 281 = .ok (.iconst 0, 1) := by decide +kernel
theorem dL_copies_282 : decode cL_copies 282 = .ok (.iconst 0, 1) := by decide +kernel
theorem dL_copies_283 : decode cL_copies 283 = .ok (.invokestatic 198, 3) := by decide +kernel
theorem dL_copies_286 : decode cL_copies 286 = .ok (.iload_n 3, 1) := by decide +kernel
theorem dL_copies_287 : decode cL_copies 287 = .ok (.if_icmp .ne 21, 3) := by decide +kernel
theorem dL_copies_290 : decode cL_copies 290 = .ok (.aload_n 0, 1) := by decide +kernel
theorem dL_copies_291 : decode cL_copies 291 = .ok (.iconst 2, 1) := by decide +kernel
theorem dL_copies_292 : decode cL_copies 292 = .ok (.bipush 8, 2) := by decide +kernel
theorem dL_copies_294 : decode cL_copies 294 = .ok (.iconst 0, 1) := by decide +kernel
theorem dL_copies_295 : decode cL_copies 295 = .ok (.iconst 0, 1) := by decide +kernel
theorem dL_copies_296 : decode cL_copies 296 = .ok (.invokestatic 198, 3) := by decide +kernel
theorem dL_copies_299 : decode cL_copies 299 = .ok (.iload 6, 2) := by decide +kernel
theorem dL_copies_301 : decode cL_copies 301 = .ok (.if_icmp .ne 7, 3) := by decide +kernel
theorem dL_copies_304 : decode cL_copies 304 = .ok (.iconst 1, 1) := by decide +kernel
theorem dL_copies_305 : decode cL_copies 305 = .ok (.goto 4, 3) := by decide +kernel
theorem dL_copies_308 : decode cL_copies 308 = .ok (.iconst 0, 1) := by decide +kernel
theorem dL_copies_309 : decode cL_copies 309 = .ok (.istore 10, 2) := by decide +kernel
theorem dL_copies_311 : decode cL_copies 311 = .ok (.iload_n 2, 1) := by decide +kernel
theorem dL_copies_312 : decode cL_copies 312 = .ok (.bipush 120, 2) := by decide +kernel
theorem dL_copies_314 : decode cL_copies 314 = .ok (.idiv, 1) := by decide +kernel
theorem dL_copies_315 : decode cL_copies 315 = .ok (.aload_n 0, 1) := by decide +kernel
theorem dL_copies_316 : decode cL_copies 316 = .ok (.iconst 2, 1) := by decide +kernel
theorem dL_copies_317 : decode cL_copies 317 = .ok (.iconst 0, 1) := by decide +kernel
theorem dL_copies_318 : decode cL_copies 318 = .ok (.iconst 0, 1) := by decide +kernel
theorem dL_copies_319 : decode cL_copies 319 = .ok (.iconst 0, 1) := by decide +kernel
theorem dL_copies_320 : decode cL_copies 320 = .ok (.invokestatic 198, 3) := by decide +kernel
theorem dL_copies_323 : decode cL_copies 323 = .ok (.irem, 1) := by decide +kernel
theorem dL_copies_324 : decode cL_copies 324 = .ok (.istore 11, 2) := by decide +kernel
theorem dL_copies_326 : decode cL_copies 326 = .ok (.aload_n 0, 1) := by decide +kernel
theorem dL_copies_327 : decode cL_copies 327 = .ok (.bipush 22, 2) := by decide +kernel
theorem dL_copies_329 : decode cL_copies 329 = .ok (.iload 4, 2) := by decide +kernel
theorem dL_copies_331 : decode cL_copies 331 = .ok (.iload 11, 2) := by decide +kernel
theorem dL_copies_333 : decode cL_copies 333 = .ok (.iconst 0, 1) := by decide +kernel
theorem dL_copies_334 : decode cL_copies 334 = .ok (.invokestatic 198, 3) := by decide +kernel
theorem dL_copies_337 : decode cL_copies 337 = .ok (.istore 12, 2) := by decide +kernel
theorem dL_copies_339 : decode cL_copies 339 = .ok (.aload_n 0, 1) := by decide +kernel
theorem dL_copies_340 : decode cL_copies 340 = .ok (.iconst 5, 1) := by decide +kernel
theorem dL_copies_341 : decode cL_copies 341 = .ok (.iload 4, 2) := by decide +kernel
theorem dL_copies_343 : decode cL_copies 343 = .ok (.iconst 3, 1) := by decide +kernel
theorem dL_copies_344 : decode cL_copies 344 = .ok (.iconst 0, 1) := by decide +kernel
theorem dL_copies_345 : decode cL_copies 345 = .ok (.invokestatic 198, 3) := by decide +kernel
theorem dL_copies_348 : decode cL_copies 348 = .ok (.istore 13, 2) := by decide +kernel
theorem dL_copies_350 : decode cL_copies 350 = .ok (.iload 13, 2) := by decide +kernel
theorem dL_copies_352 : decode cL_copies 352 = .ok (.iconst (-1), 1) := by decide +kernel
theorem dL_copies_353 : decode cL_copies 353 = .ok (.if_icmp .ne 8, 3) := by decide +kernel
theorem dL_copies_356 : decode cL_copies 356 = .ok (.iload 8, 2) := by decide +kernel
theorem dL_copies_358 : decode cL_copies 358 = .ok (.goto 12, 3) := by decide +kernel
theorem dL_copies_361 : decode cL_copies 361 = .ok (.aload_n 0, 1) := by decide +kernel
theorem dL_copies_362 : decode cL_copies 362 = .ok (.iconst 4, 1) := by decide +kernel
theorem dL_copies_363 : decode cL_copies 363 = .ok (.iload 13, 2) := by decide +kernel
theorem dL_copies_365 : decode cL_copies 365 = .ok (.iconst 0, 1) := by decide +kernel
theorem dL_copies_366 : decode cL_copies 366 = .ok (.iconst 0, 1) := by decide +kernel
theorem dL_copies_367 : decode cL_copies 367 = .ok (.invokestatic 198, 3) := by decide +kernel
theorem dL_copies_370 : decode cL_copies 370 = .ok (.istore 14, 2) := by decide +kernel
theorem dL_copies_372 : decode cL_copies 372 = .ok (.aload_n 0, 1) := by decide +kernel
theorem dL_copies_373 : decode cL_copies 373 = .ok (.bipush 20, 2) := by decide +kernel
theorem dL_copies_375 : decode cL_copies 375 = .ok (.iload 14, 2) := by decide +kernel
theorem dL_copies_377 : decode cL_copies 377 = .ok (.iload 11, 2) := by decide +kernel
theorem dL_copies_379 : decode cL_copies 379 = .ok (.iconst 0, 1) := by decide +kernel
theorem dL_copies_380 : decode cL_copies 380 = .ok (.invokestatic 198, 3) := by decide +kernel
theorem dL_copies_383 : decode cL_copies 383 = .ok (.istore 15, 2) := by decide +kernel
theorem dL_copies_385 : decode cL_copies 385 = .ok (.iload 15, 2) := by decide +kernel
theorem dL_copies_387 : decode cL_copies 387 = .ok (.iload 13, 2) := by decide +kernel
theorem dL_copies_389 : decode cL_copies 389 = .ok (.iconst (-1), 1) := by decide +kernel
theorem dL_copies_390 : decode cL_copies 390 = .ok (.if_icmp .ne 7, 3) := by decide +kernel
theorem dL_copies_393 : decode cL_copies 393 = .ok (.iconst 0, 1) := by decide +kernel
theorem dL_copies_394 : decode cL_copies 394 = .ok (.goto 12, 3) := by decide +kernel
theorem dL_copies_397 : decode cL_copies 397 = .ok (.aload_n 0, 1) := by decide +kernel
theorem dL_copies_398 : decode cL_copies 398 = .ok (.iconst 4, 1) := by decide +kernel
theorem dL_copies_399 : decode cL_copies 399 = .ok (.iload 13, 2) := by decide +kernel
theorem dL_copies_401 : decode cL_copies 401 = .ok (.iconst 1, 1) := by decide +kernel
theorem dL_copies_402 : decode cL_copies 402 = .ok (.iconst 0, 1) := by decide +kernel
theorem dL_copies_403 : decode cL_copies 403 = .ok (.invokestatic 198, 3) := by decide +kernel
theorem dL_copies_406 : decode cL_copies 406 = .ok (.iadd, 1) := by decide +kernel
theorem dL_copies_407 : decode cL_copies 407 = .ok (.istore 16, 2) := by decide +kernel
theorem dL_copies_409 : decode cL_copies 409 = .ok (.iload 10, 2) := by decide +kernel
theorem dL_copies_411 : decode cL_copies 411 = .ok (.ifCond .eq 38, 3) := by decide +kernel
theorem dL_copies_414 : decode cL_copies 414 = .ok (.iload 15, 2) := by decide +kernel
theorem dL_copies_416 : decode cL_copies 416 = .ok (.iconst (-1), 1) := by decide +kernel
theorem dL_copies_417 : decode cL_copies 417 = .ok (.if_icmp .ne 12, 3) := by decide +kernel
theorem dL_copies_420 : decode cL_copies 420 = .ok (.iload 12, 2) := by decide +kernel
theorem dL_copies_422 : decode cL_copies 422 = .ok (.iconst (-1), 1) := by decide +kernel
theorem dL_copies_423 : decode cL_copies 423 = .ok (.if_icmp .ne 26, 3) := by decide +kernel
theorem dL_copies_426 : decode cL_copies 426 = .ok (.goto 19, 3) := by decide +kernel
theorem dL_copies_429 : decode cL_copies 429 = .ok (.iload 12, 2) := by decide +kernel
theorem dL_copies_431 : decode cL_copies 431 = .ok (.aload_n 0, 1) := by decide +kernel
theorem dL_copies_432 : decode cL_copies 432 = .ok (.bipush 18, 2) := by decide +kernel
theorem dL_copies_434 : decode cL_copies 434 = .ok (.iload 4, 2) := by decide +kernel
theorem dL_copies_436 : decode cL_copies 436 = .ok (.iload 16, 2) := by decide +kernel
theorem dL_copies_438 : decode cL_copies 438 = .ok (.iconst 0, 1) := by decide +kernel
theorem dL_copies_439 : decode cL_copies 439 = .ok (.invokestatic 198, 3) := by decide +kernel
theorem dL_copies_442 : decode cL_copies 442 = .ok (.if_icmp .ne 7, 3) := by decide +kernel
theorem dL_copies_445 : decode cL_copies 445 = .ok (.iconst 1, 1) := by decide +kernel
theorem dL_copies_446 : decode cL_copies 446 = .ok (.goto 4, 3) := by decide +kernel
theorem dL_copies_449 : decode cL_copies 449 = .ok (.iconst 0, 1) := by decide +kernel
theorem dL_copies_450 : decode cL_copies 450 = .ok (.ireturn, 1) := by decide +kernel
set_option maxRecDepth 100000 in
set_option maxHeartbeats 4000000 in
theorem c_L_copies (l : Launch) (G : GT) (n0 : Nat) (h0 : AH) (hl : l.stackTraces = false) (x q : Nat) (hx : apt x q) (σ : St) (hS0 : SC x σ h0) (hQ0 : SC q σ h0) (B : Nat) (hJ : JS B σ) (hB : B < 2 ^ 30) (X : Nat) (hX : X < 2 ^ 31) : Ct l yL_copies cL_copies 17 (some .boolean) 11 112 672 G n0 h0 [.ref x, .ref q, .int (nI X)] (PoTE x q (nI 1) σ.1 B) := by
  have hI := hJ.si
  have hIv : Iv σ.1 := hI.1
  obtain ⟨⟨i0, i1, i2, i3, i4⟩, iR, iU, iM, iS⟩ := id hIv
  have h3 := hJ.1.2
  have b56 := hJ.1.1.2.2.2.2
  have hN := NO_eq
  have hFA := FAR_eq
  refine Ct_ofZ mL_copies.z (Nat.le_of_ble_eq_true rfl) ?_
  intro p₀ e₀ s₀ m₀ as₀ bl₀ me₀ c₀ C
  refine V_Le (L' := [(0, .ref x), (1, .ref q), (2, .int (nI X))]) rfl ?_
  suffices H : ∀ (n : Nat) (h : AH) (hS : SC x σ h) (hQ : SC q σ h), V p₀ l e₀ (rmD 11 112 672) s₀ m₀ as₀ bl₀ me₀ c₀ (MQ bl₀ (Po G (PoTE x q (nI 1) σ.1 B)) as₀ s₀ 112 672 (rg G)) G 17 0 0 n h 0 [(0, .ref x), (1, .ref q), (2, .int (nI X))] [] from H n0 h0 hS0 hQ0
  have J278 : ∀ (s : Nat) (σ2 : St) (hs : s < σ.1 4) (hJ2 : JS (B + 60) σ2) (hy2 : σ2.1 = σ.1) (n : Nat) (h : AH) (hS : SC x σ2 h) (hQ : SC q σ2 h), V p₀ l e₀ (rmD 11 112 672) s₀ m₀ as₀ bl₀ me₀ c₀ (MQ bl₀ (Po G (PoTE x q (nI 1) σ.1 B)) as₀ s₀ 112 672 (rg G)) G 17 68 408 n h 278 [(0, .ref x), (1, .ref q), (2, .int (nI X)), (3, .int (nI (σ.1 4))), (4, .int (nI s)), (5, .int (nI (crs σ.1 s))), (6, .int (nI (σ.1 6))), (7, .int (nI (rof σ.1 s))), (8, .int (nI (pof σ.1 s))), (9, .int (nI (ers σ.1 s 0)))] [] := by
    intro s σ2 hs hJ2 hy2 n h hS hQ
    have hI2 := hJ2.si
    have e00 := ers_le σ.1 s 0
    have hpb := pof_b hIv hs
    refine V_aload_n 279 C dL_copies_278 rfl rfl ?_
    refine V_iconst 280 C dL_copies_279 rfl ic2 ?_
    refine V_iconst 281 C dL_copies_280 rfl ic4 ?_
    refine V_iconst 282 C dL_copies_281 rfl ic0 ?_
    refine V_iconst 283 C dL_copies_282 rfl ic0 ?_
    refine V_q2 286 (68 + 4) (408 + 24) C hQ hx dL_copies_283 rfl mL_call.z tw250 (k_about l G _ _ hl x σ2 hS hI2 _ _ _ (nI (σ.1 4)) (by rw [hy2]; exact v_ab (j := 4) (w := σ.1 4) (by omega) rfl)) rfl rfl ⟨Nat.le_of_ble_eq_true rfl, Nat.le_of_ble_eq_true rfl⟩ ⟨by omega, by omega⟩ ⟨by show _ ≤ 112; omega, by show _ ≤ 672; omega⟩ (Nat.le_of_ble_eq_true rfl) ?_
    clear hS hQ n h
    intro n h hS hQ
    refine V_iload_n 287 C dL_copies_286 rfl rfl ?_
    refine V_icmp_neN 308 290 C dL_copies_287 (by decide) rfl (by omega) (by omega) (fun c287 => by omega) (fun c287 => ?_)
    refine V_aload_n 291 C dL_copies_290 rfl rfl ?_
    refine V_iconst 292 C dL_copies_291 rfl ic2 ?_
    refine V_bipush 294 C dL_copies_292 rfl bip8 ?_
    refine V_iconst 295 C dL_copies_294 rfl ic0 ?_
    refine V_iconst 296 C dL_copies_295 rfl ic0 ?_
    refine V_q2 299 (68 + 8) (408 + 48) C hQ hx dL_copies_296 rfl mL_call.z tw250 (k_about l G _ _ hl x σ2 hS hI2 _ _ _ (nI (σ.1 6)) (by rw [hy2]; exact v_ab (j := 8) (w := σ.1 6) (by omega) rfl)) rfl rfl ⟨Nat.le_of_ble_eq_true rfl, Nat.le_of_ble_eq_true rfl⟩ ⟨by omega, by omega⟩ ⟨by show _ ≤ 112; omega, by show _ ≤ 672; omega⟩ (Nat.le_of_ble_eq_true rfl) ?_
    clear hS hQ n h
    intro n h hS hQ
    refine V_iload 301 C dL_copies_299 rfl rfl ?_
    refine V_icmp_neN 308 304 C dL_copies_301 (by decide) rfl (by omega) (by omega) (fun c301 => by omega) (fun c301 => ?_)
    refine V_iconst 305 C dL_copies_304 rfl ic1 ?_
    refine V_goto 309 C dL_copies_305 (by decide) ?_
    refine V_istore 311 C dL_copies_309 rfl (by decide) (L' := [(0, _), (1, _), (2, _), (3, _), (4, _), (5, _), (6, _), (7, _), (8, _), (9, _), (10, _)]) rfl ?_
    refine V_iload_n 312 C dL_copies_311 rfl rfl ?_
    refine V_bipush 314 C dL_copies_312 rfl bip120 ?_
    refine V_idivN 315 C dL_copies_314 rfl (by omega) (by omega) (by omega) ?_
    refine V_aload_n 316 C dL_copies_315 rfl rfl ?_
    refine V_iconst 317 C dL_copies_316 rfl ic2 ?_
    refine V_iconst 318 C dL_copies_317 rfl ic0 ?_
    refine V_iconst 319 C dL_copies_318 rfl ic0 ?_
    refine V_iconst 320 C dL_copies_319 rfl ic0 ?_
    refine V_q2 323 (68 + 12) (408 + 72) C hQ hx dL_copies_320 rfl mL_call.z tw250 (k_about l G _ _ hl x σ2 hS hI2 _ _ _ (nI (σ.1 0)) (by rw [hy2]; exact v_ab (j := 0) (w := σ.1 0) (by omega) rfl)) rfl rfl ⟨Nat.le_of_ble_eq_true rfl, Nat.le_of_ble_eq_true rfl⟩ ⟨by omega, by omega⟩ ⟨by show _ ≤ 112; omega, by show _ ≤ 672; omega⟩ (Nat.le_of_ble_eq_true rfl) ?_
    clear hS hQ n h
    intro n h hS hQ
    obtain ⟨t, ht, et⟩ : ∃ t, t < σ.1 0 ∧ X / 120 % σ.1 0 = t := ⟨_, Nat.mod_lt _ (by omega), rfl⟩
    refine V_iremN 324 C dL_copies_323 rfl (by omega) (by omega) (by omega) ?_
    rw [et]
    refine V_istore 326 C dL_copies_324 rfl (by decide) (L' := [(0, _), (1, _), (2, _), (3, _), (4, _), (5, _), (6, _), (7, _), (8, _), (9, _), (10, _), (11, _)]) rfl ?_
    refine V_aload_n 327 C dL_copies_326 rfl rfl ?_
    refine V_bipush 329 C dL_copies_327 rfl bip22 ?_
    refine V_iload 331 C dL_copies_329 rfl rfl ?_
    refine V_iload 333 C dL_copies_331 rfl rfl ?_
    refine V_iconst 334 C dL_copies_333 rfl ic0 ?_
    refine V_q2 337 (68 + 16) (408 + 96) C hQ hx dL_copies_334 rfl mL_call.z tw250 (k_bring l G _ _ hl x σ2 hS hI2 _ _ _ (nI (qIb σ.1 s t)) (by rw [hy2]; exact v_bring hs ht hIv)) rfl rfl ⟨Nat.le_of_ble_eq_true rfl, Nat.le_of_ble_eq_true rfl⟩ ⟨by omega, by omega⟩ ⟨by show _ ≤ 112; omega, by show _ ≤ 672; omega⟩ (Nat.le_of_ble_eq_true rfl) ?_
    clear hS hQ n h
    intro n h hS hQ
    refine V_istore 339 C dL_copies_337 rfl (by decide) (L' := [(0, _), (1, _), (2, _), (3, _), (4, _), (5, _), (6, _), (7, _), (8, _), (9, _), (10, _), (11, _), (12, _)]) rfl ?_
    refine V_aload_n 340 C dL_copies_339 rfl rfl ?_
    refine V_iconst 341 C dL_copies_340 rfl ic5 ?_
    refine V_iload 343 C dL_copies_341 rfl rfl ?_
    refine V_iconst 344 C dL_copies_343 rfl ic3 ?_
    refine V_iconst 345 C dL_copies_344 rfl ic0 ?_
    refine V_q2 348 (68 + 20) (408 + 120) C hQ hx dL_copies_345 rfl mL_call.z tw250 (k_sheet l G _ _ hl x σ2 hS hI2 _ _ _ (nI (σ.1 (58 + 6 * s + 4))) (by rw [hy2]; exact v_sh (w := σ.1 (58 + 6 * s + 4)) hs hIv (j := 3) (by omega) rfl)) rfl rfl ⟨Nat.le_of_ble_eq_true rfl, Nat.le_of_ble_eq_true rfl⟩ ⟨by omega, by omega⟩ ⟨by show _ ≤ 112; omega, by show _ ≤ 672; omega⟩ (Nat.le_of_ble_eq_true rfl) ?_
    clear hS hQ n h
    intro n h hS hQ
    refine V_istore 350 C dL_copies_348 rfl (by decide) (L' := [(0, _), (1, _), (2, _), (3, _), (4, _), (5, _), (6, _), (7, _), (8, _), (9, _), (10, _), (11, _), (12, _), (13, _)]) rfl ?_
    refine V_iload 352 C dL_copies_350 rfl rfl ?_
    refine V_iconst 353 C dL_copies_352 rfl icm1 ?_
    obtain ⟨b1, b2⟩ := ib_b hIv hs
    by_cases ec : σ.1 (58 + 6 * s + 4) = NO
    · skip
      have z1 : pof σ.1 s = ibS σ.1 s := by unfold pof ibS; rw [if_pos ec, if_pos ec]
      have z2 : ibL σ.1 s = 0 := if_pos ec
      have z3 : ibS σ.1 s < σ.1 0 := by unfold ibS; rw [if_pos ec]; exact (iS s hs).2.2.2.2.2
      refine V_icmp_neN 361 356 C dL_copies_353 (by decide) rfl (by omega) (by omega) (fun c353 => by omega) (fun c353 => ?_)
      refine V_iload 358 C dL_copies_356 rfl rfl ?_
      rw [z1]
      refine V_goto 370 C dL_copies_358 (by decide) ?_
      refine V_istore 372 C dL_copies_370 rfl (by decide) (L' := [(0, _), (1, _), (2, _), (3, _), (4, _), (5, _), (6, _), (7, _), (8, _), (9, _), (10, _), (11, _), (12, _), (13, _), (14, _)]) rfl ?_
      refine V_aload_n 373 C dL_copies_372 rfl rfl ?_
      refine V_bipush 375 C dL_copies_373 rfl bip20 ?_
      refine V_iload 377 C dL_copies_375 rfl rfl ?_
      refine V_iload 379 C dL_copies_377 rfl rfl ?_
      refine V_iconst 380 C dL_copies_379 rfl ic0 ?_
      refine V_q2 383 (68 + 24) (408 + 144) C hQ hx dL_copies_380 rfl mL_call.z tw250 (k_route l G _ _ hl x σ2 hS hI2 _ _ _ (nI (mo (dst σ.1 (ibS σ.1 s) t))) (by rw [hy2]; exact v_route z3 ht hIv (by omega))) rfl rfl ⟨Nat.le_of_ble_eq_true rfl, Nat.le_of_ble_eq_true rfl⟩ ⟨by omega, by omega⟩ ⟨by show _ ≤ 112; omega, by show _ ≤ 672; omega⟩ (Nat.le_of_ble_eq_true rfl) ?_
      clear hS hQ n h
      intro n h hS hQ
      refine V_istore 385 C dL_copies_383 rfl (by decide) (L' := [(0, _), (1, _), (2, _), (3, _), (4, _), (5, _), (6, _), (7, _), (8, _), (9, _), (10, _), (11, _), (12, _), (13, _), (14, _), (15, _)]) rfl ?_
      refine V_iload 387 C dL_copies_385 rfl rfl ?_
      refine V_iload 389 C dL_copies_387 rfl rfl ?_
      refine V_iconst 390 C dL_copies_389 rfl icm1 ?_
      refine V_icmp_neN 397 393 C dL_copies_390 (by decide) rfl (by omega) (by omega) (fun c390 => by omega) (fun c390 => ?_)
      refine V_iconst 394 C dL_copies_393 rfl ic0 ?_
      refine V_goto 406 C dL_copies_394 (by decide) ?_
      refine V_iaddN 407 C dL_copies_406 rfl  ?_
      rw [show mo (dst σ.1 (ibS σ.1 s) t) + 0 = mo (dst σ.1 (ibS σ.1 s) t) + ibL σ.1 s from by rw [z2]]
      refine V_istore 409 C dL_copies_407 rfl (by decide) (L' := [(0, _), (1, _), (2, _), (3, _), (4, _), (5, _), (6, _), (7, _), (8, _), (9, _), (10, _), (11, _), (12, _), (13, _), (14, _), (15, _), (16, _)]) rfl ?_
      refine V_iload 411 C dL_copies_409 rfl rfl ?_
      refine V_if_eqN 449 414 C dL_copies_411 (by decide) rfl (by omega) (fun c411 => by omega) (fun c411 => ?_)
      refine V_iload 416 C dL_copies_414 rfl rfl ?_
      refine V_iconst 417 C dL_copies_416 rfl icm1 ?_
      rcases mo_dst hIv (a := ibS σ.1 s) (t := t) (by omega) with ⟨a1, a2⟩ | ⟨a1, a2⟩
      · skip
        have hq : qIb σ.1 s t = NO := if_pos a1
        refine V_icmp_neN 429 420 C dL_copies_417 (by decide) rfl (by omega) (by omega) (fun c417 => by omega) (fun c417 => ?_)
        refine V_iload 422 C dL_copies_420 rfl rfl ?_
        refine V_iconst 423 C dL_copies_422 rfl icm1 ?_
        refine V_icmp_neN 449 426 C dL_copies_423 (by decide) rfl (by omega) (by omega) (fun c423 => by omega) (fun c423 => ?_)
        refine V_goto 445 C dL_copies_426 (by decide) ?_
        refine V_iconst 446 C dL_copies_445 rfl ic1 ?_
        refine V_goto 450 C dL_copies_446 (by decide) ?_
        refine V_ireturn C dL_copies_450 rfl nar_1 (by omega) (by omega) ?_
        exact ⟨rfl, σ2, hy2, hJ2.up (by omega), hS, hQ⟩
      · skip
        have hq : qIb σ.1 s t = ers σ.1 s (dst σ.1 (ibS σ.1 s) t + ibL σ.1 s) := by
          unfold qIb
          rw [if_neg (by omega), Nat.add_comm]
        have e01 := ers_le σ.1 s (dst σ.1 (ibS σ.1 s) t + ibL σ.1 s)
        rw [a2, hq]
        refine V_icmp_neN 429 420 C dL_copies_417 (by decide) rfl (by omega) (by omega) (fun c417 => ?_) (fun c417 => by omega)
        refine V_iload 431 C dL_copies_429 rfl rfl ?_
        refine V_aload_n 432 C dL_copies_431 rfl rfl ?_
        refine V_bipush 434 C dL_copies_432 rfl bip18 ?_
        refine V_iload 436 C dL_copies_434 rfl rfl ?_
        refine V_iload 438 C dL_copies_436 rfl rfl ?_
        refine V_iconst 439 C dL_copies_438 rfl ic0 ?_
        refine V_q2 442 (68 + 28) (408 + 168) C hQ hx dL_copies_439 rfl mL_call.z tw250 (k_later l G _ _ hl x σ2 hS hI2 _ _ _ (nI (ers σ.1 s (dst σ.1 (ibS σ.1 s) t + ibL σ.1 s))) (by rw [hy2]; exact v_later hs hIv (by omega))) rfl rfl ⟨Nat.le_of_ble_eq_true rfl, Nat.le_of_ble_eq_true rfl⟩ ⟨by omega, by omega⟩ ⟨by show _ ≤ 112; omega, by show _ ≤ 672; omega⟩ (Nat.le_of_ble_eq_true rfl) ?_
        clear hS hQ n h
        intro n h hS hQ
        refine V_icmp_neN 449 445 C dL_copies_442 (by decide) rfl (by omega) (by omega) (fun c442 => by omega) (fun c442 => ?_)
        refine V_iconst 446 C dL_copies_445 rfl ic1 ?_
        refine V_goto 450 C dL_copies_446 (by decide) ?_
        refine V_ireturn C dL_copies_450 rfl nar_1 (by omega) (by omega) ?_
        exact ⟨rfl, σ2, hy2, hJ2.up (by omega), hS, hQ⟩
    · skip
      have hcu : σ.1 (58 + 6 * s + 4) < σ.1 2 := (iS s hs).2.2.2.2.1.resolve_left ec
      have z1 : σ.1 (37 + 3 * σ.1 (58 + 6 * s + 4)) = ibS σ.1 s := (if_neg ec).symm
      have z2 : σ.1 (37 + 3 * σ.1 (58 + 6 * s + 4) + 1) = ibL σ.1 s := (if_neg ec).symm
      have z3 : ibS σ.1 s < σ.1 0 := by rw [← z1]; exact (iU _ hcu).1
      refine V_icmp_neN 361 356 C dL_copies_353 (by decide) rfl (by omega) (by omega) (fun c353 => ?_) (fun c353 => by omega)
      refine V_aload_n 362 C dL_copies_361 rfl rfl ?_
      refine V_iconst 363 C dL_copies_362 rfl ic4 ?_
      refine V_iload 365 C dL_copies_363 rfl rfl ?_
      refine V_iconst 366 C dL_copies_365 rfl ic0 ?_
      refine V_iconst 367 C dL_copies_366 rfl ic0 ?_
      refine V_q2 370 (68 + 24) (408 + 144) C hQ hx dL_copies_367 rfl mL_call.z tw250 (k_carrier l G _ _ hl x σ2 hS hI2 _ _ _ (nI (ibS σ.1 s)) (by rw [hy2]; exact v_car (w := ibS σ.1 s) hcu hIv (j := 0) (by omega) z1)) rfl rfl ⟨Nat.le_of_ble_eq_true rfl, Nat.le_of_ble_eq_true rfl⟩ ⟨by omega, by omega⟩ ⟨by show _ ≤ 112; omega, by show _ ≤ 672; omega⟩ (Nat.le_of_ble_eq_true rfl) ?_
      clear hS hQ n h
      intro n h hS hQ
      refine V_istore 372 C dL_copies_370 rfl (by decide) (L' := [(0, _), (1, _), (2, _), (3, _), (4, _), (5, _), (6, _), (7, _), (8, _), (9, _), (10, _), (11, _), (12, _), (13, _), (14, _)]) rfl ?_
      refine V_aload_n 373 C dL_copies_372 rfl rfl ?_
      refine V_bipush 375 C dL_copies_373 rfl bip20 ?_
      refine V_iload 377 C dL_copies_375 rfl rfl ?_
      refine V_iload 379 C dL_copies_377 rfl rfl ?_
      refine V_iconst 380 C dL_copies_379 rfl ic0 ?_
      refine V_q2 383 (68 + 28) (408 + 168) C hQ hx dL_copies_380 rfl mL_call.z tw250 (k_route l G _ _ hl x σ2 hS hI2 _ _ _ (nI (mo (dst σ.1 (ibS σ.1 s) t))) (by rw [hy2]; exact v_route z3 ht hIv (by omega))) rfl rfl ⟨Nat.le_of_ble_eq_true rfl, Nat.le_of_ble_eq_true rfl⟩ ⟨by omega, by omega⟩ ⟨by show _ ≤ 112; omega, by show _ ≤ 672; omega⟩ (Nat.le_of_ble_eq_true rfl) ?_
      clear hS hQ n h
      intro n h hS hQ
      refine V_istore 385 C dL_copies_383 rfl (by decide) (L' := [(0, _), (1, _), (2, _), (3, _), (4, _), (5, _), (6, _), (7, _), (8, _), (9, _), (10, _), (11, _), (12, _), (13, _), (14, _), (15, _)]) rfl ?_
      refine V_iload 387 C dL_copies_385 rfl rfl ?_
      refine V_iload 389 C dL_copies_387 rfl rfl ?_
      refine V_iconst 390 C dL_copies_389 rfl icm1 ?_
      refine V_icmp_neN 397 393 C dL_copies_390 (by decide) rfl (by omega) (by omega) (fun c390 => ?_) (fun c390 => by omega)
      refine V_aload_n 398 C dL_copies_397 rfl rfl ?_
      refine V_iconst 399 C dL_copies_398 rfl ic4 ?_
      refine V_iload 401 C dL_copies_399 rfl rfl ?_
      refine V_iconst 402 C dL_copies_401 rfl ic1 ?_
      refine V_iconst 403 C dL_copies_402 rfl ic0 ?_
      refine V_q2 406 (68 + 32) (408 + 192) C hQ hx dL_copies_403 rfl mL_call.z tw250 (k_carrier l G _ _ hl x σ2 hS hI2 _ _ _ (nI (ibL σ.1 s)) (by rw [hy2]; exact v_car (w := ibL σ.1 s) hcu hIv (j := 1) (by omega) z2)) rfl rfl ⟨Nat.le_of_ble_eq_true rfl, Nat.le_of_ble_eq_true rfl⟩ ⟨by omega, by omega⟩ ⟨by show _ ≤ 112; omega, by show _ ≤ 672; omega⟩ (Nat.le_of_ble_eq_true rfl) ?_
      clear hS hQ n h
      intro n h hS hQ
      refine V_iaddN 407 C dL_copies_406 rfl  ?_
      refine V_istore 409 C dL_copies_407 rfl (by decide) (L' := [(0, _), (1, _), (2, _), (3, _), (4, _), (5, _), (6, _), (7, _), (8, _), (9, _), (10, _), (11, _), (12, _), (13, _), (14, _), (15, _), (16, _)]) rfl ?_
      refine V_iload 411 C dL_copies_409 rfl rfl ?_
      refine V_if_eqN 449 414 C dL_copies_411 (by decide) rfl (by omega) (fun c411 => by omega) (fun c411 => ?_)
      refine V_iload 416 C dL_copies_414 rfl rfl ?_
      refine V_iconst 417 C dL_copies_416 rfl icm1 ?_
      rcases mo_dst hIv (a := ibS σ.1 s) (t := t) (by omega) with ⟨a1, a2⟩ | ⟨a1, a2⟩
      · skip
        have hq : qIb σ.1 s t = NO := if_pos a1
        refine V_icmp_neN 429 420 C dL_copies_417 (by decide) rfl (by omega) (by omega) (fun c417 => by omega) (fun c417 => ?_)
        refine V_iload 422 C dL_copies_420 rfl rfl ?_
        refine V_iconst 423 C dL_copies_422 rfl icm1 ?_
        refine V_icmp_neN 449 426 C dL_copies_423 (by decide) rfl (by omega) (by omega) (fun c423 => by omega) (fun c423 => ?_)
        refine V_goto 445 C dL_copies_426 (by decide) ?_
        refine V_iconst 446 C dL_copies_445 rfl ic1 ?_
        refine V_goto 450 C dL_copies_446 (by decide) ?_
        refine V_ireturn C dL_copies_450 rfl nar_1 (by omega) (by omega) ?_
        exact ⟨rfl, σ2, hy2, hJ2.up (by omega), hS, hQ⟩
      · skip
        have hq : qIb σ.1 s t = ers σ.1 s (dst σ.1 (ibS σ.1 s) t + ibL σ.1 s) := by
          unfold qIb
          rw [if_neg (by omega), Nat.add_comm]
        have e01 := ers_le σ.1 s (dst σ.1 (ibS σ.1 s) t + ibL σ.1 s)
        rw [a2, hq]
        refine V_icmp_neN 429 420 C dL_copies_417 (by decide) rfl (by omega) (by omega) (fun c417 => ?_) (fun c417 => by omega)
        refine V_iload 431 C dL_copies_429 rfl rfl ?_
        refine V_aload_n 432 C dL_copies_431 rfl rfl ?_
        refine V_bipush 434 C dL_copies_432 rfl bip18 ?_
        refine V_iload 436 C dL_copies_434 rfl rfl ?_
        refine V_iload 438 C dL_copies_436 rfl rfl ?_
        refine V_iconst 439 C dL_copies_438 rfl ic0 ?_
        refine V_q2 442 (68 + 36) (408 + 216) C hQ hx dL_copies_439 rfl mL_call.z tw250 (k_later l G _ _ hl x σ2 hS hI2 _ _ _ (nI (ers σ.1 s (dst σ.1 (ibS σ.1 s) t + ibL σ.1 s))) (by rw [hy2]; exact v_later hs hIv (by omega))) rfl rfl ⟨Nat.le_of_ble_eq_true rfl, Nat.le_of_ble_eq_true rfl⟩ ⟨by omega, by omega⟩ ⟨by show _ ≤ 112; omega, by show _ ≤ 672; omega⟩ (Nat.le_of_ble_eq_true rfl) ?_
        clear hS hQ n h
        intro n h hS hQ
        refine V_icmp_neN 449 445 C dL_copies_442 (by decide) rfl (by omega) (by omega) (fun c442 => by omega) (fun c442 => ?_)
        refine V_iconst 446 C dL_copies_445 rfl ic1 ?_
        refine V_goto 450 C dL_copies_446 (by decide) ?_
        refine V_ireturn C dL_copies_450 rfl nar_1 (by omega) (by omega) ?_
        exact ⟨rfl, σ2, hy2, hJ2.up (by omega), hS, hQ⟩
  have J248 : ∀ (s : Nat) (σ1 : St) (hs : s < σ.1 4) (hJ1 : JS (B + 60) σ1) (hk1 : 0 < σ1.2.1) (hk2 : σ1.2.1 - 1 < 2 ^ 31) (hy2 : (pop σ1).1 = σ.1) (n : Nat) (h : AH) (hS : SC x σ1 h) (hQ : SC q σ1 h), V p₀ l e₀ (rmD 11 112 672) s₀ m₀ as₀ bl₀ me₀ c₀ (MQ bl₀ (Po G (PoTE x q (nI 1) σ.1 B)) as₀ s₀ 112 672 (rg G)) G 17 60 360 n h 248 [(0, .ref x), (1, .ref q), (2, .int (nI X)), (3, .int (nI (σ.1 4))), (4, .int (nI s)), (5, .int (nI (crs σ.1 s))), (6, .int (nI (σ.1 6))), (7, .int (nI (rof σ.1 s))), (8, .int (nI (pof σ.1 s))), (9, .int (nI (ers σ.1 s 0)))] [] := by
    intro s σ1 hs hJ1 hk1 hk2 hy2 n h hS hQ
    have hI1 := hJ1.si
    refine V_aload_n 249 C dL_copies_248 rfl rfl ?_
    refine V_bipush 251 C dL_copies_249 rfl bip16 ?_
    refine V_iconst 252 C dL_copies_251 rfl ic0 ?_
    refine V_iconst 253 C dL_copies_252 rfl ic0 ?_
    refine V_iconst 254 C dL_copies_253 rfl ic0 ?_
    refine V_q2 257 (60 + 4) (360 + 24) C hQ hx dL_copies_254 rfl mL_call.z tw250 (k_undo l G _ _ hl x σ1 hS hI1 _ _ _ _ (st_un hk1).1 _ (st_un hk1).2) rfl rfl ⟨Nat.le_of_ble_eq_true rfl, Nat.le_of_ble_eq_true rfl⟩ ⟨by omega, by omega⟩ ⟨by show _ ≤ 112; omega, by show _ ≤ 672; omega⟩ (Nat.le_of_ble_eq_true rfl) ?_
    clear hS hQ n h
    intro n h hS hQ
    refine V_callSR 260 C dL_copies_257 rfl mL_thrown.z tw954 (c_L_thrown l G _ _ _ (e_ne hk2).1 (e_ne hk2).2.1 (e_ne hk2).2.2) rfl rfl ⟨Nat.le_of_ble_eq_true rfl, Nat.le_of_ble_eq_true rfl⟩ ⟨by show _ ≤ 112; omega, by show _ ≤ 672; omega⟩ (Nat.le_of_ble_eq_true rfl) ?_
    rintro _ _ _ ⟨rfl, rfl, rfl⟩
    refine V_if_neN 308 263 C dL_copies_260 (by decide) rfl (by omega) (fun c260 => by omega) (fun c260 => ?_)
    refine V_aload_n 264 C dL_copies_263 rfl rfl ?_
    refine V_bipush 266 C dL_copies_264 rfl bip16 ?_
    refine V_iconst 267 C dL_copies_266 rfl ic0 ?_
    refine V_iconst 268 C dL_copies_267 rfl ic0 ?_
    refine V_iconst 269 C dL_copies_268 rfl ic0 ?_
    refine V_q2 272 (60 + 8) (360 + 48) C hS hx.sy dL_copies_269 rfl mL_call.z tw250 (k_undo l G _ _ hl q σ1 hQ hI1 _ _ _ _ (st_un hk1).1 _ (st_un hk1).2) rfl rfl ⟨Nat.le_of_ble_eq_true rfl, Nat.le_of_ble_eq_true rfl⟩ ⟨by omega, by omega⟩ ⟨by show _ ≤ 112; omega, by show _ ≤ 672; omega⟩ (Nat.le_of_ble_eq_true rfl) ?_
    clear hS hQ n h
    intro n h hQ hS
    refine V_callSR 275 C dL_copies_272 rfl mL_thrown.z tw954 (c_L_thrown l G _ _ _ (e_ne hk2).1 (e_ne hk2).2.1 (e_ne hk2).2.2) rfl rfl ⟨Nat.le_of_ble_eq_true rfl, Nat.le_of_ble_eq_true rfl⟩ ⟨by show _ ≤ 112; omega, by show _ ≤ 672; omega⟩ (Nat.le_of_ble_eq_true rfl) ?_
    rintro _ _ _ ⟨rfl, rfl, rfl⟩
    refine V_if_neN 308 278 C dL_copies_275 (by decide) rfl (by omega) (fun c275 => by omega) (fun c275 => ?_)
    refine V_L [0, 1, 2, 3, 4, 5, 6, 7, 8, 9] rfl ?_
    exact V_wid _ _ (by omega) (by omega) (J278 s (pop σ1) hs (JS_pop2 hJ1 hk1 (by rw [hy2]; exact hJ.1.up (by omega))) hy2 _ _ hS hQ)
  intro n h hS hQ
  refine V_aload_n 1 C dL_copies_0 rfl rfl ?_
  refine V_iconst 2 C dL_copies_1 rfl ic2 ?_
  refine V_iconst 3 C dL_copies_2 rfl ic4 ?_
  refine V_iconst 4 C dL_copies_3 rfl ic0 ?_
  refine V_iconst 5 C dL_copies_4 rfl ic0 ?_
  refine V_q2 8 (4) (24) C hQ hx dL_copies_5 rfl mL_call.z tw250 (k_about l G _ _ hl x σ hS hI _ _ _ _ (v_ab (j := 4) (w := σ.1 4) (by omega) rfl)) rfl rfl ⟨Nat.le_of_ble_eq_true rfl, Nat.le_of_ble_eq_true rfl⟩ ⟨by omega, by omega⟩ ⟨by show _ ≤ 112; omega, by show _ ≤ 672; omega⟩ (Nat.le_of_ble_eq_true rfl) ?_
  clear hS hQ n h
  intro n h hS hQ
  refine V_istore_n 9 C dL_copies_8 rfl (by decide) (L' := [(0, _), (1, _), (2, _), (3, _)]) rfl ?_
  refine V_iload_n 10 C dL_copies_9 rfl rfl ?_
  refine V_iload_n 11 C dL_copies_10 rfl rfl ?_
  obtain ⟨s, hs, es⟩ : ∃ t, t < σ.1 4 ∧ X % σ.1 4 = t := ⟨_, Nat.mod_lt _ (by omega), rfl⟩
  obtain ⟨s0, s1, s2, s3, s4, s5⟩ := iS s hs
  have hcl := crs_le σ.1 s
  have hpb := pof_b hIv hs
  have hrb := rof_b hIv hs
  have e00 := ers_le σ.1 s 0
  obtain ⟨f9, hf, ef⟩ : ∃ t, t < 10 ∧ X / 12 % 10 = t := ⟨_, Nat.mod_lt _ (by omega), rfl⟩
  obtain ⟨σ1, eσ1⟩ : ∃ t, psh σ (cpOn σ.1 s f9) = t := ⟨_, rfl⟩
  obtain ⟨c1, c2⟩ := st_cp (σ := σ) (s := s) (f := f9) hIv hs hf
  rw [eσ1] at c2
  have hJ1 : JS (B + 60) σ1 := by
    rw [← eσ1]
    exact JS_psh hJ (by omega) (JV.mn hJ.1 (by have := EA_cp hJ.1.1 (nI s) (nI f9); rw [cnt_cp hIv hs hf] at this; exact ⟨this.1.up (by omega), this.2⟩))
  have hI1 := hJ1.si
  have hIv1 : Iv σ1.1 := hI1.1
  have hy1 : σ1.1 = cpOn σ.1 s f9 := by rw [← eσ1]; rfl
  have hk1 : 0 < σ1.2.1 := by rw [← eσ1]; exact (psC_k hJ.2.1).2.1
  have hk2 : σ1.2.1 - 1 < 2 ^ 31 := by have := hJ1.2.1; omega
  have hy2 : (pop σ1).1 = σ.1 := by rw [← eσ1, pop_1]; exact tp_0 _ _ hJ.2.1
  refine V_iremN 12 C dL_copies_11 rfl (by omega) (by omega) (by omega) ?_
  rw [es]
  refine V_istore 14 C dL_copies_12 rfl (by decide) (L' := [(0, _), (1, _), (2, _), (3, _), (4, _)]) rfl ?_
  refine V_aload_n 15 C dL_copies_14 rfl rfl ?_
  refine V_bipush 17 C dL_copies_15 rfl bip17 ?_
  refine V_iload 19 C dL_copies_17 rfl rfl ?_
  refine V_iconst 20 C dL_copies_19 rfl ic0 ?_
  refine V_iconst 21 C dL_copies_20 rfl ic0 ?_
  refine V_q2 24 (8) (48) C hQ hx dL_copies_21 rfl mL_call.z tw250 (k_why l G _ _ hl x σ hS hI _ _ _ _ (v_why hs hIv)) rfl rfl ⟨Nat.le_of_ble_eq_true rfl, Nat.le_of_ble_eq_true rfl⟩ ⟨by omega, by omega⟩ ⟨by show _ ≤ 112; omega, by show _ ≤ 672; omega⟩ (Nat.le_of_ble_eq_true rfl) ?_
  clear hS hQ n h
  intro n h hS hQ
  refine V_istore 26 C dL_copies_24 rfl (by decide) (L' := [(0, _), (1, _), (2, _), (3, _), (4, _), (5, _)]) rfl ?_
  refine V_aload_n 27 C dL_copies_26 rfl rfl ?_
  refine V_iconst 28 C dL_copies_27 rfl ic2 ?_
  refine V_bipush 30 C dL_copies_28 rfl bip8 ?_
  refine V_iconst 31 C dL_copies_30 rfl ic0 ?_
  refine V_iconst 32 C dL_copies_31 rfl ic0 ?_
  refine V_q2 35 (12) (72) C hQ hx dL_copies_32 rfl mL_call.z tw250 (k_about l G _ _ hl x σ hS hI _ _ _ _ (v_ab (j := 8) (w := σ.1 6) (by omega) rfl)) rfl rfl ⟨Nat.le_of_ble_eq_true rfl, Nat.le_of_ble_eq_true rfl⟩ ⟨by omega, by omega⟩ ⟨by show _ ≤ 112; omega, by show _ ≤ 672; omega⟩ (Nat.le_of_ble_eq_true rfl) ?_
  clear hS hQ n h
  intro n h hS hQ
  refine V_istore 37 C dL_copies_35 rfl (by decide) (L' := [(0, _), (1, _), (2, _), (3, _), (4, _), (5, _), (6, _)]) rfl ?_
  refine V_aload_n 38 C dL_copies_37 rfl rfl ?_
  refine V_iconst 39 C dL_copies_38 rfl ic5 ?_
  refine V_iload 41 C dL_copies_39 rfl rfl ?_
  refine V_bipush 43 C dL_copies_41 rfl bip7 ?_
  refine V_iconst 44 C dL_copies_43 rfl ic0 ?_
  refine V_q2 47 (16) (96) C hQ hx dL_copies_44 rfl mL_call.z tw250 (k_sheet l G _ _ hl x σ hS hI _ _ _ _ (v_sh (w := rof σ.1 s) hs hIv (j := 7) (by omega) rfl)) rfl rfl ⟨Nat.le_of_ble_eq_true rfl, Nat.le_of_ble_eq_true rfl⟩ ⟨by omega, by omega⟩ ⟨by show _ ≤ 112; omega, by show _ ≤ 672; omega⟩ (Nat.le_of_ble_eq_true rfl) ?_
  clear hS hQ n h
  intro n h hS hQ
  refine V_istore 49 C dL_copies_47 rfl (by decide) (L' := [(0, _), (1, _), (2, _), (3, _), (4, _), (5, _), (6, _), (7, _)]) rfl ?_
  refine V_aload_n 50 C dL_copies_49 rfl rfl ?_
  refine V_iconst 51 C dL_copies_50 rfl ic5 ?_
  refine V_iload 53 C dL_copies_51 rfl rfl ?_
  refine V_iconst 54 C dL_copies_53 rfl ic4 ?_
  refine V_iconst 55 C dL_copies_54 rfl ic0 ?_
  refine V_q2 58 (20) (120) C hQ hx dL_copies_55 rfl mL_call.z tw250 (k_sheet l G _ _ hl x σ hS hI _ _ _ _ (v_sh (w := pof σ.1 s) hs hIv (j := 4) (by omega) rfl)) rfl rfl ⟨Nat.le_of_ble_eq_true rfl, Nat.le_of_ble_eq_true rfl⟩ ⟨by omega, by omega⟩ ⟨by show _ ≤ 112; omega, by show _ ≤ 672; omega⟩ (Nat.le_of_ble_eq_true rfl) ?_
  clear hS hQ n h
  intro n h hS hQ
  refine V_istore 60 C dL_copies_58 rfl (by decide) (L' := [(0, _), (1, _), (2, _), (3, _), (4, _), (5, _), (6, _), (7, _), (8, _)]) rfl ?_
  refine V_aload_n 61 C dL_copies_60 rfl rfl ?_
  refine V_iconst 62 C dL_copies_61 rfl ic5 ?_
  refine V_iload 64 C dL_copies_62 rfl rfl ?_
  refine V_iconst 65 C dL_copies_64 rfl ic5 ?_
  refine V_iconst 66 C dL_copies_65 rfl ic0 ?_
  refine V_q2 69 (24) (144) C hQ hx dL_copies_66 rfl mL_call.z tw250 (k_sheet l G _ _ hl x σ hS hI _ _ _ _ (v_sh (w := ers σ.1 s 0) hs hIv (j := 5) (by omega) rfl)) rfl rfl ⟨Nat.le_of_ble_eq_true rfl, Nat.le_of_ble_eq_true rfl⟩ ⟨by omega, by omega⟩ ⟨by show _ ≤ 112; omega, by show _ ≤ 672; omega⟩ (Nat.le_of_ble_eq_true rfl) ?_
  clear hS hQ n h
  intro n h hS hQ
  refine V_istore 71 C dL_copies_69 rfl (by decide) (L' := [(0, _), (1, _), (2, _), (3, _), (4, _), (5, _), (6, _), (7, _), (8, _), (9, _)]) rfl ?_
  refine V_aload_n 72 C dL_copies_71 rfl rfl ?_
  refine V_bipush 74 C dL_copies_72 rfl bip14 ?_
  refine V_iload 76 C dL_copies_74 rfl rfl ?_
  refine V_iload_n 77 C dL_copies_76 rfl rfl ?_
  refine V_bipush 79 C dL_copies_77 rfl bip12 ?_
  refine V_idivN 80 C dL_copies_79 rfl (by omega) (by omega) (by omega) ?_
  refine V_bipush 82 C dL_copies_80 rfl bip10 ?_
  refine V_iremN 83 C dL_copies_82 rfl (by omega) (by omega) (by omega) ?_
  rw [ef]
  refine V_iconst 84 C dL_copies_83 rfl ic0 ?_
  refine V_q2 87 (28) (168) C hQ hx dL_copies_84 rfl mL_call.z tw250 (k_copy l G _ _ hl x σ hS hI _ _ _ _ c1 _ c2) rfl rfl ⟨Nat.le_of_ble_eq_true rfl, Nat.le_of_ble_eq_true rfl⟩ ⟨by omega, by omega⟩ ⟨by show _ ≤ 112; omega, by show _ ≤ 672; omega⟩ (Nat.le_of_ble_eq_true rfl) ?_
  clear hS hQ n h
  intro n h hS hQ
  refine V_iload 89 C dL_copies_87 rfl rfl ?_
  refine V_icmp_neN 142 92 C dL_copies_89 (by decide) rfl (by omega) (by omega) (fun c89 => by omega) (fun c89 => ?_)
  refine V_aload_n 93 C dL_copies_92 rfl rfl ?_
  refine V_bipush 95 C dL_copies_93 rfl bip14 ?_
  refine V_iload 97 C dL_copies_95 rfl rfl ?_
  refine V_iload_n 98 C dL_copies_97 rfl rfl ?_
  refine V_bipush 100 C dL_copies_98 rfl bip12 ?_
  refine V_idivN 101 C dL_copies_100 rfl (by omega) (by omega) (by omega) ?_
  refine V_bipush 103 C dL_copies_101 rfl bip10 ?_
  refine V_iremN 104 C dL_copies_103 rfl (by omega) (by omega) (by omega) ?_
  rw [ef]
  refine V_iconst 105 C dL_copies_104 rfl ic0 ?_
  refine V_q2 108 (32) (192) C hS hx.sy dL_copies_105 rfl mL_call.z tw250 (k_copy l G _ _ hl q σ hQ hI _ _ _ _ c1 _ c2) rfl rfl ⟨Nat.le_of_ble_eq_true rfl, Nat.le_of_ble_eq_true rfl⟩ ⟨by omega, by omega⟩ ⟨by show _ ≤ 112; omega, by show _ ≤ 672; omega⟩ (Nat.le_of_ble_eq_true rfl) ?_
  clear hS hQ n h
  intro n h hQ hS
  refine V_iload 110 C dL_copies_108 rfl rfl ?_
  refine V_icmp_neN 142 113 C dL_copies_110 (by decide) rfl (by omega) (by omega) (fun c110 => by omega) (fun c110 => ?_)
  refine V_aload_n 114 C dL_copies_113 rfl rfl ?_
  refine V_iconst 115 C dL_copies_114 rfl ic2 ?_
  refine V_bipush 117 C dL_copies_115 rfl bip8 ?_
  refine V_iconst 118 C dL_copies_117 rfl ic0 ?_
  refine V_iconst 119 C dL_copies_118 rfl ic0 ?_
  by_cases ec : crs σ.1 s = 0
  · skip
    have ey : σ1.1 = shOn σ.1 (σ.1 (58 + 6 * s)) (rof σ.1 s) f9 (pof σ.1 s) := by rw [hy1]; exact if_pos ec
    obtain ⟨g1, g2, g3, g4, g5, g6⟩ := shOn_at σ.1 (σ.1 (58 + 6 * s)) (rof σ.1 s) f9 (pof σ.1 s)
    rw [← ey] at g1 g2 g3 g4 g5 g6
    have q6 : σ1.1 6 = σ.1 6 := by rw [ey]; exact shOn_n (by omega) (by omega)
    have q4 : σ1.1 4 = σ.1 4 + 1 := by rw [ey]; exact shOn_4 _ _ _ _ _
    have hs1 : σ.1 4 < σ1.1 4 := by omega
    obtain ⟨o1, o2, o3⟩ := crs_0 ec
    have qm : σ1.1 (52 + σ.1 (58 + 6 * s)) = σ.1 (52 + σ.1 (58 + 6 * s)) := by rw [ey]; exact shOn_n (by omega) (by omega)
    have d1 : qSheet σ1.1 (σ.1 4) 7 = rof σ.1 s := by
      show rdw (σ1.1 (58 + 6 * σ.1 4 + 1)) (σ1.1 (58 + 6 * σ.1 4 + 2)) = _
      rw [g2, g3]; rfl
    have d2 : qSheet σ1.1 (σ.1 4) 4 = pof σ.1 s := by
      show pof σ1.1 (σ.1 4) = _
      unfold pof
      rw [g5, if_pos rfl, g6]; rfl
    have d3 : qSheet σ1.1 (σ.1 4) 5 = ers σ.1 s 0 := by
      show ers σ1.1 (σ.1 4) 0 = _
      unfold ers ink
      rw [g1, g2, g3, qm, Nat.zero_mul, Nat.zero_mul, Nat.sub_zero, Nat.sub_zero]; rfl
    have d4 : qSheet σ1.1 (σ.1 4) 6 = rof σ.1 s := g2
    have d5 : qSheet σ1.1 (σ.1 4) 1 = 99 := g3
    refine V_q2 122 (36) (216) C hQ hx dL_copies_119 rfl mL_call.z tw250 (k_about l G _ _ hl x σ1 hS hI1 _ _ _ _ (v_ab (j := 8) (w := σ1.1 6) (by omega) rfl)) rfl rfl ⟨Nat.le_of_ble_eq_true rfl, Nat.le_of_ble_eq_true rfl⟩ ⟨by omega, by omega⟩ ⟨by show _ ≤ 112; omega, by show _ ≤ 672; omega⟩ (Nat.le_of_ble_eq_true rfl) ?_
    clear hS hQ n h
    intro n h hS hQ
    refine V_iload 124 C dL_copies_122 rfl rfl ?_
    refine V_iload 126 C dL_copies_124 rfl rfl ?_
    refine V_if_neN 133 129 C dL_copies_126 (by decide) rfl (by omega) (fun c126 => by omega) (fun c126 => ?_)
    refine V_iconst 130 C dL_copies_129 rfl ic0 ?_
    refine V_goto 134 C dL_copies_130 (by decide) ?_
    refine V_iaddN 135 C dL_copies_134 rfl  ?_
    refine V_icmp_neN 142 138 C dL_copies_135 (by decide) rfl (by omega) (by omega) (fun c135 => by omega) (fun c135 => ?_)
    refine V_iconst 139 C dL_copies_138 rfl ic1 ?_
    refine V_goto 143 C dL_copies_139 (by decide) ?_
    refine V_istore 145 C dL_copies_143 rfl (by decide) (L' := [(0, _), (1, _), (2, _), (3, _), (4, _), (5, _), (6, _), (7, _), (8, _), (9, _), (10, _)]) rfl ?_
    refine V_iload 147 C dL_copies_145 rfl rfl ?_
    refine V_if_neN 243 150 C dL_copies_147 (by decide) rfl (by omega) (fun c147 => by omega) (fun c147 => ?_)
    refine V_iload 152 C dL_copies_150 rfl rfl ?_
    refine V_if_eqN 240 155 C dL_copies_152 (by decide) rfl (by omega) (fun c152 => by omega) (fun c152 => ?_)
    refine V_aload_n 156 C dL_copies_155 rfl rfl ?_
    refine V_iconst 157 C dL_copies_156 rfl ic2 ?_
    refine V_iconst 158 C dL_copies_157 rfl ic4 ?_
    refine V_iconst 159 C dL_copies_158 rfl ic0 ?_
    refine V_iconst 160 C dL_copies_159 rfl ic0 ?_
    refine V_q2 163 (40) (240) C hQ hx dL_copies_160 rfl mL_call.z tw250 (k_about l G _ _ hl x σ1 hS hI1 _ _ _ _ (v_ab (j := 4) (w := σ1.1 4) (by omega) rfl)) rfl rfl ⟨Nat.le_of_ble_eq_true rfl, Nat.le_of_ble_eq_true rfl⟩ ⟨by omega, by omega⟩ ⟨by show _ ≤ 112; omega, by show _ ≤ 672; omega⟩ (Nat.le_of_ble_eq_true rfl) ?_
    clear hS hQ n h
    intro n h hS hQ
    refine V_iload_n 164 C dL_copies_163 rfl rfl ?_
    refine V_iconst 165 C dL_copies_164 rfl ic1 ?_
    refine V_iaddN 166 C dL_copies_165 rfl  ?_
    refine V_icmp_neN 240 169 C dL_copies_166 (by decide) rfl (by omega) (by omega) (fun c166 => by omega) (fun c166 => ?_)
    refine V_aload_n 170 C dL_copies_169 rfl rfl ?_
    refine V_iconst 171 C dL_copies_170 rfl ic5 ?_
    refine V_iload_n 172 C dL_copies_171 rfl rfl ?_
    refine V_bipush 174 C dL_copies_172 rfl bip6 ?_
    refine V_iconst 175 C dL_copies_174 rfl ic0 ?_
    refine V_q2 178 (44) (264) C hQ hx dL_copies_175 rfl mL_call.z tw250 (k_sheet l G _ _ hl x σ1 hS hI1 _ _ _ _ (v_sh (w := rof σ.1 s) hs1 hIv1 (j := 6) (by omega) d4)) rfl rfl ⟨Nat.le_of_ble_eq_true rfl, Nat.le_of_ble_eq_true rfl⟩ ⟨by omega, by omega⟩ ⟨by show _ ≤ 112; omega, by show _ ≤ 672; omega⟩ (Nat.le_of_ble_eq_true rfl) ?_
    clear hS hQ n h
    intro n h hS hQ
    refine V_iload 180 C dL_copies_178 rfl rfl ?_
    refine V_icmp_neN 240 183 C dL_copies_180 (by decide) rfl (by omega) (by omega) (fun c180 => by omega) (fun c180 => ?_)
    refine V_aload_n 184 C dL_copies_183 rfl rfl ?_
    refine V_iconst 185 C dL_copies_184 rfl ic5 ?_
    refine V_iload_n 186 C dL_copies_185 rfl rfl ?_
    refine V_bipush 188 C dL_copies_186 rfl bip7 ?_
    refine V_iconst 189 C dL_copies_188 rfl ic0 ?_
    refine V_q2 192 (48) (288) C hQ hx dL_copies_189 rfl mL_call.z tw250 (k_sheet l G _ _ hl x σ1 hS hI1 _ _ _ _ (v_sh (w := rof σ.1 s) hs1 hIv1 (j := 7) (by omega) d1)) rfl rfl ⟨Nat.le_of_ble_eq_true rfl, Nat.le_of_ble_eq_true rfl⟩ ⟨by omega, by omega⟩ ⟨by show _ ≤ 112; omega, by show _ ≤ 672; omega⟩ (Nat.le_of_ble_eq_true rfl) ?_
    clear hS hQ n h
    intro n h hS hQ
    refine V_iload 194 C dL_copies_192 rfl rfl ?_
    refine V_icmp_neN 240 197 C dL_copies_194 (by decide) rfl (by omega) (by omega) (fun c194 => by omega) (fun c194 => ?_)
    refine V_aload_n 198 C dL_copies_197 rfl rfl ?_
    refine V_iconst 199 C dL_copies_198 rfl ic5 ?_
    refine V_iload_n 200 C dL_copies_199 rfl rfl ?_
    refine V_iconst 201 C dL_copies_200 rfl ic4 ?_
    refine V_iconst 202 C dL_copies_201 rfl ic0 ?_
    refine V_q2 205 (52) (312) C hQ hx dL_copies_202 rfl mL_call.z tw250 (k_sheet l G _ _ hl x σ1 hS hI1 _ _ _ _ (v_sh (w := pof σ.1 s) hs1 hIv1 (j := 4) (by omega) d2)) rfl rfl ⟨Nat.le_of_ble_eq_true rfl, Nat.le_of_ble_eq_true rfl⟩ ⟨by omega, by omega⟩ ⟨by show _ ≤ 112; omega, by show _ ≤ 672; omega⟩ (Nat.le_of_ble_eq_true rfl) ?_
    clear hS hQ n h
    intro n h hS hQ
    refine V_iload 207 C dL_copies_205 rfl rfl ?_
    refine V_icmp_neN 240 210 C dL_copies_207 (by decide) rfl (by omega) (by omega) (fun c207 => by omega) (fun c207 => ?_)
    refine V_aload_n 211 C dL_copies_210 rfl rfl ?_
    refine V_iconst 212 C dL_copies_211 rfl ic5 ?_
    refine V_iload_n 213 C dL_copies_212 rfl rfl ?_
    refine V_iconst 214 C dL_copies_213 rfl ic5 ?_
    refine V_iconst 215 C dL_copies_214 rfl ic0 ?_
    refine V_q2 218 (56) (336) C hQ hx dL_copies_215 rfl mL_call.z tw250 (k_sheet l G _ _ hl x σ1 hS hI1 _ _ _ _ (v_sh (w := ers σ.1 s 0) hs1 hIv1 (j := 5) (by omega) d3)) rfl rfl ⟨Nat.le_of_ble_eq_true rfl, Nat.le_of_ble_eq_true rfl⟩ ⟨by omega, by omega⟩ ⟨by show _ ≤ 112; omega, by show _ ≤ 672; omega⟩ (Nat.le_of_ble_eq_true rfl) ?_
    clear hS hQ n h
    intro n h hS hQ
    refine V_iload 220 C dL_copies_218 rfl rfl ?_
    refine V_icmp_neN 240 223 C dL_copies_220 (by decide) rfl (by omega) (by omega) (fun c220 => by omega) (fun c220 => ?_)
    refine V_aload_n 224 C dL_copies_223 rfl rfl ?_
    refine V_iconst 225 C dL_copies_224 rfl ic5 ?_
    refine V_iload_n 226 C dL_copies_225 rfl rfl ?_
    refine V_iconst 227 C dL_copies_226 rfl ic1 ?_
    refine V_iconst 228 C dL_copies_227 rfl ic0 ?_
    refine V_q2 231 (60) (360) C hQ hx dL_copies_228 rfl mL_call.z tw250 (k_sheet l G _ _ hl x σ1 hS hI1 _ _ _ _ (v_sh (w := 99) hs1 hIv1 (j := 1) (by omega) d5)) rfl rfl ⟨Nat.le_of_ble_eq_true rfl, Nat.le_of_ble_eq_true rfl⟩ ⟨by omega, by omega⟩ ⟨by show _ ≤ 112; omega, by show _ ≤ 672; omega⟩ (Nat.le_of_ble_eq_true rfl) ?_
    clear hS hQ n h
    intro n h hS hQ
    refine V_bipush 233 C dL_copies_231 rfl bip99 ?_
    refine V_icmp_neN 240 236 C dL_copies_233 (by decide) rfl (by omega) (by omega) (fun c233 => by omega) (fun c233 => ?_)
    refine V_iconst 237 C dL_copies_236 rfl ic1 ?_
    refine V_goto 241 C dL_copies_237 (by decide) ?_
    refine V_istore 243 C dL_copies_241 rfl (by decide) (L' := [(0, _), (1, _), (2, _), (3, _), (4, _), (5, _), (6, _), (7, _), (8, _), (9, _), (10, _)]) rfl ?_
    refine V_iload 245 C dL_copies_243 rfl rfl ?_
    refine V_if_eqN 308 248 C dL_copies_245 (by decide) rfl (by omega) (fun c245 => by omega) (fun c245 => ?_)
    refine V_L [0, 1, 2, 3, 4, 5, 6, 7, 8, 9] rfl ?_
    exact V_wid _ _ (by omega) (by omega) (J248 s σ1 hs hJ1 hk1 hk2 hy2 _ _ hS hQ)
  · skip
    have ey : σ1.1 = rfOn σ.1 := by rw [hy1]; exact if_neg ec
    have q6 : σ1.1 6 = σ.1 6 + 1 := by rw [ey]; exact ys_s _ _ _
    refine V_q2 122 (36) (216) C hQ hx dL_copies_119 rfl mL_call.z tw250 (k_about l G _ _ hl x σ1 hS hI1 _ _ _ _ (v_ab (j := 8) (w := σ1.1 6) (by omega) rfl)) rfl rfl ⟨Nat.le_of_ble_eq_true rfl, Nat.le_of_ble_eq_true rfl⟩ ⟨by omega, by omega⟩ ⟨by show _ ≤ 112; omega, by show _ ≤ 672; omega⟩ (Nat.le_of_ble_eq_true rfl) ?_
    clear hS hQ n h
    intro n h hS hQ
    refine V_iload 124 C dL_copies_122 rfl rfl ?_
    refine V_iload 126 C dL_copies_124 rfl rfl ?_
    refine V_if_neN 133 129 C dL_copies_126 (by decide) rfl (by omega) (fun c126 => ?_) (fun c126 => by omega)
    refine V_iconst 134 C dL_copies_133 rfl ic1 ?_
    refine V_iaddN 135 C dL_copies_134 rfl  ?_
    refine V_icmp_neN 142 138 C dL_copies_135 (by decide) rfl (by omega) (by omega) (fun c135 => by omega) (fun c135 => ?_)
    refine V_iconst 139 C dL_copies_138 rfl ic1 ?_
    refine V_goto 143 C dL_copies_139 (by decide) ?_
    refine V_istore 145 C dL_copies_143 rfl (by decide) (L' := [(0, _), (1, _), (2, _), (3, _), (4, _), (5, _), (6, _), (7, _), (8, _), (9, _), (10, _)]) rfl ?_
    refine V_iload 147 C dL_copies_145 rfl rfl ?_
    refine V_if_neN 243 150 C dL_copies_147 (by decide) rfl (by omega) (fun c147 => ?_) (fun c147 => by omega)
    refine V_iload 245 C dL_copies_243 rfl rfl ?_
    refine V_if_eqN 308 248 C dL_copies_245 (by decide) rfl (by omega) (fun c245 => by omega) (fun c245 => ?_)
    refine V_L [0, 1, 2, 3, 4, 5, 6, 7, 8, 9] rfl ?_
    exact V_wid _ _ (by omega) (by omega) (J248 s σ1 hs hJ1 hk1 hk2 hy2 _ _ hS hQ)

